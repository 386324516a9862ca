/-! time passes -/
theorem nI_div {a : Nat} (h : a < 2 ^ 31) : nI a / 1440 = nI (a / 1440) := by
  have e : (1440 : Int32).toInt = 1440 := by decide
  apply Int32.toInt_inj.mp
  rw [Int32.toInt_div_of_ne_right _ _ (by decide), nI_toInt h, nI_toInt (by omega), e, Int.tdiv_eq_ediv_of_nonneg (by omega)]
  omega
def zm_closeD (s : zS) (t : Nat) : Int32 × zS := if t < 2 then (0, s) else zm_close s (t - 2)
def zs_listed (s : zS) (x : Int32) : zS := ((s_shuts s, s_now s, s_cap s, x, s_alarms s, s_catches s, s_erased s), s.2)
def zs_now (s : zS) (x : Int32) : zS := ((s_shuts s, x, s_cap s, s_listed s, s_alarms s, s_catches s, s_erased s), s.2)
def zm_pass1 (s : zS) (t : Nat) : Int32 × zS := ((zm_closeD s t).1, zm_erase (zs_listed (zm_closeD s t).2 (zm_bset (zm_closeD s t).2)) (nI t - 5))
def zm_passF (s : zS) (t0 : Nat) : Nat → Int32 × zS
  | 0 => (0, s)
  | k + 1 => ((zm_passF s t0 k).1 + (zm_pass1 (zm_passF s t0 k).2 (t0 + 1 + k)).1, (zm_pass1 (zm_passF s t0 k).2 (t0 + 1 + k)).2)
def zm_pass (s : zS) (n m : Nat) : Int32 × zS := ((zm_passF s (n / 1440) ((n + m) / 1440 - n / 1440)).1, zs_now (zm_passF s (n / 1440) ((n + m) / 1440 - n / 1440)).2 (nI (n + m)))
set_option maxRecDepth 20000 in
set_option maxHeartbeats 4000000 in
theorem c_closeNeg (l : Launch) (G : zG) (h : zH) (top : Nat) (s : zS) (be : zB) (H : z_St G s be h top) (x : Int32) (hx : x < 0) : z_Ct l yX8_closeDay cX8_closeDay 4 (some .int) 13 G [.ref (z_b G), .int x] h top (z_PQ G s (.int 0)) := by
  refine z_of (own := RX8) (nm := "closeDay") (by decide) rfl rfl (by decide) (Nat.le_of_ble_eq_true rfl) (fun X hX hq => ?_)
  replace hX : z_ok X cX8_closeDay 4 RX8 (some .int) "closeDay" 13 G := hX
  show z_Z X h top 0 [(0, .ref (z_b G)), (1, .int x)] []
  refine r_iload_n hX rfl 1 rfl dX8_closeDay_0 ?_
  refine r_if_ge (tgt := 6) hX dX8_closeDay_1 rfl (fun c => False.elim (absurd hx (Int32.not_lt.mpr c))) (fun _ => ?_)
  refine r_iconst (v := 0) hX (by decide) dX8_closeDay_4 ?_
  exact r_iret hX hq ⟨rfl, be, H⟩ dX8_closeDay_5

theorem c_closeD (l : Launch) (G : zG) (h : zH) (top : Nat) (s : zS) (be : zB) (H : z_St G s be h top) (t : Nat) (ht : t < 43) : z_Ct l yX8_closeDay cX8_closeDay 4 (some .int) 13 G [.ref (z_b G), .int (nI t - 2)] h top (z_PQ G (zm_closeD s t).2 (.int (zm_closeD s t).1)) := by
  by_cases c : t < 2
  · rw [zm_closeD, if_pos c]
    refine c_closeNeg l G h top s be H (nI t - 2) ?_
    rcases (show t = 0 ∨ t = 1 by omega) with rfl | rfl <;> decide
  · rw [zm_closeD, if_neg c]
    have e : nI t - 2 = nI (t - 2) := by
      obtain ⟨u, rfl⟩ : ∃ u, t = u + 2 := ⟨t - 2, by omega⟩
      rw [← nI_add, Nat.add_sub_cancel]
      exact Int32.add_sub_cancel _ _
    rw [e]
    exact c_X8_closeDay l G h top s be H (t - 2) (by omega)
set_option maxRecDepth 20000 in
set_option maxHeartbeats 4000000 in
theorem f_pass_step {X : zX} {G : zG} {h : zH} {top : Nat} {Post : Option Value → zH → Nat → Prop} (s : zS) (n m t0 : Nat) (ht0 : n / 1440 = t0) (hnm : n + m ≤ 60000) (hp : ∀ (v2 : Int32) (h : zH) (top : Nat) (be : zB), z_St G (zm_pass s n m).2 be h top → v2 = (zm_pass s n m).1 → Post (some (.int v2)) h top) (k i : Nat) (be : zB) (acc : Int32) (hk : ((n + m) / 1440 - t0) - i < k + 1) (hi : i ≤ ((n + m) / 1440 - t0)) (hinv : z_St G (zm_passF s t0 i).2 be h top ∧ acc = (zm_passF s t0 i).1) (ih : ∀ (i : Nat) (h : zH) (top : Nat) (be : zB) (acc : Int32), ((n + m) / 1440 - t0) - i < k → i ≤ ((n + m) / 1440 - t0) → (z_St G (zm_passF s t0 i).2 be h top ∧ acc = (zm_passF s t0 i).1) → z_Z X h top 47 [(4, .int (nI (t0 + 1 + i))), (3, .int acc), (0, .ref (z_b G)), (1, .int (nI m)), (2, .int (nI (n + m)))] []) (hX : z_ok X cX8_pass 5 RX8 (some .int) "pass" 14 G) (hq : z_mq X (Post)) : z_Z X h top 47 [(4, .int (nI (t0 + 1 + i))), (3, .int acc), (0, .ref (z_b G)), (1, .int (nI m)), (2, .int (nI (n + m)))] [] := by
  obtain ⟨s2, hs2⟩ : ∃ z, z = zm_passF s t0 i := ⟨_, rfl⟩
  rw [← hs2] at hinv
  obtain ⟨H, hac⟩ := hinv
  have hha := H.hall
  refine r_iload hX 0 rfl dX8_pass_47 ?_
  refine r_iload_n hX rfl 4 rfl dX8_pass_49 ?_
  refine r_sipush (v := 1440) hX (by decide) dX8_pass_50 ?_
  refine r_idiv hX (by decide) dX8_pass_53 ?_
  refine r_icmp_gt (tgt := 90) hX dX8_pass_54 rfl (fun c54 => ?_) (fun c54 => ?_)
  · skip
    rw [nI_div (by omega)] at c54
    have hend : i = (n + m) / 1440 - t0 := by
      rcases Nat.lt_or_ge i ((n + m) / 1440 - t0) with q | q
      · exact absurd c54 (nI_nlt (show t0 + 1 + i ≤ (n + m) / 1440 by omega) (by omega))
      · omega
    refine r_aload_n hX rfl 2 rfl dX8_pass_90 ?_
    refine r_iload_n hX rfl 4 rfl dX8_pass_91 ?_
    refine r_put (fs2 := [.ref (z_b G + 1), .ref (z_b G + 2), .ref (z_b G + 3), .ref (z_b G + 4), .ref (z_b G + 7), .ref (z_b G + 11), .ref (z_b G + 16), .int (s_shuts s2.2), .int (nI (n + m)), .int (s_cap s2.2), .int (s_listed s2.2), .int (s_alarms s2.2), .int (s_catches s2.2), .int (s_erased s2.2)]) hX fp_X8_139 hha rfl rfl (Nat.le_of_ble_eq_true rfl) rfl dX8_pass_92 ?_
    replace hha : z_at G (va_up h (z_b G) (.inr (9, [.ref (z_b G + 1), .ref (z_b G + 2), .ref (z_b G + 3), .ref (z_b G + 4), .ref (z_b G + 7), .ref (z_b G + 11), .ref (z_b G + 16), .int (s_shuts s2.2), .int (nI (n + m)), .int (s_cap s2.2), .int (s_listed s2.2), .int (s_alarms s2.2), .int (s_catches s2.2), .int (s_erased s2.2)]))) top (z_b G) (.inr (9, [.ref (z_b G + 1), .ref (z_b G + 2), .ref (z_b G + 3), .ref (z_b G + 4), .ref (z_b G + 7), .ref (z_b G + 11), .ref (z_b G + 16), .int (s_shuts s2.2), .int (nI (n + m)), .int (s_cap s2.2), .int (s_listed s2.2), .int (s_alarms s2.2), .int (s_catches s2.2), .int (s_erased s2.2)])) := z_at.self hha
    refine r_iload_n hX rfl 1 rfl dX8_pass_95 ?_
    exact r_iret hX hq (hp _ _ _ be (by rw [zm_pass, ht0, ← hend, ← hs2]; exact H.setHall _) (by rw [zm_pass, ht0, ← hend, ← hs2]; exact hac)) dX8_pass_96
  · skip
    refine r_iload_n hX rfl 1 rfl dX8_pass_57 ?_
    refine r_aload_n hX rfl 2 rfl dX8_pass_58 ?_
    refine r_iload hX 0 rfl dX8_pass_59 ?_
    refine r_iconst (v := 2) hX (by decide) dX8_pass_61 ?_
    refine r_isub hX dX8_pass_62 ?_
    rw [nI_div (by omega)] at c54
    have hlt : i < (n + m) / 1440 - t0 := by
      rcases Nat.lt_or_ge i ((n + m) / 1440 - t0) with q | q
      · exact q
      · exact absurd (nI_lt (show (n + m) / 1440 < t0 + 1 + i by omega) (by omega)) c54
    refine r_callV (As := [.int ((nI (t0 + 1 + i)) - 2)]) (rest := [.int acc]) hX cs_X8_222 (by decide) (fun l => c_closeD l G h top s2.2 be H (t0 + 1 + i) (by omega)) hha rfl rfl rfl (Nat.le_of_ble_eq_true rfl) dX8_pass_63 (fun r1 h1 top1 hp1 => ?_)
    obtain ⟨rfl, be1, H1⟩ := hp1
    have hha1 := H1.hall
    refine r_iadd hX dX8_pass_66 ?_
    refine r_istore_n (lv' := [(3, .int (acc + (zm_closeD s2.2 (t0 + 1 + i)).1)), (4, .int (nI (t0 + 1 + i))), (0, .ref (z_b G)), (1, .int (nI m)), (2, .int (nI (n + m)))]) hX rfl (by decide) rfl dX8_pass_67 ?_
    refine r_aload_n hX rfl 2 rfl dX8_pass_68 ?_
    refine r_aload_n hX rfl 2 rfl dX8_pass_69 ?_
    refine r_callVR (As := []) (rest := [.ref (z_b G)]) (rv := some (.int (zm_bset (zm_closeD s2.2 (t0 + 1 + i)).2))) (st1 := [.int (zm_bset (zm_closeD s2.2 (t0 + 1 + i)).2), .ref (z_b G)]) hX cs_X8_225 (by decide) (fun l => c_X8_blockedSet l G h1 top1 _ be1 H1) hha1 rfl rfl rfl rfl (Nat.le_of_ble_eq_true rfl) dX8_pass_70 ?_
    refine r_put (fs2 := [.ref (z_b G + 1), .ref (z_b G + 2), .ref (z_b G + 3), .ref (z_b G + 4), .ref (z_b G + 7), .ref (z_b G + 11), .ref (z_b G + 16), .int (s_shuts (zm_closeD s2.2 (t0 + 1 + i)).2), .int (s_now (zm_closeD s2.2 (t0 + 1 + i)).2), .int (s_cap (zm_closeD s2.2 (t0 + 1 + i)).2), .int (zm_bset (zm_closeD s2.2 (t0 + 1 + i)).2), .int (s_alarms (zm_closeD s2.2 (t0 + 1 + i)).2), .int (s_catches (zm_closeD s2.2 (t0 + 1 + i)).2), .int (s_erased (zm_closeD s2.2 (t0 + 1 + i)).2)]) hX fp_X8_150 hha1 rfl rfl (Nat.le_of_ble_eq_true rfl) rfl dX8_pass_73 ?_
    replace hha1 : z_at G (va_up h1 (z_b G) (.inr (9, [.ref (z_b G + 1), .ref (z_b G + 2), .ref (z_b G + 3), .ref (z_b G + 4), .ref (z_b G + 7), .ref (z_b G + 11), .ref (z_b G + 16), .int (s_shuts (zm_closeD s2.2 (t0 + 1 + i)).2), .int (s_now (zm_closeD s2.2 (t0 + 1 + i)).2), .int (s_cap (zm_closeD s2.2 (t0 + 1 + i)).2), .int (zm_bset (zm_closeD s2.2 (t0 + 1 + i)).2), .int (s_alarms (zm_closeD s2.2 (t0 + 1 + i)).2), .int (s_catches (zm_closeD s2.2 (t0 + 1 + i)).2), .int (s_erased (zm_closeD s2.2 (t0 + 1 + i)).2)]))) top1 (z_b G) (.inr (9, [.ref (z_b G + 1), .ref (z_b G + 2), .ref (z_b G + 3), .ref (z_b G + 4), .ref (z_b G + 7), .ref (z_b G + 11), .ref (z_b G + 16), .int (s_shuts (zm_closeD s2.2 (t0 + 1 + i)).2), .int (s_now (zm_closeD s2.2 (t0 + 1 + i)).2), .int (s_cap (zm_closeD s2.2 (t0 + 1 + i)).2), .int (zm_bset (zm_closeD s2.2 (t0 + 1 + i)).2), .int (s_alarms (zm_closeD s2.2 (t0 + 1 + i)).2), .int (s_catches (zm_closeD s2.2 (t0 + 1 + i)).2), .int (s_erased (zm_closeD s2.2 (t0 + 1 + i)).2)])) := z_at.self hha1
    refine r_aload_n hX rfl 2 rfl dX8_pass_76 ?_
    refine r_iload hX 1 rfl dX8_pass_77 ?_
    refine r_iconst (v := 5) hX (by decide) dX8_pass_79 ?_
    refine r_isub hX dX8_pass_80 ?_
    refine r_callV (As := [.int ((nI (t0 + 1 + i)) - 5)]) (rest := []) hX cs_X8_228 (by decide) (fun l => c_X8_eraseDay l G _ _ (zs_listed (zm_closeD s2.2 (t0 + 1 + i)).2 (zm_bset (zm_closeD s2.2 (t0 + 1 + i)).2)) be1 (H1.setHall _) (nI (t0 + 1 + i) - 5)) hha1 rfl rfl rfl (Nat.le_of_ble_eq_true rfl) dX8_pass_81 (fun r2 h2 top2 hp2 => ?_)
    obtain ⟨rfl, be2, H2⟩ := hp2
    refine r_iinc (q := 1) (lv' := [(4, .int ((nI (t0 + 1 + i)) + 1)), (3, .int (acc + (zm_closeD s2.2 (t0 + 1 + i)).1)), (0, .ref (z_b G)), (1, .int (nI m)), (2, .int (nI (n + m)))]) hX rfl rfl (by decide) rfl dX8_pass_84 ?_
    refine r_goto (tgt := 47) hX rfl dX8_pass_87 ?_
    refine r_lv [0, 1, 2, 3, 4] (lv2 := [(4, .int (nI (t0 + 1 + i) + 1)), (3, .int (acc + (zm_closeD s2.2 (t0 + 1 + i)).1)), (0, .ref (z_b G)), (1, .int (nI m)), (2, .int (nI (n + m)))]) rfl ?_
    rw [nI_1, show t0 + 1 + i + 1 = t0 + 1 + (i + 1) by omega]
    refine ih (i + 1) _ _ be2 _ (by omega) (by omega) ?_
    subst hs2
    exact ⟨H2, by rw [hac]; rfl⟩

theorem f_pass {X : zX} {G : zG}  {Post : Option Value → zH → Nat → Prop} (s : zS) (n m t0 : Nat) (ht0 : n / 1440 = t0) (hnm : n + m ≤ 60000) (hp : ∀ (v2 : Int32) (h : zH) (top : Nat) (be : zB), z_St G (zm_pass s n m).2 be h top → v2 = (zm_pass s n m).1 → Post (some (.int v2)) h top) (hX : z_ok X cX8_pass 5 RX8 (some .int) "pass" 14 G) (hq : z_mq X Post) : ∀ (k i : Nat) (h : zH) (top : Nat) (be : zB) (acc : Int32), ((n + m) / 1440 - t0) - i < k → i ≤ ((n + m) / 1440 - t0) → (z_St G (zm_passF s t0 i).2 be h top ∧ acc = (zm_passF s t0 i).1) → z_Z X h top 47 [(4, .int (nI (t0 + 1 + i))), (3, .int acc), (0, .ref (z_b G)), (1, .int (nI m)), (2, .int (nI (n + m)))] [] := by
  intro k
  induction k with
  | zero => intros; omega
  | succ k ih => intro i h top be acc hk hi hinv; exact f_pass_step s n m t0 ht0 hnm hp k i be acc hk hi hinv ih hX hq
set_option maxRecDepth 20000 in
set_option maxHeartbeats 4000000 in
theorem c_X8_pass (l : Launch) (G : zG) (h : zH) (top : Nat) (s : zS) (be : zB) (H : z_St G s be h top) (n m : Nat) (hn : s_now s = nI n) (hmi : zf_isIn (nI m) 1 3000 = true) (hnm : n + m ≤ 60000) : z_Ct l yX8_pass cX8_pass 5 (some .int) 14 G [.ref (z_b G), .int (nI m)] h top (z_PQ G (zm_pass s n m).2 (.int (zm_pass s n m).1)) := by
  refine z_of (own := RX8) (nm := "pass") (by decide) rfl rfl (by decide) (Nat.le_of_ble_eq_true rfl) (fun X hX hq => ?_)
  replace hX : z_ok X cX8_pass 5 RX8 (some .int) "pass" 14 G := hX
  show z_Z X h top 0 [(0, .ref (z_b G)), (1, .int (nI m))] []
  have hha := H.hall
  refine r_iload_n hX rfl 1 rfl dX8_pass_0 ?_
  refine r_iconst (v := 1) hX (by decide) dX8_pass_1 ?_
  refine r_sipush (v := 3000) hX (by decide) dX8_pass_2 ?_
  refine r_callSR (As := [.int (nI m), .int 1, .int 3000]) (rest := []) (rv := some (.int 1)) (st1 := [.int 1]) hX cs_X8_62 (by decide) (fun l => c_isIn_1 l G h top hmi) rfl rfl rfl (Nat.le_of_ble_eq_true rfl) dX8_pass_5 ?_
  refine r_callSR (As := [.int 1]) (rest := []) (rv := none) (st1 := []) hX cs_X8_66 (by decide) (fun l => c_X8_needArgument l G h top) rfl rfl rfl (Nat.le_of_ble_eq_true rfl) dX8_pass_8 ?_
  refine r_aload_n hX rfl 0 rfl dX8_pass_11 ?_
  refine r_getf hX fl_X8_139 hha rfl dX8_pass_12 ?_
  refine r_iload_n hX rfl 1 rfl dX8_pass_15 ?_
  refine r_iadd hX dX8_pass_16 ?_
  refine r_ldc hX kc_X8_88 dX8_pass_17 ?_
  refine r_icmp_gt (tgt := 26) hX dX8_pass_19 rfl (fun c => False.elim (absurd (show nI 60000 < s_now s + nI m from c) (by rw [hn, nI_add]; exact nI_nlt hnm (by omega)))) (fun _ => ?_)
  refine r_iconst (v := 1) hX (by decide) dX8_pass_22 ?_
  refine r_goto (tgt := 27) hX rfl dX8_pass_23 ?_
  refine r_callSR (As := [.int 1]) (rest := []) (rv := none) (st1 := []) hX cs_X8_73 (by decide) (fun l => c_X8_needState l G h top) rfl rfl rfl (Nat.le_of_ble_eq_true rfl) dX8_pass_27 ?_
  refine r_aload_n hX rfl 0 rfl dX8_pass_30 ?_
  refine r_getf hX fl_X8_139 hha rfl dX8_pass_31 ?_
  refine r_iload_n hX rfl 1 rfl dX8_pass_34 ?_
  refine r_iadd hX dX8_pass_35 ?_
  refine r_istore_n (lv' := [(2, .int ((s_now s) + (nI m))), (0, .ref (z_b G)), (1, .int (nI m))]) hX rfl (by decide) rfl dX8_pass_36 ?_
  refine r_iconst (v := 0) hX (by decide) dX8_pass_37 ?_
  refine r_istore_n (lv' := [(3, .int 0), (2, .int ((s_now s) + (nI m))), (0, .ref (z_b G)), (1, .int (nI m))]) hX rfl (by decide) rfl dX8_pass_38 ?_
  refine r_aload_n hX rfl 2 rfl dX8_pass_39 ?_
  refine r_callVR (As := []) (rest := []) (rv := some (.int (s_now s / 1440))) (st1 := [.int (s_now s / 1440)]) hX cs_X8_194 (by decide) (fun l => c_X8_today l G h top s be H) hha rfl rfl rfl rfl (Nat.le_of_ble_eq_true rfl) dX8_pass_40 ?_
  refine r_iconst (v := 1) hX (by decide) dX8_pass_43 ?_
  refine r_iadd hX dX8_pass_44 ?_
  refine r_istore (lv' := [(4, .int ((s_now s / 1440) + 1)), (3, .int 0), (2, .int ((s_now s) + (nI m))), (0, .ref (z_b G)), (1, .int (nI m))]) hX (by decide) rfl dX8_pass_45 ?_
  rw [hn, nI_add, nI_div (by omega), nI_1, ← nI_0]
  refine r_lv [0, 1, 3, 4, 2] (lv2 := [(4, .int (nI (n / 1440 + 1))), (3, .int (nI 0)), (0, .ref (z_b G)), (1, .int (nI m)), (2, .int (nI (n + m)))]) rfl ?_
  exact f_pass s n m (n / 1440) rfl hnm (fun v2 h9 t9 b9 H9 e => ⟨by rw [e], b9, H9⟩) hX hq ((n + m) / 1440 - n / 1440 + 1) 0 h top be (nI 0) (by omega) (by omega) ⟨H, by rw [nI_0]; rfl⟩

