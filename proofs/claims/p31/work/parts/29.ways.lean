/-! ways -/
def zk8 (k : Int32) : Prop := ∃ a : Nat, a < 8 ∧ k = nI a
def zg_kn (s : zS) : Prop := ∀ (i : Nat) (x : zSeg), (s_segs s)[i]? = some x → zk8 x.2.1 ∧ zk8 x.2.2.1
def zm_exS (s : zS) (v : zVeh) (acc : (Nat → Int32) × Int32) (x : zSeg) : (Nat → Int32) × Int32 := if acc.1 x.2.1.toNatClampNeg = -1 then acc else if acc.1 x.2.2.1.toNatClampNeg = -1 ∨ acc.1 x.2.1.toNatClampNeg + zm_toll (s_tars s) x v (s_now s) < acc.1 x.2.2.1.toNatClampNeg then (upd acc.1 x.2.2.1.toNatClampNeg (acc.1 x.2.1.toNatClampNeg + zm_toll (s_tars s) x v (s_now s)), 1) else acc
def zm_ext (s : zS) (v : zVeh) (r0 : Nat → Int32) : (Nat → Int32) × Int32 := (s_segs s).foldl (zm_exS s v) (r0, 0)
def zm_chp (s : zS) (v : zVeh) : Nat → (Nat → Int32) × Int32 → (Nat → Int32)
  | 0, a => a.1
  | k + 1, a => if a.2 = 0 then a.1 else zm_chp s v k (zm_ext s v a.1)
def zm_cheap (s : zS) (v : zVeh) (a b : Nat) : Int32 := zm_chp s v 8 (upd (fun _ => -1) (nI a).toNatClampNeg 0, 1) (nI b).toNatClampNeg
theorem zm_chp_0 (s : zS) (v : zVeh) (k : Nat) (a : (Nat → Int32) × Int32) (h : a.2 = 0) : zm_chp s v k a = a.1 := by
  cases k with
  | zero => rfl
  | succ k => exact if_pos h
theorem zm_chp_s (s : zS) (v : zVeh) (k : Nat) (a : (Nat → Int32) × Int32) (h : ¬ a.2 = 0) : zm_chp s v (k + 1) a = zm_chp s v k (zm_ext s v a.1) := if_neg h
theorem c_reach (l : Launch) (G : zG) (h : zH) (top : Nat) (s : zS) (be : zB) (H : z_St G s be h top) (k : Int32) (hk : zk8 k) : z_Ct l yX8_reachOf cX8_reachOf 2 (some .int) 1 G [.ref (z_b G), .int k] h top (z_R (some (.int (b_rch be k.toNatClampNeg))) h top) := by
  obtain ⟨a, ha, rfl⟩ := hk
  exact c_X8_reachOf l G h top s be H a ha
theorem c_setR (l : Launch) (G : zG) (h : zH) (top : Nat) (s : zS) (be : zB) (H : z_St G s be h top) (k : Int32) (hk : zk8 k) (c : Int32) : z_Ct l yX8_setReach cX8_setReach 3 none 1 G [.ref (z_b G), .int k, .int c] h top (fun r h' top' => r = none ∧ top' = top ∧ z_St G s (upd (b_rch be) k.toNatClampNeg c, be.2) h' top') := by
  obtain ⟨a, ha, rfl⟩ := hk
  exact c_X8_setReach l G h top s be H a ha c
set_option maxRecDepth 20000 in
set_option maxHeartbeats 4000000 in
theorem f_ext_step {X : zX} {G : zG} {h : zH} {top : Nat} {Post : Option Value → zH → Nat → Prop} (s : zS) (iv : Nat) (v : zVeh) (hv : (s_vehs s)[iv]? = some v) (hsg : zg_kn s) (r0 : Nat → Int32) (hp : ∀ (v2 : Int32) (h : zH) (top : Nat) (be : zB), (v2 = 0 ∨ v2 = 1) → z_St G s be h top → (b_rch be, v2) = (s_segs s).foldl (zm_exS s v) (r0, 0) → Post (some (.int v2)) h top) (k i : Nat) (be : zB) (acc : Int32) (hk : (s_segs s).length - i < k + 1) (hi : i ≤ (s_segs s).length) (hinv : z_St G s be h top ∧ (acc = 0 ∨ acc = 1) ∧ (b_rch be, acc) = ((s_segs s).take i).foldl (zm_exS s v) (r0, 0)) (ih : ∀ (i : Nat) (h : zH) (top : Nat) (be : zB) (acc : Int32), (s_segs s).length - i < k → i ≤ (s_segs s).length → (z_St G s be h top ∧ (acc = 0 ∨ acc = 1) ∧ (b_rch be, acc) = ((s_segs s).take i).foldl (zm_exS s v) (r0, 0)) → z_Z X h top 4 [(3, .int (nI i)), (2, .int acc), (0, .ref (z_b G)), (1, .ref v.1)] []) (hX : z_ok X cX8_extendWays 7 RX8 (some .boolean) "extendWays" 7 G) (hq : z_mq X (Post)) : z_Z X h top 4 [(3, .int (nI i)), (2, .int acc), (0, .ref (z_b G)), (1, .ref v.1)] [] := by
  obtain ⟨H, h01, hacc⟩ := hinv
  have hha := H.hall
  have hbd := H.2.2.1.2.2
  have hl0 := H.l0
  have hl01 := hl0.1
  have hvl : iv < (s_vehs s).length := (List.getElem?_eq_some_iff.mp hv).1
  have hvs := H.veh hv
  refine r_iload_n hX rfl 0 rfl dX8_extendWays_4 ?_
  refine r_aload_n hX rfl 2 rfl dX8_extendWays_5 ?_
  refine r_getf hX fl_X8_10 hha rfl dX8_extendWays_6 ?_
  refine r_callVR (As := []) (rest := [.int (nI i)]) (rv := some (.int (nI (s_segs s).length))) (st1 := [.int (nI (s_segs s).length), .int (nI i)]) hX cs_X8_69 (by decide) (fun l => z_size hl0 l) hl01 rfl rfl rfl rfl (Nat.le_of_ble_eq_true rfl) dX8_extendWays_9 ?_
  refine r_icmp_ge (tgt := 122) hX dX8_extendWays_12 rfl (fun c12 => ?_) (fun c12 => ?_)
  · skip
    refine r_iload_n hX rfl 1 rfl dX8_extendWays_122 ?_
    exact r_zret hX hq h01 (hp _ _ _ be h01 H (hacc.trans (by rw [ge_n (n := (s_segs s).length) (by omega) hi c12, List.take_length]))) dX8_extendWays_123
  · skip
    have hlt := lt_n (by omega) c12
    obtain ⟨x, hx⟩ : ∃ x, (s_segs s)[i]? = some x := ⟨_, List.getElem?_eq_getElem hlt⟩
    have hil : i < (s_segs s).length := (List.getElem?_eq_some_iff.mp hx).1
    have hxs := H.seg hx
    refine r_aload_n hX rfl 2 rfl dX8_extendWays_15 ?_
    refine r_getf hX fl_X8_10 hha rfl dX8_extendWays_16 ?_
    refine r_iload_n hX rfl 0 rfl dX8_extendWays_19 ?_
    refine r_callVR (As := [.int (nI i)]) (rest := []) (rv := some (.ref x.1)) (st1 := [.ref x.1]) hX cs_X8_92 (by decide) (fun l => z_get hl0 hil (z_mapget hx) l) hl01 rfl rfl rfl rfl (Nat.le_of_ble_eq_true rfl) dX8_extendWays_20 ?_
    refine r_cast (ci := 4) hX rfl hxs cl_X8_76 dX8_extendWays_23 ?_
    refine r_astore (lv' := [(4, .ref x.1), (3, .int (nI i)), (2, .int acc), (0, .ref (z_b G)), (1, .ref v.1)]) hX (by decide) rfl dX8_extendWays_26 ?_
    refine r_aload_n hX rfl 3 rfl dX8_extendWays_28 ?_
    refine r_aload hX 0 rfl dX8_extendWays_29 ?_
    refine r_getf hX fl_X8_231 hxs rfl dX8_extendWays_31 ?_
    refine r_callVR (As := [.int x.2.1]) (rest := []) (rv := some (.int (b_rch be x.2.1.toNatClampNeg))) (st1 := [.int (b_rch be x.2.1.toNatClampNeg)]) hX cs_X8_315 (by decide) (fun l => c_reach l G h top s be H x.2.1 (hsg i x hx).1) hha rfl rfl rfl rfl (Nat.le_of_ble_eq_true rfl) dX8_extendWays_34 ?_
    refine r_istore (lv' := [(5, .int (b_rch be x.2.1.toNatClampNeg)), (4, .ref x.1), (3, .int (nI i)), (2, .int acc), (0, .ref (z_b G)), (1, .ref v.1)]) hX (by decide) rfl dX8_extendWays_37 ?_
    refine r_iload hX 0 rfl dX8_extendWays_39 ?_
    refine r_iconst (v := (-1)) hX (by decide) dX8_extendWays_41 ?_
    refine r_icmp_eq (tgt := 116) hX dX8_extendWays_42 rfl (fun c42 => ?_) (fun c42 => ?_)
    · skip
      refine r_iinc (q := 2) (lv' := [(3, .int ((nI i) + 1)), (5, .int (b_rch be x.2.1.toNatClampNeg)), (4, .ref x.1), (2, .int acc), (0, .ref (z_b G)), (1, .ref v.1)]) hX rfl rfl (by decide) rfl dX8_extendWays_116 ?_
      refine r_goto (tgt := 4) hX rfl dX8_extendWays_119 ?_
      refine r_lv [0, 3, 4, 5] (lv2 := [(3, .int (nI i + 1)), (2, .int acc), (0, .ref (z_b G)), (1, .ref v.1)]) rfl ?_
      rw [nI_1]
      refine ih (i + 1) h _ be acc (by omega) (by omega) ⟨H, h01, ?_⟩
      rw [zm_take _ _ _ hx, ← hacc]
      exact (if_pos c42).symm
    · skip
      refine r_aload hX 1 rfl dX8_extendWays_45 ?_
      refine r_aload_n hX rfl 4 rfl dX8_extendWays_47 ?_
      refine r_getf hX fl_X8_139 hha rfl dX8_extendWays_48 ?_
      refine r_callVR (As := [.int (s_now s)]) (rest := []) (rv := some (.int 0)) (st1 := [.int 0]) hX cs_X8_243 (by decide) (fun l => c_X3_isShut l G h top x i hxs (s_now s)) hxs rfl rfl rfl rfl (Nat.le_of_ble_eq_true rfl) dX8_extendWays_51 ?_
      refine r_if_eq (tgt := 60) hX dX8_extendWays_54 rfl (fun _ => ?_) (fun c => False.elim (absurd c (by decide)))
      refine r_iload hX 0 rfl dX8_extendWays_60 ?_
      refine r_aload_n hX rfl 4 rfl dX8_extendWays_62 ?_
      refine r_aload_n hX rfl 5 rfl dX8_extendWays_63 ?_
      refine r_aload hX 1 rfl dX8_extendWays_64 ?_
      refine r_aload_n hX rfl 4 rfl dX8_extendWays_66 ?_
      refine r_getf hX fl_X8_139 hha rfl dX8_extendWays_67 ?_
      refine r_callVR (As := [.ref v.1, .ref x.1, .int (s_now s)]) (rest := [.int (b_rch be x.2.1.toNatClampNeg)]) (rv := some (.int (zm_toll (s_tars s) x v (s_now s)))) (st1 := [.int (zm_toll (s_tars s) x v (s_now s)), .int (b_rch be x.2.1.toNatClampNeg)]) hX cs_X8_181 (by decide) (fun l => c_X8_tollOf l G h top s be H iv v hv i x hx (s_now s)) hha rfl rfl rfl rfl (Nat.le_of_ble_eq_true rfl) dX8_extendWays_70 ?_
      refine r_iadd hX dX8_extendWays_73 ?_
      refine r_istore (lv' := [(6, .int ((b_rch be x.2.1.toNatClampNeg) + (zm_toll (s_tars s) x v (s_now s)))), (5, .int (b_rch be x.2.1.toNatClampNeg)), (4, .ref x.1), (3, .int (nI i)), (2, .int acc), (0, .ref (z_b G)), (1, .ref v.1)]) hX (by decide) rfl dX8_extendWays_74 ?_
      refine r_aload_n hX rfl 5 rfl dX8_extendWays_76 ?_
      refine r_aload hX 2 rfl dX8_extendWays_77 ?_
      refine r_getf hX fl_X8_234 hxs rfl dX8_extendWays_79 ?_
      refine r_callVR (As := [.int x.2.2.1]) (rest := []) (rv := some (.int (b_rch be x.2.2.1.toNatClampNeg))) (st1 := [.int (b_rch be x.2.2.1.toNatClampNeg)]) hX cs_X8_315 (by decide) (fun l => c_reach l G h top s be H x.2.2.1 (hsg i x hx).2) hha rfl rfl rfl rfl (Nat.le_of_ble_eq_true rfl) dX8_extendWays_82 ?_
      refine r_iconst (v := (-1)) hX (by decide) dX8_extendWays_85 ?_
      refine r_icmp_eq (tgt := 103) hX dX8_extendWays_86 rfl (fun c86 => ?_) (fun c86 => ?_)
      · skip
        refine r_aload_n hX rfl 5 rfl dX8_extendWays_103 ?_
        refine r_aload hX 2 rfl dX8_extendWays_104 ?_
        refine r_getf hX fl_X8_234 hxs rfl dX8_extendWays_106 ?_
        refine r_iload hX 0 rfl dX8_extendWays_109 ?_
        refine r_callV (As := [.int x.2.2.1, .int ((b_rch be x.2.1.toNatClampNeg) + (zm_toll (s_tars s) x v (s_now s)))]) (rest := []) hX cs_X8_308 (by decide) (fun l => c_setR l G h top s be H x.2.2.1 (hsg i x hx).2 ((b_rch be x.2.1.toNatClampNeg) + (zm_toll (s_tars s) x v (s_now s)))) hha rfl rfl rfl (Nat.le_of_ble_eq_true rfl) dX8_extendWays_111 (fun r1 h1 top1 hp1 => ?_)
        obtain ⟨rfl, rfl, H1⟩ := hp1
        refine r_iconst (v := 1) hX (by decide) dX8_extendWays_114 ?_
        refine r_istore_n (lv' := [(2, .int 1), (6, .int ((b_rch be x.2.1.toNatClampNeg) + (zm_toll (s_tars s) x v (s_now s)))), (5, .int (b_rch be x.2.1.toNatClampNeg)), (4, .ref x.1), (3, .int (nI i)), (0, .ref (z_b G)), (1, .ref v.1)]) hX rfl (by decide) rfl dX8_extendWays_115 ?_
        refine r_iinc (q := 4) (lv' := [(3, .int ((nI i) + 1)), (2, .int 1), (6, .int ((b_rch be x.2.1.toNatClampNeg) + (zm_toll (s_tars s) x v (s_now s)))), (5, .int (b_rch be x.2.1.toNatClampNeg)), (4, .ref x.1), (0, .ref (z_b G)), (1, .ref v.1)]) hX rfl rfl (by decide) rfl dX8_extendWays_116 ?_
        refine r_goto (tgt := 4) hX rfl dX8_extendWays_119 ?_
        refine r_lv [0, 1, 5, 6] (lv2 := [(3, .int (nI i + 1)), (2, .int 1), (0, .ref (z_b G)), (1, .ref v.1)]) rfl ?_
        rw [nI_1]
        refine ih (i + 1) h1 _ _ 1 (by omega) (by omega) ⟨H1, Or.inr rfl, ?_⟩
        rw [zm_take _ _ _ hx, ← hacc]
        exact ((if_neg c42).trans (if_pos (by first | exact Or.inl c86 | exact Or.inr (Int32.not_le.mp c100)))).symm
      · skip
        refine r_iload hX 0 rfl dX8_extendWays_89 ?_
        refine r_aload_n hX rfl 5 rfl dX8_extendWays_91 ?_
        refine r_aload hX 2 rfl dX8_extendWays_92 ?_
        refine r_getf hX fl_X8_234 hxs rfl dX8_extendWays_94 ?_
        refine r_callVR (As := [.int x.2.2.1]) (rest := [.int ((b_rch be x.2.1.toNatClampNeg) + (zm_toll (s_tars s) x v (s_now s)))]) (rv := some (.int (b_rch be x.2.2.1.toNatClampNeg))) (st1 := [.int (b_rch be x.2.2.1.toNatClampNeg), .int ((b_rch be x.2.1.toNatClampNeg) + (zm_toll (s_tars s) x v (s_now s)))]) hX cs_X8_315 (by decide) (fun l => c_reach l G h top s be H x.2.2.1 (hsg i x hx).2) hha rfl rfl rfl rfl (Nat.le_of_ble_eq_true rfl) dX8_extendWays_97 ?_
        refine r_icmp_ge (tgt := 116) hX dX8_extendWays_100 rfl (fun c100 => ?_) (fun c100 => ?_)
        · skip
          refine r_iinc (q := 3) (lv' := [(3, .int ((nI i) + 1)), (6, .int ((b_rch be x.2.1.toNatClampNeg) + (zm_toll (s_tars s) x v (s_now s)))), (5, .int (b_rch be x.2.1.toNatClampNeg)), (4, .ref x.1), (2, .int acc), (0, .ref (z_b G)), (1, .ref v.1)]) hX rfl rfl (by decide) rfl dX8_extendWays_116 ?_
          refine r_goto (tgt := 4) hX rfl dX8_extendWays_119 ?_
          refine r_lv [0, 4, 5, 6] (lv2 := [(3, .int (nI i + 1)), (2, .int acc), (0, .ref (z_b G)), (1, .ref v.1)]) rfl ?_
          rw [nI_1]
          refine ih (i + 1) h _ be acc (by omega) (by omega) ⟨H, h01, ?_⟩
          rw [zm_take _ _ _ hx, ← hacc]
          exact ((if_neg c42).trans (if_neg (fun z => z.elim (fun q => c86 q) (fun q => absurd q (Int32.not_lt.mpr c100))))).symm
        · skip
          refine r_aload_n hX rfl 5 rfl dX8_extendWays_103 ?_
          refine r_aload hX 2 rfl dX8_extendWays_104 ?_
          refine r_getf hX fl_X8_234 hxs rfl dX8_extendWays_106 ?_
          refine r_iload hX 0 rfl dX8_extendWays_109 ?_
          refine r_callV (As := [.int x.2.2.1, .int ((b_rch be x.2.1.toNatClampNeg) + (zm_toll (s_tars s) x v (s_now s)))]) (rest := []) hX cs_X8_308 (by decide) (fun l => c_setR l G h top s be H x.2.2.1 (hsg i x hx).2 ((b_rch be x.2.1.toNatClampNeg) + (zm_toll (s_tars s) x v (s_now s)))) hha rfl rfl rfl (Nat.le_of_ble_eq_true rfl) dX8_extendWays_111 (fun r1 h1 top1 hp1 => ?_)
          obtain ⟨rfl, rfl, H1⟩ := hp1
          refine r_iconst (v := 1) hX (by decide) dX8_extendWays_114 ?_
          refine r_istore_n (lv' := [(2, .int 1), (6, .int ((b_rch be x.2.1.toNatClampNeg) + (zm_toll (s_tars s) x v (s_now s)))), (5, .int (b_rch be x.2.1.toNatClampNeg)), (4, .ref x.1), (3, .int (nI i)), (0, .ref (z_b G)), (1, .ref v.1)]) hX rfl (by decide) rfl dX8_extendWays_115 ?_
          refine r_iinc (q := 4) (lv' := [(3, .int ((nI i) + 1)), (2, .int 1), (6, .int ((b_rch be x.2.1.toNatClampNeg) + (zm_toll (s_tars s) x v (s_now s)))), (5, .int (b_rch be x.2.1.toNatClampNeg)), (4, .ref x.1), (0, .ref (z_b G)), (1, .ref v.1)]) hX rfl rfl (by decide) rfl dX8_extendWays_116 ?_
          refine r_goto (tgt := 4) hX rfl dX8_extendWays_119 ?_
          refine r_lv [0, 1, 5, 6] (lv2 := [(3, .int (nI i + 1)), (2, .int 1), (0, .ref (z_b G)), (1, .ref v.1)]) rfl ?_
          rw [nI_1]
          refine ih (i + 1) h1 _ _ 1 (by omega) (by omega) ⟨H1, Or.inr rfl, ?_⟩
          rw [zm_take _ _ _ hx, ← hacc]
          exact ((if_neg c42).trans (if_pos (by first | exact Or.inl c86 | exact Or.inr (Int32.not_le.mp c100)))).symm

theorem f_ext {X : zX} {G : zG}  {Post : Option Value → zH → Nat → Prop} (s : zS) (iv : Nat) (v : zVeh) (hv : (s_vehs s)[iv]? = some v) (hsg : zg_kn s) (r0 : Nat → Int32) (hp : ∀ (v2 : Int32) (h : zH) (top : Nat) (be : zB), (v2 = 0 ∨ v2 = 1) → z_St G s be h top → (b_rch be, v2) = (s_segs s).foldl (zm_exS s v) (r0, 0) → Post (some (.int v2)) h top) (hX : z_ok X cX8_extendWays 7 RX8 (some .boolean) "extendWays" 7 G) (hq : z_mq X Post) : ∀ (k i : Nat) (h : zH) (top : Nat) (be : zB) (acc : Int32), (s_segs s).length - i < k → i ≤ (s_segs s).length → (z_St G s be h top ∧ (acc = 0 ∨ acc = 1) ∧ (b_rch be, acc) = ((s_segs s).take i).foldl (zm_exS s v) (r0, 0)) → z_Z X h top 4 [(3, .int (nI i)), (2, .int acc), (0, .ref (z_b G)), (1, .ref v.1)] [] := by
  intro k
  induction k with
  | zero => intros; omega
  | succ k ih => intro i h top be acc hk hi hinv; exact f_ext_step s iv v hv hsg r0 hp k i be acc hk hi hinv ih hX hq
set_option maxRecDepth 20000 in
set_option maxHeartbeats 4000000 in
theorem c_X8_extendWays (l : Launch) (G : zG) (h : zH) (top : Nat) (s : zS) (be : zB) (H : z_St G s be h top) (iv : Nat) (v : zVeh) (hv : (s_vehs s)[iv]? = some v) (hsg : zg_kn s) : z_Ct l yX8_extendWays cX8_extendWays 7 (some .boolean) 7 G [.ref (z_b G), .ref v.1] h top (fun r h' top' => ∃ c : Int32, r = some (.int c) ∧ (c = 0 ∨ c = 1) ∧ ∃ be2, z_St G s be2 h' top' ∧ (b_rch be2, c) = zm_ext s v (b_rch be)) := by
  refine z_of (own := RX8) (nm := "extendWays") (by decide) rfl rfl (by decide) (Nat.le_of_ble_eq_true rfl) (fun X hX hq => ?_)
  replace hX : z_ok X cX8_extendWays 7 RX8 (some .boolean) "extendWays" 7 G := hX
  show z_Z X h top 0 [(0, .ref (z_b G)), (1, .ref v.1)] []
  refine r_iconst (v := 0) hX (by decide) dX8_extendWays_0 ?_
  refine r_istore_n (lv' := [(2, .int 0), (0, .ref (z_b G)), (1, .ref v.1)]) hX rfl (by decide) rfl dX8_extendWays_1 ?_
  refine r_iconst (v := 0) hX (by decide) dX8_extendWays_2 ?_
  refine r_istore_n (lv' := [(3, .int 0), (2, .int 0), (0, .ref (z_b G)), (1, .ref v.1)]) hX rfl (by decide) rfl dX8_extendWays_3 ?_
  rw [← nI_0]
  refine r_lv [0, 1, 2, 3] (lv2 := [(3, .int (nI 0)), (2, .int (nI 0)), (0, .ref (z_b G)), (1, .ref v.1)]) rfl ?_
  exact f_ext s iv v hv hsg (b_rch be) (fun v2 h9 t9 b9 h01 H9 e => ⟨v2, rfl, h01, b9, H9, e⟩) hX hq ((s_segs s).length + 1) 0 h top be (nI 0) (by omega) (by omega) ⟨H, Or.inl nI_0, by rw [nI_0]; rfl⟩

set_option maxRecDepth 20000 in
set_option maxHeartbeats 4000000 in
theorem f_chp_step {X : zX} {G : zG} {h : zH} {top : Nat} {Post : Option Value → zH → Nat → Prop} (s : zS) (iv : Nat) (v : zVeh) (hv : (s_vehs s)[iv]? = some v) (hsg : zg_kn s) (a b : Nat) (hb8 : b < 8) (R : Nat → Int32) (hp : ∀ (v2 : Int32) (h : zH) (top : Nat) (be : zB), z_St G s be h top → v2 = R (nI b).toNatClampNeg → Post (some (.int v2)) h top) (k i : Nat) (be : zB) (acc : Int32) (hk : 8 - i < k + 1) (hi : i ≤ 8) (hinv : z_St G s be h top ∧ (acc = 0 ∨ acc = 1) ∧ zm_chp s v (8 - i) (b_rch be, acc) = R) (ih : ∀ (i : Nat) (h : zH) (top : Nat) (be : zB) (acc : Int32), 8 - i < k → i ≤ 8 → (z_St G s be h top ∧ (acc = 0 ∨ acc = 1) ∧ zm_chp s v (8 - i) (b_rch be, acc) = R) → z_Z X h top 50 [(5, .int (nI i)), (4, .int acc), (0, .ref (z_b G)), (1, .int (nI iv)), (2, .int (nI a)), (3, .int (nI b))] []) (hX : z_ok X cX8_cheapest 6 RX8 (some .int) "cheapest" 8 G) (hq : z_mq X (Post)) : z_Z X h top 50 [(5, .int (nI i)), (4, .int acc), (0, .ref (z_b G)), (1, .int (nI iv)), (2, .int (nI a)), (3, .int (nI b))] [] := by
  obtain ⟨H, h01, hR⟩ := hinv
  have hha := H.hall
  have hbd := H.2.2.1.2.2
  have hl0 := H.l0
  have hl01 := hl0.1
  have hl1 := H.l1
  have hl11 := hl1.1
  have hvl : iv < (s_vehs s).length := (List.getElem?_eq_some_iff.mp hv).1
  have hvs := H.veh hv
  refine r_iload hX 0 rfl dX8_cheapest_50 ?_
  refine r_bipush (v := 8) hX (by decide) dX8_cheapest_52 ?_
  refine r_icmp_ge (tgt := 85) hX dX8_cheapest_54 rfl (fun c54 => ?_) (fun c54 => ?_)
  · skip
    refine r_aload_n hX rfl 2 rfl dX8_cheapest_85 ?_
    refine r_iload_n hX rfl 5 rfl dX8_cheapest_86 ?_
    refine r_callVR (As := [.int (nI b)]) (rest := []) (rv := some (.int (b_rch be (nI b).toNatClampNeg))) (st1 := [.int (b_rch be (nI b).toNatClampNeg)]) hX cs_X8_315 (by decide) (fun l => c_X8_reachOf l G h top s be H b hb8) hha rfl rfl rfl rfl (Nat.le_of_ble_eq_true rfl) dX8_cheapest_87 ?_
    exact r_iret hX hq (hp _ _ _ be H (by rw [← hR]; first | exact congrFun (zm_chp_0 s v (8 - i) (b_rch be, acc) c59).symm _ | (rw [ge_n (n := 8) (by decide) hi c54]; rfl))) dX8_cheapest_90
  · skip
    refine r_iload hX 1 rfl dX8_cheapest_57 ?_
    refine r_if_eq (tgt := 85) hX dX8_cheapest_59 rfl (fun c59 => ?_) (fun c59 => ?_)
    · skip
      refine r_aload_n hX rfl 2 rfl dX8_cheapest_85 ?_
      refine r_iload_n hX rfl 5 rfl dX8_cheapest_86 ?_
      refine r_callVR (As := [.int (nI b)]) (rest := []) (rv := some (.int (b_rch be (nI b).toNatClampNeg))) (st1 := [.int (b_rch be (nI b).toNatClampNeg)]) hX cs_X8_315 (by decide) (fun l => c_X8_reachOf l G h top s be H b hb8) hha rfl rfl rfl rfl (Nat.le_of_ble_eq_true rfl) dX8_cheapest_87 ?_
      exact r_iret hX hq (hp _ _ _ be H (by rw [← hR]; first | exact congrFun (zm_chp_0 s v (8 - i) (b_rch be, acc) c59).symm _ | (rw [ge_n (n := 8) (by decide) hi c54]; rfl))) dX8_cheapest_90
    · skip
      refine r_aload_n hX rfl 2 rfl dX8_cheapest_62 ?_
      refine r_aload_n hX rfl 2 rfl dX8_cheapest_63 ?_
      refine r_getf hX fl_X8_16 hha rfl dX8_cheapest_64 ?_
      refine r_iload_n hX rfl 3 rfl dX8_cheapest_67 ?_
      refine r_callVR (As := [.int (nI iv)]) (rest := [.ref (z_b G)]) (rv := some (.ref v.1)) (st1 := [.ref v.1, .ref (z_b G)]) hX cs_X8_92 (by decide) (fun l => z_get hl1 hvl (z_mapget hv) l) hl11 rfl rfl rfl rfl (Nat.le_of_ble_eq_true rfl) dX8_cheapest_68 ?_
      refine r_cast (ci := 8) hX rfl hvs cl_X8_121 dX8_cheapest_71 ?_
      refine r_callV (As := [.ref v.1]) (rest := []) hX cs_X8_311 (by decide) (fun l => c_X8_extendWays l G h top s be H iv v hv hsg) hha rfl rfl rfl (Nat.le_of_ble_eq_true rfl) dX8_cheapest_74 (fun r1 h1 top1 hp1 => ?_)
      obtain ⟨c, rfl, h01b, be1, H1, e1⟩ := hp1
      refine r_istore (lv' := [(4, .int c), (5, .int (nI i)), (0, .ref (z_b G)), (1, .int (nI iv)), (2, .int (nI a)), (3, .int (nI b))]) hX (by decide) rfl dX8_cheapest_77 ?_
      refine r_iinc (q := 1) (lv' := [(5, .int ((nI i) + 1)), (4, .int c), (0, .ref (z_b G)), (1, .int (nI iv)), (2, .int (nI a)), (3, .int (nI b))]) hX rfl rfl (by decide) rfl dX8_cheapest_79 ?_
      refine r_goto (tgt := 50) hX rfl dX8_cheapest_82 ?_
      refine r_lv [0, 1, 2, 3, 4, 5] (lv2 := [(5, .int (nI i + 1)), (4, .int c), (0, .ref (z_b G)), (1, .int (nI iv)), (2, .int (nI a)), (3, .int (nI b))]) rfl ?_
      rw [nI_1]
      have hlt : i < 8 := lt_n (n := 8) (by omega) c54
      refine ih (i + 1) h1 _ be1 c (by omega) (by omega) ⟨H1, h01b, ?_⟩
      rw [← hR, show 8 - i = (8 - (i + 1)) + 1 by omega, zm_chp_s _ _ _ _ c59, ← e1]

theorem f_chp {X : zX} {G : zG}  {Post : Option Value → zH → Nat → Prop} (s : zS) (iv : Nat) (v : zVeh) (hv : (s_vehs s)[iv]? = some v) (hsg : zg_kn s) (a b : Nat) (hb8 : b < 8) (R : Nat → Int32) (hp : ∀ (v2 : Int32) (h : zH) (top : Nat) (be : zB), z_St G s be h top → v2 = R (nI b).toNatClampNeg → Post (some (.int v2)) h top) (hX : z_ok X cX8_cheapest 6 RX8 (some .int) "cheapest" 8 G) (hq : z_mq X Post) : ∀ (k i : Nat) (h : zH) (top : Nat) (be : zB) (acc : Int32), 8 - i < k → i ≤ 8 → (z_St G s be h top ∧ (acc = 0 ∨ acc = 1) ∧ zm_chp s v (8 - i) (b_rch be, acc) = R) → z_Z X h top 50 [(5, .int (nI i)), (4, .int acc), (0, .ref (z_b G)), (1, .int (nI iv)), (2, .int (nI a)), (3, .int (nI b))] [] := by
  intro k
  induction k with
  | zero => intros; omega
  | succ k ih => intro i h top be acc hk hi hinv; exact f_chp_step s iv v hv hsg a b hb8 R hp k i be acc hk hi hinv ih hX hq
theorem zk8.lt {k : Int32} (h : zk8 k) : k.toNatClampNeg < 8 := by
  obtain ⟨a, ha, rfl⟩ := h
  rw [nI_clamp (by omega)]
  exact ha
/-- what counts are the first eight places -/
theorem zm_exS_congr (s : zS) (v : zVeh) {x : zSeg} (hx : zk8 x.2.1 ∧ zk8 x.2.2.1) (f g : Nat → Int32) (c : Int32) (h : ∀ j, j < 8 → f j = g j) : (∀ j, j < 8 → (zm_exS s v (f, c) x).1 j = (zm_exS s v (g, c) x).1 j) ∧ (zm_exS s v (f, c) x).2 = (zm_exS s v (g, c) x).2 := by
  have h1 := h _ hx.1.lt
  have h2 := h _ hx.2.lt
  simp only [zm_exS, h1, h2]
  split
  · exact ⟨h, rfl⟩
  · split
    · refine ⟨fun j hj => ?_, rfl⟩
      simp only [upd]
      split
      · rfl
      · exact h j hj
    · exact ⟨h, rfl⟩
theorem zm_ext_congr (s : zS) (v : zVeh) (hsg : zg_kn s) (f g : Nat → Int32) (h : ∀ j, j < 8 → f j = g j) : (∀ j, j < 8 → (zm_ext s v f).1 j = (zm_ext s v g).1 j) ∧ (zm_ext s v f).2 = (zm_ext s v g).2 := by
  have key : ∀ (l : List zSeg), (∀ x ∈ l, zk8 x.2.1 ∧ zk8 x.2.2.1) → ∀ (f g : Nat → Int32) (c : Int32), (∀ j, j < 8 → f j = g j) → (∀ j, j < 8 → (l.foldl (zm_exS s v) (f, c)).1 j = (l.foldl (zm_exS s v) (g, c)).1 j) ∧ (l.foldl (zm_exS s v) (f, c)).2 = (l.foldl (zm_exS s v) (g, c)).2 := by
    intro l
    induction l with
    | nil => intro _ f g c h; exact ⟨h, rfl⟩
    | cons x xs ih =>
      intro hm f g c h
      obtain ⟨q1, q2⟩ := zm_exS_congr s v (hm x (List.mem_cons_self ..)) f g c h
      rw [List.foldl_cons, List.foldl_cons, show zm_exS s v (f, c) x = ((zm_exS s v (f, c) x).1, (zm_exS s v (f, c) x).2) from rfl, show zm_exS s v (g, c) x = ((zm_exS s v (g, c) x).1, (zm_exS s v (g, c) x).2) from rfl, q2]
      exact ih (fun y hy => hm y (List.mem_cons_of_mem _ hy)) _ _ _ q1
  exact key (s_segs s) (fun x hx => by obtain ⟨i, hi⟩ := List.getElem?_of_mem hx; exact hsg i x hi) f g 0 h
theorem zm_chp_congr (s : zS) (v : zVeh) (hsg : zg_kn s) (k : Nat) : ∀ (f g : Nat → Int32) (c : Int32), (∀ j, j < 8 → f j = g j) → ∀ j, j < 8 → zm_chp s v k (f, c) j = zm_chp s v k (g, c) j := by
  induction k with
  | zero => intro f g c h; exact h
  | succ k ih =>
    intro f g c h j hj
    by_cases e : c = 0
    · rw [zm_chp_0 _ _ _ _ e, zm_chp_0 _ _ _ _ e]
      exact h j hj
    · rw [zm_chp_s _ _ _ _ e, zm_chp_s _ _ _ _ e]
      obtain ⟨q1, q2⟩ := zm_ext_congr s v hsg f g h
      show zm_chp s v k ((zm_ext s v f).1, (zm_ext s v f).2) j = zm_chp s v k ((zm_ext s v g).1, (zm_ext s v g).2) j
      rw [q2]
      exact ih _ _ _ q1 j hj
set_option maxRecDepth 20000 in
set_option maxHeartbeats 4000000 in
theorem c_X8_cheapest (l : Launch) (G : zG) (h : zH) (top : Nat) (s : zS) (be : zB) (H : z_St G s be h top) (iv : Nat) (v : zVeh) (hv : (s_vehs s)[iv]? = some v) (hsg : zg_kn s) (a b : Nat) (ha8 : a < 8) (hb8 : b < 8) : z_Ct l yX8_cheapest cX8_cheapest 6 (some .int) 8 G [.ref (z_b G), .int (nI iv), .int (nI a), .int (nI b)] h top (z_PQ G s (.int (zm_cheap s v a b))) := by
  refine z_of (own := RX8) (nm := "cheapest") (by decide) rfl rfl (by decide) (Nat.le_of_ble_eq_true rfl) (fun X hX hq => ?_)
  replace hX : z_ok X cX8_cheapest 6 RX8 (some .int) "cheapest" 8 G := hX
  show z_Z X h top 0 [(0, .ref (z_b G)), (1, .int (nI iv)), (2, .int (nI a)), (3, .int (nI b))] []
  have hha := H.hall
  have hbd := H.2.2.1.2.2
  have hl0 := H.l0
  have hl01 := hl0.1
  have hl1 := H.l1
  have hl11 := hl1.1
  have hl2 := H.l2
  have hl21 := hl2.1
  have hbk := H.bk
  have hvl : iv < (s_vehs s).length := (List.getElem?_eq_some_iff.mp hv).1
  have hvs := H.veh hv
  have hrc := H.rch
  refine r_aload_n hX rfl 0 rfl dX8_cheapest_0 ?_
  refine r_iload_n hX rfl 1 rfl dX8_cheapest_1 ?_
  refine r_callVR (As := [.int (nI iv)]) (rest := []) (rv := some (.int 1)) (st1 := [.int 1]) hX cs_X8_126 (by decide) (fun l => c_X8_isVehicle l G h top s be H iv hvl) hha rfl rfl rfl rfl (Nat.le_of_ble_eq_true rfl) dX8_cheapest_2 ?_
  refine r_if_eq (tgt := 26) hX dX8_cheapest_5 rfl (fun c => False.elim (absurd c (by decide))) (fun _ => ?_)
  refine r_iload_n hX rfl 2 rfl dX8_cheapest_8 ?_
  refine r_callSR (As := [.int (nI a)]) (rest := []) (rv := some (.int 1)) (st1 := [.int 1]) hX cs_X8_51 (by decide) (fun l => c_isKnot_1 l G h top ha8) rfl rfl rfl (Nat.le_of_ble_eq_true rfl) dX8_cheapest_9 ?_
  refine r_if_eq (tgt := 26) hX dX8_cheapest_12 rfl (fun c => False.elim (absurd c (by decide))) (fun _ => ?_)
  refine r_iload_n hX rfl 3 rfl dX8_cheapest_15 ?_
  refine r_callSR (As := [.int (nI b)]) (rest := []) (rv := some (.int 1)) (st1 := [.int 1]) hX cs_X8_51 (by decide) (fun l => c_isKnot_1 l G h top hb8) rfl rfl rfl (Nat.le_of_ble_eq_true rfl) dX8_cheapest_16 ?_
  refine r_if_eq (tgt := 26) hX dX8_cheapest_19 rfl (fun c => False.elim (absurd c (by decide))) (fun _ => ?_)
  refine r_iconst (v := 1) hX (by decide) dX8_cheapest_22 ?_
  refine r_goto (tgt := 27) hX rfl dX8_cheapest_23 ?_
  refine r_callSR (As := [.int 1]) (rest := []) (rv := none) (st1 := []) hX cs_X8_58 (by decide) (fun l => c_X8_needIndex l G h top) rfl rfl rfl (Nat.le_of_ble_eq_true rfl) dX8_cheapest_27 ?_
  refine r_aload_n hX rfl 0 rfl dX8_cheapest_30 ?_
  refine r_getf hX fl_X8_43 hha rfl dX8_cheapest_31 ?_
  refine r_iconst (v := (-1)) hX (by decide) dX8_cheapest_34 ?_
  refine r_callS (As := [.ref (z_b G + 16), .int (-1)]) (rest := []) hX cs_X8_302 (by decide) (fun l => c_J7_fill_53178 l G h top (z_b G + 16) 8 (-1) (b_rch be) (by decide) hrc) rfl rfl (Nat.le_of_ble_eq_true rfl) dX8_cheapest_35 (fun r1 h1 top1 hp1 => ?_)
  obtain ⟨rfl, rfl, f', g1, g2, g3⟩ := hp1
  have eh : h1 = va_up h (z_b G + 16) (.inl (z_aI G, 8, .inl f')) := by
    funext q
    by_cases e : q = z_b G + 16
    · subst e
      rw [g1.2.2]
      simp [va_up]
    · rw [g3 q e]
      simp [va_up, e]
  have H1 := H.setRch f'
  rw [← eh] at H1
  have hha1 := H1.hall
  have hbk1 := H1.bk
  have htf1 := H1.tfs
  have hlg1 := H1.lg
  have hl1_0 := H1.l0
  have hl1_01 := hl1_0.1
  have hl1_1 := H1.l1
  have hl1_11 := hl1_1.1
  have hl1_2 := H1.l2
  have hl1_21 := hl1_2.1
  have hvs1 := H1.veh hv
  refine r_aload_n hX rfl 0 rfl dX8_cheapest_38 ?_
  refine r_iload_n hX rfl 2 rfl dX8_cheapest_39 ?_
  refine r_iconst (v := 0) hX (by decide) dX8_cheapest_40 ?_
  refine r_callV (As := [.int (nI a), .int 0]) (rest := []) hX cs_X8_308 (by decide) (fun l => c_X8_setReach l G h1 top1 s (f', be.2) H1 a ha8 0) hha1 rfl rfl rfl (Nat.le_of_ble_eq_true rfl) dX8_cheapest_41 (fun r2 h2 top2 hp2 => ?_)
  obtain ⟨rfl, rfl, H2⟩ := hp2
  refine r_iconst (v := 1) hX (by decide) dX8_cheapest_44 ?_
  refine r_istore (lv' := [(4, .int 1), (0, .ref (z_b G)), (1, .int (nI iv)), (2, .int (nI a)), (3, .int (nI b))]) hX (by decide) rfl dX8_cheapest_45 ?_
  refine r_iconst (v := 0) hX (by decide) dX8_cheapest_47 ?_
  refine r_istore (lv' := [(5, .int 0), (4, .int 1), (0, .ref (z_b G)), (1, .int (nI iv)), (2, .int (nI a)), (3, .int (nI b))]) hX (by decide) rfl dX8_cheapest_48 ?_
  rw [← nI_0]
  refine r_lv [0, 1, 2, 3, 4, 5] (lv2 := [(5, .int (nI 0)), (4, .int 1), (0, .ref (z_b G)), (1, .int (nI iv)), (2, .int (nI a)), (3, .int (nI b))]) rfl ?_
  exact f_chp s iv v hv hsg a b hb8 (zm_chp s v 8 (upd f' (nI a).toNatClampNeg 0, 1)) (fun v2 h9 t9 b9 H9 e => ⟨by rw [e]; exact congrArg (fun z => some (Value.int z)) (zm_chp_congr s v hsg 8 (upd f' (nI a).toNatClampNeg 0) (upd (fun _ => -1) (nI a).toNatClampNeg 0) 1 (fun j hj => by simp only [upd]; split; rfl; exact g2 j hj) _ (by rw [nI_clamp (by omega)]; exact hb8)), b9, H9⟩) hX hq (8 + 1) 0 h2 _ _ 1 (by omega) (by omega) ⟨H2, Or.inr rfl, rfl⟩

