/-! the law looks: sound -/
theorem zp_slen (segs : List zSeg) : ∀ (Q : List zQ) (acc : Option zQ × List zQ), (Q.foldl (zm_sureStep segs) acc).2.length ≤ acc.2.length + 2 * Q.length := by
  intro Q
  induction Q with
  | nil => intro acc; exact Nat.le_refl _
  | cons q qs ih =>
    intro acc
    rw [List.foldl_cons, List.length_cons]
    refine Nat.le_trans (ih _) ?_
    have : (zm_sureStep segs acc q).2.length ≤ acc.2.length + 2 := by
      obtain ⟨o, R⟩ := acc
      unfold zm_sureStep
      split
      · cases o with
        | none => simp
        | some a =>
          show (R ++ (zm_inf segs a q).toList ++ [q]).length ≤ _
          have : (zm_inf segs a q).toList.length ≤ 1 := by cases zm_inf segs a q <;> simp
          rw [List.length_append, List.length_append, List.length_singleton]
          dsimp only
          omega
      · exact Nat.le_add_right _ _
    omega
theorem zp_dlen (s : zS) (va : Nat) (day : Int32) : (zm_day s va day).length ≤ 3 * (s_sgts s).length := by
  have h1 := (zm_pick_len (s_segs s) (s_sgts s) va day).1
  have h2 := zm_join_len (zm_pick (s_segs s) (s_sgts s) va day)
  have h3 := zp_slen (s_segs s) (zm_Q s va day) (none, [])
  have h4 : (zm_dbt (zm_Q s va day)).length ≤ (zm_Q s va day).length := List.length_filter_le _ _
  unfold zm_day zm_gath zm_sure
  rw [List.length_append]
  have h5 : (zm_Q s va day).length ≤ (s_sgts s).length := Nat.le_trans h2 h1
  rw [List.length_nil] at h3
  omega
abbrev zD_v : zVeh := (0, (0, 0, 0), (0, 0, 0, 0))
def zm_nv (s : zS) (k : Nat) : zVeh := ((s_vehs s)[k]?).getD zD_v
def zm_cs (s : zS) (day : Int32) : Nat → Nat
  | 0 => 0
  | k + 1 => zm_cs s day k + zm_cnt s (zm_nv s k).1 day
def zm_oc (s : zS) (o : Nat) : Int32 := s_coins s (nI o).toNatClampNeg
def zm_bk (s : zS) (k : Nat) : Int32 := (zm_nv s k).2.2.1
theorem zm_nv_at {s : zS} {k : Nat} {v : zVeh} (h : (s_vehs s)[k]? = some v) : zm_nv s k = v := by unfold zm_nv; rw [h]; rfl
theorem zp_sumK {s : zS} {K : Int32} {n : Nat} (h : zI s K n) : s_hall s + zm_sumN (zm_oc s) 4 + zm_sumN (zm_bk s) 3 = K := by
  obtain ⟨h1, h2, h3, h4, h5, h6, h7⟩ := h
  rw [← h2]
  unfold zm_K zm_KL zm_cn
  have e0 : zm_sumN (zm_oc s) 4 = s_coins s 0 + s_coins s 1 + s_coins s 2 + s_coins s 3 := by
    show (((0 + zm_oc s 0) + zm_oc s 1) + zm_oc s 2) + zm_oc s 3 = _
    unfold zm_oc
    rw [nI_clamp (by decide), nI_clamp (by decide), nI_clamp (by decide), nI_clamp (by decide)]
    grind
  rw [e0]
  obtain ⟨u, v, w, e⟩ : ∃ u v w, s_vehs s = [u, v, w] := by
    match hq : s_vehs s, h4 with
    | [u, v, w], _ => exact ⟨u, v, w, rfl⟩
  have e1 : zm_sumN (zm_bk s) 3 = u.2.2.1 + v.2.2.1 + w.2.2.1 := by
    show ((0 + zm_bk s 0) + zm_bk s 1) + zm_bk s 2 = _
    unfold zm_bk zm_nv
    rw [e]
    show ((0 + u.2.2.1) + v.2.2.1) + w.2.2.1 = _
    grind
  rw [e1, e]
  show _ = _ + (u.2.2.1 + (v.2.2.1 + (w.2.2.1 + 0)))
  grind
theorem zp_cs3 {G : zG} {s : zS} {be : zB} {h : zH} {top : Nat} (H : z_St G s be h top) (h3 : (s_vehs s).length = 3) (day : Int32) : zm_cs s day 3 ≤ (s_sgts s).length := by
  obtain ⟨u, hu⟩ : ∃ u, (s_vehs s)[0]? = some u := ⟨_, List.getElem?_eq_getElem (by omega)⟩
  obtain ⟨v, hv⟩ : ∃ u, (s_vehs s)[1]? = some u := ⟨_, List.getElem?_eq_getElem (by omega)⟩
  obtain ⟨w, hw⟩ : ∃ u, (s_vehs s)[2]? = some u := ⟨_, List.getElem?_eq_getElem (by omega)⟩
  show 0 + zm_cnt s (zm_nv s 0).1 day + zm_cnt s (zm_nv s 1).1 day + zm_cnt s (zm_nv s 2).1 day ≤ _
  rw [zm_nv_at hu, zm_nv_at hv, zm_nv_at hw, Nat.zero_add]
  exact zp_cnt3 s (fun e => absurd (H.vinj hu hv e) (by decide)) (fun e => absurd (H.vinj hu hw e) (by decide)) (fun e => absurd (H.vinj hv hw e) (by decide)) day
set_option maxRecDepth 20000 in
set_option maxHeartbeats 4000000 in
theorem f_own_step {X : zX} {G : zG} {h : zH} {top : Nat} {Post : Option Value → zH → Nat → Prop} (s : zS) (be : zB) (H : z_St G s be h top) (K : Int32) (kk : ∀ acc : Int32, acc = s_hall s + zm_sumN (zm_oc s) 4 → z_Z X h top 29 [(2, .int acc), (0, .ref (z_b G)), (1, .int K)] []) (k i : Nat) (acc : Int32) (hk : 4 - i < k + 1) (hi : i ≤ 4) (hinv : acc = s_hall s + zm_sumN (zm_oc s) i) (ih : ∀ (i : Nat) (acc : Int32), 4 - i < k → i ≤ 4 → (acc = s_hall s + zm_sumN (zm_oc s) i) → z_Z X h top 9 [(3, .int (nI i)), (2, .int acc), (0, .ref (z_b G)), (1, .int K)] []) (hX : z_ok X cL_isSound 9 RL (some .boolean) "isSound" 13 G) (hq : z_mq X (Post)) : z_Z X h top 9 [(3, .int (nI i)), (2, .int acc), (0, .ref (z_b G)), (1, .int K)] [] := by
  have hha := H.hall
  refine r_iload_n hX rfl 0 rfl dL_isSound_9 ?_
  refine r_iconst (v := 4) hX (by decide) dL_isSound_10 ?_
  refine r_icmp_ge (tgt := 29) hX dL_isSound_11 rfl (fun c11 => ?_) (fun c11 => ?_)
  · skip
    refine r_lv [1, 2, 3] (lv2 := [(2, .int acc), (0, .ref (z_b G)), (1, .int K)]) rfl ?_
    exact kk _ (hinv.trans (by rw [ge_n (n := 4) (by decide) hi c11]))
  · skip
    have hlt : i < 4 := lt_n (n := 4) (by omega) c11
    refine r_iload_n hX rfl 1 rfl dL_isSound_14 ?_
    refine r_aload_n hX rfl 2 rfl dL_isSound_15 ?_
    refine r_iload_n hX rfl 0 rfl dL_isSound_16 ?_
    refine r_iconst (v := 0) hX (by decide) dL_isSound_17 ?_
    refine r_callVR (As := [.int (nI i), .int 0]) (rest := [.int acc]) (rv := some (.int (zm_oc s i))) (st1 := [.int (zm_oc s i), .int acc]) hX cs_L_84 (by decide) (fun l => c_ofOwn_0 l G h top s be H i hlt) hha rfl rfl rfl rfl (Nat.le_of_ble_eq_true rfl) dL_isSound_18 ?_
    refine r_iadd hX dL_isSound_21 ?_
    refine r_istore_n (lv' := [(2, .int (acc + (zm_oc s i))), (3, .int (nI i)), (0, .ref (z_b G)), (1, .int K)]) hX rfl (by decide) rfl dL_isSound_22 ?_
    refine r_iinc (q := 1) (lv' := [(3, .int ((nI i) + 1)), (2, .int (acc + (zm_oc s i))), (0, .ref (z_b G)), (1, .int K)]) hX rfl rfl (by decide) rfl dL_isSound_23 ?_
    refine r_goto (tgt := 9) hX rfl dL_isSound_26 ?_
    refine r_lv [0, 1, 2, 3] (lv2 := [(3, .int (nI i + 1)), (2, .int (acc + (zm_oc s i))), (0, .ref (z_b G)), (1, .int K)]) rfl ?_
    rw [nI_1]
    exact ih (i + 1) _ (by omega) (by omega) (by rw [hinv]; show _ = _ + (zm_sumN (zm_oc s) i + zm_oc s i); grind)

theorem f_own {X : zX} {G : zG} {h : zH} {top : Nat} {Post : Option Value → zH → Nat → Prop} (s : zS) (be : zB) (H : z_St G s be h top) (K : Int32) (kk : ∀ acc : Int32, acc = s_hall s + zm_sumN (zm_oc s) 4 → z_Z X h top 29 [(2, .int acc), (0, .ref (z_b G)), (1, .int K)] []) (hX : z_ok X cL_isSound 9 RL (some .boolean) "isSound" 13 G) (hq : z_mq X Post) : ∀ (k i : Nat) (acc : Int32), 4 - i < k → i ≤ 4 → (acc = s_hall s + zm_sumN (zm_oc s) i) → z_Z X h top 9 [(3, .int (nI i)), (2, .int acc), (0, .ref (z_b G)), (1, .int K)] [] := by
  intro k
  induction k with
  | zero => intros; omega
  | succ k ih => intro i acc hk hi hinv; exact f_own_step s be H K kk k i acc hk hi hinv ih hX hq
set_option maxRecDepth 20000 in
set_option maxHeartbeats 4000000 in
theorem f_pas_step {X : zX} {G : zG} {h : zH} {top : Nat} {Post : Option Value → zH → Nat → Prop} (s : zS) (iv : Nat) (v : zVeh) (hv : (s_vehs s)[iv]? = some v) (dy : Nat) (hd0 : ¬ nI dy < 0) (hrl : (zm_day s v.1 (nI dy)).length ≤ 225) (K sum seen0 : Int32) (kk : ∀ (h : zH) (top : Nat) (be : zB) (due seen : Int32), z_St G s be h top → due = zm_sumN (fun q => zm_factAt s (zm_day s v.1 (nI dy)) (zm_charge s v v.2.1.1 (s_cap s) (zm_day s v.1 (nI dy))).2 q (nI 4)) (zm_day s v.1 (nI dy)).length → seen = seen0 + zm_sumN (fun q => zm_factAt s (zm_day s v.1 (nI dy)) (zm_charge s v v.2.1.1 (s_cap s) (zm_day s v.1 (nI dy))).2 q (nI 2)) (zm_day s v.1 (nI dy)).length → z_Z X h top 119 [(6, .int due), (4, .int seen), (0, .ref (z_b G)), (1, .int K), (2, .int sum), (3, .int (nI dy)), (5, .int (nI iv)), (7, .int (nI (zm_day s v.1 (nI dy)).length))] []) (k i : Nat) (be : zB) (due seen : Int32) (hk : (zm_day s v.1 (nI dy)).length - i < k + 1) (hi : i ≤ (zm_day s v.1 (nI dy)).length) (hinv : z_St G s be h top ∧ due = zm_sumN (fun q => zm_factAt s (zm_day s v.1 (nI dy)) (zm_charge s v v.2.1.1 (s_cap s) (zm_day s v.1 (nI dy))).2 q (nI 4)) i ∧ seen = seen0 + zm_sumN (fun q => zm_factAt s (zm_day s v.1 (nI dy)) (zm_charge s v v.2.1.1 (s_cap s) (zm_day s v.1 (nI dy))).2 q (nI 2)) i) (ih : ∀ (i : Nat) (h : zH) (top : Nat) (be : zB) (due seen : Int32), (zm_day s v.1 (nI dy)).length - i < k → i ≤ (zm_day s v.1 (nI dy)).length → (z_St G s be h top ∧ due = zm_sumN (fun q => zm_factAt s (zm_day s v.1 (nI dy)) (zm_charge s v v.2.1.1 (s_cap s) (zm_day s v.1 (nI dy))).2 q (nI 4)) i ∧ seen = seen0 + zm_sumN (fun q => zm_factAt s (zm_day s v.1 (nI dy)) (zm_charge s v v.2.1.1 (s_cap s) (zm_day s v.1 (nI dy))).2 q (nI 2)) i) → z_Z X h top 76 [(8, .int (nI i)), (6, .int due), (4, .int seen), (0, .ref (z_b G)), (1, .int K), (2, .int sum), (3, .int (nI dy)), (5, .int (nI iv)), (7, .int (nI (zm_day s v.1 (nI dy)).length))] []) (hX : z_ok X cL_isSound 9 RL (some .boolean) "isSound" 13 G) (hq : z_mq X (Post)) : z_Z X h top 76 [(8, .int (nI i)), (6, .int due), (4, .int seen), (0, .ref (z_b G)), (1, .int K), (2, .int sum), (3, .int (nI dy)), (5, .int (nI iv)), (7, .int (nI (zm_day s v.1 (nI dy)).length))] [] := by
  obtain ⟨H, hd, hs⟩ := hinv
  have hha := H.hall
  refine r_iload hX 0 rfl dL_isSound_76 ?_
  refine r_iload hX 8 rfl dL_isSound_78 ?_
  refine r_icmp_ge (tgt := 119) hX dL_isSound_80 rfl (fun c80 => ?_) (fun c80 => ?_)
  · skip
    refine r_lv [1, 2, 3, 4, 5, 6, 7, 8] (lv2 := [(6, .int due), (4, .int seen), (0, .ref (z_b G)), (1, .int K), (2, .int sum), (3, .int (nI dy)), (5, .int (nI iv)), (7, .int (nI (zm_day s v.1 (nI dy)).length))]) rfl ?_
    have ei := ge_n (n := (zm_day s v.1 (nI dy)).length) (by omega) hi c80
    exact kk h _ be _ _ H (hd.trans (by rw [ei])) (hs.trans (by rw [ei]))
  · skip
    have hlt : i < (zm_day s v.1 (nI dy)).length := lt_n (by omega) c80
    refine r_iload hX 1 rfl dL_isSound_83 ?_
    refine r_aload_n hX rfl 3 rfl dL_isSound_85 ?_
    refine r_iload hX 7 rfl dL_isSound_86 ?_
    refine r_iload_n hX rfl 6 rfl dL_isSound_88 ?_
    refine r_iload hX 0 rfl dL_isSound_89 ?_
    refine r_iconst (v := 4) hX (by decide) dL_isSound_91 ?_
    refine r_callV (As := [.int (nI iv), .int (nI dy), .int (nI i), .int 4]) (rest := [.int due]) hX cs_L_93 (by decide) (fun l => c_X8_ofPassage l G h top s be H iv v hv (nI dy) hd0 i hlt 4 (by decide)) hha rfl rfl rfl (Nat.le_of_ble_eq_true rfl) dL_isSound_92 (fun r1 h1 top1 hp1 => ?_)
    obtain ⟨rfl, be1, H1⟩ := hp1
    have hha1 := H1.hall
    refine r_iadd hX dL_isSound_95 ?_
    refine r_istore (lv' := [(6, .int (due + (zm_factAt s (zm_day s v.1 (nI dy)) (zm_charge s v v.2.1.1 (s_cap s) (zm_day s v.1 (nI dy))).2 i (nI 4)))), (8, .int (nI i)), (4, .int seen), (0, .ref (z_b G)), (1, .int K), (2, .int sum), (3, .int (nI dy)), (5, .int (nI iv)), (7, .int (nI (zm_day s v.1 (nI dy)).length))]) hX (by decide) rfl dL_isSound_96 ?_
    refine r_iload hX 2 rfl dL_isSound_98 ?_
    refine r_aload_n hX rfl 3 rfl dL_isSound_100 ?_
    refine r_iload hX 7 rfl dL_isSound_101 ?_
    refine r_iload_n hX rfl 6 rfl dL_isSound_103 ?_
    refine r_iload hX 1 rfl dL_isSound_104 ?_
    refine r_iconst (v := 2) hX (by decide) dL_isSound_106 ?_
    refine r_callV (As := [.int (nI iv), .int (nI dy), .int (nI i), .int 2]) (rest := [.int seen]) hX cs_L_93 (by decide) (fun l => c_X8_ofPassage l G h1 top1 s be1 H1 iv v hv (nI dy) hd0 i hlt 2 (by decide)) hha1 rfl rfl rfl (Nat.le_of_ble_eq_true rfl) dL_isSound_107 (fun r2 h2 top2 hp2 => ?_)
    obtain ⟨rfl, be2, H2⟩ := hp2
    have hha2 := H2.hall
    refine r_iadd hX dL_isSound_110 ?_
    refine r_istore (lv' := [(4, .int (seen + (zm_factAt s (zm_day s v.1 (nI dy)) (zm_charge s v v.2.1.1 (s_cap s) (zm_day s v.1 (nI dy))).2 i (nI 2)))), (6, .int (due + (zm_factAt s (zm_day s v.1 (nI dy)) (zm_charge s v v.2.1.1 (s_cap s) (zm_day s v.1 (nI dy))).2 i (nI 4)))), (8, .int (nI i)), (0, .ref (z_b G)), (1, .int K), (2, .int sum), (3, .int (nI dy)), (5, .int (nI iv)), (7, .int (nI (zm_day s v.1 (nI dy)).length))]) hX (by decide) rfl dL_isSound_111 ?_
    refine r_iinc (q := 2) (lv' := [(8, .int ((nI i) + 1)), (4, .int (seen + (zm_factAt s (zm_day s v.1 (nI dy)) (zm_charge s v v.2.1.1 (s_cap s) (zm_day s v.1 (nI dy))).2 i (nI 2)))), (6, .int (due + (zm_factAt s (zm_day s v.1 (nI dy)) (zm_charge s v v.2.1.1 (s_cap s) (zm_day s v.1 (nI dy))).2 i (nI 4)))), (0, .ref (z_b G)), (1, .int K), (2, .int sum), (3, .int (nI dy)), (5, .int (nI iv)), (7, .int (nI (zm_day s v.1 (nI dy)).length))]) hX rfl rfl (by decide) rfl dL_isSound_113 ?_
    refine r_goto (tgt := 76) hX rfl dL_isSound_116 ?_
    refine r_lv [0, 2, 1, 3, 4, 5, 6, 7, 8] (lv2 := [(8, .int (nI i + 1)), (6, .int (due + (zm_factAt s (zm_day s v.1 (nI dy)) (zm_charge s v v.2.1.1 (s_cap s) (zm_day s v.1 (nI dy))).2 i (nI 4)))), (4, .int (seen + (zm_factAt s (zm_day s v.1 (nI dy)) (zm_charge s v v.2.1.1 (s_cap s) (zm_day s v.1 (nI dy))).2 i (nI 2)))), (0, .ref (z_b G)), (1, .int K), (2, .int sum), (3, .int (nI dy)), (5, .int (nI iv)), (7, .int (nI (zm_day s v.1 (nI dy)).length))]) rfl ?_
    rw [nI_1]
    exact ih (i + 1) h2 _ be2 _ _ (by omega) (by omega) ⟨H2, by rw [hd]; rfl, by rw [hs]; show _ = _ + (zm_sumN (fun q => zm_factAt s (zm_day s v.1 (nI dy)) (zm_charge s v v.2.1.1 (s_cap s) (zm_day s v.1 (nI dy))).2 q (nI 2)) i + zm_factAt s (zm_day s v.1 (nI dy)) (zm_charge s v v.2.1.1 (s_cap s) (zm_day s v.1 (nI dy))).2 i (nI 2)); grind⟩

theorem f_pas {X : zX} {G : zG}  {Post : Option Value → zH → Nat → Prop} (s : zS) (iv : Nat) (v : zVeh) (hv : (s_vehs s)[iv]? = some v) (dy : Nat) (hd0 : ¬ nI dy < 0) (hrl : (zm_day s v.1 (nI dy)).length ≤ 225) (K sum seen0 : Int32) (kk : ∀ (h : zH) (top : Nat) (be : zB) (due seen : Int32), z_St G s be h top → due = zm_sumN (fun q => zm_factAt s (zm_day s v.1 (nI dy)) (zm_charge s v v.2.1.1 (s_cap s) (zm_day s v.1 (nI dy))).2 q (nI 4)) (zm_day s v.1 (nI dy)).length → seen = seen0 + zm_sumN (fun q => zm_factAt s (zm_day s v.1 (nI dy)) (zm_charge s v v.2.1.1 (s_cap s) (zm_day s v.1 (nI dy))).2 q (nI 2)) (zm_day s v.1 (nI dy)).length → z_Z X h top 119 [(6, .int due), (4, .int seen), (0, .ref (z_b G)), (1, .int K), (2, .int sum), (3, .int (nI dy)), (5, .int (nI iv)), (7, .int (nI (zm_day s v.1 (nI dy)).length))] []) (hX : z_ok X cL_isSound 9 RL (some .boolean) "isSound" 13 G) (hq : z_mq X Post) : ∀ (k i : Nat) (h : zH) (top : Nat) (be : zB) (due seen : Int32), (zm_day s v.1 (nI dy)).length - i < k → i ≤ (zm_day s v.1 (nI dy)).length → (z_St G s be h top ∧ due = zm_sumN (fun q => zm_factAt s (zm_day s v.1 (nI dy)) (zm_charge s v v.2.1.1 (s_cap s) (zm_day s v.1 (nI dy))).2 q (nI 4)) i ∧ seen = seen0 + zm_sumN (fun q => zm_factAt s (zm_day s v.1 (nI dy)) (zm_charge s v v.2.1.1 (s_cap s) (zm_day s v.1 (nI dy))).2 q (nI 2)) i) → z_Z X h top 76 [(8, .int (nI i)), (6, .int due), (4, .int seen), (0, .ref (z_b G)), (1, .int K), (2, .int sum), (3, .int (nI dy)), (5, .int (nI iv)), (7, .int (nI (zm_day s v.1 (nI dy)).length))] [] := by
  intro k
  induction k with
  | zero => intros; omega
  | succ k ih => intro i h top be due seen hk hi hinv; exact f_pas_step s iv v hv dy hd0 hrl K sum seen0 kk k i be due seen hk hi hinv ih hX hq
theorem c_ofVehB (l : Launch) (G : zG) (h : zH) (top : Nat) (s : zS) (be : zB) (H : z_St G s be h top) (i : Nat) (v : zVeh) (hv : (s_vehs s)[i]? = some v) : z_Ct l yX8_ofVehicle cX8_ofVehicle 4 (some .int) 4 G [.ref (z_b G), .int (nI i), .int 3] h top (z_R (some (.int (zm_bk s i))) h top) := by
  unfold zm_bk
  rw [zm_nv_at hv]
  exact c_ofVeh_3 l G h top s be H i v hv
set_option maxRecDepth 20000 in
set_option maxHeartbeats 4000000 in
theorem f_snd_step {X : zX} {G : zG} {h : zH} {top : Nat} {Post : Option Value → zH → Nat → Prop} (s : zS) (K : Int32) (n dy : Nat) (hd0 : ¬ nI dy < 0) (hI : zI s K n) (hp : ∀ (h : zH) (top : Nat) (be : zB), z_St G s be h top → Post (some (.int 1)) h top) (k i : Nat) (be : zB) (seen sum : Int32) (hk : 3 - i < k + 1) (hi : i ≤ 3) (hinv : z_St G s be h top ∧ seen = nI (zm_cs s (nI dy) i) ∧ sum = s_hall s + zm_sumN (zm_oc s) 4 + zm_sumN (zm_bk s) i) (ih : ∀ (i : Nat) (h : zH) (top : Nat) (be : zB) (seen sum : Int32), 3 - i < k → i ≤ 3 → (z_St G s be h top ∧ seen = nI (zm_cs s (nI dy) i) ∧ sum = s_hall s + zm_sumN (zm_oc s) 4 + zm_sumN (zm_bk s) i) → z_Z X h top 45 [(5, .int (nI i)), (4, .int seen), (2, .int sum), (0, .ref (z_b G)), (1, .int K), (3, .int (nI dy))] []) (hX : z_ok X cL_isSound 9 RL (some .boolean) "isSound" 13 G) (hq : z_mq X (Post)) : z_Z X h top 45 [(5, .int (nI i)), (4, .int seen), (2, .int sum), (0, .ref (z_b G)), (1, .int K), (3, .int (nI dy))] [] := by
  obtain ⟨H, hseen, hsum⟩ := hinv
  have hha := H.hall
  obtain ⟨hcf, hK0, hl1, hl3, hcap, hnow, hsg⟩ := id hI
  refine r_iload hX 0 rfl dL_isSound_45 ?_
  refine r_iconst (v := 3) hX (by decide) dL_isSound_47 ?_
  refine r_icmp_ge (tgt := 168) hX dL_isSound_48 rfl (fun c48 => ?_) (fun c48 => ?_)
  · skip
    obtain rfl := ge_n (n := 3) (by decide) hi c48
    have hc3 := zp_cs3 H hl3 (nI dy)
    rw [zp_sumK hI] at hsum
    refine r_iload_n hX rfl 2 rfl dL_isSound_168 ?_
    refine r_iload_n hX rfl 4 rfl dL_isSound_169 ?_
    refine r_icmp_ne (tgt := 187) hX dL_isSound_170 rfl (fun c => False.elim (c hsum)) (fun _ => ?_)
    refine r_iload hX 1 rfl dL_isSound_173 ?_
    refine r_aload_n hX rfl 3 rfl dL_isSound_175 ?_
    refine r_iconst (v := 3) hX (by decide) dL_isSound_176 ?_
    refine r_callVR (As := [.int 3]) (rest := [.int seen]) (rv := some (.int (nI (s_sgts s).length))) (st1 := [.int (nI (s_sgts s).length), .int seen]) hX cs_L_41 (by decide) (fun l => c_many_3 l G h top s be H) hha rfl rfl rfl rfl (Nat.le_of_ble_eq_true rfl) dL_isSound_177 ?_
    refine r_icmp_gt (tgt := 187) hX dL_isSound_180 rfl (fun c => False.elim (absurd (show nI (s_sgts s).length < nI (zm_cs s (nI dy) 3) by rw [← hseen]; exact c) (nI_nlt hc3 (by omega)))) (fun _ => ?_)
    refine r_iconst (v := 1) hX (by decide) dL_isSound_183 ?_
    refine r_goto (tgt := 188) hX rfl dL_isSound_184 ?_
    exact r_zret hX hq (by decide) (hp _ _ be H) dL_isSound_188
  · skip
    have hlt : i < 3 := lt_n (n := 3) (by omega) c48
    obtain ⟨v, hv⟩ : ∃ v, (s_vehs s)[i]? = some v := ⟨_, List.getElem?_eq_getElem (by omega)⟩
    have hrl : (zm_day s v.1 (nI dy)).length ≤ 225 := Nat.le_trans (zp_dlen s v.1 (nI dy)) (by omega)
    refine r_iload_n hX rfl 2 rfl dL_isSound_51 ?_
    refine r_aload_n hX rfl 3 rfl dL_isSound_52 ?_
    refine r_iload hX 0 rfl dL_isSound_53 ?_
    refine r_iconst (v := 3) hX (by decide) dL_isSound_55 ?_
    refine r_callVR (As := [.int (nI i), .int 3]) (rest := [.int sum]) (rv := some (.int (zm_bk s i))) (st1 := [.int (zm_bk s i), .int sum]) hX cs_L_87 (by decide) (fun l => c_ofVehB l G h top s be H i v hv) hha rfl rfl rfl rfl (Nat.le_of_ble_eq_true rfl) dL_isSound_56 ?_
    refine r_iadd hX dL_isSound_59 ?_
    refine r_istore_n (lv' := [(2, .int (sum + (zm_bk s i))), (5, .int (nI i)), (4, .int seen), (0, .ref (z_b G)), (1, .int K), (3, .int (nI dy))]) hX rfl (by decide) rfl dL_isSound_60 ?_
    refine r_iconst (v := 0) hX (by decide) dL_isSound_61 ?_
    refine r_istore (lv' := [(6, .int 0), (2, .int (sum + (zm_bk s i))), (5, .int (nI i)), (4, .int seen), (0, .ref (z_b G)), (1, .int K), (3, .int (nI dy))]) hX (by decide) rfl dL_isSound_62 ?_
    refine r_aload_n hX rfl 4 rfl dL_isSound_64 ?_
    refine r_iload hX 2 rfl dL_isSound_65 ?_
    refine r_iload_n hX rfl 6 rfl dL_isSound_67 ?_
    refine r_callV (As := [.int (nI i), .int (nI dy)]) (rest := []) hX cs_L_90 (by decide) (fun l => c_X8_passages l G h top s be H i v hv (nI dy) hd0) hha rfl rfl rfl (Nat.le_of_ble_eq_true rfl) dL_isSound_68 (fun r1 h1 top1 hp1 => ?_)
    obtain ⟨rfl, be1, H1⟩ := hp1
    have hha1 := H1.hall
    refine r_istore (lv' := [(7, .int (nI (zm_day s v.1 (nI dy)).length)), (6, .int 0), (2, .int (sum + (zm_bk s i))), (5, .int (nI i)), (4, .int seen), (0, .ref (z_b G)), (1, .int K), (3, .int (nI dy))]) hX (by decide) rfl dL_isSound_71 ?_
    refine r_iconst (v := 0) hX (by decide) dL_isSound_73 ?_
    refine r_istore (lv' := [(8, .int 0), (7, .int (nI (zm_day s v.1 (nI dy)).length)), (6, .int 0), (2, .int (sum + (zm_bk s i))), (5, .int (nI i)), (4, .int seen), (0, .ref (z_b G)), (1, .int K), (3, .int (nI dy))]) hX (by decide) rfl dL_isSound_74 ?_
    refine r_lv [0, 2, 5, 6, 7, 3, 8, 4, 1] (lv2 := [(8, .int 0), (6, .int 0), (4, .int seen), (0, .ref (z_b G)), (1, .int K), (2, .int (sum + (zm_bk s i))), (3, .int (nI dy)), (5, .int (nI i)), (7, .int (nI (zm_day s v.1 (nI dy)).length))]) rfl ?_
    refine f_pas s i v hv dy hd0 hrl K (sum + (zm_bk s i)) seen (fun h2 t2 be2 due2 seen2 H2 hd2 hs2 => ?_) hX hq ((zm_day s v.1 (nI dy)).length + 1) 0 h1 top1 be1 0 seen (by omega) (by omega) ⟨H1, rfl, by show seen = seen + 0; grind⟩
    have hha2 := H2.hall
    rw [zp_due s v v.2.1.1 (s_cap s) (zm_day s v.1 (nI dy))] at hd2
    obtain ⟨b, hb, eb⟩ := zp_bill hcf (List.mem_of_getElem? hv) (c := 300) (by decide) (zm_day s v.1 (nI dy))
    rw [← hcap] at eb
    rw [zp_told s v.1 (nI dy), hseen, nI_add] at hs2
    refine r_iload hX 0 rfl dL_isSound_119 ?_
    refine r_aload_n hX rfl 2 rfl dL_isSound_121 ?_
    refine r_bipush (v := 7) hX (by decide) dL_isSound_122 ?_
    refine r_callVR (As := [.int 7]) (rest := [.int due2]) (rv := some (.int (s_cap s))) (st1 := [.int (s_cap s), .int due2]) hX cs_L_41 (by decide) (fun l => c_many_7 l G h2 t2 s be2 H2) hha2 rfl rfl rfl rfl (Nat.le_of_ble_eq_true rfl) dL_isSound_124 ?_
    refine r_icmp_gt (tgt := 160) hX dL_isSound_127 rfl (fun c => False.elim (absurd (show nI 300 < nI b by rw [← hcap, ← eb, ← hd2]; exact c) (nI_nlt hb (by omega)))) (fun _ => ?_)
    refine r_iload hX 0 rfl dL_isSound_130 ?_
    refine r_aload_n hX rfl 2 rfl dL_isSound_132 ?_
    refine r_iload hX 6 rfl dL_isSound_133 ?_
    refine r_iload_n hX rfl 5 rfl dL_isSound_135 ?_
    refine r_aload_n hX rfl 2 rfl dL_isSound_136 ?_
    refine r_bipush (v := 7) hX (by decide) dL_isSound_137 ?_
    refine r_callVR (As := [.int 7]) (rest := [.int (nI dy), .int (nI i), .ref (z_b G), .int due2]) (rv := some (.int (s_cap s))) (st1 := [.int (s_cap s), .int (nI dy), .int (nI i), .ref (z_b G), .int due2]) hX cs_L_41 (by decide) (fun l => c_many_7 l G h2 t2 s be2 H2) hha2 rfl rfl rfl rfl (Nat.le_of_ble_eq_true rfl) dL_isSound_139 ?_
    refine r_callV (As := [.int (nI i), .int (nI dy), .int (s_cap s)]) (rest := [.int due2]) hX cs_L_96 (by decide) (fun l => c_X8_bill l G h2 t2 s be2 H2 i v hv (nI dy) hd0 (s_cap s) (by rw [hcap]; decide +kernel)) hha2 rfl rfl rfl (Nat.le_of_ble_eq_true rfl) dL_isSound_142 (fun r3 h3 top3 hp3 => ?_)
    obtain ⟨rfl, be3, H3⟩ := hp3
    have hha3 := H3.hall
    refine r_icmp_ne (tgt := 160) hX dL_isSound_145 rfl (fun c => False.elim (c hd2)) (fun _ => ?_)
    refine r_aload_n hX rfl 2 rfl dL_isSound_148 ?_
    refine r_iload hX 6 rfl dL_isSound_149 ?_
    refine r_iload_n hX rfl 5 rfl dL_isSound_151 ?_
    refine r_callV (As := [.int (nI i), .int (nI dy)]) (rest := []) hX cs_L_99 (by decide) (fun l => c_X8_journeys l G h3 top3 s be3 H3 i v hv (nI dy) hd0) hha3 rfl rfl rfl (Nat.le_of_ble_eq_true rfl) dL_isSound_152 (fun r4 h4 top4 hp4 => ?_)
    obtain ⟨rfl, be4, H4⟩ := hp4
    have hha4 := H4.hall
    refine r_iload hX 7 rfl dL_isSound_155 ?_
    refine r_icmp_le (tgt := 162) hX dL_isSound_157 rfl (fun _ => ?_) (fun c => False.elim (c (by obtain ⟨k9, hk9, ek9⟩ := zp_journeys s (zm_cert s v.1 (nI dy)) (zm_day s v.1 (nI dy)); rw [ek9]; exact nI_le hk9 (by omega))))
    refine r_iinc (q := 6) (lv' := [(5, .int ((nI i) + 1)), (6, .int due2), (4, .int seen2), (0, .ref (z_b G)), (1, .int K), (2, .int (sum + (zm_bk s i))), (3, .int (nI dy)), (7, .int (nI (zm_day s v.1 (nI dy)).length))]) hX rfl rfl (by decide) rfl dL_isSound_162 ?_
    refine r_goto (tgt := 45) hX rfl dL_isSound_165 ?_
    refine r_lv [0, 2, 5, 3, 4, 6] (lv2 := [(5, .int (nI i + 1)), (4, .int seen2), (2, .int (sum + (zm_bk s i))), (0, .ref (z_b G)), (1, .int K), (3, .int (nI dy))]) rfl ?_
    rw [nI_1]
    exact ih (i + 1) h4 _ be4 _ _ (by omega) (by omega) ⟨H4, by rw [hs2]; show _ = nI (_ + zm_cnt s (zm_nv s i).1 (nI dy)); rw [zm_nv_at hv], by rw [hsum]; show _ = _ + _ + (zm_sumN (zm_bk s) i + zm_bk s i); grind⟩

theorem f_snd {X : zX} {G : zG}  {Post : Option Value → zH → Nat → Prop} (s : zS) (K : Int32) (n dy : Nat) (hd0 : ¬ nI dy < 0) (hI : zI s K n) (hp : ∀ (h : zH) (top : Nat) (be : zB), z_St G s be h top → Post (some (.int 1)) h top) (hX : z_ok X cL_isSound 9 RL (some .boolean) "isSound" 13 G) (hq : z_mq X Post) : ∀ (k i : Nat) (h : zH) (top : Nat) (be : zB) (seen sum : Int32), 3 - i < k → i ≤ 3 → (z_St G s be h top ∧ seen = nI (zm_cs s (nI dy) i) ∧ sum = s_hall s + zm_sumN (zm_oc s) 4 + zm_sumN (zm_bk s) i) → z_Z X h top 45 [(5, .int (nI i)), (4, .int seen), (2, .int sum), (0, .ref (z_b G)), (1, .int K), (3, .int (nI dy))] [] := by
  intro k
  induction k with
  | zero => intros; omega
  | succ k ih => intro i h top be seen sum hk hi hinv; exact f_snd_step s K n dy hd0 hI hp k i be seen sum hk hi hinv ih hX hq
set_option maxRecDepth 20000 in
set_option maxHeartbeats 4000000 in
theorem c_L_isSound (l : Launch) (G : zG) (h : zH) (top : Nat) (s : zS) (be : zB) (H : z_St G s be h top) (K : Int32) (n : Nat) (hn6 : n ≤ 60000) (hI : zI s K n) : z_Ct l yL_isSound cL_isSound 9 (some .boolean) 13 G [.ref (z_b G), .int K] h top (z_PQ G s (.int 1)) := by
  refine z_of (own := RL) (nm := "isSound") (by decide) rfl rfl (by decide) (Nat.le_of_ble_eq_true rfl) (fun X hX hq => ?_)
  replace hX : z_ok X cL_isSound 9 RL (some .boolean) "isSound" 13 G := hX
  show z_Z X h top 0 [(0, .ref (z_b G)), (1, .int K)] []
  have hha := H.hall
  refine r_aload_n hX rfl 0 rfl dL_isSound_0 ?_
  refine r_bipush (v := 8) hX (by decide) dL_isSound_1 ?_
  refine r_callVR (As := [.int 8]) (rest := []) (rv := some (.int (s_hall s))) (st1 := [.int (s_hall s)]) hX cs_L_41 (by decide) (fun l => c_many_8 l G h top s be H) hha rfl rfl rfl rfl (Nat.le_of_ble_eq_true rfl) dL_isSound_3 ?_
  refine r_istore_n (lv' := [(2, .int (s_hall s)), (0, .ref (z_b G)), (1, .int K)]) hX rfl (by decide) rfl dL_isSound_6 ?_
  refine r_iconst (v := 0) hX (by decide) dL_isSound_7 ?_
  refine r_istore_n (lv' := [(3, .int 0), (2, .int (s_hall s)), (0, .ref (z_b G)), (1, .int K)]) hX rfl (by decide) rfl dL_isSound_8 ?_
  refine r_lv [0, 1, 2, 3] (lv2 := [(3, .int 0), (2, .int (s_hall s)), (0, .ref (z_b G)), (1, .int K)]) rfl ?_
  refine f_own s be H K (fun acc ea => ?_) hX hq (4 + 1) 0 (s_hall s) (by omega) (by omega) (by show _ = _ + 0; grind)
  refine r_aload_n hX rfl 1 rfl dL_isSound_29 ?_
  refine r_iconst (v := 0) hX (by decide) dL_isSound_30 ?_
  refine r_callVR (As := [.int 0]) (rest := []) (rv := some (.int (s_now s))) (st1 := [.int (s_now s)]) hX cs_L_41 (by decide) (fun l => c_many_0 l G h top s be H) hha rfl rfl rfl rfl (Nat.le_of_ble_eq_true rfl) dL_isSound_31 ?_
  refine r_sipush (v := 1440) hX (by decide) dL_isSound_34 ?_
  refine r_idiv hX (by decide) dL_isSound_37 ?_
  rw [show s_now s / (1440 : Int32) = nI (n / 1440) by rw [hI.2.2.2.2.2.1, nI_div (by omega)]]
  refine r_istore_n (lv' := [(3, .int (nI (n / 1440))), (2, .int acc), (0, .ref (z_b G)), (1, .int K)]) hX rfl (by decide) rfl dL_isSound_38 ?_
  refine r_iconst (v := 0) hX (by decide) dL_isSound_39 ?_
  refine r_istore (lv' := [(4, .int 0), (3, .int (nI (n / 1440))), (2, .int acc), (0, .ref (z_b G)), (1, .int K)]) hX (by decide) rfl dL_isSound_40 ?_
  refine r_iconst (v := 0) hX (by decide) dL_isSound_42 ?_
  refine r_istore (lv' := [(5, .int 0), (4, .int 0), (3, .int (nI (n / 1440))), (2, .int acc), (0, .ref (z_b G)), (1, .int K)]) hX (by decide) rfl dL_isSound_43 ?_
  refine r_lv [0, 1, 3, 4, 5, 2] (lv2 := [(5, .int 0), (4, .int 0), (2, .int acc), (0, .ref (z_b G)), (1, .int K), (3, .int (nI (n / 1440)))]) rfl ?_
  exact f_snd s K n (n / 1440) (nI_pos (by omega)) hI (fun h9 t9 b9 H9 => ⟨rfl, b9, H9⟩) hX hq (3 + 1) 0 h top be 0 acc (by omega) (by omega) ⟨H, nI_0.symm, by rw [ea]; show _ = _ + _ + 0; grind⟩

