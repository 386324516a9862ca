/-! the law writes a hall -/
theorem zl_to (a : Nat) (ha : a < 8) (b : Nat) (hb : b < 7) : a ≠ (a + 1 + b) % 8 := by omega
set_option maxRecDepth 20000 in
set_option maxHeartbeats 4000000 in
theorem f_wr1_step {X : zX} {G : zG} {h : zH} {top : Nat} {Post : Option Value → zH → Nat → Prop} (hL : z_L G ≤ 260) (kk : ∀ (h : zH) (top : Nat) (s : zS) (be : zB), z_St G s be h top → zJ s 8 0 0 → z_Z X h top 100 [(0, .ref (z_b G)), (1, .ref (z_bs G)), (2, .int (nI 4))] []) (k i : Nat) (s : zS) (be : zB) (hk : 8 - i < k + 1) (hi : i ≤ 8) (hinv : z_St G s be h top ∧ zJ s i 0 0) (ih : ∀ (i : Nat) (h : zH) (top : Nat) (s : zS) (be : zB), 8 - i < k → i ≤ 8 → (z_St G s be h top ∧ zJ s i 0 0) → z_Z X h top 2 [(3, .int (nI i)), (0, .ref (z_b G)), (1, .ref (z_bs G)), (2, .int (nI 4))] []) (hX : z_ok X cL_write 6 RL none "write" 15 G) (hq : z_mq X (Post)) : z_Z X h top 2 [(3, .int (nI i)), (0, .ref (z_b G)), (1, .ref (z_bs G)), (2, .int (nI 4))] [] := by
  obtain ⟨H, hj⟩ := hinv
  have hha := H.hall
  obtain ⟨hcf, hK0, hl1, hl2, hl3, hcap, hnow, hsg0⟩ := id hj
  refine r_iload_n hX rfl 0 rfl dL_write_2 ?_
  refine r_bipush (v := 8) hX (by decide) dL_write_3 ?_
  refine r_icmp_ge (tgt := 100) hX dL_write_5 rfl (fun c5 => ?_) (fun c5 => ?_)
  · skip
    refine r_lv [1, 2, 3] (lv2 := [(0, .ref (z_b G)), (1, .ref (z_bs G)), (2, .int (nI 4))]) rfl ?_
    exact kk _ _ s be H (by rw [← ge_n (n := 8) (by decide) hi c5]; exact hj)
  · skip
    have hlt : i < 8 := lt_n (n := 8) (by omega) c5
    refine r_aload_n hX rfl 2 rfl dL_write_8 ?_
    refine r_iload_n hX rfl 0 rfl dL_write_9 ?_
    refine r_iload_n hX rfl 3 rfl dL_write_10 ?_
    refine r_iadd hX dL_write_11 ?_
    rw [show nI i + nI 4 = nI (i + 4) from nI_add i 4]
    refine r_callSR (As := [.ref (z_bs G), .int (nI (i + 4))]) (rest := []) (rv := some (.int (zn_cell G (i + 4)))) (st1 := [.int (zn_cell G (i + 4))]) hX cs_L_9 (by decide) (fun l => c_L_cell l G h top hL (i + 4) (by omega)) rfl rfl rfl (Nat.le_of_ble_eq_true rfl) dL_write_12 ?_
    refine r_bipush (v := 11) hX (by decide) dL_write_15 ?_
    refine r_iload_n hX rfl 0 rfl dL_write_17 ?_
    refine r_imul hX dL_write_18 ?_
    refine r_iadd hX dL_write_19 ?_
    obtain ⟨x, hx⟩ : ∃ x : Int32, x = ((zn_cell G (i + 4)) + (11 * (nI i))) := ⟨_, rfl⟩
    rw [← hx]
    refine r_istore (lv' := [(4, .int x), (3, .int (nI i)), (0, .ref (z_b G)), (1, .ref (z_bs G)), (2, .int (nI 4))]) hX (by decide) rfl dL_write_20 ?_
    refine r_iload_n hX rfl 1 rfl dL_write_22 ?_
    refine r_iconst (v := 5) hX (by decide) dL_write_23 ?_
    refine r_icmp_ge (tgt := 31) hX dL_write_24 rfl (fun c24 => ?_) (fun c24 => ?_)
    · skip
      refine r_iload hX 0 rfl dL_write_31 ?_
      refine r_bipush (v := 8) hX (by decide) dL_write_33 ?_
      refine r_callSR (As := [.int x, .int 8]) (rest := []) (rv := some (.int (nI (zn_below x 8)))) (st1 := [.int (nI (zn_below x 8))]) hX cs_L_15 (by decide) (fun l => c_L_below l G h top x (k := 8) (by decide) (by decide)) rfl rfl rfl (Nat.le_of_ble_eq_true rfl) dL_write_35 ?_
      refine r_istore (lv' := [(5, .int (nI (zn_below x 8))), (4, .int x), (3, .int (nI i)), (0, .ref (z_b G)), (1, .ref (z_bs G)), (2, .int (nI 4))]) hX (by decide) rfl dL_write_38 ?_
      refine r_aload_n hX rfl 3 rfl dL_write_40 ?_
      refine r_iload hX 0 rfl dL_write_41 ?_
      refine r_iload_n hX rfl 2 rfl dL_write_43 ?_
      refine r_iconst (v := 5) hX (by decide) dL_write_44 ?_
      refine r_icmp_ge (tgt := 54) hX dL_write_45 rfl (fun _ => ?_) (fun c => False.elim (c c24))
      refine r_iload hX 0 rfl dL_write_54 ?_
      refine r_iconst (v := 1) hX (by decide) dL_write_56 ?_
      refine r_iadd hX dL_write_57 ?_
      refine r_iload hX 1 rfl dL_write_58 ?_
      refine r_iconst (v := 2) hX (by decide) dL_write_60 ?_
      refine r_ishr hX dL_write_61 ?_
      refine r_bipush (v := 7) hX (by decide) dL_write_62 ?_
      refine r_callSR (As := [.int (x >>> (2 &&& 31)), .int 7]) (rest := [.int ((nI (zn_below x 8)) + 1), .int (nI (zn_below x 8)), .ref (z_b G)]) (rv := some (.int (nI (zn_below (x >>> (2 &&& 31)) 7)))) (st1 := [.int (nI (zn_below (x >>> (2 &&& 31)) 7)), .int ((nI (zn_below x 8)) + 1), .int (nI (zn_below x 8)), .ref (z_b G)]) hX cs_L_15 (by decide) (fun l => c_L_below l G h top (x >>> (2 &&& 31)) (k := 7) (by decide) (by decide)) rfl rfl rfl (Nat.le_of_ble_eq_true rfl) dL_write_64 ?_
      refine r_iadd hX dL_write_67 ?_
      refine r_bipush (v := 8) hX (by decide) dL_write_68 ?_
      refine r_irem hX (by decide) dL_write_70 ?_
      rw [show ((((nI (zn_below x 8)) + (1 : Int32)) + (nI (zn_below (x >>> (2 &&& 31)) 7))) - (((nI (zn_below x 8)) + (1 : Int32)) + (nI (zn_below (x >>> (2 &&& 31)) 7))) / (8 : Int32) * (8 : Int32)) = nI ((zn_below x 8 + 1 + zn_below (x >>> (2 &&& 31)) 7) % 8) from by rw [nI_1, nI_add]; exact nI_mod (by have := zn_lt x (k := 8) (by decide); have := zn_lt (x >>> (2 &&& 31)) (k := 7) (by decide); omega) (by decide) (by decide)]
      refine r_iconst (v := 1) hX (by decide) dL_write_71 ?_
      refine r_iload hX 1 rfl dL_write_72 ?_
      refine r_iconst (v := 3) hX (by decide) dL_write_74 ?_
      refine r_ishr hX dL_write_75 ?_
      refine r_bipush (v := 60) hX (by decide) dL_write_76 ?_
      refine r_callSR (As := [.int (x >>> (3 &&& 31)), .int 60]) (rest := [.int 1, .int (nI ((zn_below x 8 + 1 + zn_below (x >>> (2 &&& 31)) 7) % 8)), .int (nI (zn_below x 8)), .ref (z_b G)]) (rv := some (.int (nI (zn_below (x >>> (3 &&& 31)) 60)))) (st1 := [.int (nI (zn_below (x >>> (3 &&& 31)) 60)), .int 1, .int (nI ((zn_below x 8 + 1 + zn_below (x >>> (2 &&& 31)) 7) % 8)), .int (nI (zn_below x 8)), .ref (z_b G)]) hX cs_L_15 (by decide) (fun l => c_L_below l G h top (x >>> (3 &&& 31)) (k := 60) (by decide) (by decide)) rfl rfl rfl (Nat.le_of_ble_eq_true rfl) dL_write_78 ?_
      refine r_iadd hX dL_write_81 ?_
      rw [show ((1 : Int32) + (nI (zn_below (x >>> (3 &&& 31)) 60))) = nI (1 + zn_below (x >>> (3 &&& 31)) 60) from nI_add 1 _]
      refine r_iload hX 1 rfl dL_write_82 ?_
      refine r_iconst (v := 4) hX (by decide) dL_write_84 ?_
      refine r_ishr hX dL_write_85 ?_
      refine r_iconst (v := 4) hX (by decide) dL_write_86 ?_
      refine r_callSR (As := [.int (x >>> (4 &&& 31)), .int 4]) (rest := [.int (nI (1 + zn_below (x >>> (3 &&& 31)) 60)), .int (nI ((zn_below x 8 + 1 + zn_below (x >>> (2 &&& 31)) 7) % 8)), .int (nI (zn_below x 8)), .ref (z_b G)]) (rv := some (.int (nI (zn_below (x >>> (4 &&& 31)) 4)))) (st1 := [.int (nI (zn_below (x >>> (4 &&& 31)) 4)), .int (nI (1 + zn_below (x >>> (3 &&& 31)) 60)), .int (nI ((zn_below x 8 + 1 + zn_below (x >>> (2 &&& 31)) 7) % 8)), .int (nI (zn_below x 8)), .ref (z_b G)]) hX cs_L_15 (by decide) (fun l => c_L_below l G h top (x >>> (4 &&& 31)) (k := 4) (by decide) (by decide)) rfl rfl rfl (Nat.le_of_ble_eq_true rfl) dL_write_87 ?_
      refine r_callV (As := [.int (nI (zn_below x 8)), .int (nI ((zn_below x 8 + 1 + zn_below (x >>> (2 &&& 31)) 7) % 8)), .int (nI (1 + zn_below (x >>> (3 &&& 31)) 60)), .int (nI (zn_below (x >>> (4 &&& 31)) 4))]) (rest := []) hX cs_L_19 (by decide) (fun l => c_X8_segment l G h top s be H (zn_below x 8) ((zn_below x 8 + 1 + zn_below (x >>> (2 &&& 31)) 7) % 8) (zn_below (x >>> (4 &&& 31)) 4) (nI (1 + zn_below (x >>> (3 &&& 31)) 60)) (zn_lt _ (by decide)) (Nat.mod_lt _ (by decide)) (zn_lt _ (by decide)) (zl_to _ (zn_lt x (by decide)) _ (zn_lt _ (by decide))) (zf_in2 (lo := 1) (hi := 60) (by omega) (by have := zn_lt (x >>> (3 &&& 31)) (k := 60) (by decide); omega) (by decide)) (by omega)) hha rfl rfl rfl (Nat.le_of_ble_eq_true rfl) dL_write_90 (fun r1 h1 top1 hp1 => ?_)
      obtain ⟨rfl, a9, be2, H2⟩ := hp1
      refine r_pop hX rfl dL_write_93 ?_
      refine r_iinc (q := 2) (lv' := [(3, .int ((nI i) + 1)), (5, .int (nI (zn_below x 8))), (4, .int x), (0, .ref (z_b G)), (1, .ref (z_bs G)), (2, .int (nI 4))]) hX rfl rfl (by decide) rfl dL_write_94 ?_
      refine r_goto (tgt := 2) hX rfl dL_write_97 ?_
      refine r_lv [0, 3, 4, 5] (lv2 := [(3, .int (nI i + 1)), (0, .ref (z_b G)), (1, .ref (z_bs G)), (2, .int (nI 4))]) rfl ?_
      rw [nI_1]
      exact ih (i + 1) h1 _ _ be2 (by omega) (by omega) ⟨H2, hj.seg a9 (zn_lt _ (by decide)) (Nat.mod_lt _ (by decide)) (zn_lt _ (by decide)) (by have := zn_lt (x >>> (3 &&& 31)) (k := 60) (by decide); omega)⟩
    · skip
      have hlt5 : i < 5 := lt_n (n := 5) (by omega) c24
      refine r_iload_n hX rfl 1 rfl dL_write_27 ?_
      refine r_goto (tgt := 38) hX rfl dL_write_28 ?_
      refine r_istore (lv' := [(5, .int (nI i)), (4, .int x), (3, .int (nI i)), (0, .ref (z_b G)), (1, .ref (z_bs G)), (2, .int (nI 4))]) hX (by decide) rfl dL_write_38 ?_
      refine r_aload_n hX rfl 3 rfl dL_write_40 ?_
      refine r_iload hX 0 rfl dL_write_41 ?_
      refine r_iload_n hX rfl 2 rfl dL_write_43 ?_
      refine r_iconst (v := 5) hX (by decide) dL_write_44 ?_
      refine r_icmp_ge (tgt := 54) hX dL_write_45 rfl (fun c => False.elim (c24 c)) (fun _ => ?_)
      refine r_iload_n hX rfl 2 rfl dL_write_48 ?_
      refine r_iconst (v := 1) hX (by decide) dL_write_49 ?_
      refine r_iadd hX dL_write_50 ?_
      refine r_goto (tgt := 71) hX rfl dL_write_51 ?_
      rw [nI_1]
      refine r_iconst (v := 1) hX (by decide) dL_write_71 ?_
      refine r_iload hX 1 rfl dL_write_72 ?_
      refine r_iconst (v := 3) hX (by decide) dL_write_74 ?_
      refine r_ishr hX dL_write_75 ?_
      refine r_bipush (v := 60) hX (by decide) dL_write_76 ?_
      refine r_callSR (As := [.int (x >>> (3 &&& 31)), .int 60]) (rest := [.int 1, .int (nI (i + 1)), .int (nI i), .ref (z_b G)]) (rv := some (.int (nI (zn_below (x >>> (3 &&& 31)) 60)))) (st1 := [.int (nI (zn_below (x >>> (3 &&& 31)) 60)), .int 1, .int (nI (i + 1)), .int (nI i), .ref (z_b G)]) hX cs_L_15 (by decide) (fun l => c_L_below l G h top (x >>> (3 &&& 31)) (k := 60) (by decide) (by decide)) rfl rfl rfl (Nat.le_of_ble_eq_true rfl) dL_write_78 ?_
      refine r_iadd hX dL_write_81 ?_
      rw [show ((1 : Int32) + (nI (zn_below (x >>> (3 &&& 31)) 60))) = nI (1 + zn_below (x >>> (3 &&& 31)) 60) from nI_add 1 _]
      refine r_iload hX 1 rfl dL_write_82 ?_
      refine r_iconst (v := 4) hX (by decide) dL_write_84 ?_
      refine r_ishr hX dL_write_85 ?_
      refine r_iconst (v := 4) hX (by decide) dL_write_86 ?_
      refine r_callSR (As := [.int (x >>> (4 &&& 31)), .int 4]) (rest := [.int (nI (1 + zn_below (x >>> (3 &&& 31)) 60)), .int (nI (i + 1)), .int (nI i), .ref (z_b G)]) (rv := some (.int (nI (zn_below (x >>> (4 &&& 31)) 4)))) (st1 := [.int (nI (zn_below (x >>> (4 &&& 31)) 4)), .int (nI (1 + zn_below (x >>> (3 &&& 31)) 60)), .int (nI (i + 1)), .int (nI i), .ref (z_b G)]) hX cs_L_15 (by decide) (fun l => c_L_below l G h top (x >>> (4 &&& 31)) (k := 4) (by decide) (by decide)) rfl rfl rfl (Nat.le_of_ble_eq_true rfl) dL_write_87 ?_
      refine r_callV (As := [.int (nI i), .int (nI (i + 1)), .int (nI (1 + zn_below (x >>> (3 &&& 31)) 60)), .int (nI (zn_below (x >>> (4 &&& 31)) 4))]) (rest := []) hX cs_L_19 (by decide) (fun l => c_X8_segment l G h top s be H (i) (i + 1) (zn_below (x >>> (4 &&& 31)) 4) (nI (1 + zn_below (x >>> (3 &&& 31)) 60)) (by omega) (by omega) (zn_lt _ (by decide)) (by omega) (zf_in2 (lo := 1) (hi := 60) (by omega) (by have := zn_lt (x >>> (3 &&& 31)) (k := 60) (by decide); omega) (by decide)) (by omega)) hha rfl rfl rfl (Nat.le_of_ble_eq_true rfl) dL_write_90 (fun r1 h1 top1 hp1 => ?_)
      obtain ⟨rfl, a9, be2, H2⟩ := hp1
      refine r_pop hX rfl dL_write_93 ?_
      refine r_iinc (q := 2) (lv' := [(3, .int ((nI i) + 1)), (5, .int (nI i)), (4, .int x), (0, .ref (z_b G)), (1, .ref (z_bs G)), (2, .int (nI 4))]) hX rfl rfl (by decide) rfl dL_write_94 ?_
      refine r_goto (tgt := 2) hX rfl dL_write_97 ?_
      refine r_lv [0, 3, 4, 5] (lv2 := [(3, .int (nI i + 1)), (0, .ref (z_b G)), (1, .ref (z_bs G)), (2, .int (nI 4))]) rfl ?_
      rw [nI_1]
      exact ih (i + 1) h1 _ _ be2 (by omega) (by omega) ⟨H2, hj.seg a9 (by omega) (by omega) (zn_lt _ (by decide)) (by have := zn_lt (x >>> (3 &&& 31)) (k := 60) (by decide); omega)⟩

theorem f_wr1 {X : zX} {G : zG}  {Post : Option Value → zH → Nat → Prop} (hL : z_L G ≤ 260) (kk : ∀ (h : zH) (top : Nat) (s : zS) (be : zB), z_St G s be h top → zJ s 8 0 0 → z_Z X h top 100 [(0, .ref (z_b G)), (1, .ref (z_bs G)), (2, .int (nI 4))] []) (hX : z_ok X cL_write 6 RL none "write" 15 G) (hq : z_mq X Post) : ∀ (k i : Nat) (h : zH) (top : Nat) (s : zS) (be : zB), 8 - i < k → i ≤ 8 → (z_St G s be h top ∧ zJ s i 0 0) → z_Z X h top 2 [(3, .int (nI i)), (0, .ref (z_b G)), (1, .ref (z_bs G)), (2, .int (nI 4))] [] := by
  intro k
  induction k with
  | zero => intros; omega
  | succ k ih => intro i h top s be hk hi hinv; exact f_wr1_step hL kk k i s be hk hi hinv ih hX hq
set_option maxRecDepth 20000 in
set_option maxHeartbeats 4000000 in
theorem f_wr2_step {X : zX} {G : zG} {h : zH} {top : Nat} {Post : Option Value → zH → Nat → Prop} (hL : z_L G ≤ 260) (kk : ∀ (h : zH) (top : Nat) (s : zS) (be : zB), z_St G s be h top → zJ s 8 5 0 → z_Z X h top 174 [(0, .ref (z_b G)), (1, .ref (z_bs G)), (2, .int (nI 4))] []) (k i : Nat) (s : zS) (be : zB) (hk : 5 - i < k + 1) (hi : i ≤ 5) (hinv : z_St G s be h top ∧ zJ s 8 i 0) (ih : ∀ (i : Nat) (h : zH) (top : Nat) (s : zS) (be : zB), 5 - i < k → i ≤ 5 → (z_St G s be h top ∧ zJ s 8 i 0) → z_Z X h top 102 [(3, .int (nI i)), (0, .ref (z_b G)), (1, .ref (z_bs G)), (2, .int (nI 4))] []) (hX : z_ok X cL_write 6 RL none "write" 15 G) (hq : z_mq X (Post)) : z_Z X h top 102 [(3, .int (nI i)), (0, .ref (z_b G)), (1, .ref (z_bs G)), (2, .int (nI 4))] [] := by
  obtain ⟨H, hj⟩ := hinv
  have hha := H.hall
  obtain ⟨hcf, hK0, hl1, hl2, hl3, hcap, hnow, hsg0⟩ := id hj
  refine r_iload_n hX rfl 0 rfl dL_write_102 ?_
  refine r_iconst (v := 5) hX (by decide) dL_write_103 ?_
  refine r_icmp_ge (tgt := 174) hX dL_write_104 rfl (fun c104 => ?_) (fun c104 => ?_)
  · skip
    refine r_lv [1, 2, 3] (lv2 := [(0, .ref (z_b G)), (1, .ref (z_bs G)), (2, .int (nI 4))]) rfl ?_
    exact kk _ _ s be H (by rw [← ge_n (n := 5) (by decide) hi c104]; exact hj)
  · skip
    have hlt : i < 5 := lt_n (n := 5) (by omega) c104
    refine r_aload_n hX rfl 2 rfl dL_write_107 ?_
    refine r_iload_n hX rfl 0 rfl dL_write_108 ?_
    refine r_iload_n hX rfl 3 rfl dL_write_109 ?_
    refine r_iadd hX dL_write_110 ?_
    rw [show nI i + nI 4 = nI (i + 4) from nI_add i 4]
    refine r_iconst (v := 3) hX (by decide) dL_write_111 ?_
    refine r_iadd hX dL_write_112 ?_
    rw [show ((nI (i + 4)) + 3) = nI (i + 4 + 3) from nI_add (i + 4) 3]
    refine r_callSR (As := [.ref (z_bs G), .int (nI (i + 4 + 3))]) (rest := []) (rv := some (.int (zn_cell G (i + 4 + 3)))) (st1 := [.int (zn_cell G (i + 4 + 3))]) hX cs_L_9 (by decide) (fun l => c_L_cell l G h top hL (i + 4 + 3) (by omega)) rfl rfl rfl (Nat.le_of_ble_eq_true rfl) dL_write_113 ?_
    refine r_bipush (v := 7) hX (by decide) dL_write_116 ?_
    refine r_iload_n hX rfl 0 rfl dL_write_118 ?_
    refine r_imul hX dL_write_119 ?_
    refine r_iadd hX dL_write_120 ?_
    obtain ⟨x, hx⟩ : ∃ x : Int32, x = ((zn_cell G (i + 4 + 3)) + (7 * (nI i))) := ⟨_, rfl⟩
    rw [← hx]
    refine r_istore (lv' := [(4, .int x), (3, .int (nI i)), (0, .ref (z_b G)), (1, .ref (z_bs G)), (2, .int (nI 4))]) hX (by decide) rfl dL_write_121 ?_
    refine r_aload_n hX rfl 2 rfl dL_write_123 ?_
    refine r_iload_n hX rfl 1 rfl dL_write_124 ?_
    refine r_iconst (v := 4) hX (by decide) dL_write_125 ?_
    refine r_irem hX (by decide) dL_write_126 ?_
    rw [show ((nI i) - (nI i) / 4 * 4) = nI (i % 4) from nI_mod (k := 4) (by omega) (by decide) (by decide)]
    refine r_iconst (v := 1) hX (by decide) dL_write_127 ?_
    refine r_iload hX 0 rfl dL_write_128 ?_
    refine r_bipush (v := 30) hX (by decide) dL_write_130 ?_
    refine r_callSR (As := [.int x, .int 30]) (rest := [.int 1, .int (nI (i % 4)), .ref (z_b G)]) (rv := some (.int (nI (zn_below x 30)))) (st1 := [.int (nI (zn_below x 30)), .int 1, .int (nI (i % 4)), .ref (z_b G)]) hX cs_L_15 (by decide) (fun l => c_L_below l G h top x (k := 30) (by decide) (by decide)) rfl rfl rfl (Nat.le_of_ble_eq_true rfl) dL_write_132 ?_
    refine r_iadd hX dL_write_135 ?_
    rw [show ((1 : Int32) + (nI (zn_below x 30))) = nI (1 + zn_below x 30) from nI_add 1 _]
    refine r_iload hX 0 rfl dL_write_136 ?_
    refine r_iconst (v := 1) hX (by decide) dL_write_138 ?_
    refine r_ishr hX dL_write_139 ?_
    refine r_bipush (v := 10) hX (by decide) dL_write_140 ?_
    refine r_callSR (As := [.int (x >>> (1 &&& 31)), .int 10]) (rest := [.int (nI (1 + zn_below x 30)), .int (nI (i % 4)), .ref (z_b G)]) (rv := some (.int (nI (zn_below (x >>> (1 &&& 31)) 10)))) (st1 := [.int (nI (zn_below (x >>> (1 &&& 31)) 10)), .int (nI (1 + zn_below x 30)), .int (nI (i % 4)), .ref (z_b G)]) hX cs_L_15 (by decide) (fun l => c_L_below l G h top (x >>> (1 &&& 31)) (k := 10) (by decide) (by decide)) rfl rfl rfl (Nat.le_of_ble_eq_true rfl) dL_write_142 ?_
    refine r_iload hX 0 rfl dL_write_145 ?_
    refine r_iconst (v := 2) hX (by decide) dL_write_147 ?_
    refine r_ishr hX dL_write_148 ?_
    refine r_bipush (v := 101) hX (by decide) dL_write_149 ?_
    refine r_callSR (As := [.int (x >>> (2 &&& 31)), .int 101]) (rest := [.int (nI (zn_below (x >>> (1 &&& 31)) 10)), .int (nI (1 + zn_below x 30)), .int (nI (i % 4)), .ref (z_b G)]) (rv := some (.int (nI (zn_below (x >>> (2 &&& 31)) 101)))) (st1 := [.int (nI (zn_below (x >>> (2 &&& 31)) 101)), .int (nI (zn_below (x >>> (1 &&& 31)) 10)), .int (nI (1 + zn_below x 30)), .int (nI (i % 4)), .ref (z_b G)]) hX cs_L_15 (by decide) (fun l => c_L_below l G h top (x >>> (2 &&& 31)) (k := 101) (by decide) (by decide)) rfl rfl rfl (Nat.le_of_ble_eq_true rfl) dL_write_151 ?_
    refine r_iconst (v := 1) hX (by decide) dL_write_154 ?_
    refine r_iload hX 0 rfl dL_write_155 ?_
    refine r_iconst (v := 3) hX (by decide) dL_write_157 ?_
    refine r_ishr hX dL_write_158 ?_
    refine r_iconst (v := 2) hX (by decide) dL_write_159 ?_
    refine r_callSR (As := [.int (x >>> (3 &&& 31)), .int 2]) (rest := [.int 1, .int (nI (zn_below (x >>> (2 &&& 31)) 101)), .int (nI (zn_below (x >>> (1 &&& 31)) 10)), .int (nI (1 + zn_below x 30)), .int (nI (i % 4)), .ref (z_b G)]) (rv := some (.int (nI (zn_below (x >>> (3 &&& 31)) 2)))) (st1 := [.int (nI (zn_below (x >>> (3 &&& 31)) 2)), .int 1, .int (nI (zn_below (x >>> (2 &&& 31)) 101)), .int (nI (zn_below (x >>> (1 &&& 31)) 10)), .int (nI (1 + zn_below x 30)), .int (nI (i % 4)), .ref (z_b G)]) hX cs_L_15 (by decide) (fun l => c_L_below l G h top (x >>> (3 &&& 31)) (k := 2) (by decide) (by decide)) rfl rfl rfl (Nat.le_of_ble_eq_true rfl) dL_write_160 ?_
    refine r_iadd hX dL_write_163 ?_
    rw [show ((1 : Int32) + (nI (zn_below (x >>> (3 &&& 31)) 2))) = nI (1 + zn_below (x >>> (3 &&& 31)) 2) from nI_add 1 _]
    refine r_callV (As := [.int (nI (i % 4)), .int (nI (1 + zn_below x 30)), .int (nI (zn_below (x >>> (1 &&& 31)) 10)), .int (nI (zn_below (x >>> (2 &&& 31)) 101)), .int (nI (1 + zn_below (x >>> (3 &&& 31)) 2))]) (rest := []) hX cs_L_25 (by decide) (fun l => c_X8_tariff l G h top s be H (i % 4) (nI (1 + zn_below x 30)) (nI (zn_below (x >>> (1 &&& 31)) 10)) (nI (zn_below (x >>> (2 &&& 31)) 101)) (nI (1 + zn_below (x >>> (3 &&& 31)) 2)) (Nat.mod_lt _ (by decide)) (zf_in2 (a := 1 + zn_below x 30) (lo := 1) (hi := 30) (by omega) (by have := zn_lt (x) (k := 30) (by decide); omega) (by decide)) (zf_in2 (a := zn_below (x >>> (1 &&& 31)) 10) (lo := 0) (hi := 9) (Nat.zero_le _) (by have := zn_lt (x >>> (1 &&& 31)) (k := 10) (by decide); omega) (by decide)) (zf_in2 (a := zn_below (x >>> (2 &&& 31)) 101) (lo := 0) (hi := 100) (Nat.zero_le _) (by have := zn_lt (x >>> (2 &&& 31)) (k := 101) (by decide); omega) (by decide)) (by rw [hnow, nI_div (by decide)]; exact nI_lt (by omega) (by have := zn_lt (x >>> (3 &&& 31)) (k := 2) (by decide); omega)) (show _ ≤ nI 50 from nI_le (by have := zn_lt (x >>> (3 &&& 31)) (k := 2) (by decide); omega) (by decide)) (by omega)) hha rfl rfl rfl (Nat.le_of_ble_eq_true rfl) dL_write_164 (fun r1 h1 top1 hp1 => ?_)
    obtain ⟨⟨v9, rfl⟩, a9, be2, H2⟩ := hp1
    refine r_pop hX rfl dL_write_167 ?_
    refine r_iinc (q := 1) (lv' := [(3, .int ((nI i) + 1)), (4, .int x), (0, .ref (z_b G)), (1, .ref (z_bs G)), (2, .int (nI 4))]) hX rfl rfl (by decide) rfl dL_write_168 ?_
    refine r_goto (tgt := 102) hX rfl dL_write_171 ?_
    refine r_lv [0, 2, 3, 4] (lv2 := [(3, .int (nI i + 1)), (0, .ref (z_b G)), (1, .ref (z_bs G)), (2, .int (nI 4))]) rfl ?_
    rw [nI_1]
    exact ih (i + 1) h1 _ _ be2 (by omega) (by omega) ⟨H2, hj.tar a9 (a := 1 + zn_below x 30) (b := zn_below (x >>> (1 &&& 31)) 10) (c := zn_below (x >>> (2 &&& 31)) 101) _ (by have := zn_lt (x) (k := 30) (by decide); omega) (by have := zn_lt (x >>> (1 &&& 31)) (k := 10) (by decide); omega) (by have := zn_lt (x >>> (2 &&& 31)) (k := 101) (by decide); omega)⟩

theorem f_wr2 {X : zX} {G : zG}  {Post : Option Value → zH → Nat → Prop} (hL : z_L G ≤ 260) (kk : ∀ (h : zH) (top : Nat) (s : zS) (be : zB), z_St G s be h top → zJ s 8 5 0 → z_Z X h top 174 [(0, .ref (z_b G)), (1, .ref (z_bs G)), (2, .int (nI 4))] []) (hX : z_ok X cL_write 6 RL none "write" 15 G) (hq : z_mq X Post) : ∀ (k i : Nat) (h : zH) (top : Nat) (s : zS) (be : zB), 5 - i < k → i ≤ 5 → (z_St G s be h top ∧ zJ s 8 i 0) → z_Z X h top 102 [(3, .int (nI i)), (0, .ref (z_b G)), (1, .ref (z_bs G)), (2, .int (nI 4))] [] := by
  intro k
  induction k with
  | zero => intros; omega
  | succ k ih => intro i h top s be hk hi hinv; exact f_wr2_step hL kk k i s be hk hi hinv ih hX hq
set_option maxRecDepth 20000 in
set_option maxHeartbeats 4000000 in
theorem f_wr3_step {X : zX} {G : zG} {h : zH} {top : Nat} {Post : Option Value → zH → Nat → Prop} (hL : z_L G ≤ 260) (kk : ∀ (h : zH) (top : Nat) (s : zS) (be : zB), z_St G s be h top → zJ s 8 5 3 → z_Z X h top 252 [(0, .ref (z_b G)), (1, .ref (z_bs G)), (2, .int (nI 4))] []) (k i : Nat) (s : zS) (be : zB) (hk : 3 - i < k + 1) (hi : i ≤ 3) (hinv : z_St G s be h top ∧ zJ s 8 5 i) (ih : ∀ (i : Nat) (h : zH) (top : Nat) (s : zS) (be : zB), 3 - i < k → i ≤ 3 → (z_St G s be h top ∧ zJ s 8 5 i) → z_Z X h top 176 [(3, .int (nI i)), (0, .ref (z_b G)), (1, .ref (z_bs G)), (2, .int (nI 4))] []) (hX : z_ok X cL_write 6 RL none "write" 15 G) (hq : z_mq X (Post)) : z_Z X h top 176 [(3, .int (nI i)), (0, .ref (z_b G)), (1, .ref (z_bs G)), (2, .int (nI 4))] [] := by
  obtain ⟨H, hj⟩ := hinv
  have hha := H.hall
  obtain ⟨hcf, hK0, hl1, hl2, hl3, hcap, hnow, hsg0⟩ := id hj
  refine r_iload_n hX rfl 0 rfl dL_write_176 ?_
  refine r_iconst (v := 3) hX (by decide) dL_write_177 ?_
  refine r_icmp_ge (tgt := 252) hX dL_write_178 rfl (fun c178 => ?_) (fun c178 => ?_)
  · skip
    refine r_lv [1, 2, 3] (lv2 := [(0, .ref (z_b G)), (1, .ref (z_bs G)), (2, .int (nI 4))]) rfl ?_
    exact kk _ _ s be H (by rw [← ge_n (n := 3) (by decide) hi c178]; exact hj)
  · skip
    have hlt : i < 3 := lt_n (n := 3) (by omega) c178
    refine r_aload_n hX rfl 2 rfl dL_write_181 ?_
    refine r_iload_n hX rfl 0 rfl dL_write_182 ?_
    refine r_iload_n hX rfl 3 rfl dL_write_183 ?_
    refine r_iadd hX dL_write_184 ?_
    rw [show nI i + nI 4 = nI (i + 4) from nI_add i 4]
    refine r_bipush (v := 8) hX (by decide) dL_write_185 ?_
    refine r_iadd hX dL_write_187 ?_
    rw [show ((nI (i + 4)) + 8) = nI (i + 4 + 8) from nI_add (i + 4) 8]
    refine r_callSR (As := [.ref (z_bs G), .int (nI (i + 4 + 8))]) (rest := []) (rv := some (.int (zn_cell G (i + 4 + 8)))) (st1 := [.int (zn_cell G (i + 4 + 8))]) hX cs_L_9 (by decide) (fun l => c_L_cell l G h top hL (i + 4 + 8) (by omega)) rfl rfl rfl (Nat.le_of_ble_eq_true rfl) dL_write_188 ?_
    obtain ⟨x, hx⟩ : ∃ x : Int32, x = (zn_cell G (i + 4 + 8)) := ⟨_, rfl⟩
    rw [← hx]
    refine r_istore (lv' := [(4, .int x), (3, .int (nI i)), (0, .ref (z_b G)), (1, .ref (z_bs G)), (2, .int (nI 4))]) hX (by decide) rfl dL_write_191 ?_
    refine r_aload_n hX rfl 2 rfl dL_write_193 ?_
    refine r_iload hX 0 rfl dL_write_194 ?_
    refine r_iconst (v := 3) hX (by decide) dL_write_196 ?_
    refine r_callSR (As := [.int x, .int 3]) (rest := [.ref (z_b G)]) (rv := some (.int (nI (zn_below x 3)))) (st1 := [.int (nI (zn_below x 3)), .ref (z_b G)]) hX cs_L_15 (by decide) (fun l => c_L_below l G h top x (k := 3) (by decide) (by decide)) rfl rfl rfl (Nat.le_of_ble_eq_true rfl) dL_write_197 ?_
    refine r_iload hX 0 rfl dL_write_200 ?_
    refine r_iconst (v := 1) hX (by decide) dL_write_202 ?_
    refine r_ishr hX dL_write_203 ?_
    refine r_iconst (v := 4) hX (by decide) dL_write_204 ?_
    refine r_callSR (As := [.int (x >>> (1 &&& 31)), .int 4]) (rest := [.int (nI (zn_below x 3)), .ref (z_b G)]) (rv := some (.int (nI (zn_below (x >>> (1 &&& 31)) 4)))) (st1 := [.int (nI (zn_below (x >>> (1 &&& 31)) 4)), .int (nI (zn_below x 3)), .ref (z_b G)]) hX cs_L_15 (by decide) (fun l => c_L_below l G h top (x >>> (1 &&& 31)) (k := 4) (by decide) (by decide)) rfl rfl rfl (Nat.le_of_ble_eq_true rfl) dL_write_205 ?_
    refine r_iload hX 0 rfl dL_write_208 ?_
    refine r_iconst (v := 2) hX (by decide) dL_write_210 ?_
    refine r_ishr hX dL_write_211 ?_
    refine r_iconst (v := 3) hX (by decide) dL_write_212 ?_
    refine r_callSR (As := [.int (x >>> (2 &&& 31)), .int 3]) (rest := [.int (nI (zn_below (x >>> (1 &&& 31)) 4)), .int (nI (zn_below x 3)), .ref (z_b G)]) (rv := some (.int (nI (zn_below (x >>> (2 &&& 31)) 3)))) (st1 := [.int (nI (zn_below (x >>> (2 &&& 31)) 3)), .int (nI (zn_below (x >>> (1 &&& 31)) 4)), .int (nI (zn_below x 3)), .ref (z_b G)]) hX cs_L_15 (by decide) (fun l => c_L_below l G h top (x >>> (2 &&& 31)) (k := 3) (by decide) (by decide)) rfl rfl rfl (Nat.le_of_ble_eq_true rfl) dL_write_213 ?_
    refine r_callV (As := [.int (nI (zn_below x 3)), .int (nI (zn_below (x >>> (1 &&& 31)) 4)), .int (nI (zn_below (x >>> (2 &&& 31)) 3))]) (rest := []) hX cs_L_29 (by decide) (fun l => c_X8_vehicle l G h top s be H (nI (zn_below x 3)) (nI (zn_below (x >>> (1 &&& 31)) 4)) (nI (zn_below (x >>> (2 &&& 31)) 3)) (zf_in2 (lo := 0) (hi := 2) (Nat.zero_le _) (by have := zn_lt (x) (k := 3) (by decide); omega) (by decide)) (zf_in2 (lo := 0) (hi := 3) (Nat.zero_le _) (by have := zn_lt (x >>> (1 &&& 31)) (k := 4) (by decide); omega) (by decide)) (zf_in2 (lo := 0) (hi := 2) (Nat.zero_le _) (by have := zn_lt (x >>> (2 &&& 31)) (k := 3) (by decide); omega) (by decide)) (by omega)) hha rfl rfl rfl (Nat.le_of_ble_eq_true rfl) dL_write_216 (fun r1 h1 top1 hp1 => ?_)
    obtain ⟨rfl, a9, be2, H2⟩ := hp1
    have hha2 := H2.hall
    have hj2 := hj.veh a9 (a := zn_below x 3) (b := zn_below (x >>> (1 &&& 31)) 4) (nI (zn_below (x >>> (2 &&& 31)) 3)) (by have := zn_lt (x) (k := 3) (by decide); omega) (by have := zn_lt (x >>> (1 &&& 31)) (k := 4) (by decide); omega)
    refine r_pop hX rfl dL_write_219 ?_
    refine r_iload hX 0 rfl dL_write_220 ?_
    refine r_iconst (v := 3) hX (by decide) dL_write_222 ?_
    refine r_ishr hX dL_write_223 ?_
    refine r_iconst (v := 3) hX (by decide) dL_write_224 ?_
    refine r_callSR (As := [.int (x >>> (3 &&& 31)), .int 3]) (rest := []) (rv := some (.int (nI (zn_below (x >>> (3 &&& 31)) 3)))) (st1 := [.int (nI (zn_below (x >>> (3 &&& 31)) 3))]) hX cs_L_15 (by decide) (fun l => c_L_below l G h1 top1 (x >>> (3 &&& 31)) (k := 3) (by decide) (by decide)) rfl rfl rfl (Nat.le_of_ble_eq_true rfl) dL_write_225 ?_
    refine r_if_ne (tgt := 246) hX dL_write_228 rfl (fun c228 => ?_) (fun c228 => ?_)
    · skip
      refine r_iinc (q := 1) (lv' := [(3, .int ((nI i) + 1)), (4, .int x), (0, .ref (z_b G)), (1, .ref (z_bs G)), (2, .int (nI 4))]) hX rfl rfl (by decide) rfl dL_write_246 ?_
      refine r_goto (tgt := 176) hX rfl dL_write_249 ?_
      refine r_lv [0, 2, 3, 4] (lv2 := [(3, .int (nI i + 1)), (0, .ref (z_b G)), (1, .ref (z_bs G)), (2, .int (nI 4))]) rfl ?_
      rw [nI_1]
      exact ih (i + 1) h1 _ _ be2 (by omega) (by omega) ⟨H2, hj2⟩
    · skip
      refine r_aload_n hX rfl 2 rfl dL_write_231 ?_
      refine r_iload_n hX rfl 1 rfl dL_write_232 ?_
      refine r_iload hX 0 rfl dL_write_233 ?_
      refine r_iconst (v := 4) hX (by decide) dL_write_235 ?_
      refine r_ishr hX dL_write_236 ?_
      refine r_iconst (v := 4) hX (by decide) dL_write_237 ?_
      refine r_callSR (As := [.int (x >>> (4 &&& 31)), .int 4]) (rest := [.int (nI i), .ref (z_b G)]) (rv := some (.int (nI (zn_below (x >>> (4 &&& 31)) 4)))) (st1 := [.int (nI (zn_below (x >>> (4 &&& 31)) 4)), .int (nI i), .ref (z_b G)]) hX cs_L_15 (by decide) (fun l => c_L_below l G h1 top1 (x >>> (4 &&& 31)) (k := 4) (by decide) (by decide)) rfl rfl rfl (Nat.le_of_ble_eq_true rfl) dL_write_238 ?_
      refine r_iconst (v := 1) hX (by decide) dL_write_241 ?_
      have hv9 : (s_vehs (zs_vehs s (s_vehs s ++ [(a9, (nI (zn_below x 3), nI (zn_below (x >>> (1 &&& 31)) 4), nI (zn_below (x >>> (2 &&& 31)) 3)), (0, 0, 0, 0))])))[i]? = some (a9, (nI (zn_below x 3), nI (zn_below (x >>> (1 &&& 31)) 4), nI (zn_below (x >>> (2 &&& 31)) 3)), (0, 0, 0, 0)) := by
        show (s_vehs s ++ [_])[i]? = _
        rw [← hl3, List.getElem?_append_right (Nat.le_refl _), Nat.sub_self]
        rfl
      refine r_callV (As := [.int (nI i), .int (nI (zn_below (x >>> (4 &&& 31)) 4)), .int 1]) (rest := []) hX cs_L_33 (by decide) (fun l => c_X8_exempt l G h1 top1 _ be2 H2 i (a9, (nI (zn_below x 3), nI (zn_below (x >>> (1 &&& 31)) 4), nI (zn_below (x >>> (2 &&& 31)) 3)), (0, 0, 0, 0)) hv9 (zn_below (x >>> (4 &&& 31)) 4) (zn_lt _ (by decide))) hha2 rfl rfl rfl (Nat.le_of_ble_eq_true rfl) dL_write_242 (fun r2 h2 top2 hp2 => ?_)
      obtain ⟨rfl, be3, H3⟩ := hp2
      obtain ⟨q1, q2, q3⟩ := zp_exempt hv9 (nI (zn_below (x >>> (4 &&& 31)) 4))
      have hj3 := hj2.of q2 q1 q3
      refine r_pop hX rfl dL_write_245 ?_
      refine r_iinc (q := 1) (lv' := [(3, .int ((nI i) + 1)), (4, .int x), (0, .ref (z_b G)), (1, .ref (z_bs G)), (2, .int (nI 4))]) hX rfl rfl (by decide) rfl dL_write_246 ?_
      refine r_goto (tgt := 176) hX rfl dL_write_249 ?_
      refine r_lv [0, 2, 3, 4] (lv2 := [(3, .int (nI i + 1)), (0, .ref (z_b G)), (1, .ref (z_bs G)), (2, .int (nI 4))]) rfl ?_
      rw [nI_1]
      exact ih (i + 1) h2 _ _ be3 (by omega) (by omega) ⟨H3, hj3⟩

theorem f_wr3 {X : zX} {G : zG}  {Post : Option Value → zH → Nat → Prop} (hL : z_L G ≤ 260) (kk : ∀ (h : zH) (top : Nat) (s : zS) (be : zB), z_St G s be h top → zJ s 8 5 3 → z_Z X h top 252 [(0, .ref (z_b G)), (1, .ref (z_bs G)), (2, .int (nI 4))] []) (hX : z_ok X cL_write 6 RL none "write" 15 G) (hq : z_mq X Post) : ∀ (k i : Nat) (h : zH) (top : Nat) (s : zS) (be : zB), 3 - i < k → i ≤ 3 → (z_St G s be h top ∧ zJ s 8 5 i) → z_Z X h top 176 [(3, .int (nI i)), (0, .ref (z_b G)), (1, .ref (z_bs G)), (2, .int (nI 4))] [] := by
  intro k
  induction k with
  | zero => intros; omega
  | succ k ih => intro i h top s be hk hi hinv; exact f_wr3_step hL kk k i s be hk hi hinv ih hX hq
set_option maxRecDepth 20000 in
set_option maxHeartbeats 4000000 in
theorem c_L_write (l : Launch) (G : zG) (h : zH) (top : Nat) (be : zB) (hL : z_L G ≤ 260) (H : z_St G z_s0 be h top) : z_Ct l yL_write cL_write 6 none 15 G [.ref (z_b G), .ref (z_bs G), .int (nI 4)] h top (fun r h' top' => r = none ∧ ∃ (s2 : zS) (be2 : zB), z_St G s2 be2 h' top' ∧ zI s2 0 1440) := by
  refine z_of (own := RL) (nm := "write") (by decide) rfl rfl (by decide) (Nat.le_of_ble_eq_true rfl) (fun X hX hq => ?_)
  replace hX : z_ok X cL_write 6 RL none "write" 15 G := hX
  show z_Z X h top 0 [(0, .ref (z_b G)), (1, .ref (z_bs G)), (2, .int (nI 4))] []
  refine r_iconst (v := 0) hX (by decide) dL_write_0 ?_
  refine r_istore_n (lv' := [(3, .int 0), (0, .ref (z_b G)), (1, .ref (z_bs G)), (2, .int (nI 4))]) hX rfl (by decide) rfl dL_write_1 ?_
  refine r_lv [0, 1, 2, 3] (lv2 := [(3, .int 0), (0, .ref (z_b G)), (1, .ref (z_bs G)), (2, .int (nI 4))]) rfl ?_
  refine f_wr1 hL (fun h1 t1 s1 be1 H1 j1 => ?_) hX hq (8 + 1) 0 h top z_s0 be (by omega) (by omega) ⟨H, zJ_0⟩
  refine r_iconst (v := 0) hX (by decide) dL_write_100 ?_
  refine r_istore_n (lv' := [(3, .int 0), (0, .ref (z_b G)), (1, .ref (z_bs G)), (2, .int (nI 4))]) hX rfl (by decide) rfl dL_write_101 ?_
  refine r_lv [0, 1, 2, 3] (lv2 := [(3, .int 0), (0, .ref (z_b G)), (1, .ref (z_bs G)), (2, .int (nI 4))]) rfl ?_
  refine f_wr2 hL (fun h2 t2 s2 be2 H2 j2 => ?_) hX hq (5 + 1) 0 h1 t1 s1 be1 (by omega) (by omega) ⟨H1, j1⟩
  refine r_iconst (v := 0) hX (by decide) dL_write_174 ?_
  refine r_istore_n (lv' := [(3, .int 0), (0, .ref (z_b G)), (1, .ref (z_bs G)), (2, .int (nI 4))]) hX rfl (by decide) rfl dL_write_175 ?_
  refine r_lv [0, 1, 2, 3] (lv2 := [(3, .int 0), (0, .ref (z_b G)), (1, .ref (z_bs G)), (2, .int (nI 4))]) rfl ?_
  refine f_wr3 hL (fun h3 t3 s3 be3 H3 j3 => ?_) hX hq (3 + 1) 0 h2 t2 s2 be2 (by omega) (by omega) ⟨H2, j2⟩
  have hha3 := H3.hall
  obtain ⟨k1, k2, k3, k4, k5, k6, k7, k8⟩ := j3
  refine r_aload_n hX rfl 0 rfl dL_write_252 ?_
  refine r_sipush (v := 1440) hX (by decide) dL_write_253 ?_
  refine r_callV (As := [.int 1440]) (rest := []) hX cs_L_37 (by decide) (fun l => c_X8_pass l G h3 t3 s3 be3 H3 0 1440 k7 (zf_in2 (lo := 1) (hi := 3000) (by decide) (by decide) (by decide)) (by decide)) hha3 rfl rfl rfl (Nat.le_of_ble_eq_true rfl) dL_write_256 (fun r4 h4 top4 hp4 => ?_)
  obtain ⟨rfl, be4, H4⟩ := hp4
  obtain ⟨q1, q2, q3⟩ := zp_pass k1 0 1440
  refine r_pop hX rfl dL_write_259 ?_
  exact r_vret hX hq ⟨rfl, _, be4, H4, (show zI s3 0 0 from ⟨k1, k2, k3, k5, k6, k7, by rw [k8]; exact Nat.zero_le _⟩).of q2 (q1.trans k2) q3⟩ dL_write_260

