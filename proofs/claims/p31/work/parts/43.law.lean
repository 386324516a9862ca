/-! the law -/
/-- the law's end, with 1 -/
def zRet (X : zX) : Prop := ∀ (h : zH) (top pc : Nat) (lv : List (Nat × Value)), decode cL_law pc = .ok (.ireturn, 1) → z_Z X h top pc lv [.int 1]
theorem zl_cmp (d : Int64) : lg_cmp d d = 0 := by
  unfold lg_cmp
  simp
set_option maxRecDepth 20000 in
set_option maxHeartbeats 4000000 in
theorem f_law_step {X : zX} {G : zG} {h : zH} {top : Nat} {nm : String} (hL : z_L G ≤ 260) (k i : Nat) (s : zS) (be : zB) (K : Int32) (n : Nat) (hk : 14 - i < k + 1) (hi : i ≤ 14) (hinv : z_St G s be h top ∧ zI s K n ∧ 1440 ≤ n ∧ n ≤ 1440 + 900 * i) (ih : ∀ (i : Nat) (h : zH) (top : Nat) (s : zS) (be : zB) (K : Int32) (n : Nat), 14 - i < k → i ≤ 14 → (z_St G s be h top ∧ zI s K n ∧ 1440 ≤ n ∧ n ≤ 1440 + 900 * i) → z_Z X h top 18 [(3, .int (nI i)), (2, .int K), (0, .ref (z_bs G)), (1, .ref (z_b G))] []) (hX : z_ok X cL_law 7 RL (some .boolean) nm 16 G) (hq : zRet X) : z_Z X h top 18 [(3, .int (nI i)), (2, .int K), (0, .ref (z_bs G)), (1, .ref (z_b G))] [] := by
  obtain ⟨H, hI, hn1, hn2⟩ := hinv
  have hha := H.hall
  obtain ⟨hcf, hK0, hl1, hl3, hcap, hnow, hsg⟩ := id hI
  have hn6 : n ≤ 60000 := by omega
  refine r_iload_n hX rfl 0 rfl dL_law_18 ?_
  refine r_bipush (v := 14) hX (by decide) dL_law_19 ?_
  refine r_icmp_ge (tgt := 256) hX dL_law_21 rfl (fun c21 => ?_) (fun c21 => ?_)
  · skip
    obtain ⟨v0, hv0⟩ : ∃ v, (s_vehs s)[0]? = some v := ⟨_, List.getElem?_eq_getElem (by omega)⟩
    obtain ⟨v1, hv1⟩ : ∃ v, (s_vehs s)[1]? = some v := ⟨_, List.getElem?_eq_getElem (by omega)⟩
    obtain ⟨x2, hx2⟩ : ∃ v, (s_segs s)[2]? = some v := ⟨_, List.getElem?_eq_getElem (by omega)⟩
    refine r_aload_n hX rfl 3 rfl dL_law_256 ?_
    refine r_callV (As := []) (rest := []) hX cs_L_74 (by decide) (fun l => c_X8_digest l G h top s be H hcf.kn n hnow hn6) hha rfl rfl rfl (Nat.le_of_ble_eq_true rfl) dL_law_257 (fun r1 h1 top1 hp1 => ?_)
    obtain ⟨rfl, be1, H1⟩ := hp1
    have hha1 := H1.hall
    refine r_lstore_n (lv' := [(3, .long (zm_dig s)), (2, .int K), (0, .ref (z_bs G)), (1, .ref (z_b G))]) hX rfl (by decide) rfl dL_law_260 ?_
    refine r_aload_n hX rfl 3 rfl dL_law_261 ?_
    refine r_iconst (v := 0) hX (by decide) dL_law_262 ?_
    refine r_iconst (v := 0) hX (by decide) dL_law_263 ?_
    refine r_iconst (v := 4) hX (by decide) dL_law_264 ?_
    refine r_callV (As := [.int 0, .int 0, .int 4]) (rest := []) hX cs_L_78 (by decide) (fun l => c_X8_cheapest l G h1 top1 s be1 H1 0 v0 hv0 hcf.kn 0 4 (by decide) (by decide)) hha1 rfl rfl rfl (Nat.le_of_ble_eq_true rfl) dL_law_265 (fun r2 h2 top2 hp2 => ?_)
    obtain ⟨rfl, be2, H2⟩ := hp2
    have hha2 := H2.hall
    refine r_iconst (v := (-1)) hX (by decide) dL_law_268 ?_
    refine r_icmp_lt (tgt := 299) hX dL_law_269 rfl (fun c => False.elim (zp_cheap hcf (List.mem_of_getElem? hv0) (by omega) (by decide) c)) (fun _ => ?_)
    refine r_aload_n hX rfl 3 rfl dL_law_272 ?_
    refine r_iconst (v := 1) hX (by decide) dL_law_273 ?_
    refine r_iconst (v := 2) hX (by decide) dL_law_274 ?_
    skip
    refine r_callV (As := [.int 1, .int 2]) (rest := []) hX cs_L_81 (by decide) (fun l => c_X8_bestMinute l G h2 top2 s be2 H2 1 v1 hv1 2 x2 hx2 n hnow hn6) hha2 rfl rfl rfl (Nat.le_of_ble_eq_true rfl) dL_law_275 (fun r4 h4 top4 hp4 => ?_)
    obtain ⟨m9, rfl, hm9, rfl, rfl⟩ := hp4
    refine r_aload_n hX rfl 3 rfl dL_law_278 ?_
    refine r_iconst (v := 0) hX (by decide) dL_law_279 ?_
    refine r_callVR (As := [.int 0]) (rest := [.int m9]) (rv := some (.int (s_now s))) (st1 := [.int (s_now s), .int m9]) hX cs_L_41 (by decide) (fun l => c_many_0 l G h4 top4 s be2 H2) hha2 rfl rfl rfl rfl (Nat.le_of_ble_eq_true rfl) dL_law_280 ?_
    refine r_icmp_lt (tgt := 299) hX dL_law_283 rfl (fun c => False.elim (absurd c (Int32.not_lt.mpr hm9))) (fun _ => ?_)
    refine r_aload_n hX rfl 3 rfl dL_law_286 ?_
    refine r_callV (As := []) (rest := []) hX cs_L_74 (by decide) (fun l => c_X8_digest l G h4 top4 s be2 H2 hcf.kn n hnow hn6) hha2 rfl rfl rfl (Nat.le_of_ble_eq_true rfl) dL_law_287 (fun r3 h3 top3 hp3 => ?_)
    obtain ⟨rfl, be3, H3⟩ := hp3
    have hha3 := H3.hall
    refine r_lload_n hX rfl 0 rfl dL_law_290 ?_
    refine r_lcmp hX dL_law_291 ?_
    refine r_if_ne (tgt := 299) hX dL_law_292 rfl (fun c => False.elim (c (zl_cmp _))) (fun _ => ?_)
    refine r_iconst (v := 1) hX (by decide) dL_law_295 ?_
    refine r_goto (tgt := 300) hX rfl dL_law_296 ?_
    exact hq _ _ 300 _ dL_law_300
  · skip
    have hlt : i < 14 := lt_n (n := 14) (by omega) c21
    refine r_aload_n hX rfl 2 rfl dL_law_24 ?_
    refine r_iload_n hX rfl 0 rfl dL_law_25 ?_
    refine r_callSR (As := [.ref (z_bs G), .int (nI i)]) (rest := []) (rv := some (.int (zn_cell G (i)))) (st1 := [.int (zn_cell G (i))]) hX cs_L_9 (by decide) (fun l => c_L_cell l G h top hL (i) (by omega)) rfl rfl rfl (Nat.le_of_ble_eq_true rfl) dL_law_26 ?_
    refine r_bipush (v := 17) hX (by decide) dL_law_29 ?_
    refine r_iload_n hX rfl 0 rfl dL_law_31 ?_
    refine r_imul hX dL_law_32 ?_
    refine r_iadd hX dL_law_33 ?_
    obtain ⟨x, hx⟩ : ∃ x : Int32, x = ((zn_cell G (i)) + (17 * (nI i))) := ⟨_, rfl⟩
    rw [← hx]
    refine r_istore (lv' := [(4, .int x), (3, .int (nI i)), (2, .int K), (0, .ref (z_bs G)), (1, .ref (z_b G))]) hX (by decide) rfl dL_law_34 ?_
    refine r_iload hX 0 rfl dL_law_36 ?_
    refine r_iconst (v := 1) hX (by decide) dL_law_38 ?_
    refine r_ishr hX dL_law_39 ?_
    refine r_iconst (v := 3) hX (by decide) dL_law_40 ?_
    refine r_callSR (As := [.int (x >>> (1 &&& 31)), .int 3]) (rest := []) (rv := some (.int (nI (zn_below (x >>> (1 &&& 31)) 3)))) (st1 := [.int (nI (zn_below (x >>> (1 &&& 31)) 3))]) hX cs_L_15 (by decide) (fun l => c_L_below l G h top (x >>> (1 &&& 31)) (k := 3) (by decide) (by decide)) rfl rfl rfl (Nat.le_of_ble_eq_true rfl) dL_law_41 ?_
    obtain ⟨vi, hvi3, evi⟩ : ∃ vi : Nat, vi < 3 ∧ zn_below (x >>> (1 &&& 31)) 3 = vi := ⟨_, zn_lt _ (by decide), rfl⟩
    rw [evi]
    obtain ⟨v, hv⟩ : ∃ v, (s_vehs s)[vi]? = some v := ⟨_, List.getElem?_eq_getElem (by omega)⟩
    refine r_istore (lv' := [(5, .int (nI vi)), (4, .int x), (3, .int (nI i)), (2, .int K), (0, .ref (z_bs G)), (1, .ref (z_b G))]) hX (by decide) rfl dL_law_44 ?_
    refine r_aload_n hX rfl 5 rfl dL_law_46 ?_
    refine r_iconst (v := 0) hX (by decide) dL_law_47 ?_
    refine r_callVR (As := [.int 0]) (rest := []) (rv := some (.int (s_now s))) (st1 := [.int (s_now s)]) hX cs_L_41 (by decide) (fun l => c_many_0 l G h top s be H) hha rfl rfl rfl rfl (Nat.le_of_ble_eq_true rfl) dL_law_48 ?_
    rw [hnow]
    refine r_sipush (v := 1440) hX (by decide) dL_law_51 ?_
    refine r_idiv hX (by decide) dL_law_54 ?_
    rw [nI_div (show n < 2 ^ 31 by omega)]
    refine r_istore (lv' := [(6, .int (nI (n / 1440))), (5, .int (nI vi)), (4, .int x), (3, .int (nI i)), (2, .int K), (0, .ref (z_bs G)), (1, .ref (z_b G))]) hX (by decide) rfl dL_law_55 ?_
    refine r_iload hX 2 rfl dL_law_57 ?_
    refine r_bipush (v := 6) hX (by decide) dL_law_59 ?_
    refine r_callSR (As := [.int x, .int 6]) (rest := []) (rv := some (.int (nI (zn_below x 6)))) (st1 := [.int (nI (zn_below x 6))]) hX cs_L_15 (by decide) (fun l => c_L_below l G h top x (k := 6) (by decide) (by decide)) rfl rfl rfl (Nat.le_of_ble_eq_true rfl) dL_law_61 ?_
    obtain ⟨j, hj6, ej⟩ : ∃ j : Nat, j < 6 ∧ zn_below x 6 = j := ⟨_, zn_lt _ (by decide), rfl⟩
    rw [ej]
    rcases (show j = 0 ∨ j = 1 ∨ j = 2 ∨ j = 3 ∨ j = 4 ∨ j = 5 by omega) with rfl | rfl | rfl | rfl | rfl | rfl
    · skip
      refine r_tableIn (off := 36) (tgt := 100) hX (by decide) (by decide) (by decide) rfl dL_law_64 ?_
      refine r_aload_n hX rfl 6 rfl dL_law_100 ?_
      refine r_iconst (v := 1) hX (by decide) dL_law_101 ?_
      refine r_iload hX 2 rfl dL_law_102 ?_
      refine r_iconst (v := 2) hX (by decide) dL_law_104 ?_
      refine r_ishr hX dL_law_105 ?_
      refine r_sipush (v := 900) hX (by decide) dL_law_106 ?_
      refine r_callSR (As := [.int (x >>> (2 &&& 31)), .int 900]) (rest := [.int 1, .ref (z_b G)]) (rv := some (.int (nI (zn_below (x >>> (2 &&& 31)) 900)))) (st1 := [.int (nI (zn_below (x >>> (2 &&& 31)) 900)), .int 1, .ref (z_b G)]) hX cs_L_15 (by decide) (fun l => c_L_below l G h top (x >>> (2 &&& 31)) (k := 900) (by decide) (by decide)) rfl rfl rfl (Nat.le_of_ble_eq_true rfl) dL_law_109 ?_
      refine r_iadd hX dL_law_112 ?_
      rw [show ((1 : Int32) + (nI (zn_below (x >>> (2 &&& 31)) 900))) = nI (1 + zn_below (x >>> (2 &&& 31)) 900) from nI_add 1 _]
      have hb9 := zn_lt (x >>> (2 &&& 31)) (k := 900) (by decide)
      refine r_callV (As := [.int (nI (1 + zn_below (x >>> (2 &&& 31)) 900))]) (rest := []) hX cs_L_37 (by decide) (fun l => c_X8_pass l G h top s be H n (1 + zn_below (x >>> (2 &&& 31)) 900) hnow (zf_in2 (a := 1 + zn_below (x >>> (2 &&& 31)) 900) (lo := 1) (hi := 3000) (by omega) (by omega) (by decide)) (by omega)) hha rfl rfl rfl (Nat.le_of_ble_eq_true rfl) dL_law_113 (fun r1 h1 top1 hp1 => ?_)
      obtain ⟨rfl, be1, H1⟩ := hp1
      obtain ⟨q1, q2, q3⟩ := zp_pass hcf n (1 + zn_below (x >>> (2 &&& 31)) 900)
      have I1 : zI ((zm_pass s n (1 + zn_below (x >>> (2 &&& 31)) 900)).2) K (n + (1 + zn_below (x >>> (2 &&& 31)) 900)) := hI.of q2 (q1.trans hK0) q3
      have hha1 := H1.hall
      refine r_pop hX rfl dL_law_116 ?_
      refine r_goto (tgt := 240) hX rfl dL_law_117 ?_
      refine r_aload_n hX rfl 6 rfl dL_law_240 ?_
      refine r_iload_n hX rfl 4 rfl dL_law_241 ?_
      refine r_callS (As := [.ref (z_b G), .int K]) (rest := []) hX cs_L_70 (by decide) (fun l => c_L_isSound l G h1 top1 ((zm_pass s n (1 + zn_below (x >>> (2 &&& 31)) 900)).2) be1 H1 K (n + (1 + zn_below (x >>> (2 &&& 31)) 900)) (by omega) I1) rfl rfl (Nat.le_of_ble_eq_true rfl) dL_law_242 (fun r9 h9 top9 hp9 => ?_)
      obtain ⟨rfl, be9, H9⟩ := hp9
      refine r_if_ne (tgt := 250) hX dL_law_245 rfl (fun _ => ?_) (fun c => False.elim (absurd c (by decide)))
      refine r_iinc (q := 3) (lv' := [(3, .int ((nI i) + 1)), (6, .int (nI (n / 1440))), (5, .int (nI vi)), (4, .int x), (2, .int K), (0, .ref (z_bs G)), (1, .ref (z_b G))]) hX rfl rfl (by decide) rfl dL_law_250 ?_
      refine r_goto (tgt := 18) hX rfl dL_law_253 ?_
      refine r_lv [0, 4, 5, 6] (lv2 := [(3, .int (nI i + 1)), (2, .int K), (0, .ref (z_bs G)), (1, .ref (z_b G))]) rfl ?_
      rw [nI_1]
      exact ih (i + 1) h9 _ _ be9 _ (n + (1 + zn_below (x >>> (2 &&& 31)) 900)) (by omega) (by omega) ⟨H9, I1, by omega, by omega⟩
    · skip
      refine r_tableIn (off := 36) (tgt := 100) hX (by decide) (by decide) (by decide) rfl dL_law_64 ?_
      refine r_aload_n hX rfl 6 rfl dL_law_100 ?_
      refine r_iconst (v := 1) hX (by decide) dL_law_101 ?_
      refine r_iload hX 2 rfl dL_law_102 ?_
      refine r_iconst (v := 2) hX (by decide) dL_law_104 ?_
      refine r_ishr hX dL_law_105 ?_
      refine r_sipush (v := 900) hX (by decide) dL_law_106 ?_
      refine r_callSR (As := [.int (x >>> (2 &&& 31)), .int 900]) (rest := [.int 1, .ref (z_b G)]) (rv := some (.int (nI (zn_below (x >>> (2 &&& 31)) 900)))) (st1 := [.int (nI (zn_below (x >>> (2 &&& 31)) 900)), .int 1, .ref (z_b G)]) hX cs_L_15 (by decide) (fun l => c_L_below l G h top (x >>> (2 &&& 31)) (k := 900) (by decide) (by decide)) rfl rfl rfl (Nat.le_of_ble_eq_true rfl) dL_law_109 ?_
      refine r_iadd hX dL_law_112 ?_
      rw [show ((1 : Int32) + (nI (zn_below (x >>> (2 &&& 31)) 900))) = nI (1 + zn_below (x >>> (2 &&& 31)) 900) from nI_add 1 _]
      have hb9 := zn_lt (x >>> (2 &&& 31)) (k := 900) (by decide)
      refine r_callV (As := [.int (nI (1 + zn_below (x >>> (2 &&& 31)) 900))]) (rest := []) hX cs_L_37 (by decide) (fun l => c_X8_pass l G h top s be H n (1 + zn_below (x >>> (2 &&& 31)) 900) hnow (zf_in2 (a := 1 + zn_below (x >>> (2 &&& 31)) 900) (lo := 1) (hi := 3000) (by omega) (by omega) (by decide)) (by omega)) hha rfl rfl rfl (Nat.le_of_ble_eq_true rfl) dL_law_113 (fun r1 h1 top1 hp1 => ?_)
      obtain ⟨rfl, be1, H1⟩ := hp1
      obtain ⟨q1, q2, q3⟩ := zp_pass hcf n (1 + zn_below (x >>> (2 &&& 31)) 900)
      have I1 : zI ((zm_pass s n (1 + zn_below (x >>> (2 &&& 31)) 900)).2) K (n + (1 + zn_below (x >>> (2 &&& 31)) 900)) := hI.of q2 (q1.trans hK0) q3
      have hha1 := H1.hall
      refine r_pop hX rfl dL_law_116 ?_
      refine r_goto (tgt := 240) hX rfl dL_law_117 ?_
      refine r_aload_n hX rfl 6 rfl dL_law_240 ?_
      refine r_iload_n hX rfl 4 rfl dL_law_241 ?_
      refine r_callS (As := [.ref (z_b G), .int K]) (rest := []) hX cs_L_70 (by decide) (fun l => c_L_isSound l G h1 top1 ((zm_pass s n (1 + zn_below (x >>> (2 &&& 31)) 900)).2) be1 H1 K (n + (1 + zn_below (x >>> (2 &&& 31)) 900)) (by omega) I1) rfl rfl (Nat.le_of_ble_eq_true rfl) dL_law_242 (fun r9 h9 top9 hp9 => ?_)
      obtain ⟨rfl, be9, H9⟩ := hp9
      refine r_if_ne (tgt := 250) hX dL_law_245 rfl (fun _ => ?_) (fun c => False.elim (absurd c (by decide)))
      refine r_iinc (q := 3) (lv' := [(3, .int ((nI i) + 1)), (6, .int (nI (n / 1440))), (5, .int (nI vi)), (4, .int x), (2, .int K), (0, .ref (z_bs G)), (1, .ref (z_b G))]) hX rfl rfl (by decide) rfl dL_law_250 ?_
      refine r_goto (tgt := 18) hX rfl dL_law_253 ?_
      refine r_lv [0, 4, 5, 6] (lv2 := [(3, .int (nI i + 1)), (2, .int K), (0, .ref (z_bs G)), (1, .ref (z_b G))]) rfl ?_
      rw [nI_1]
      exact ih (i + 1) h9 _ _ be9 _ (n + (1 + zn_below (x >>> (2 &&& 31)) 900)) (by omega) (by omega) ⟨H9, I1, by omega, by omega⟩
    · skip
      refine r_tableIn (off := 56) (tgt := 120) hX (by decide) (by decide) (by decide) rfl dL_law_64 ?_
      refine r_aload_n hX rfl 6 rfl dL_law_120 ?_
      refine r_iload hX 1 rfl dL_law_121 ?_
      refine r_iconst (v := 1) hX (by decide) dL_law_123 ?_
      refine r_iload hX 2 rfl dL_law_124 ?_
      refine r_iconst (v := 2) hX (by decide) dL_law_126 ?_
      refine r_ishr hX dL_law_127 ?_
      refine r_sipush (v := 300) hX (by decide) dL_law_128 ?_
      refine r_callSR (As := [.int (x >>> (2 &&& 31)), .int 300]) (rest := [.int 1, .int (nI vi), .ref (z_b G)]) (rv := some (.int (nI (zn_below (x >>> (2 &&& 31)) 300)))) (st1 := [.int (nI (zn_below (x >>> (2 &&& 31)) 300)), .int 1, .int (nI vi), .ref (z_b G)]) hX cs_L_15 (by decide) (fun l => c_L_below l G h top (x >>> (2 &&& 31)) (k := 300) (by decide) (by decide)) rfl rfl rfl (Nat.le_of_ble_eq_true rfl) dL_law_131 ?_
      refine r_iadd hX dL_law_134 ?_
      rw [show ((1 : Int32) + (nI (zn_below (x >>> (2 &&& 31)) 300))) = nI (1 + zn_below (x >>> (2 &&& 31)) 300) from nI_add 1 _]
      have hb9 := zn_lt (x >>> (2 &&& 31)) (k := 300) (by decide)
      refine r_callV (As := [.int (nI vi), .int (nI (1 + zn_below (x >>> (2 &&& 31)) 300))]) (rest := []) hX cs_L_57 (by decide) (fun l => c_X8_pay l G h top s be H vi v hv (nI (1 + zn_below (x >>> (2 &&& 31)) 300)) (zf_in2 (a := 1 + zn_below (x >>> (2 &&& 31)) 300) (lo := 1) (hi := 2000) (by omega) (by omega) (by decide))) hha rfl rfl rfl (Nat.le_of_ble_eq_true rfl) dL_law_135 (fun r1 h1 top1 hp1 => ?_)
      obtain ⟨rfl, be1, H1⟩ := hp1
      obtain ⟨q1, q2, q3⟩ := zp_pay hv (nI (1 + zn_below (x >>> (2 &&& 31)) 300))
      have I1 : zI (zm_pay s vi v (nI (1 + zn_below (x >>> (2 &&& 31)) 300))) (K + nI (1 + zn_below (x >>> (2 &&& 31)) 300)) n := hI.of q2 (by rw [q1, hK0]) (q3.trans hnow)
      have hha1 := H1.hall
      refine r_pop hX rfl dL_law_138 ?_
      refine r_iload_n hX rfl 4 rfl dL_law_139 ?_
      refine r_iconst (v := 1) hX (by decide) dL_law_140 ?_
      refine r_iload hX 2 rfl dL_law_141 ?_
      refine r_iconst (v := 2) hX (by decide) dL_law_143 ?_
      refine r_ishr hX dL_law_144 ?_
      refine r_sipush (v := 300) hX (by decide) dL_law_145 ?_
      refine r_callSR (As := [.int (x >>> (2 &&& 31)), .int 300]) (rest := [.int 1, .int K]) (rv := some (.int (nI (zn_below (x >>> (2 &&& 31)) 300)))) (st1 := [.int (nI (zn_below (x >>> (2 &&& 31)) 300)), .int 1, .int K]) hX cs_L_15 (by decide) (fun l => c_L_below l G h1 top1 (x >>> (2 &&& 31)) (k := 300) (by decide) (by decide)) rfl rfl rfl (Nat.le_of_ble_eq_true rfl) dL_law_148 ?_
      refine r_iadd hX dL_law_151 ?_
      rw [show ((1 : Int32) + (nI (zn_below (x >>> (2 &&& 31)) 300))) = nI (1 + zn_below (x >>> (2 &&& 31)) 300) from nI_add 1 _]
      refine r_iadd hX dL_law_152 ?_
      refine r_istore_n (lv' := [(2, .int (K + (nI (1 + zn_below (x >>> (2 &&& 31)) 300)))), (6, .int (nI (n / 1440))), (5, .int (nI vi)), (4, .int x), (3, .int (nI i)), (0, .ref (z_bs G)), (1, .ref (z_b G))]) hX rfl (by decide) rfl dL_law_153 ?_
      refine r_goto (tgt := 240) hX rfl dL_law_154 ?_
      refine r_aload_n hX rfl 6 rfl dL_law_240 ?_
      refine r_iload_n hX rfl 0 rfl dL_law_241 ?_
      refine r_callS (As := [.ref (z_b G), .int (K + (nI (1 + zn_below (x >>> (2 &&& 31)) 300)))]) (rest := []) hX cs_L_70 (by decide) (fun l => c_L_isSound l G h1 top1 (zm_pay s vi v (nI (1 + zn_below (x >>> (2 &&& 31)) 300))) be1 H1 (K + nI (1 + zn_below (x >>> (2 &&& 31)) 300)) n (by omega) I1) rfl rfl (Nat.le_of_ble_eq_true rfl) dL_law_242 (fun r9 h9 top9 hp9 => ?_)
      obtain ⟨rfl, be9, H9⟩ := hp9
      refine r_if_ne (tgt := 250) hX dL_law_245 rfl (fun _ => ?_) (fun c => False.elim (absurd c (by decide)))
      refine r_iinc (q := 4) (lv' := [(3, .int ((nI i) + 1)), (2, .int (K + (nI (1 + zn_below (x >>> (2 &&& 31)) 300)))), (6, .int (nI (n / 1440))), (5, .int (nI vi)), (4, .int x), (0, .ref (z_bs G)), (1, .ref (z_b G))]) hX rfl rfl (by decide) rfl dL_law_250 ?_
      refine r_goto (tgt := 18) hX rfl dL_law_253 ?_
      refine r_lv [0, 1, 5, 6] (lv2 := [(3, .int (nI i + 1)), (2, .int (K + nI (1 + zn_below (x >>> (2 &&& 31)) 300))), (0, .ref (z_bs G)), (1, .ref (z_b G))]) rfl ?_
      rw [nI_1]
      exact ih (i + 1) h9 _ _ be9 _ n (by omega) (by omega) ⟨H9, I1, by omega, by omega⟩
    · skip
      refine r_tableIn (off := 93) (tgt := 157) hX (by decide) (by decide) (by decide) rfl dL_law_64 ?_
      refine r_aload_n hX rfl 6 rfl dL_law_157 ?_
      refine r_iconst (v := 3) hX (by decide) dL_law_158 ?_
      refine r_callVR (As := [.int 3]) (rest := []) (rv := some (.int (nI (s_sgts s).length))) (st1 := [.int (nI (s_sgts s).length)]) hX cs_L_41 (by decide) (fun l => c_many_3 l G h top s be H) hha rfl rfl rfl rfl (Nat.le_of_ble_eq_true rfl) dL_law_159 ?_
      refine r_bipush (v := 48) hX (by decide) dL_law_162 ?_
      refine r_icmp_ge (tgt := 240) hX dL_law_164 rfl (fun c164 => ?_) (fun c164 => ?_)
      · skip
        refine r_aload_n hX rfl 6 rfl dL_law_240 ?_
        refine r_iload_n hX rfl 4 rfl dL_law_241 ?_
        refine r_callS (As := [.ref (z_b G), .int K]) (rest := []) hX cs_L_70 (by decide) (fun l => c_L_isSound l G h top s be H K n (by omega) hI) rfl rfl (Nat.le_of_ble_eq_true rfl) dL_law_242 (fun r9 h9 top9 hp9 => ?_)
        obtain ⟨rfl, be9, H9⟩ := hp9
        refine r_if_ne (tgt := 250) hX dL_law_245 rfl (fun _ => ?_) (fun c => False.elim (absurd c (by decide)))
        refine r_iinc (q := 3) (lv' := [(3, .int ((nI i) + 1)), (6, .int (nI (n / 1440))), (5, .int (nI vi)), (4, .int x), (2, .int K), (0, .ref (z_bs G)), (1, .ref (z_b G))]) hX rfl rfl (by decide) rfl dL_law_250 ?_
        refine r_goto (tgt := 18) hX rfl dL_law_253 ?_
        refine r_lv [0, 4, 5, 6] (lv2 := [(3, .int (nI i + 1)), (2, .int K), (0, .ref (z_bs G)), (1, .ref (z_b G))]) rfl ?_
        rw [nI_1]
        exact ih (i + 1) h9 _ _ be9 _ n (by omega) (by omega) ⟨H9, hI, by omega, by omega⟩
      · skip
        refine r_aload_n hX rfl 6 rfl dL_law_167 ?_
        refine r_aload_n hX rfl 5 rfl dL_law_168 ?_
        refine r_iload_n hX rfl 3 rfl dL_law_169 ?_
        refine r_iload hX 1 rfl dL_law_170 ?_
        refine r_iload hX 0 rfl dL_law_172 ?_
        refine r_callS (As := [.ref (z_b G), .ref (z_bs G), .int (nI i), .int (nI vi), .int (nI (n / 1440))]) (rest := []) hX cs_L_60 (by decide) (fun l => c_L_drive l G h top s be H hL K n i vi (n / 1440) hn6 (by omega) hvi3 rfl hI) rfl rfl (Nat.le_of_ble_eq_true rfl) dL_law_174 (fun r1 h1 top1 hp1 => ?_)
        obtain ⟨rfl, s1, be1, H1, I1⟩ := hp1
        have hha1 := H1.hall
        refine r_goto (tgt := 240) hX rfl dL_law_177 ?_
        refine r_aload_n hX rfl 6 rfl dL_law_240 ?_
        refine r_iload_n hX rfl 4 rfl dL_law_241 ?_
        refine r_callS (As := [.ref (z_b G), .int K]) (rest := []) hX cs_L_70 (by decide) (fun l => c_L_isSound l G h1 top1 s1 be1 H1 K n (by omega) I1) rfl rfl (Nat.le_of_ble_eq_true rfl) dL_law_242 (fun r9 h9 top9 hp9 => ?_)
        obtain ⟨rfl, be9, H9⟩ := hp9
        refine r_if_ne (tgt := 250) hX dL_law_245 rfl (fun _ => ?_) (fun c => False.elim (absurd c (by decide)))
        refine r_iinc (q := 3) (lv' := [(3, .int ((nI i) + 1)), (6, .int (nI (n / 1440))), (5, .int (nI vi)), (4, .int x), (2, .int K), (0, .ref (z_bs G)), (1, .ref (z_b G))]) hX rfl rfl (by decide) rfl dL_law_250 ?_
        refine r_goto (tgt := 18) hX rfl dL_law_253 ?_
        refine r_lv [0, 4, 5, 6] (lv2 := [(3, .int (nI i + 1)), (2, .int K), (0, .ref (z_bs G)), (1, .ref (z_b G))]) rfl ?_
        rw [nI_1]
        exact ih (i + 1) h9 _ _ be9 _ n (by omega) (by omega) ⟨H9, I1, by omega, by omega⟩
    · skip
      refine r_tableIn (off := 116) (tgt := 180) hX (by decide) (by decide) (by decide) rfl dL_law_64 ?_
      refine r_aload_n hX rfl 6 rfl dL_law_180 ?_
      refine r_iload hX 1 rfl dL_law_181 ?_
      refine r_iload hX 2 rfl dL_law_183 ?_
      refine r_iconst (v := 2) hX (by decide) dL_law_185 ?_
      refine r_ishr hX dL_law_186 ?_
      refine r_bipush (v := 8) hX (by decide) dL_law_187 ?_
      refine r_callSR (As := [.int (x >>> (2 &&& 31)), .int 8]) (rest := [.int (nI vi), .ref (z_b G)]) (rv := some (.int (nI (zn_below (x >>> (2 &&& 31)) 8)))) (st1 := [.int (nI (zn_below (x >>> (2 &&& 31)) 8)), .int (nI vi), .ref (z_b G)]) hX cs_L_15 (by decide) (fun l => c_L_below l G h top (x >>> (2 &&& 31)) (k := 8) (by decide) (by decide)) rfl rfl rfl (Nat.le_of_ble_eq_true rfl) dL_law_189 ?_
      refine r_aload_n hX rfl 6 rfl dL_law_192 ?_
      refine r_iconst (v := 0) hX (by decide) dL_law_193 ?_
      refine r_callVR (As := [.int 0]) (rest := [.int (nI (zn_below (x >>> (2 &&& 31)) 8)), .int (nI vi), .ref (z_b G)]) (rv := some (.int (s_now s))) (st1 := [.int (s_now s), .int (nI (zn_below (x >>> (2 &&& 31)) 8)), .int (nI vi), .ref (z_b G)]) hX cs_L_41 (by decide) (fun l => c_many_0 l G h top s be H) hha rfl rfl rfl rfl (Nat.le_of_ble_eq_true rfl) dL_law_194 ?_
      rw [hnow]
      refine r_iload hX 2 rfl dL_law_197 ?_
      refine r_iconst (v := 3) hX (by decide) dL_law_199 ?_
      refine r_ishr hX dL_law_200 ?_
      refine r_iconst (v := 1) hX (by decide) dL_law_201 ?_
      refine r_aload_n hX rfl 6 rfl dL_law_202 ?_
      refine r_iconst (v := 0) hX (by decide) dL_law_203 ?_
      refine r_callVR (As := [.int 0]) (rest := [.int 1, .int (x >>> (3 &&& 31)), .int (nI n), .int (nI (zn_below (x >>> (2 &&& 31)) 8)), .int (nI vi), .ref (z_b G)]) (rv := some (.int (s_now s))) (st1 := [.int (s_now s), .int 1, .int (x >>> (3 &&& 31)), .int (nI n), .int (nI (zn_below (x >>> (2 &&& 31)) 8)), .int (nI vi), .ref (z_b G)]) hX cs_L_41 (by decide) (fun l => c_many_0 l G h top s be H) hha rfl rfl rfl rfl (Nat.le_of_ble_eq_true rfl) dL_law_204 ?_
      rw [hnow]
      refine r_sipush (v := 1440) hX (by decide) dL_law_207 ?_
      refine r_irem hX (by decide) dL_law_210 ?_
      rw [show ((nI n) - (nI n) / 1440 * 1440) = nI (n % 1440) from nI_mod (k := 1440) (by omega) (by decide) (by decide)]
      refine r_iadd hX dL_law_211 ?_
      rw [show ((1 : Int32) + (nI (n % 1440))) = nI (1 + n % 1440) from nI_add 1 _]
      refine r_callSR (As := [.int (x >>> (3 &&& 31)), .int (nI (1 + n % 1440))]) (rest := [.int (nI n), .int (nI (zn_below (x >>> (2 &&& 31)) 8)), .int (nI vi), .ref (z_b G)]) (rv := some (.int (nI (zn_below (x >>> (3 &&& 31)) (1 + n % 1440))))) (st1 := [.int (nI (zn_below (x >>> (3 &&& 31)) (1 + n % 1440))), .int (nI n), .int (nI (zn_below (x >>> (2 &&& 31)) 8)), .int (nI vi), .ref (z_b G)]) hX cs_L_15 (by decide) (fun l => c_L_below l G h top (x >>> (3 &&& 31)) (k := 1 + n % 1440) (by omega) (by omega)) rfl rfl rfl (Nat.le_of_ble_eq_true rfl) dL_law_212 ?_
      refine r_isub hX dL_law_215 ?_
      obtain ⟨b, hb9, eb⟩ : ∃ b : Nat, b < 1 + n % 1440 ∧ zn_below (x >>> (3 &&& 31)) (1 + n % 1440) = b := ⟨_, zn_lt _ (by omega), rfl⟩
      rw [eb, nI_sub (show b ≤ n by have := Nat.mod_le n 1440; omega)]
      obtain ⟨x9, hx9⟩ : ∃ x9, (s_segs s)[zn_below (x >>> (2 &&& 31)) 8]? = some x9 := ⟨_, List.getElem?_eq_getElem (by rw [hl1]; exact zn_lt _ (by decide))⟩
      refine r_callV (As := [.int (nI vi), .int (nI (zn_below (x >>> (2 &&& 31)) 8)), .int (nI (n - b))]) (rest := []) hX cs_L_64 (by decide) (fun l => c_X8_control l G h top s be H vi v hv (zn_below (x >>> (2 &&& 31)) 8) x9 hx9 (nI (n - b)) (by rw [hnow]; exact zf_in2 (lo := 0) (Nat.zero_le _) (Nat.sub_le _ _) (by omega)) (by rw [hnow, nI_div (by omega), nI_div (by omega), show (n - b) / 1440 = n / 1440 by omega]; exact zl_open _ (by omega))) hha rfl rfl rfl (Nat.le_of_ble_eq_true rfl) dL_law_216 (fun r1 h1 top1 hp1 => ?_)
      obtain ⟨rfl, be1, H1⟩ := hp1
      obtain ⟨q1, q2, q3⟩ := zp_control hv x9 (nI (n - b))
      have I1 : zI ((zm_control s vi v x9 (nI (n - b))).2) K n := hI.of q2 (q1.trans hK0) (q3.trans hnow)
      have hha1 := H1.hall
      refine r_pop hX rfl dL_law_219 ?_
      refine r_goto (tgt := 240) hX rfl dL_law_220 ?_
      refine r_aload_n hX rfl 6 rfl dL_law_240 ?_
      refine r_iload_n hX rfl 4 rfl dL_law_241 ?_
      refine r_callS (As := [.ref (z_b G), .int K]) (rest := []) hX cs_L_70 (by decide) (fun l => c_L_isSound l G h1 top1 ((zm_control s vi v x9 (nI (n - b))).2) be1 H1 K n (by omega) I1) rfl rfl (Nat.le_of_ble_eq_true rfl) dL_law_242 (fun r9 h9 top9 hp9 => ?_)
      obtain ⟨rfl, be9, H9⟩ := hp9
      refine r_if_ne (tgt := 250) hX dL_law_245 rfl (fun _ => ?_) (fun c => False.elim (absurd c (by decide)))
      refine r_iinc (q := 3) (lv' := [(3, .int ((nI i) + 1)), (6, .int (nI (n / 1440))), (5, .int (nI vi)), (4, .int x), (2, .int K), (0, .ref (z_bs G)), (1, .ref (z_b G))]) hX rfl rfl (by decide) rfl dL_law_250 ?_
      refine r_goto (tgt := 18) hX rfl dL_law_253 ?_
      refine r_lv [0, 4, 5, 6] (lv2 := [(3, .int (nI i + 1)), (2, .int K), (0, .ref (z_bs G)), (1, .ref (z_b G))]) rfl ?_
      rw [nI_1]
      exact ih (i + 1) h9 _ _ be9 _ n (by omega) (by omega) ⟨H9, I1, by omega, by omega⟩
    · skip
      refine r_tableOut (tgt := 223) hX (by decide) rfl dL_law_64 ?_
      refine r_iload hX 0 rfl dL_law_223 ?_
      refine r_iconst (v := 2) hX (by decide) dL_law_225 ?_
      refine r_icmp_le (tgt := 240) hX dL_law_226 rfl (fun c226 => ?_) (fun c226 => ?_)
      · skip
        refine r_aload_n hX rfl 6 rfl dL_law_240 ?_
        refine r_iload_n hX rfl 4 rfl dL_law_241 ?_
        refine r_callS (As := [.ref (z_b G), .int K]) (rest := []) hX cs_L_70 (by decide) (fun l => c_L_isSound l G h top s be H K n (by omega) hI) rfl rfl (Nat.le_of_ble_eq_true rfl) dL_law_242 (fun r9 h9 top9 hp9 => ?_)
        obtain ⟨rfl, be9, H9⟩ := hp9
        refine r_if_ne (tgt := 250) hX dL_law_245 rfl (fun _ => ?_) (fun c => False.elim (absurd c (by decide)))
        refine r_iinc (q := 3) (lv' := [(3, .int ((nI i) + 1)), (6, .int (nI (n / 1440))), (5, .int (nI vi)), (4, .int x), (2, .int K), (0, .ref (z_bs G)), (1, .ref (z_b G))]) hX rfl rfl (by decide) rfl dL_law_250 ?_
        refine r_goto (tgt := 18) hX rfl dL_law_253 ?_
        refine r_lv [0, 4, 5, 6] (lv2 := [(3, .int (nI i + 1)), (2, .int K), (0, .ref (z_bs G)), (1, .ref (z_b G))]) rfl ?_
        rw [nI_1]
        exact ih (i + 1) h9 _ _ be9 _ n (by omega) (by omega) ⟨H9, hI, by omega, by omega⟩
      · skip
        have h2d : 2 < n / 1440 := by
          rcases Nat.lt_or_ge 2 (n / 1440) with q | q
          · exact q
          · exact absurd (show nI (n / 1440) ≤ nI 2 from nI_le q (by decide)) c226
        refine r_aload_n hX rfl 6 rfl dL_law_229 ?_
        refine r_iload hX 1 rfl dL_law_230 ?_
        refine r_iload hX 0 rfl dL_law_232 ?_
        refine r_iconst (v := 2) hX (by decide) dL_law_234 ?_
        refine r_isub hX dL_law_235 ?_
        rw [show nI (n / 1440) - (2 : Int32) = nI (n / 1440 - 2) from nI_sub (b := 2) (by omega)]
        refine r_callV (As := [.int (nI vi), .int (nI (n / 1440 - 2))]) (rest := []) hX cs_L_67 (by decide) (fun l => c_X8_dispute l G h top s be H vi v hv (n / 1440 - 2) (by omega) (by rw [hnow, nI_div (by omega)]; exact zl_closed _ (by omega)) (by rw [hnow, nI_div (by omega), nI_sub (by omega), show n / 1440 - (n / 1440 - 2) = 2 by omega]; decide)) hha rfl rfl rfl (Nat.le_of_ble_eq_true rfl) dL_law_236 (fun r1 h1 top1 hp1 => ?_)
        obtain ⟨rfl, be1, H1⟩ := hp1
        obtain ⟨q1, q2, q3⟩ := zp_back hv (n / 1440 - 2)
        have I1 : zI (zs_back s vi v (zm_back s vi v (n / 1440 - 2))) K n := hI.of q2 (q1.trans hK0) (q3.trans hnow)
        have hha1 := H1.hall
        refine r_pop hX rfl dL_law_239 ?_
        refine r_aload_n hX rfl 6 rfl dL_law_240 ?_
        refine r_iload_n hX rfl 4 rfl dL_law_241 ?_
        refine r_callS (As := [.ref (z_b G), .int K]) (rest := []) hX cs_L_70 (by decide) (fun l => c_L_isSound l G h1 top1 (zs_back s vi v (zm_back s vi v (n / 1440 - 2))) be1 H1 K n (by omega) I1) rfl rfl (Nat.le_of_ble_eq_true rfl) dL_law_242 (fun r9 h9 top9 hp9 => ?_)
        obtain ⟨rfl, be9, H9⟩ := hp9
        refine r_if_ne (tgt := 250) hX dL_law_245 rfl (fun _ => ?_) (fun c => False.elim (absurd c (by decide)))
        refine r_iinc (q := 3) (lv' := [(3, .int ((nI i) + 1)), (6, .int (nI (n / 1440))), (5, .int (nI vi)), (4, .int x), (2, .int K), (0, .ref (z_bs G)), (1, .ref (z_b G))]) hX rfl rfl (by decide) rfl dL_law_250 ?_
        refine r_goto (tgt := 18) hX rfl dL_law_253 ?_
        refine r_lv [0, 4, 5, 6] (lv2 := [(3, .int (nI i + 1)), (2, .int K), (0, .ref (z_bs G)), (1, .ref (z_b G))]) rfl ?_
        rw [nI_1]
        exact ih (i + 1) h9 _ _ be9 _ n (by omega) (by omega) ⟨H9, I1, by omega, by omega⟩

theorem f_law {X : zX} {G : zG}  {nm : String} (hL : z_L G ≤ 260) (hX : z_ok X cL_law 7 RL (some .boolean) nm 16 G) (hq : zRet X) : ∀ (k i : Nat) (h : zH) (top : Nat) (s : zS) (be : zB) (K : Int32) (n : Nat), 14 - i < k → i ≤ 14 → (z_St G s be h top ∧ zI s K n ∧ 1440 ≤ n ∧ n ≤ 1440 + 900 * i) → z_Z X h top 18 [(3, .int (nI i)), (2, .int K), (0, .ref (z_bs G)), (1, .ref (z_b G))] [] := by
  intro k
  induction k with
  | zero => intros; omega
  | succ k ih => intro i h top s be K n hk hi hinv; exact f_law_step hL k i s be K n hk hi hinv ih hX hq
set_option maxRecDepth 20000 in
set_option maxHeartbeats 4000000 in
theorem f_entry {X : zX} {G : zG} {h : zH} {nm : String} (hL : z_L G ≤ 260) (htE : ¬ z_b G ≤ z_tE G) (hX : z_ok X cL_law 7 RL (some .boolean) nm 16 G) (hq : zRet X) : z_Z X h (z_b G) 0 [(0, .ref (z_bs G))] [] := by
  refine r_new hX nw_L_20 (by omega) dL_law_0 ?_
  have hN0 : z_at G (va_up h (z_b G) (.inr (9, [.null, .null, .null, .null, .null, .null, .null, .int 0, .int 0, .int 0, .int 0, .int 0, .int 0, .int 0]))) ((z_b G) + 1) (z_b G) (.inr (9, [.null, .null, .null, .null, .null, .null, .null, .int 0, .int 0, .int 0, .int 0, .int 0, .int 0, .int 0])) := z_at.fresh (Nat.le_refl _)
  refine r_dup hX rfl dL_law_3 ?_
  refine r_callI (As := []) (rest := [.ref (z_b G)]) hX cs_L_52 (by decide) (fun l => c_X8_init l G (va_up h (z_b G) (.inr (9, [.null, .null, .null, .null, .null, .null, .null, .int 0, .int 0, .int 0, .int 0, .int 0, .int 0, .int 0]))) (z_b G + 1) hN0 rfl htE) rfl rfl (Nat.le_of_ble_eq_true rfl) dL_law_4 (fun r1 h1 top1 hp1 => ?_)
  obtain ⟨rfl, rfl, H1⟩ := hp1
  have hha1 := H1.hall
  refine r_astore_n (lv' := [(1, .ref (z_b G)), (0, .ref (z_bs G))]) hX rfl (by decide) rfl dL_law_7 ?_
  refine r_aload_n hX rfl 0 rfl dL_law_8 ?_
  refine r_aload_n hX rfl 1 rfl dL_law_9 ?_
  refine r_iconst (v := 4) hX (by decide) dL_law_10 ?_
  refine r_callS (As := [.ref (z_b G), .ref (z_bs G), .int 4]) (rest := []) hX cs_L_53 (by decide) (fun l => c_L_write l G h1 (z_b G + 17) (z_be0 G) hL H1) rfl rfl (Nat.le_of_ble_eq_true rfl) dL_law_11 (fun r2 h2 top2 hp2 => ?_)
  obtain ⟨rfl, s2, be2, H2, I2⟩ := hp2
  refine r_iconst (v := 0) hX (by decide) dL_law_14 ?_
  refine r_istore_n (lv' := [(2, .int 0), (1, .ref (z_b G)), (0, .ref (z_bs G))]) hX rfl (by decide) rfl dL_law_15 ?_
  refine r_iconst (v := 0) hX (by decide) dL_law_16 ?_
  refine r_istore_n (lv' := [(3, .int 0), (2, .int 0), (1, .ref (z_b G)), (0, .ref (z_bs G))]) hX rfl (by decide) rfl dL_law_17 ?_
  refine r_lv [0, 1, 3, 2] (lv2 := [(3, .int 0), (2, .int 0), (0, .ref (z_bs G)), (1, .ref (z_b G))]) rfl ?_
  exact f_law hL hX hq (14 + 1) 0 h2 top2 s2 be2 0 1440 (by omega) (by omega) ⟨H2, I2, by omega, by omega⟩

