/-! the law drives -/
theorem zI.see {s : zS} {K : Int32} {n : Nat} (h : zI s K n) (iv : Nat) (p : zSgt) (hl : (s_sgts s).length < 60) : zI (zm_see s iv p) K n := by
  obtain ⟨h1, h2, h3, h4, h5, h6, h7⟩ := h
  obtain ⟨e1, ⟨e2, e3, e4, e5⟩, e6, e7⟩ := zp_see s iv p
  refine ⟨?_, e1.trans h2, by rw [e2]; exact h3, by rw [e5]; exact h4, by rw [e4]; exact h5, by rw [e6]; exact h6, by rw [e7, List.length_append, List.length_singleton]; omega⟩
  unfold zg_cfg
  rw [e2, e3, e5]
  exact h1
theorem zl_min {mm b n : Nat} (h : mm ≤ n) (hn : n ≤ 60000) (hb : b < 20) : ∃ m2 : Nat, mm ≤ m2 ∧ m2 ≤ n ∧ (if nI mm + nI b < nI n then nI mm + nI b else nI n) = nI m2 := by
  rw [nI_add]
  by_cases e : nI (mm + b) < nI n
  · have := (nI_ltI (by omega) (by omega)).mp e
    exact ⟨mm + b, by omega, by omega, if_pos e⟩
  · exact ⟨n, h, Nat.le_refl _, if_neg e⟩
set_option maxRecDepth 20000 in
set_option maxHeartbeats 4000000 in
theorem f_drv_step {X : zX} {G : zG} {h : zH} {top : Nat} {Post : Option Value → zH → Nat → Prop} (hL : z_L G ≤ 260) (K : Int32) (n r vi dy : Nat) (hn6 : n ≤ 60000) (hr : r ≤ 14) (hvi : vi < 3) (hdy : dy = n / 1440) (hp : ∀ (h : zH) (top : Nat) (s : zS) (be : zB), z_St G s be h top → zI s K n → Post none h top) (k i : Nat) (s : zS) (be : zB) (hk : 5 - i < k + 1) (hi : i ≤ 5) (hinv : z_St G s be h top ∧ zI s K n) (ih : ∀ (i : Nat) (h : zH) (top : Nat) (s : zS) (be : zB), 5 - i < k → i ≤ 5 → (z_St G s be h top ∧ zI s K n) → z_Z X h top 3 [(5, .int (nI i)), (0, .ref (z_b G)), (1, .ref (z_bs G)), (2, .int (nI r)), (3, .int (nI vi)), (4, .int (nI dy))] []) (hX : z_ok X cL_drive 8 RL none "drive" 9 G) (hq : z_mq X (Post)) : z_Z X h top 3 [(5, .int (nI i)), (0, .ref (z_b G)), (1, .ref (z_bs G)), (2, .int (nI r)), (3, .int (nI vi)), (4, .int (nI dy))] [] := by
  obtain ⟨H, hI⟩ := hinv
  have hha := H.hall
  obtain ⟨hcf, hK0, hl1, hl3, hcap, hnow, hsg⟩ := id hI
  obtain ⟨v, hv⟩ : ∃ v, (s_vehs s)[vi]? = some v := ⟨_, List.getElem?_eq_getElem (by omega)⟩
  refine r_iload hX 0 rfl dL_drive_3 ?_
  refine r_iconst (v := 5) hX (by decide) dL_drive_5 ?_
  refine r_icmp_ge (tgt := 184) hX dL_drive_6 rfl (fun c6 => ?_) (fun c6 => ?_)
  · skip
    exact r_vret hX hq (hp _ _ s be H hI) dL_drive_184
  · skip
    have hlt : i < 5 := lt_n (n := 5) (by omega) c6
    refine r_aload_n hX rfl 2 rfl dL_drive_9 ?_
    refine r_iload hX 0 rfl dL_drive_10 ?_
    refine r_iload_n hX rfl 3 rfl dL_drive_12 ?_
    refine r_iadd hX dL_drive_13 ?_
    rw [show ((nI i) + (nI r)) = nI (i + r) from nI_add i r]
    refine r_iload_n hX rfl 4 rfl dL_drive_14 ?_
    refine r_iadd hX dL_drive_15 ?_
    rw [show ((nI (i + r)) + (nI vi)) = nI (i + r + vi) from nI_add (i + r) vi]
    refine r_callSR (As := [.ref (z_bs G), .int (nI (i + r + vi))]) (rest := []) (rv := some (.int (zn_cell G (i + r + vi)))) (st1 := [.int (zn_cell G (i + r + vi))]) hX cs_L_9 (by decide) (fun l => c_L_cell l G h top hL (i + r + vi) (by omega)) rfl rfl rfl (Nat.le_of_ble_eq_true rfl) dL_drive_16 ?_
    refine r_bipush (v := 13) hX (by decide) dL_drive_19 ?_
    refine r_iload hX 0 rfl dL_drive_21 ?_
    refine r_imul hX dL_drive_23 ?_
    refine r_iadd hX dL_drive_24 ?_
    obtain ⟨x, hx⟩ : ∃ x : Int32, x = ((zn_cell G (i + r + vi)) + (13 * (nI i))) := ⟨_, rfl⟩
    rw [← hx]
    refine r_istore (lv' := [(6, .int x), (5, .int (nI i)), (0, .ref (z_b G)), (1, .ref (z_bs G)), (2, .int (nI r)), (3, .int (nI vi)), (4, .int (nI dy))]) hX (by decide) rfl dL_drive_25 ?_
    refine r_sipush (v := 1440) hX (by decide) dL_drive_27 ?_
    refine r_iload hX 6 rfl dL_drive_30 ?_
    refine r_imul hX dL_drive_32 ?_
    refine r_sipush (v := 300) hX (by decide) dL_drive_33 ?_
    refine r_iadd hX dL_drive_36 ?_
    refine r_bipush (v := 60) hX (by decide) dL_drive_37 ?_
    refine r_iload hX 1 rfl dL_drive_39 ?_
    refine r_imul hX dL_drive_41 ?_
    refine r_iadd hX dL_drive_42 ?_
    refine r_iload hX 0 rfl dL_drive_43 ?_
    refine r_bipush (v := 50) hX (by decide) dL_drive_45 ?_
    refine r_callSR (As := [.int x, .int 50]) (rest := [.int (((1440 * (nI dy)) + 300) + (60 * (nI i)))]) (rv := some (.int (nI (zn_below x 50)))) (st1 := [.int (nI (zn_below x 50)), .int (((1440 * (nI dy)) + 300) + (60 * (nI i)))]) hX cs_L_15 (by decide) (fun l => c_L_below l G h top x (k := 50) (by decide) (by decide)) rfl rfl rfl (Nat.le_of_ble_eq_true rfl) dL_drive_47 ?_
    refine r_iadd hX dL_drive_50 ?_
    refine r_sipush (v := 200) hX (by decide) dL_drive_51 ?_
    refine r_iload_n hX rfl 5 rfl dL_drive_54 ?_
    refine r_imul hX dL_drive_55 ?_
    refine r_iadd hX dL_drive_56 ?_
    obtain ⟨mm, hmm⟩ : ∃ mm : Nat, mm = 1440 * dy + 300 + 60 * i + zn_below x 50 + 200 * vi := ⟨_, rfl⟩
    have em : (((((1440 * (nI dy)) + 300) + (60 * (nI i))) + (nI (zn_below x 50))) + (200 * (nI vi))) = nI mm := by
      rw [hmm, ← nI_add, ← nI_add, ← nI_add, ← nI_add, ← nI_mul, ← nI_mul, ← nI_mul] <;> rfl
    rw [em]
    have hb50 := zn_lt x (k := 50) (by decide)
    have hd1 : mm / 1440 = dy := by omega
    refine r_istore (lv' := [(7, .int (nI mm)), (6, .int x), (5, .int (nI i)), (0, .ref (z_b G)), (1, .ref (z_bs G)), (2, .int (nI r)), (3, .int (nI vi)), (4, .int (nI dy))]) hX (by decide) rfl dL_drive_57 ?_
    refine r_aload_n hX rfl 3 rfl dL_drive_59 ?_
    refine r_iconst (v := 3) hX (by decide) dL_drive_60 ?_
    refine r_callVR (As := [.int 3]) (rest := []) (rv := some (.int (nI (s_sgts s).length))) (st1 := [.int (nI (s_sgts s).length)]) hX cs_L_41 (by decide) (fun l => c_many_3 l G h top s be H) hha rfl rfl rfl rfl (Nat.le_of_ble_eq_true rfl) dL_drive_61 ?_
    refine r_bipush (v := 57) hX (by decide) dL_drive_64 ?_
    refine r_icmp_gt (tgt := 178) hX dL_drive_66 rfl (fun c66 => ?_) (fun c66 => ?_)
    · skip
      refine r_iinc (q := 2) (lv' := [(5, .int ((nI i) + 1)), (7, .int (nI mm)), (6, .int x), (0, .ref (z_b G)), (1, .ref (z_bs G)), (2, .int (nI r)), (3, .int (nI vi)), (4, .int (nI dy))]) hX rfl rfl (by decide) rfl dL_drive_178 ?_
      refine r_goto (tgt := 3) hX rfl dL_drive_181 ?_
      refine r_lv [0, 3, 4, 5, 6, 7] (lv2 := [(5, .int (nI i + 1)), (0, .ref (z_b G)), (1, .ref (z_bs G)), (2, .int (nI r)), (3, .int (nI vi)), (4, .int (nI dy))]) rfl ?_
      rw [nI_1]
      exact ih (i + 1) h _ s be (by omega) (by omega) ⟨H, hI⟩
    · skip
      have hl57 := lt_gt (n := 57) (by omega) c66
      refine r_iload hX 0 rfl dL_drive_69 ?_
      refine r_aload_n hX rfl 3 rfl dL_drive_71 ?_
      refine r_iconst (v := 0) hX (by decide) dL_drive_72 ?_
      refine r_callVR (As := [.int 0]) (rest := [.int (nI mm)]) (rv := some (.int (s_now s))) (st1 := [.int (s_now s), .int (nI mm)]) hX cs_L_41 (by decide) (fun l => c_many_0 l G h top s be H) hha rfl rfl rfl rfl (Nat.le_of_ble_eq_true rfl) dL_drive_73 ?_
      refine r_icmp_gt (tgt := 178) hX dL_drive_76 rfl (fun c76 => ?_) (fun c76 => ?_)
      · skip
        refine r_iinc (q := 2) (lv' := [(5, .int ((nI i) + 1)), (7, .int (nI mm)), (6, .int x), (0, .ref (z_b G)), (1, .ref (z_bs G)), (2, .int (nI r)), (3, .int (nI vi)), (4, .int (nI dy))]) hX rfl rfl (by decide) rfl dL_drive_178 ?_
        refine r_goto (tgt := 3) hX rfl dL_drive_181 ?_
        refine r_lv [0, 3, 4, 5, 6, 7] (lv2 := [(5, .int (nI i + 1)), (0, .ref (z_b G)), (1, .ref (z_bs G)), (2, .int (nI r)), (3, .int (nI vi)), (4, .int (nI dy))]) rfl ?_
        rw [nI_1]
        exact ih (i + 1) h _ s be (by omega) (by omega) ⟨H, hI⟩
      · skip
        rw [hnow] at c76
        have hmn : mm ≤ n := Nat.not_lt.mp (fun z => c76 ((nI_ltI (by omega) (by omega)).mpr z))
        refine r_iload hX 1 rfl dL_drive_79 ?_
        refine r_iconst (v := 5) hX (by decide) dL_drive_81 ?_
        refine r_ishr hX dL_drive_82 ?_
        refine r_iconst (v := 5) hX (by decide) dL_drive_83 ?_
        refine r_callSR (As := [.int (x >>> (5 &&& 31)), .int 5]) (rest := []) (rv := some (.int (nI (zn_below (x >>> (5 &&& 31)) 5)))) (st1 := [.int (nI (zn_below (x >>> (5 &&& 31)) 5))]) hX cs_L_15 (by decide) (fun l => c_L_below l G h top (x >>> (5 &&& 31)) (k := 5) (by decide) (by decide)) rfl rfl rfl (Nat.le_of_ble_eq_true rfl) dL_drive_84 ?_
        refine r_if_ne (tgt := 93) hX dL_drive_87 rfl (fun c87 => ?_) (fun c87 => ?_)
        · skip
          refine r_aload_n hX rfl 3 rfl dL_drive_93 ?_
          refine r_iload_n hX rfl 6 rfl dL_drive_94 ?_
          refine r_iload hX 1 rfl dL_drive_95 ?_
          refine r_bipush (v := 8) hX (by decide) dL_drive_97 ?_
          refine r_ishr hX dL_drive_99 ?_
          refine r_bipush (v := 6) hX (by decide) dL_drive_100 ?_
          refine r_callSR (As := [.int (x >>> (8 &&& 31)), .int 6]) (rest := [.int (nI vi), .ref (z_b G)]) (rv := some (.int (nI (zn_below (x >>> (8 &&& 31)) 6)))) (st1 := [.int (nI (zn_below (x >>> (8 &&& 31)) 6)), .int (nI vi), .ref (z_b G)]) hX cs_L_15 (by decide) (fun l => c_L_below l G h top (x >>> (8 &&& 31)) (k := 6) (by decide) (by decide)) rfl rfl rfl (Nat.le_of_ble_eq_true rfl) dL_drive_102 ?_
          refine r_if_ne (tgt := 120) hX dL_drive_105 rfl (fun c105 => ?_) (fun c105 => ?_)
          · skip
            refine r_iload hX 2 rfl dL_drive_120 ?_
            refine r_iload hX 0 rfl dL_drive_122 ?_
            refine r_iload hX 1 rfl dL_drive_124 ?_
            refine r_iconst (v := 3) hX (by decide) dL_drive_126 ?_
            refine r_ishr hX dL_drive_127 ?_
            refine r_iconst (v := 3) hX (by decide) dL_drive_128 ?_
            refine r_callSR (As := [.int (x >>> (3 &&& 31)), .int 3]) (rest := [.int (nI mm), .int (nI i), .int (nI vi), .ref (z_b G)]) (rv := some (.int (nI (zn_below (x >>> (3 &&& 31)) 3)))) (st1 := [.int (nI (zn_below (x >>> (3 &&& 31)) 3)), .int (nI mm), .int (nI i), .int (nI vi), .ref (z_b G)]) hX cs_L_15 (by decide) (fun l => c_L_below l G h top (x >>> (3 &&& 31)) (k := 3) (by decide) (by decide)) rfl rfl rfl (Nat.le_of_ble_eq_true rfl) dL_drive_129 ?_
            obtain ⟨x9, hx9⟩ : ∃ x9, (s_segs s)[i]? = some x9 := ⟨_, List.getElem?_eq_getElem (by rw [hl1]; omega)⟩
            refine r_callV (As := [.int (nI vi), .int (nI i), .int (nI mm), .int (nI (zn_below (x >>> (3 &&& 31)) 3))]) (rest := []) hX cs_L_44 (by decide) (fun l => c_X8_see l G h top s be H vi v hv (i) x9 hx9 (nI mm) (nI (zn_below (x >>> (3 &&& 31)) 3)) (by rw [hnow]; exact zf_in2 (lo := 0) (Nat.zero_le _) hmn (by omega)) (zf_in2 (a := zn_below (x >>> (3 &&& 31)) 3) (lo := 0) (hi := 2) (Nat.zero_le _) (by have := zn_lt (x >>> (3 &&& 31)) (k := 3) (by decide); omega) (by decide)) (by rw [hnow, nI_div (by omega), nI_div (by omega), hd1, ← hdy]; exact zl_open _ (by omega)) (by omega)) hha rfl rfl rfl (Nat.le_of_ble_eq_true rfl) dL_drive_132 (fun r1 h1 top1 hp1 => ?_)
            obtain ⟨rfl, a9, be2, H2⟩ := hp1
            obtain ⟨s2, hs2⟩ : ∃ z : zS, z = zm_see s vi (a9, (v.1, x9.1), nI mm, nI (zn_below (x >>> (3 &&& 31)) 3), 0) := ⟨_, rfl⟩
            rw [← hs2] at H2
            have hI2 := hI.see vi (a9, (v.1, x9.1), nI mm, nI (zn_below (x >>> (3 &&& 31)) 3), 0) (by omega)
            obtain ⟨e1, ⟨e2, e3, e4, e5⟩, e6, e7⟩ := zp_see s vi (a9, (v.1, x9.1), nI mm, nI (zn_below (x >>> (3 &&& 31)) 3), 0)
            rw [← hs2] at hI2 e1 e2 e3 e4 e5 e6 e7
            have hv2 : (s_vehs s2)[vi]? = some v := by rw [e5]; exact hv
            have hnow2 : s_now s2 = nI n := e6.trans hnow
            have hsg2 : (s_sgts s2).length < 60 := by rw [e7, List.length_append, List.length_singleton]; omega
            have hha2 := H2.hall
            refine r_pop hX rfl dL_drive_135 ?_
            refine r_iload hX 1 rfl dL_drive_136 ?_
            refine r_bipush (v := 6) hX (by decide) dL_drive_138 ?_
            refine r_ishr hX dL_drive_140 ?_
            refine r_iconst (v := 3) hX (by decide) dL_drive_141 ?_
            refine r_callSR (As := [.int (x >>> (6 &&& 31)), .int 3]) (rest := []) (rv := some (.int (nI (zn_below (x >>> (6 &&& 31)) 3)))) (st1 := [.int (nI (zn_below (x >>> (6 &&& 31)) 3))]) hX cs_L_15 (by decide) (fun l => c_L_below l G h1 top1 (x >>> (6 &&& 31)) (k := 3) (by decide) (by decide)) rfl rfl rfl (Nat.le_of_ble_eq_true rfl) dL_drive_142 ?_
            refine r_if_ne (tgt := 178) hX dL_drive_145 rfl (fun c145 => ?_) (fun c145 => ?_)
            · skip
              refine r_iinc (q := 2) (lv' := [(5, .int ((nI i) + 1)), (7, .int (nI mm)), (6, .int x), (0, .ref (z_b G)), (1, .ref (z_bs G)), (2, .int (nI r)), (3, .int (nI vi)), (4, .int (nI dy))]) hX rfl rfl (by decide) rfl dL_drive_178 ?_
              refine r_goto (tgt := 3) hX rfl dL_drive_181 ?_
              refine r_lv [0, 3, 4, 5, 6, 7] (lv2 := [(5, .int (nI i + 1)), (0, .ref (z_b G)), (1, .ref (z_bs G)), (2, .int (nI r)), (3, .int (nI vi)), (4, .int (nI dy))]) rfl ?_
              rw [nI_1]
              exact ih (i + 1) h1 _ _ be2 (by omega) (by omega) ⟨H2, hI2⟩
            · skip
              refine r_aload_n hX rfl 3 rfl dL_drive_148 ?_
              refine r_iload_n hX rfl 6 rfl dL_drive_149 ?_
              refine r_iload hX 2 rfl dL_drive_150 ?_
              refine r_aload_n hX rfl 3 rfl dL_drive_152 ?_
              refine r_iconst (v := 0) hX (by decide) dL_drive_153 ?_
              refine r_callVR (As := [.int 0]) (rest := [.int (nI i), .int (nI vi), .ref (z_b G)]) (rv := some (.int (s_now s2))) (st1 := [.int (s_now s2), .int (nI i), .int (nI vi), .ref (z_b G)]) hX cs_L_41 (by decide) (fun l => c_many_0 l G h1 top1 s2 be2 H2) hha2 rfl rfl rfl rfl (Nat.le_of_ble_eq_true rfl) dL_drive_154 ?_
              rw [hnow2]
              refine r_iload hX 0 rfl dL_drive_157 ?_
              refine r_iload hX 1 rfl dL_drive_159 ?_
              refine r_bipush (v := 7) hX (by decide) dL_drive_161 ?_
              refine r_ishr hX dL_drive_163 ?_
              refine r_bipush (v := 20) hX (by decide) dL_drive_164 ?_
              refine r_callSR (As := [.int (x >>> (7 &&& 31)), .int 20]) (rest := [.int (nI mm), .int (nI n), .int (nI i), .int (nI vi), .ref (z_b G)]) (rv := some (.int (nI (zn_below (x >>> (7 &&& 31)) 20)))) (st1 := [.int (nI (zn_below (x >>> (7 &&& 31)) 20)), .int (nI mm), .int (nI n), .int (nI i), .int (nI vi), .ref (z_b G)]) hX cs_L_15 (by decide) (fun l => c_L_below l G h1 top1 (x >>> (7 &&& 31)) (k := 20) (by decide) (by decide)) rfl rfl rfl (Nat.le_of_ble_eq_true rfl) dL_drive_166 ?_
              refine r_iadd hX dL_drive_169 ?_
              refine r_min hX kw_min_L_47 kw_m2min kw_m3 kw_m4min (Nat.le_of_ble_eq_true rfl) dL_drive_170 ?_
              have hb20 := zn_lt (x >>> (7 &&& 31)) (k := 20) (by decide)
              obtain ⟨m2, h2a, h2b, em2⟩ := zl_min hmn hn6 hb20
              rw [em2]
              refine r_iconst (v := 2) hX (by decide) dL_drive_173 ?_
              obtain ⟨x8, hx8⟩ : ∃ x8, (s_segs s2)[i]? = some x8 := ⟨_, List.getElem?_eq_getElem (by rw [e2, hl1]; omega)⟩
              refine r_callV (As := [.int (nI vi), .int (nI i), .int (nI m2), .int 2]) (rest := []) hX cs_L_44 (by decide) (fun l => c_X8_see l G h1 top1 s2 be2 H2 vi v hv2 i x8 hx8 (nI m2) 2 (by rw [hnow2]; exact zf_in2 (lo := 0) (Nat.zero_le _) h2b (by omega)) (by decide) (by rw [hnow2, nI_div (by omega), nI_div (by omega), show m2 / 1440 = dy by omega, ← hdy]; exact zl_open _ (by omega)) hsg2) hha2 rfl rfl rfl (Nat.le_of_ble_eq_true rfl) dL_drive_174 (fun r2 h2 top2 hp2 => ?_)
              obtain ⟨rfl, a8, be3, H3⟩ := hp2
              have hI3 := hI2.see vi (a8, (v.1, x8.1), nI m2, 2, 0) hsg2
              refine r_pop hX rfl dL_drive_177 ?_
              refine r_iinc (q := 2) (lv' := [(5, .int ((nI i) + 1)), (7, .int (nI mm)), (6, .int x), (0, .ref (z_b G)), (1, .ref (z_bs G)), (2, .int (nI r)), (3, .int (nI vi)), (4, .int (nI dy))]) hX rfl rfl (by decide) rfl dL_drive_178 ?_
              refine r_goto (tgt := 3) hX rfl dL_drive_181 ?_
              refine r_lv [0, 3, 4, 5, 6, 7] (lv2 := [(5, .int (nI i + 1)), (0, .ref (z_b G)), (1, .ref (z_bs G)), (2, .int (nI r)), (3, .int (nI vi)), (4, .int (nI dy))]) rfl ?_
              rw [nI_1]
              exact ih (i + 1) h2 _ _ be3 (by omega) (by omega) ⟨H3, hI3⟩
          · skip
            refine r_iload hX 1 rfl dL_drive_108 ?_
            refine r_iconst (v := 2) hX (by decide) dL_drive_110 ?_
            refine r_ishr hX dL_drive_111 ?_
            refine r_bipush (v := 8) hX (by decide) dL_drive_112 ?_
            refine r_callSR (As := [.int (x >>> (2 &&& 31)), .int 8]) (rest := [.int (nI vi), .ref (z_b G)]) (rv := some (.int (nI (zn_below (x >>> (2 &&& 31)) 8)))) (st1 := [.int (nI (zn_below (x >>> (2 &&& 31)) 8)), .int (nI vi), .ref (z_b G)]) hX cs_L_15 (by decide) (fun l => c_L_below l G h top (x >>> (2 &&& 31)) (k := 8) (by decide) (by decide)) rfl rfl rfl (Nat.le_of_ble_eq_true rfl) dL_drive_114 ?_
            refine r_goto (tgt := 122) hX rfl dL_drive_117 ?_
            refine r_iload hX 0 rfl dL_drive_122 ?_
            refine r_iload hX 1 rfl dL_drive_124 ?_
            refine r_iconst (v := 3) hX (by decide) dL_drive_126 ?_
            refine r_ishr hX dL_drive_127 ?_
            refine r_iconst (v := 3) hX (by decide) dL_drive_128 ?_
            refine r_callSR (As := [.int (x >>> (3 &&& 31)), .int 3]) (rest := [.int (nI mm), .int (nI (zn_below (x >>> (2 &&& 31)) 8)), .int (nI vi), .ref (z_b G)]) (rv := some (.int (nI (zn_below (x >>> (3 &&& 31)) 3)))) (st1 := [.int (nI (zn_below (x >>> (3 &&& 31)) 3)), .int (nI mm), .int (nI (zn_below (x >>> (2 &&& 31)) 8)), .int (nI vi), .ref (z_b G)]) hX cs_L_15 (by decide) (fun l => c_L_below l G h top (x >>> (3 &&& 31)) (k := 3) (by decide) (by decide)) rfl rfl rfl (Nat.le_of_ble_eq_true rfl) dL_drive_129 ?_
            obtain ⟨x9, hx9⟩ : ∃ x9, (s_segs s)[(zn_below (x >>> (2 &&& 31)) 8)]? = some x9 := ⟨_, List.getElem?_eq_getElem (by rw [hl1]; exact zn_lt _ (by decide))⟩
            refine r_callV (As := [.int (nI vi), .int (nI (zn_below (x >>> (2 &&& 31)) 8)), .int (nI mm), .int (nI (zn_below (x >>> (3 &&& 31)) 3))]) (rest := []) hX cs_L_44 (by decide) (fun l => c_X8_see l G h top s be H vi v hv ((zn_below (x >>> (2 &&& 31)) 8)) x9 hx9 (nI mm) (nI (zn_below (x >>> (3 &&& 31)) 3)) (by rw [hnow]; exact zf_in2 (lo := 0) (Nat.zero_le _) hmn (by omega)) (zf_in2 (a := zn_below (x >>> (3 &&& 31)) 3) (lo := 0) (hi := 2) (Nat.zero_le _) (by have := zn_lt (x >>> (3 &&& 31)) (k := 3) (by decide); omega) (by decide)) (by rw [hnow, nI_div (by omega), nI_div (by omega), hd1, ← hdy]; exact zl_open _ (by omega)) (by omega)) hha rfl rfl rfl (Nat.le_of_ble_eq_true rfl) dL_drive_132 (fun r1 h1 top1 hp1 => ?_)
            obtain ⟨rfl, a9, be2, H2⟩ := hp1
            obtain ⟨s2, hs2⟩ : ∃ z : zS, z = zm_see s vi (a9, (v.1, x9.1), nI mm, nI (zn_below (x >>> (3 &&& 31)) 3), 0) := ⟨_, rfl⟩
            rw [← hs2] at H2
            have hI2 := hI.see vi (a9, (v.1, x9.1), nI mm, nI (zn_below (x >>> (3 &&& 31)) 3), 0) (by omega)
            obtain ⟨e1, ⟨e2, e3, e4, e5⟩, e6, e7⟩ := zp_see s vi (a9, (v.1, x9.1), nI mm, nI (zn_below (x >>> (3 &&& 31)) 3), 0)
            rw [← hs2] at hI2 e1 e2 e3 e4 e5 e6 e7
            have hv2 : (s_vehs s2)[vi]? = some v := by rw [e5]; exact hv
            have hnow2 : s_now s2 = nI n := e6.trans hnow
            have hsg2 : (s_sgts s2).length < 60 := by rw [e7, List.length_append, List.length_singleton]; omega
            have hha2 := H2.hall
            refine r_pop hX rfl dL_drive_135 ?_
            refine r_iload hX 1 rfl dL_drive_136 ?_
            refine r_bipush (v := 6) hX (by decide) dL_drive_138 ?_
            refine r_ishr hX dL_drive_140 ?_
            refine r_iconst (v := 3) hX (by decide) dL_drive_141 ?_
            refine r_callSR (As := [.int (x >>> (6 &&& 31)), .int 3]) (rest := []) (rv := some (.int (nI (zn_below (x >>> (6 &&& 31)) 3)))) (st1 := [.int (nI (zn_below (x >>> (6 &&& 31)) 3))]) hX cs_L_15 (by decide) (fun l => c_L_below l G h1 top1 (x >>> (6 &&& 31)) (k := 3) (by decide) (by decide)) rfl rfl rfl (Nat.le_of_ble_eq_true rfl) dL_drive_142 ?_
            refine r_if_ne (tgt := 178) hX dL_drive_145 rfl (fun c145 => ?_) (fun c145 => ?_)
            · skip
              refine r_iinc (q := 2) (lv' := [(5, .int ((nI i) + 1)), (7, .int (nI mm)), (6, .int x), (0, .ref (z_b G)), (1, .ref (z_bs G)), (2, .int (nI r)), (3, .int (nI vi)), (4, .int (nI dy))]) hX rfl rfl (by decide) rfl dL_drive_178 ?_
              refine r_goto (tgt := 3) hX rfl dL_drive_181 ?_
              refine r_lv [0, 3, 4, 5, 6, 7] (lv2 := [(5, .int (nI i + 1)), (0, .ref (z_b G)), (1, .ref (z_bs G)), (2, .int (nI r)), (3, .int (nI vi)), (4, .int (nI dy))]) rfl ?_
              rw [nI_1]
              exact ih (i + 1) h1 _ _ be2 (by omega) (by omega) ⟨H2, hI2⟩
            · skip
              refine r_aload_n hX rfl 3 rfl dL_drive_148 ?_
              refine r_iload_n hX rfl 6 rfl dL_drive_149 ?_
              refine r_iload hX 2 rfl dL_drive_150 ?_
              refine r_aload_n hX rfl 3 rfl dL_drive_152 ?_
              refine r_iconst (v := 0) hX (by decide) dL_drive_153 ?_
              refine r_callVR (As := [.int 0]) (rest := [.int (nI i), .int (nI vi), .ref (z_b G)]) (rv := some (.int (s_now s2))) (st1 := [.int (s_now s2), .int (nI i), .int (nI vi), .ref (z_b G)]) hX cs_L_41 (by decide) (fun l => c_many_0 l G h1 top1 s2 be2 H2) hha2 rfl rfl rfl rfl (Nat.le_of_ble_eq_true rfl) dL_drive_154 ?_
              rw [hnow2]
              refine r_iload hX 0 rfl dL_drive_157 ?_
              refine r_iload hX 1 rfl dL_drive_159 ?_
              refine r_bipush (v := 7) hX (by decide) dL_drive_161 ?_
              refine r_ishr hX dL_drive_163 ?_
              refine r_bipush (v := 20) hX (by decide) dL_drive_164 ?_
              refine r_callSR (As := [.int (x >>> (7 &&& 31)), .int 20]) (rest := [.int (nI mm), .int (nI n), .int (nI i), .int (nI vi), .ref (z_b G)]) (rv := some (.int (nI (zn_below (x >>> (7 &&& 31)) 20)))) (st1 := [.int (nI (zn_below (x >>> (7 &&& 31)) 20)), .int (nI mm), .int (nI n), .int (nI i), .int (nI vi), .ref (z_b G)]) hX cs_L_15 (by decide) (fun l => c_L_below l G h1 top1 (x >>> (7 &&& 31)) (k := 20) (by decide) (by decide)) rfl rfl rfl (Nat.le_of_ble_eq_true rfl) dL_drive_166 ?_
              refine r_iadd hX dL_drive_169 ?_
              refine r_min hX kw_min_L_47 kw_m2min kw_m3 kw_m4min (Nat.le_of_ble_eq_true rfl) dL_drive_170 ?_
              have hb20 := zn_lt (x >>> (7 &&& 31)) (k := 20) (by decide)
              obtain ⟨m2, h2a, h2b, em2⟩ := zl_min hmn hn6 hb20
              rw [em2]
              refine r_iconst (v := 2) hX (by decide) dL_drive_173 ?_
              obtain ⟨x8, hx8⟩ : ∃ x8, (s_segs s2)[i]? = some x8 := ⟨_, List.getElem?_eq_getElem (by rw [e2, hl1]; omega)⟩
              refine r_callV (As := [.int (nI vi), .int (nI i), .int (nI m2), .int 2]) (rest := []) hX cs_L_44 (by decide) (fun l => c_X8_see l G h1 top1 s2 be2 H2 vi v hv2 i x8 hx8 (nI m2) 2 (by rw [hnow2]; exact zf_in2 (lo := 0) (Nat.zero_le _) h2b (by omega)) (by decide) (by rw [hnow2, nI_div (by omega), nI_div (by omega), show m2 / 1440 = dy by omega, ← hdy]; exact zl_open _ (by omega)) hsg2) hha2 rfl rfl rfl (Nat.le_of_ble_eq_true rfl) dL_drive_174 (fun r2 h2 top2 hp2 => ?_)
              obtain ⟨rfl, a8, be3, H3⟩ := hp2
              have hI3 := hI2.see vi (a8, (v.1, x8.1), nI m2, 2, 0) hsg2
              refine r_pop hX rfl dL_drive_177 ?_
              refine r_iinc (q := 2) (lv' := [(5, .int ((nI i) + 1)), (7, .int (nI mm)), (6, .int x), (0, .ref (z_b G)), (1, .ref (z_bs G)), (2, .int (nI r)), (3, .int (nI vi)), (4, .int (nI dy))]) hX rfl rfl (by decide) rfl dL_drive_178 ?_
              refine r_goto (tgt := 3) hX rfl dL_drive_181 ?_
              refine r_lv [0, 3, 4, 5, 6, 7] (lv2 := [(5, .int (nI i + 1)), (0, .ref (z_b G)), (1, .ref (z_bs G)), (2, .int (nI r)), (3, .int (nI vi)), (4, .int (nI dy))]) rfl ?_
              rw [nI_1]
              exact ih (i + 1) h2 _ _ be3 (by omega) (by omega) ⟨H3, hI3⟩
        · skip
          refine r_goto (tgt := 178) hX rfl dL_drive_90 ?_
          refine r_iinc (q := 2) (lv' := [(5, .int ((nI i) + 1)), (7, .int (nI mm)), (6, .int x), (0, .ref (z_b G)), (1, .ref (z_bs G)), (2, .int (nI r)), (3, .int (nI vi)), (4, .int (nI dy))]) hX rfl rfl (by decide) rfl dL_drive_178 ?_
          refine r_goto (tgt := 3) hX rfl dL_drive_181 ?_
          refine r_lv [0, 3, 4, 5, 6, 7] (lv2 := [(5, .int (nI i + 1)), (0, .ref (z_b G)), (1, .ref (z_bs G)), (2, .int (nI r)), (3, .int (nI vi)), (4, .int (nI dy))]) rfl ?_
          rw [nI_1]
          exact ih (i + 1) h _ s be (by omega) (by omega) ⟨H, hI⟩

theorem f_drv {X : zX} {G : zG}  {Post : Option Value → zH → Nat → Prop} (hL : z_L G ≤ 260) (K : Int32) (n r vi dy : Nat) (hn6 : n ≤ 60000) (hr : r ≤ 14) (hvi : vi < 3) (hdy : dy = n / 1440) (hp : ∀ (h : zH) (top : Nat) (s : zS) (be : zB), z_St G s be h top → zI s K n → Post none h top) (hX : z_ok X cL_drive 8 RL none "drive" 9 G) (hq : z_mq X Post) : ∀ (k i : Nat) (h : zH) (top : Nat) (s : zS) (be : zB), 5 - i < k → i ≤ 5 → (z_St G s be h top ∧ zI s K n) → z_Z X h top 3 [(5, .int (nI i)), (0, .ref (z_b G)), (1, .ref (z_bs G)), (2, .int (nI r)), (3, .int (nI vi)), (4, .int (nI dy))] [] := by
  intro k
  induction k with
  | zero => intros; omega
  | succ k ih => intro i h top s be hk hi hinv; exact f_drv_step hL K n r vi dy hn6 hr hvi hdy hp k i s be hk hi hinv ih hX hq
set_option maxRecDepth 20000 in
set_option maxHeartbeats 4000000 in
theorem c_L_drive (l : Launch) (G : zG) (h : zH) (top : Nat) (s : zS) (be : zB) (H : z_St G s be h top) (hL : z_L G ≤ 260) (K : Int32) (n r vi dy : Nat) (hn6 : n ≤ 60000) (hr : r ≤ 14) (hvi : vi < 3) (hdy : dy = n / 1440) (hI : zI s K n) : z_Ct l yL_drive cL_drive 8 none 9 G [.ref (z_b G), .ref (z_bs G), .int (nI r), .int (nI vi), .int (nI dy)] h top (fun r9 h' top' => r9 = none ∧ ∃ (s2 : zS) (be2 : zB), z_St G s2 be2 h' top' ∧ zI s2 K n) := by
  refine z_of (own := RL) (nm := "drive") (by decide) rfl rfl (by decide) (Nat.le_of_ble_eq_true rfl) (fun X hX hq => ?_)
  replace hX : z_ok X cL_drive 8 RL none "drive" 9 G := hX
  show z_Z X h top 0 [(0, .ref (z_b G)), (1, .ref (z_bs G)), (2, .int (nI r)), (3, .int (nI vi)), (4, .int (nI dy))] []
  refine r_iconst (v := 0) hX (by decide) dL_drive_0 ?_
  refine r_istore (lv' := [(5, .int 0), (0, .ref (z_b G)), (1, .ref (z_bs G)), (2, .int (nI r)), (3, .int (nI vi)), (4, .int (nI dy))]) hX (by decide) rfl dL_drive_1 ?_
  refine r_lv [0, 1, 2, 3, 4, 5] (lv2 := [(5, .int 0), (0, .ref (z_b G)), (1, .ref (z_bs G)), (2, .int (nI r)), (3, .int (nI vi)), (4, .int (nI dy))]) rfl ?_
  exact f_drv hL K n r vi dy hn6 hr hvi hdy (fun h9 t9 s9 b9 H9 I9 => ⟨rfl, s9, b9, H9, I9⟩) hX hq (5 + 1) 0 h top s be (by omega) (by omega) ⟨H, hI⟩

