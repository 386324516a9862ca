/-! the best minute -/
set_option maxRecDepth 20000 in
set_option maxHeartbeats 4000000 in
theorem f_bm_step {X : zX} {G : zG} {h : zH} {top : Nat} {Post : Option Value → zH → Nat → Prop} (s : zS) (be : zB) (H : z_St G s be h top) (iv : Nat) (v : zVeh) (hv : (s_vehs s)[iv]? = some v) (i : Nat) (x : zSeg) (hx : (s_segs s)[i]? = some x) (n : Nat) (hn : s_now s = nI n) (hn6 : n ≤ 60000) (fr : Int32) (hp : ∀ m : Int32, s_now s ≤ m → Post (some (.int m)) h top) (k j : Nat) (pr least best : Int32) (hk : 1440 - j < k + 1) (hi : j ≤ 1440) (hinv : s_now s ≤ best) (ih : ∀ (j : Nat) (pr least best : Int32), 1440 - j < k → j ≤ 1440 → (s_now s ≤ best) → z_Z X h top 78 [(9, .int (nI (n + j))), (8, .int least), (7, .int best), (6, .int pr), (5, .int fr), (4, .ref x.1), (3, .ref v.1), (0, .ref (z_b G)), (1, .int (nI iv)), (2, .int (nI i))] []) (hX : z_ok X cX8_bestMinute 11 RX8 (some .int) "bestMinute" 6 G) (hq : z_mq X (Post)) : z_Z X h top 78 [(9, .int (nI (n + j))), (8, .int least), (7, .int best), (6, .int pr), (5, .int fr), (4, .ref x.1), (3, .ref v.1), (0, .ref (z_b G)), (1, .int (nI iv)), (2, .int (nI i))] [] := by
  have hha := H.hall
  have hbd := H.2.2.1.2.2
  have hil : i < (s_segs s).length := (List.getElem?_eq_some_iff.mp hx).1
  have hxs := H.seg hx
  have hvl : iv < (s_vehs s).length := (List.getElem?_eq_some_iff.mp hv).1
  have hvs := H.veh hv
  have htf := H.tfs
  refine r_iload hX 0 rfl dX8_bestMinute_78 ?_
  refine r_aload_n hX rfl 7 rfl dX8_bestMinute_80 ?_
  refine r_getf hX fl_X8_139 hha rfl dX8_bestMinute_81 ?_
  refine r_sipush (v := 1440) hX (by decide) dX8_bestMinute_84 ?_
  refine r_iadd hX dX8_bestMinute_87 ?_
  refine r_icmp_ge (tgt := 182) hX dX8_bestMinute_88 rfl (fun c88 => ?_) (fun c88 => ?_)
  · skip
    refine r_iload hX 2 rfl dX8_bestMinute_182 ?_
    exact r_iret hX hq (hp best hinv) dX8_bestMinute_184
  · skip
    have hlt : j < 1440 := by
      rw [hn] at c88
      rcases Nat.lt_or_ge j 1440 with q | q
      · exact q
      · exact absurd (show nI n + nI 1440 ≤ nI (n + j) by rw [nI_add]; exact nI_le (by omega) (by omega)) c88
    have hle : s_now s ≤ nI (n + j) := by rw [hn]; exact nI_le (by omega) (by omega)
    refine r_iload hX 0 rfl dX8_bestMinute_91 ?_
    refine r_aload_n hX rfl 7 rfl dX8_bestMinute_93 ?_
    refine r_getf hX fl_X8_139 hha rfl dX8_bestMinute_94 ?_
    refine r_icmp_eq (tgt := 108) hX dX8_bestMinute_97 rfl (fun c97 => ?_) (fun c97 => ?_)
    · skip
      refine r_aload_n hX rfl 7 rfl dX8_bestMinute_108 ?_
      refine r_getf hX fl_X8_25 hha rfl dX8_bestMinute_109 ?_
      refine r_aload hX 5 rfl dX8_bestMinute_112 ?_
      refine r_aload_n hX rfl 6 rfl dX8_bestMinute_114 ?_
      refine r_getf hX fl_X8_201 hvs rfl dX8_bestMinute_115 ?_
      refine r_aload_n hX rfl 6 rfl dX8_bestMinute_118 ?_
      refine r_getf hX fl_X8_246 hvs rfl dX8_bestMinute_119 ?_
      refine r_iload hX 0 rfl dX8_bestMinute_122 ?_
      refine r_callVR (As := [.ref x.1, .int v.2.1.1, .int v.2.1.2.1, .int (nI (n + j))]) (rest := []) (rv := some (.int (zm_price (s_tars s) x.2.2.2.2 x.2.2.2.1 v.2.1.1 v.2.1.2.1 (nI (n + j))))) (st1 := [.int (zm_price (s_tars s) x.2.2.2.2 x.2.2.2.1 v.2.1.1 v.2.1.2.1 (nI (n + j)))]) hX cs_X8_318 (by decide) (fun l => c_price l G h top (z_b G + 4) (z_b G + 5) (z_b G + 6) (s_tars s) (b_ls be 3).1 (b_ls be 3).2.1 (b_ls be 3).2.2 H.tfs H.l3 (fun i t ht => H.tar ht) H.hol x i hxs v.2.1.1 v.2.1.2.1 (nI (n + j))) htf rfl rfl rfl rfl (Nat.le_of_ble_eq_true rfl) dX8_bestMinute_124 ?_
      refine r_istore (lv' := [(6, .int (zm_price (s_tars s) x.2.2.2.2 x.2.2.2.1 v.2.1.1 v.2.1.2.1 (nI (n + j)))), (9, .int (nI (n + j))), (8, .int least), (7, .int best), (5, .int fr), (4, .ref x.1), (3, .ref v.1), (0, .ref (z_b G)), (1, .int (nI iv)), (2, .int (nI i))]) hX (by decide) rfl dX8_bestMinute_127 ?_
      refine r_iload hX 4 rfl dX8_bestMinute_129 ?_
      refine r_if_ne (tgt := 144) hX dX8_bestMinute_131 rfl (fun c131 => ?_) (fun c131 => ?_)
      · skip
        refine r_iconst (v := 0) hX (by decide) dX8_bestMinute_144 ?_
        refine r_goto (tgt := 150) hX rfl dX8_bestMinute_145 ?_
        refine r_istore (lv' := [(10, .int 0), (6, .int (zm_price (s_tars s) x.2.2.2.2 x.2.2.2.1 v.2.1.1 v.2.1.2.1 (nI (n + j)))), (9, .int (nI (n + j))), (8, .int least), (7, .int best), (5, .int fr), (4, .ref x.1), (3, .ref v.1), (0, .ref (z_b G)), (1, .int (nI iv)), (2, .int (nI i))]) hX (by decide) rfl dX8_bestMinute_150 ?_
        refine r_iload hX 2 rfl dX8_bestMinute_152 ?_
        refine r_aload_n hX rfl 8 rfl dX8_bestMinute_154 ?_
        refine r_getf hX fl_X8_139 hha rfl dX8_bestMinute_155 ?_
        refine r_icmp_eq (tgt := 168) hX dX8_bestMinute_158 rfl (fun c158 => ?_) (fun c158 => ?_)
        · skip
          refine r_iload hX 0 rfl dX8_bestMinute_168 ?_
          refine r_istore (lv' := [(8, .int 0), (10, .int 0), (6, .int (zm_price (s_tars s) x.2.2.2.2 x.2.2.2.1 v.2.1.1 v.2.1.2.1 (nI (n + j)))), (9, .int (nI (n + j))), (7, .int best), (5, .int fr), (4, .ref x.1), (3, .ref v.1), (0, .ref (z_b G)), (1, .int (nI iv)), (2, .int (nI i))]) hX (by decide) rfl dX8_bestMinute_170 ?_
          refine r_iload hX 3 rfl dX8_bestMinute_172 ?_
          refine r_istore (lv' := [(7, .int (nI (n + j))), (8, .int 0), (10, .int 0), (6, .int (zm_price (s_tars s) x.2.2.2.2 x.2.2.2.1 v.2.1.1 v.2.1.2.1 (nI (n + j)))), (9, .int (nI (n + j))), (5, .int fr), (4, .ref x.1), (3, .ref v.1), (0, .ref (z_b G)), (1, .int (nI iv)), (2, .int (nI i))]) hX (by decide) rfl dX8_bestMinute_174 ?_
          refine r_iinc (q := 4) (lv' := [(9, .int ((nI (n + j)) + 1)), (7, .int (nI (n + j))), (8, .int 0), (10, .int 0), (6, .int (zm_price (s_tars s) x.2.2.2.2 x.2.2.2.1 v.2.1.1 v.2.1.2.1 (nI (n + j)))), (5, .int fr), (4, .ref x.1), (3, .ref v.1), (0, .ref (z_b G)), (1, .int (nI iv)), (2, .int (nI i))]) hX rfl rfl (by decide) rfl dX8_bestMinute_176 ?_
          refine r_goto (tgt := 78) hX rfl dX8_bestMinute_179 ?_
          refine r_lv [0, 2, 1, 4, 5, 6, 7, 8, 9, 10] (lv2 := [(9, .int (nI (n + j) + 1)), (8, .int 0), (7, .int (nI (n + j))), (6, .int (zm_price (s_tars s) x.2.2.2.2 x.2.2.2.1 v.2.1.1 v.2.1.2.1 (nI (n + j)))), (5, .int fr), (4, .ref x.1), (3, .ref v.1), (0, .ref (z_b G)), (1, .int (nI iv)), (2, .int (nI i))]) rfl ?_
          rw [nI_1, show n + j + 1 = n + (j + 1) by omega]
          exact ih (j + 1) _ _ _ (by omega) (by omega) (hle)
        · skip
          refine r_iload hX 0 rfl dX8_bestMinute_161 ?_
          refine r_iload hX 3 rfl dX8_bestMinute_163 ?_
          refine r_icmp_ge (tgt := 176) hX dX8_bestMinute_165 rfl (fun c165 => ?_) (fun c165 => ?_)
          · skip
            refine r_iinc (q := 2) (lv' := [(9, .int ((nI (n + j)) + 1)), (10, .int 0), (6, .int (zm_price (s_tars s) x.2.2.2.2 x.2.2.2.1 v.2.1.1 v.2.1.2.1 (nI (n + j)))), (8, .int least), (7, .int best), (5, .int fr), (4, .ref x.1), (3, .ref v.1), (0, .ref (z_b G)), (1, .int (nI iv)), (2, .int (nI i))]) hX rfl rfl (by decide) rfl dX8_bestMinute_176 ?_
            refine r_goto (tgt := 78) hX rfl dX8_bestMinute_179 ?_
            refine r_lv [0, 3, 4, 2, 5, 6, 7, 8, 9, 10] (lv2 := [(9, .int (nI (n + j) + 1)), (8, .int least), (7, .int best), (6, .int (zm_price (s_tars s) x.2.2.2.2 x.2.2.2.1 v.2.1.1 v.2.1.2.1 (nI (n + j)))), (5, .int fr), (4, .ref x.1), (3, .ref v.1), (0, .ref (z_b G)), (1, .int (nI iv)), (2, .int (nI i))]) rfl ?_
            rw [nI_1, show n + j + 1 = n + (j + 1) by omega]
            exact ih (j + 1) _ _ _ (by omega) (by omega) (hinv)
          · skip
            refine r_iload hX 0 rfl dX8_bestMinute_168 ?_
            refine r_istore (lv' := [(8, .int 0), (10, .int 0), (6, .int (zm_price (s_tars s) x.2.2.2.2 x.2.2.2.1 v.2.1.1 v.2.1.2.1 (nI (n + j)))), (9, .int (nI (n + j))), (7, .int best), (5, .int fr), (4, .ref x.1), (3, .ref v.1), (0, .ref (z_b G)), (1, .int (nI iv)), (2, .int (nI i))]) hX (by decide) rfl dX8_bestMinute_170 ?_
            refine r_iload hX 3 rfl dX8_bestMinute_172 ?_
            refine r_istore (lv' := [(7, .int (nI (n + j))), (8, .int 0), (10, .int 0), (6, .int (zm_price (s_tars s) x.2.2.2.2 x.2.2.2.1 v.2.1.1 v.2.1.2.1 (nI (n + j)))), (9, .int (nI (n + j))), (5, .int fr), (4, .ref x.1), (3, .ref v.1), (0, .ref (z_b G)), (1, .int (nI iv)), (2, .int (nI i))]) hX (by decide) rfl dX8_bestMinute_174 ?_
            refine r_iinc (q := 4) (lv' := [(9, .int ((nI (n + j)) + 1)), (7, .int (nI (n + j))), (8, .int 0), (10, .int 0), (6, .int (zm_price (s_tars s) x.2.2.2.2 x.2.2.2.1 v.2.1.1 v.2.1.2.1 (nI (n + j)))), (5, .int fr), (4, .ref x.1), (3, .ref v.1), (0, .ref (z_b G)), (1, .int (nI iv)), (2, .int (nI i))]) hX rfl rfl (by decide) rfl dX8_bestMinute_176 ?_
            refine r_goto (tgt := 78) hX rfl dX8_bestMinute_179 ?_
            refine r_lv [0, 2, 1, 4, 5, 6, 7, 8, 9, 10] (lv2 := [(9, .int (nI (n + j) + 1)), (8, .int 0), (7, .int (nI (n + j))), (6, .int (zm_price (s_tars s) x.2.2.2.2 x.2.2.2.1 v.2.1.1 v.2.1.2.1 (nI (n + j)))), (5, .int fr), (4, .ref x.1), (3, .ref v.1), (0, .ref (z_b G)), (1, .int (nI iv)), (2, .int (nI i))]) rfl ?_
            rw [nI_1, show n + j + 1 = n + (j + 1) by omega]
            exact ih (j + 1) _ _ _ (by omega) (by omega) (hle)
      · skip
        refine r_aload hX 5 rfl dX8_bestMinute_134 ?_
        refine r_iload hX 1 rfl dX8_bestMinute_136 ?_
        refine r_callVR (As := [.int (nI (n + j))]) (rest := []) (rv := some (.int 0)) (st1 := [.int 0]) hX cs_X8_243 (by decide) (fun l => c_X3_isShut l G h top x i hxs (nI (n + j))) hxs rfl rfl rfl rfl (Nat.le_of_ble_eq_true rfl) dX8_bestMinute_138 ?_
        refine r_if_eq (tgt := 148) hX dX8_bestMinute_141 rfl (fun _ => ?_) (fun c => False.elim (absurd c (by decide)))
        refine r_iload hX 0 rfl dX8_bestMinute_148 ?_
        refine r_istore (lv' := [(10, .int (zm_price (s_tars s) x.2.2.2.2 x.2.2.2.1 v.2.1.1 v.2.1.2.1 (nI (n + j)))), (6, .int (zm_price (s_tars s) x.2.2.2.2 x.2.2.2.1 v.2.1.1 v.2.1.2.1 (nI (n + j)))), (9, .int (nI (n + j))), (8, .int least), (7, .int best), (5, .int fr), (4, .ref x.1), (3, .ref v.1), (0, .ref (z_b G)), (1, .int (nI iv)), (2, .int (nI i))]) hX (by decide) rfl dX8_bestMinute_150 ?_
        refine r_iload hX 2 rfl dX8_bestMinute_152 ?_
        refine r_aload_n hX rfl 8 rfl dX8_bestMinute_154 ?_
        refine r_getf hX fl_X8_139 hha rfl dX8_bestMinute_155 ?_
        refine r_icmp_eq (tgt := 168) hX dX8_bestMinute_158 rfl (fun c158 => ?_) (fun c158 => ?_)
        · skip
          refine r_iload hX 0 rfl dX8_bestMinute_168 ?_
          refine r_istore (lv' := [(8, .int (zm_price (s_tars s) x.2.2.2.2 x.2.2.2.1 v.2.1.1 v.2.1.2.1 (nI (n + j)))), (10, .int (zm_price (s_tars s) x.2.2.2.2 x.2.2.2.1 v.2.1.1 v.2.1.2.1 (nI (n + j)))), (6, .int (zm_price (s_tars s) x.2.2.2.2 x.2.2.2.1 v.2.1.1 v.2.1.2.1 (nI (n + j)))), (9, .int (nI (n + j))), (7, .int best), (5, .int fr), (4, .ref x.1), (3, .ref v.1), (0, .ref (z_b G)), (1, .int (nI iv)), (2, .int (nI i))]) hX (by decide) rfl dX8_bestMinute_170 ?_
          refine r_iload hX 3 rfl dX8_bestMinute_172 ?_
          refine r_istore (lv' := [(7, .int (nI (n + j))), (8, .int (zm_price (s_tars s) x.2.2.2.2 x.2.2.2.1 v.2.1.1 v.2.1.2.1 (nI (n + j)))), (10, .int (zm_price (s_tars s) x.2.2.2.2 x.2.2.2.1 v.2.1.1 v.2.1.2.1 (nI (n + j)))), (6, .int (zm_price (s_tars s) x.2.2.2.2 x.2.2.2.1 v.2.1.1 v.2.1.2.1 (nI (n + j)))), (9, .int (nI (n + j))), (5, .int fr), (4, .ref x.1), (3, .ref v.1), (0, .ref (z_b G)), (1, .int (nI iv)), (2, .int (nI i))]) hX (by decide) rfl dX8_bestMinute_174 ?_
          refine r_iinc (q := 4) (lv' := [(9, .int ((nI (n + j)) + 1)), (7, .int (nI (n + j))), (8, .int (zm_price (s_tars s) x.2.2.2.2 x.2.2.2.1 v.2.1.1 v.2.1.2.1 (nI (n + j)))), (10, .int (zm_price (s_tars s) x.2.2.2.2 x.2.2.2.1 v.2.1.1 v.2.1.2.1 (nI (n + j)))), (6, .int (zm_price (s_tars s) x.2.2.2.2 x.2.2.2.1 v.2.1.1 v.2.1.2.1 (nI (n + j)))), (5, .int fr), (4, .ref x.1), (3, .ref v.1), (0, .ref (z_b G)), (1, .int (nI iv)), (2, .int (nI i))]) hX rfl rfl (by decide) rfl dX8_bestMinute_176 ?_
          refine r_goto (tgt := 78) hX rfl dX8_bestMinute_179 ?_
          refine r_lv [0, 2, 1, 4, 5, 6, 7, 8, 9, 10] (lv2 := [(9, .int (nI (n + j) + 1)), (8, .int (zm_price (s_tars s) x.2.2.2.2 x.2.2.2.1 v.2.1.1 v.2.1.2.1 (nI (n + j)))), (7, .int (nI (n + j))), (6, .int (zm_price (s_tars s) x.2.2.2.2 x.2.2.2.1 v.2.1.1 v.2.1.2.1 (nI (n + j)))), (5, .int fr), (4, .ref x.1), (3, .ref v.1), (0, .ref (z_b G)), (1, .int (nI iv)), (2, .int (nI i))]) rfl ?_
          rw [nI_1, show n + j + 1 = n + (j + 1) by omega]
          exact ih (j + 1) _ _ _ (by omega) (by omega) (hle)
        · skip
          refine r_iload hX 0 rfl dX8_bestMinute_161 ?_
          refine r_iload hX 3 rfl dX8_bestMinute_163 ?_
          refine r_icmp_ge (tgt := 176) hX dX8_bestMinute_165 rfl (fun c165 => ?_) (fun c165 => ?_)
          · skip
            refine r_iinc (q := 2) (lv' := [(9, .int ((nI (n + j)) + 1)), (10, .int (zm_price (s_tars s) x.2.2.2.2 x.2.2.2.1 v.2.1.1 v.2.1.2.1 (nI (n + j)))), (6, .int (zm_price (s_tars s) x.2.2.2.2 x.2.2.2.1 v.2.1.1 v.2.1.2.1 (nI (n + j)))), (8, .int least), (7, .int best), (5, .int fr), (4, .ref x.1), (3, .ref v.1), (0, .ref (z_b G)), (1, .int (nI iv)), (2, .int (nI i))]) hX rfl rfl (by decide) rfl dX8_bestMinute_176 ?_
            refine r_goto (tgt := 78) hX rfl dX8_bestMinute_179 ?_
            refine r_lv [0, 3, 4, 2, 5, 6, 7, 8, 9, 10] (lv2 := [(9, .int (nI (n + j) + 1)), (8, .int least), (7, .int best), (6, .int (zm_price (s_tars s) x.2.2.2.2 x.2.2.2.1 v.2.1.1 v.2.1.2.1 (nI (n + j)))), (5, .int fr), (4, .ref x.1), (3, .ref v.1), (0, .ref (z_b G)), (1, .int (nI iv)), (2, .int (nI i))]) rfl ?_
            rw [nI_1, show n + j + 1 = n + (j + 1) by omega]
            exact ih (j + 1) _ _ _ (by omega) (by omega) (hinv)
          · skip
            refine r_iload hX 0 rfl dX8_bestMinute_168 ?_
            refine r_istore (lv' := [(8, .int (zm_price (s_tars s) x.2.2.2.2 x.2.2.2.1 v.2.1.1 v.2.1.2.1 (nI (n + j)))), (10, .int (zm_price (s_tars s) x.2.2.2.2 x.2.2.2.1 v.2.1.1 v.2.1.2.1 (nI (n + j)))), (6, .int (zm_price (s_tars s) x.2.2.2.2 x.2.2.2.1 v.2.1.1 v.2.1.2.1 (nI (n + j)))), (9, .int (nI (n + j))), (7, .int best), (5, .int fr), (4, .ref x.1), (3, .ref v.1), (0, .ref (z_b G)), (1, .int (nI iv)), (2, .int (nI i))]) hX (by decide) rfl dX8_bestMinute_170 ?_
            refine r_iload hX 3 rfl dX8_bestMinute_172 ?_
            refine r_istore (lv' := [(7, .int (nI (n + j))), (8, .int (zm_price (s_tars s) x.2.2.2.2 x.2.2.2.1 v.2.1.1 v.2.1.2.1 (nI (n + j)))), (10, .int (zm_price (s_tars s) x.2.2.2.2 x.2.2.2.1 v.2.1.1 v.2.1.2.1 (nI (n + j)))), (6, .int (zm_price (s_tars s) x.2.2.2.2 x.2.2.2.1 v.2.1.1 v.2.1.2.1 (nI (n + j)))), (9, .int (nI (n + j))), (5, .int fr), (4, .ref x.1), (3, .ref v.1), (0, .ref (z_b G)), (1, .int (nI iv)), (2, .int (nI i))]) hX (by decide) rfl dX8_bestMinute_174 ?_
            refine r_iinc (q := 4) (lv' := [(9, .int ((nI (n + j)) + 1)), (7, .int (nI (n + j))), (8, .int (zm_price (s_tars s) x.2.2.2.2 x.2.2.2.1 v.2.1.1 v.2.1.2.1 (nI (n + j)))), (10, .int (zm_price (s_tars s) x.2.2.2.2 x.2.2.2.1 v.2.1.1 v.2.1.2.1 (nI (n + j)))), (6, .int (zm_price (s_tars s) x.2.2.2.2 x.2.2.2.1 v.2.1.1 v.2.1.2.1 (nI (n + j)))), (5, .int fr), (4, .ref x.1), (3, .ref v.1), (0, .ref (z_b G)), (1, .int (nI iv)), (2, .int (nI i))]) hX rfl rfl (by decide) rfl dX8_bestMinute_176 ?_
            refine r_goto (tgt := 78) hX rfl dX8_bestMinute_179 ?_
            refine r_lv [0, 2, 1, 4, 5, 6, 7, 8, 9, 10] (lv2 := [(9, .int (nI (n + j) + 1)), (8, .int (zm_price (s_tars s) x.2.2.2.2 x.2.2.2.1 v.2.1.1 v.2.1.2.1 (nI (n + j)))), (7, .int (nI (n + j))), (6, .int (zm_price (s_tars s) x.2.2.2.2 x.2.2.2.1 v.2.1.1 v.2.1.2.1 (nI (n + j)))), (5, .int fr), (4, .ref x.1), (3, .ref v.1), (0, .ref (z_b G)), (1, .int (nI iv)), (2, .int (nI i))]) rfl ?_
            rw [nI_1, show n + j + 1 = n + (j + 1) by omega]
            exact ih (j + 1) _ _ _ (by omega) (by omega) (hle)
    · skip
      refine r_iload hX 0 rfl dX8_bestMinute_100 ?_
      refine r_bipush (v := 60) hX (by decide) dX8_bestMinute_102 ?_
      refine r_irem hX (by decide) dX8_bestMinute_104 ?_
      refine r_if_ne (tgt := 129) hX dX8_bestMinute_105 rfl (fun c105 => ?_) (fun c105 => ?_)
      · skip
        refine r_iload hX 4 rfl dX8_bestMinute_129 ?_
        refine r_if_ne (tgt := 144) hX dX8_bestMinute_131 rfl (fun c131 => ?_) (fun c131 => ?_)
        · skip
          refine r_iconst (v := 0) hX (by decide) dX8_bestMinute_144 ?_
          refine r_goto (tgt := 150) hX rfl dX8_bestMinute_145 ?_
          refine r_istore (lv' := [(10, .int 0), (9, .int (nI (n + j))), (8, .int least), (7, .int best), (6, .int pr), (5, .int fr), (4, .ref x.1), (3, .ref v.1), (0, .ref (z_b G)), (1, .int (nI iv)), (2, .int (nI i))]) hX (by decide) rfl dX8_bestMinute_150 ?_
          refine r_iload hX 1 rfl dX8_bestMinute_152 ?_
          refine r_aload_n hX rfl 8 rfl dX8_bestMinute_154 ?_
          refine r_getf hX fl_X8_139 hha rfl dX8_bestMinute_155 ?_
          refine r_icmp_eq (tgt := 168) hX dX8_bestMinute_158 rfl (fun c158 => ?_) (fun c158 => ?_)
          · skip
            refine r_iload hX 0 rfl dX8_bestMinute_168 ?_
            refine r_istore (lv' := [(8, .int 0), (10, .int 0), (9, .int (nI (n + j))), (7, .int best), (6, .int pr), (5, .int fr), (4, .ref x.1), (3, .ref v.1), (0, .ref (z_b G)), (1, .int (nI iv)), (2, .int (nI i))]) hX (by decide) rfl dX8_bestMinute_170 ?_
            refine r_iload hX 2 rfl dX8_bestMinute_172 ?_
            refine r_istore (lv' := [(7, .int (nI (n + j))), (8, .int 0), (10, .int 0), (9, .int (nI (n + j))), (6, .int pr), (5, .int fr), (4, .ref x.1), (3, .ref v.1), (0, .ref (z_b G)), (1, .int (nI iv)), (2, .int (nI i))]) hX (by decide) rfl dX8_bestMinute_174 ?_
            refine r_iinc (q := 3) (lv' := [(9, .int ((nI (n + j)) + 1)), (7, .int (nI (n + j))), (8, .int 0), (10, .int 0), (6, .int pr), (5, .int fr), (4, .ref x.1), (3, .ref v.1), (0, .ref (z_b G)), (1, .int (nI iv)), (2, .int (nI i))]) hX rfl rfl (by decide) rfl dX8_bestMinute_176 ?_
            refine r_goto (tgt := 78) hX rfl dX8_bestMinute_179 ?_
            refine r_lv [0, 2, 1, 4, 5, 6, 7, 8, 9, 10] (lv2 := [(9, .int (nI (n + j) + 1)), (8, .int 0), (7, .int (nI (n + j))), (6, .int pr), (5, .int fr), (4, .ref x.1), (3, .ref v.1), (0, .ref (z_b G)), (1, .int (nI iv)), (2, .int (nI i))]) rfl ?_
            rw [nI_1, show n + j + 1 = n + (j + 1) by omega]
            exact ih (j + 1) _ _ _ (by omega) (by omega) (hle)
          · skip
            refine r_iload hX 0 rfl dX8_bestMinute_161 ?_
            refine r_iload hX 2 rfl dX8_bestMinute_163 ?_
            refine r_icmp_ge (tgt := 176) hX dX8_bestMinute_165 rfl (fun c165 => ?_) (fun c165 => ?_)
            · skip
              refine r_iinc (q := 1) (lv' := [(9, .int ((nI (n + j)) + 1)), (10, .int 0), (8, .int least), (7, .int best), (6, .int pr), (5, .int fr), (4, .ref x.1), (3, .ref v.1), (0, .ref (z_b G)), (1, .int (nI iv)), (2, .int (nI i))]) hX rfl rfl (by decide) rfl dX8_bestMinute_176 ?_
              refine r_goto (tgt := 78) hX rfl dX8_bestMinute_179 ?_
              refine r_lv [0, 2, 3, 4, 5, 6, 7, 8, 9, 10] (lv2 := [(9, .int (nI (n + j) + 1)), (8, .int least), (7, .int best), (6, .int pr), (5, .int fr), (4, .ref x.1), (3, .ref v.1), (0, .ref (z_b G)), (1, .int (nI iv)), (2, .int (nI i))]) rfl ?_
              rw [nI_1, show n + j + 1 = n + (j + 1) by omega]
              exact ih (j + 1) _ _ _ (by omega) (by omega) (hinv)
            · skip
              refine r_iload hX 0 rfl dX8_bestMinute_168 ?_
              refine r_istore (lv' := [(8, .int 0), (10, .int 0), (9, .int (nI (n + j))), (7, .int best), (6, .int pr), (5, .int fr), (4, .ref x.1), (3, .ref v.1), (0, .ref (z_b G)), (1, .int (nI iv)), (2, .int (nI i))]) hX (by decide) rfl dX8_bestMinute_170 ?_
              refine r_iload hX 2 rfl dX8_bestMinute_172 ?_
              refine r_istore (lv' := [(7, .int (nI (n + j))), (8, .int 0), (10, .int 0), (9, .int (nI (n + j))), (6, .int pr), (5, .int fr), (4, .ref x.1), (3, .ref v.1), (0, .ref (z_b G)), (1, .int (nI iv)), (2, .int (nI i))]) hX (by decide) rfl dX8_bestMinute_174 ?_
              refine r_iinc (q := 3) (lv' := [(9, .int ((nI (n + j)) + 1)), (7, .int (nI (n + j))), (8, .int 0), (10, .int 0), (6, .int pr), (5, .int fr), (4, .ref x.1), (3, .ref v.1), (0, .ref (z_b G)), (1, .int (nI iv)), (2, .int (nI i))]) hX rfl rfl (by decide) rfl dX8_bestMinute_176 ?_
              refine r_goto (tgt := 78) hX rfl dX8_bestMinute_179 ?_
              refine r_lv [0, 2, 1, 4, 5, 6, 7, 8, 9, 10] (lv2 := [(9, .int (nI (n + j) + 1)), (8, .int 0), (7, .int (nI (n + j))), (6, .int pr), (5, .int fr), (4, .ref x.1), (3, .ref v.1), (0, .ref (z_b G)), (1, .int (nI iv)), (2, .int (nI i))]) rfl ?_
              rw [nI_1, show n + j + 1 = n + (j + 1) by omega]
              exact ih (j + 1) _ _ _ (by omega) (by omega) (hle)
        · skip
          refine r_aload hX 5 rfl dX8_bestMinute_134 ?_
          refine r_iload hX 0 rfl dX8_bestMinute_136 ?_
          refine r_callVR (As := [.int (nI (n + j))]) (rest := []) (rv := some (.int 0)) (st1 := [.int 0]) hX cs_X8_243 (by decide) (fun l => c_X3_isShut l G h top x i hxs (nI (n + j))) hxs rfl rfl rfl rfl (Nat.le_of_ble_eq_true rfl) dX8_bestMinute_138 ?_
          refine r_if_eq (tgt := 148) hX dX8_bestMinute_141 rfl (fun _ => ?_) (fun c => False.elim (absurd c (by decide)))
          refine r_iload hX 3 rfl dX8_bestMinute_148 ?_
          refine r_istore (lv' := [(10, .int pr), (9, .int (nI (n + j))), (8, .int least), (7, .int best), (6, .int pr), (5, .int fr), (4, .ref x.1), (3, .ref v.1), (0, .ref (z_b G)), (1, .int (nI iv)), (2, .int (nI i))]) hX (by decide) rfl dX8_bestMinute_150 ?_
          refine r_iload hX 1 rfl dX8_bestMinute_152 ?_
          refine r_aload_n hX rfl 8 rfl dX8_bestMinute_154 ?_
          refine r_getf hX fl_X8_139 hha rfl dX8_bestMinute_155 ?_
          refine r_icmp_eq (tgt := 168) hX dX8_bestMinute_158 rfl (fun c158 => ?_) (fun c158 => ?_)
          · skip
            refine r_iload hX 0 rfl dX8_bestMinute_168 ?_
            refine r_istore (lv' := [(8, .int pr), (10, .int pr), (9, .int (nI (n + j))), (7, .int best), (6, .int pr), (5, .int fr), (4, .ref x.1), (3, .ref v.1), (0, .ref (z_b G)), (1, .int (nI iv)), (2, .int (nI i))]) hX (by decide) rfl dX8_bestMinute_170 ?_
            refine r_iload hX 2 rfl dX8_bestMinute_172 ?_
            refine r_istore (lv' := [(7, .int (nI (n + j))), (8, .int pr), (10, .int pr), (9, .int (nI (n + j))), (6, .int pr), (5, .int fr), (4, .ref x.1), (3, .ref v.1), (0, .ref (z_b G)), (1, .int (nI iv)), (2, .int (nI i))]) hX (by decide) rfl dX8_bestMinute_174 ?_
            refine r_iinc (q := 3) (lv' := [(9, .int ((nI (n + j)) + 1)), (7, .int (nI (n + j))), (8, .int pr), (10, .int pr), (6, .int pr), (5, .int fr), (4, .ref x.1), (3, .ref v.1), (0, .ref (z_b G)), (1, .int (nI iv)), (2, .int (nI i))]) hX rfl rfl (by decide) rfl dX8_bestMinute_176 ?_
            refine r_goto (tgt := 78) hX rfl dX8_bestMinute_179 ?_
            refine r_lv [0, 2, 1, 4, 5, 6, 7, 8, 9, 10] (lv2 := [(9, .int (nI (n + j) + 1)), (8, .int pr), (7, .int (nI (n + j))), (6, .int pr), (5, .int fr), (4, .ref x.1), (3, .ref v.1), (0, .ref (z_b G)), (1, .int (nI iv)), (2, .int (nI i))]) rfl ?_
            rw [nI_1, show n + j + 1 = n + (j + 1) by omega]
            exact ih (j + 1) _ _ _ (by omega) (by omega) (hle)
          · skip
            refine r_iload hX 0 rfl dX8_bestMinute_161 ?_
            refine r_iload hX 2 rfl dX8_bestMinute_163 ?_
            refine r_icmp_ge (tgt := 176) hX dX8_bestMinute_165 rfl (fun c165 => ?_) (fun c165 => ?_)
            · skip
              refine r_iinc (q := 1) (lv' := [(9, .int ((nI (n + j)) + 1)), (10, .int pr), (8, .int least), (7, .int best), (6, .int pr), (5, .int fr), (4, .ref x.1), (3, .ref v.1), (0, .ref (z_b G)), (1, .int (nI iv)), (2, .int (nI i))]) hX rfl rfl (by decide) rfl dX8_bestMinute_176 ?_
              refine r_goto (tgt := 78) hX rfl dX8_bestMinute_179 ?_
              refine r_lv [0, 2, 3, 4, 5, 6, 7, 8, 9, 10] (lv2 := [(9, .int (nI (n + j) + 1)), (8, .int least), (7, .int best), (6, .int pr), (5, .int fr), (4, .ref x.1), (3, .ref v.1), (0, .ref (z_b G)), (1, .int (nI iv)), (2, .int (nI i))]) rfl ?_
              rw [nI_1, show n + j + 1 = n + (j + 1) by omega]
              exact ih (j + 1) _ _ _ (by omega) (by omega) (hinv)
            · skip
              refine r_iload hX 0 rfl dX8_bestMinute_168 ?_
              refine r_istore (lv' := [(8, .int pr), (10, .int pr), (9, .int (nI (n + j))), (7, .int best), (6, .int pr), (5, .int fr), (4, .ref x.1), (3, .ref v.1), (0, .ref (z_b G)), (1, .int (nI iv)), (2, .int (nI i))]) hX (by decide) rfl dX8_bestMinute_170 ?_
              refine r_iload hX 2 rfl dX8_bestMinute_172 ?_
              refine r_istore (lv' := [(7, .int (nI (n + j))), (8, .int pr), (10, .int pr), (9, .int (nI (n + j))), (6, .int pr), (5, .int fr), (4, .ref x.1), (3, .ref v.1), (0, .ref (z_b G)), (1, .int (nI iv)), (2, .int (nI i))]) hX (by decide) rfl dX8_bestMinute_174 ?_
              refine r_iinc (q := 3) (lv' := [(9, .int ((nI (n + j)) + 1)), (7, .int (nI (n + j))), (8, .int pr), (10, .int pr), (6, .int pr), (5, .int fr), (4, .ref x.1), (3, .ref v.1), (0, .ref (z_b G)), (1, .int (nI iv)), (2, .int (nI i))]) hX rfl rfl (by decide) rfl dX8_bestMinute_176 ?_
              refine r_goto (tgt := 78) hX rfl dX8_bestMinute_179 ?_
              refine r_lv [0, 2, 1, 4, 5, 6, 7, 8, 9, 10] (lv2 := [(9, .int (nI (n + j) + 1)), (8, .int pr), (7, .int (nI (n + j))), (6, .int pr), (5, .int fr), (4, .ref x.1), (3, .ref v.1), (0, .ref (z_b G)), (1, .int (nI iv)), (2, .int (nI i))]) rfl ?_
              rw [nI_1, show n + j + 1 = n + (j + 1) by omega]
              exact ih (j + 1) _ _ _ (by omega) (by omega) (hle)
      · skip
        refine r_aload_n hX rfl 7 rfl dX8_bestMinute_108 ?_
        refine r_getf hX fl_X8_25 hha rfl dX8_bestMinute_109 ?_
        refine r_aload hX 5 rfl dX8_bestMinute_112 ?_
        refine r_aload_n hX rfl 6 rfl dX8_bestMinute_114 ?_
        refine r_getf hX fl_X8_201 hvs rfl dX8_bestMinute_115 ?_
        refine r_aload_n hX rfl 6 rfl dX8_bestMinute_118 ?_
        refine r_getf hX fl_X8_246 hvs rfl dX8_bestMinute_119 ?_
        refine r_iload hX 0 rfl dX8_bestMinute_122 ?_
        refine r_callVR (As := [.ref x.1, .int v.2.1.1, .int v.2.1.2.1, .int (nI (n + j))]) (rest := []) (rv := some (.int (zm_price (s_tars s) x.2.2.2.2 x.2.2.2.1 v.2.1.1 v.2.1.2.1 (nI (n + j))))) (st1 := [.int (zm_price (s_tars s) x.2.2.2.2 x.2.2.2.1 v.2.1.1 v.2.1.2.1 (nI (n + j)))]) hX cs_X8_318 (by decide) (fun l => c_price l G h top (z_b G + 4) (z_b G + 5) (z_b G + 6) (s_tars s) (b_ls be 3).1 (b_ls be 3).2.1 (b_ls be 3).2.2 H.tfs H.l3 (fun i t ht => H.tar ht) H.hol x i hxs v.2.1.1 v.2.1.2.1 (nI (n + j))) htf rfl rfl rfl rfl (Nat.le_of_ble_eq_true rfl) dX8_bestMinute_124 ?_
        refine r_istore (lv' := [(6, .int (zm_price (s_tars s) x.2.2.2.2 x.2.2.2.1 v.2.1.1 v.2.1.2.1 (nI (n + j)))), (9, .int (nI (n + j))), (8, .int least), (7, .int best), (5, .int fr), (4, .ref x.1), (3, .ref v.1), (0, .ref (z_b G)), (1, .int (nI iv)), (2, .int (nI i))]) hX (by decide) rfl dX8_bestMinute_127 ?_
        refine r_iload hX 4 rfl dX8_bestMinute_129 ?_
        refine r_if_ne (tgt := 144) hX dX8_bestMinute_131 rfl (fun c131 => ?_) (fun c131 => ?_)
        · skip
          refine r_iconst (v := 0) hX (by decide) dX8_bestMinute_144 ?_
          refine r_goto (tgt := 150) hX rfl dX8_bestMinute_145 ?_
          refine r_istore (lv' := [(10, .int 0), (6, .int (zm_price (s_tars s) x.2.2.2.2 x.2.2.2.1 v.2.1.1 v.2.1.2.1 (nI (n + j)))), (9, .int (nI (n + j))), (8, .int least), (7, .int best), (5, .int fr), (4, .ref x.1), (3, .ref v.1), (0, .ref (z_b G)), (1, .int (nI iv)), (2, .int (nI i))]) hX (by decide) rfl dX8_bestMinute_150 ?_
          refine r_iload hX 2 rfl dX8_bestMinute_152 ?_
          refine r_aload_n hX rfl 8 rfl dX8_bestMinute_154 ?_
          refine r_getf hX fl_X8_139 hha rfl dX8_bestMinute_155 ?_
          refine r_icmp_eq (tgt := 168) hX dX8_bestMinute_158 rfl (fun c158 => ?_) (fun c158 => ?_)
          · skip
            refine r_iload hX 0 rfl dX8_bestMinute_168 ?_
            refine r_istore (lv' := [(8, .int 0), (10, .int 0), (6, .int (zm_price (s_tars s) x.2.2.2.2 x.2.2.2.1 v.2.1.1 v.2.1.2.1 (nI (n + j)))), (9, .int (nI (n + j))), (7, .int best), (5, .int fr), (4, .ref x.1), (3, .ref v.1), (0, .ref (z_b G)), (1, .int (nI iv)), (2, .int (nI i))]) hX (by decide) rfl dX8_bestMinute_170 ?_
            refine r_iload hX 3 rfl dX8_bestMinute_172 ?_
            refine r_istore (lv' := [(7, .int (nI (n + j))), (8, .int 0), (10, .int 0), (6, .int (zm_price (s_tars s) x.2.2.2.2 x.2.2.2.1 v.2.1.1 v.2.1.2.1 (nI (n + j)))), (9, .int (nI (n + j))), (5, .int fr), (4, .ref x.1), (3, .ref v.1), (0, .ref (z_b G)), (1, .int (nI iv)), (2, .int (nI i))]) hX (by decide) rfl dX8_bestMinute_174 ?_
            refine r_iinc (q := 4) (lv' := [(9, .int ((nI (n + j)) + 1)), (7, .int (nI (n + j))), (8, .int 0), (10, .int 0), (6, .int (zm_price (s_tars s) x.2.2.2.2 x.2.2.2.1 v.2.1.1 v.2.1.2.1 (nI (n + j)))), (5, .int fr), (4, .ref x.1), (3, .ref v.1), (0, .ref (z_b G)), (1, .int (nI iv)), (2, .int (nI i))]) hX rfl rfl (by decide) rfl dX8_bestMinute_176 ?_
            refine r_goto (tgt := 78) hX rfl dX8_bestMinute_179 ?_
            refine r_lv [0, 2, 1, 4, 5, 6, 7, 8, 9, 10] (lv2 := [(9, .int (nI (n + j) + 1)), (8, .int 0), (7, .int (nI (n + j))), (6, .int (zm_price (s_tars s) x.2.2.2.2 x.2.2.2.1 v.2.1.1 v.2.1.2.1 (nI (n + j)))), (5, .int fr), (4, .ref x.1), (3, .ref v.1), (0, .ref (z_b G)), (1, .int (nI iv)), (2, .int (nI i))]) rfl ?_
            rw [nI_1, show n + j + 1 = n + (j + 1) by omega]
            exact ih (j + 1) _ _ _ (by omega) (by omega) (hle)
          · skip
            refine r_iload hX 0 rfl dX8_bestMinute_161 ?_
            refine r_iload hX 3 rfl dX8_bestMinute_163 ?_
            refine r_icmp_ge (tgt := 176) hX dX8_bestMinute_165 rfl (fun c165 => ?_) (fun c165 => ?_)
            · skip
              refine r_iinc (q := 2) (lv' := [(9, .int ((nI (n + j)) + 1)), (10, .int 0), (6, .int (zm_price (s_tars s) x.2.2.2.2 x.2.2.2.1 v.2.1.1 v.2.1.2.1 (nI (n + j)))), (8, .int least), (7, .int best), (5, .int fr), (4, .ref x.1), (3, .ref v.1), (0, .ref (z_b G)), (1, .int (nI iv)), (2, .int (nI i))]) hX rfl rfl (by decide) rfl dX8_bestMinute_176 ?_
              refine r_goto (tgt := 78) hX rfl dX8_bestMinute_179 ?_
              refine r_lv [0, 3, 4, 2, 5, 6, 7, 8, 9, 10] (lv2 := [(9, .int (nI (n + j) + 1)), (8, .int least), (7, .int best), (6, .int (zm_price (s_tars s) x.2.2.2.2 x.2.2.2.1 v.2.1.1 v.2.1.2.1 (nI (n + j)))), (5, .int fr), (4, .ref x.1), (3, .ref v.1), (0, .ref (z_b G)), (1, .int (nI iv)), (2, .int (nI i))]) rfl ?_
              rw [nI_1, show n + j + 1 = n + (j + 1) by omega]
              exact ih (j + 1) _ _ _ (by omega) (by omega) (hinv)
            · skip
              refine r_iload hX 0 rfl dX8_bestMinute_168 ?_
              refine r_istore (lv' := [(8, .int 0), (10, .int 0), (6, .int (zm_price (s_tars s) x.2.2.2.2 x.2.2.2.1 v.2.1.1 v.2.1.2.1 (nI (n + j)))), (9, .int (nI (n + j))), (7, .int best), (5, .int fr), (4, .ref x.1), (3, .ref v.1), (0, .ref (z_b G)), (1, .int (nI iv)), (2, .int (nI i))]) hX (by decide) rfl dX8_bestMinute_170 ?_
              refine r_iload hX 3 rfl dX8_bestMinute_172 ?_
              refine r_istore (lv' := [(7, .int (nI (n + j))), (8, .int 0), (10, .int 0), (6, .int (zm_price (s_tars s) x.2.2.2.2 x.2.2.2.1 v.2.1.1 v.2.1.2.1 (nI (n + j)))), (9, .int (nI (n + j))), (5, .int fr), (4, .ref x.1), (3, .ref v.1), (0, .ref (z_b G)), (1, .int (nI iv)), (2, .int (nI i))]) hX (by decide) rfl dX8_bestMinute_174 ?_
              refine r_iinc (q := 4) (lv' := [(9, .int ((nI (n + j)) + 1)), (7, .int (nI (n + j))), (8, .int 0), (10, .int 0), (6, .int (zm_price (s_tars s) x.2.2.2.2 x.2.2.2.1 v.2.1.1 v.2.1.2.1 (nI (n + j)))), (5, .int fr), (4, .ref x.1), (3, .ref v.1), (0, .ref (z_b G)), (1, .int (nI iv)), (2, .int (nI i))]) hX rfl rfl (by decide) rfl dX8_bestMinute_176 ?_
              refine r_goto (tgt := 78) hX rfl dX8_bestMinute_179 ?_
              refine r_lv [0, 2, 1, 4, 5, 6, 7, 8, 9, 10] (lv2 := [(9, .int (nI (n + j) + 1)), (8, .int 0), (7, .int (nI (n + j))), (6, .int (zm_price (s_tars s) x.2.2.2.2 x.2.2.2.1 v.2.1.1 v.2.1.2.1 (nI (n + j)))), (5, .int fr), (4, .ref x.1), (3, .ref v.1), (0, .ref (z_b G)), (1, .int (nI iv)), (2, .int (nI i))]) rfl ?_
              rw [nI_1, show n + j + 1 = n + (j + 1) by omega]
              exact ih (j + 1) _ _ _ (by omega) (by omega) (hle)
        · skip
          refine r_aload hX 5 rfl dX8_bestMinute_134 ?_
          refine r_iload hX 1 rfl dX8_bestMinute_136 ?_
          refine r_callVR (As := [.int (nI (n + j))]) (rest := []) (rv := some (.int 0)) (st1 := [.int 0]) hX cs_X8_243 (by decide) (fun l => c_X3_isShut l G h top x i hxs (nI (n + j))) hxs rfl rfl rfl rfl (Nat.le_of_ble_eq_true rfl) dX8_bestMinute_138 ?_
          refine r_if_eq (tgt := 148) hX dX8_bestMinute_141 rfl (fun _ => ?_) (fun c => False.elim (absurd c (by decide)))
          refine r_iload hX 0 rfl dX8_bestMinute_148 ?_
          refine r_istore (lv' := [(10, .int (zm_price (s_tars s) x.2.2.2.2 x.2.2.2.1 v.2.1.1 v.2.1.2.1 (nI (n + j)))), (6, .int (zm_price (s_tars s) x.2.2.2.2 x.2.2.2.1 v.2.1.1 v.2.1.2.1 (nI (n + j)))), (9, .int (nI (n + j))), (8, .int least), (7, .int best), (5, .int fr), (4, .ref x.1), (3, .ref v.1), (0, .ref (z_b G)), (1, .int (nI iv)), (2, .int (nI i))]) hX (by decide) rfl dX8_bestMinute_150 ?_
          refine r_iload hX 2 rfl dX8_bestMinute_152 ?_
          refine r_aload_n hX rfl 8 rfl dX8_bestMinute_154 ?_
          refine r_getf hX fl_X8_139 hha rfl dX8_bestMinute_155 ?_
          refine r_icmp_eq (tgt := 168) hX dX8_bestMinute_158 rfl (fun c158 => ?_) (fun c158 => ?_)
          · skip
            refine r_iload hX 0 rfl dX8_bestMinute_168 ?_
            refine r_istore (lv' := [(8, .int (zm_price (s_tars s) x.2.2.2.2 x.2.2.2.1 v.2.1.1 v.2.1.2.1 (nI (n + j)))), (10, .int (zm_price (s_tars s) x.2.2.2.2 x.2.2.2.1 v.2.1.1 v.2.1.2.1 (nI (n + j)))), (6, .int (zm_price (s_tars s) x.2.2.2.2 x.2.2.2.1 v.2.1.1 v.2.1.2.1 (nI (n + j)))), (9, .int (nI (n + j))), (7, .int best), (5, .int fr), (4, .ref x.1), (3, .ref v.1), (0, .ref (z_b G)), (1, .int (nI iv)), (2, .int (nI i))]) hX (by decide) rfl dX8_bestMinute_170 ?_
            refine r_iload hX 3 rfl dX8_bestMinute_172 ?_
            refine r_istore (lv' := [(7, .int (nI (n + j))), (8, .int (zm_price (s_tars s) x.2.2.2.2 x.2.2.2.1 v.2.1.1 v.2.1.2.1 (nI (n + j)))), (10, .int (zm_price (s_tars s) x.2.2.2.2 x.2.2.2.1 v.2.1.1 v.2.1.2.1 (nI (n + j)))), (6, .int (zm_price (s_tars s) x.2.2.2.2 x.2.2.2.1 v.2.1.1 v.2.1.2.1 (nI (n + j)))), (9, .int (nI (n + j))), (5, .int fr), (4, .ref x.1), (3, .ref v.1), (0, .ref (z_b G)), (1, .int (nI iv)), (2, .int (nI i))]) hX (by decide) rfl dX8_bestMinute_174 ?_
            refine r_iinc (q := 4) (lv' := [(9, .int ((nI (n + j)) + 1)), (7, .int (nI (n + j))), (8, .int (zm_price (s_tars s) x.2.2.2.2 x.2.2.2.1 v.2.1.1 v.2.1.2.1 (nI (n + j)))), (10, .int (zm_price (s_tars s) x.2.2.2.2 x.2.2.2.1 v.2.1.1 v.2.1.2.1 (nI (n + j)))), (6, .int (zm_price (s_tars s) x.2.2.2.2 x.2.2.2.1 v.2.1.1 v.2.1.2.1 (nI (n + j)))), (5, .int fr), (4, .ref x.1), (3, .ref v.1), (0, .ref (z_b G)), (1, .int (nI iv)), (2, .int (nI i))]) hX rfl rfl (by decide) rfl dX8_bestMinute_176 ?_
            refine r_goto (tgt := 78) hX rfl dX8_bestMinute_179 ?_
            refine r_lv [0, 2, 1, 4, 5, 6, 7, 8, 9, 10] (lv2 := [(9, .int (nI (n + j) + 1)), (8, .int (zm_price (s_tars s) x.2.2.2.2 x.2.2.2.1 v.2.1.1 v.2.1.2.1 (nI (n + j)))), (7, .int (nI (n + j))), (6, .int (zm_price (s_tars s) x.2.2.2.2 x.2.2.2.1 v.2.1.1 v.2.1.2.1 (nI (n + j)))), (5, .int fr), (4, .ref x.1), (3, .ref v.1), (0, .ref (z_b G)), (1, .int (nI iv)), (2, .int (nI i))]) rfl ?_
            rw [nI_1, show n + j + 1 = n + (j + 1) by omega]
            exact ih (j + 1) _ _ _ (by omega) (by omega) (hle)
          · skip
            refine r_iload hX 0 rfl dX8_bestMinute_161 ?_
            refine r_iload hX 3 rfl dX8_bestMinute_163 ?_
            refine r_icmp_ge (tgt := 176) hX dX8_bestMinute_165 rfl (fun c165 => ?_) (fun c165 => ?_)
            · skip
              refine r_iinc (q := 2) (lv' := [(9, .int ((nI (n + j)) + 1)), (10, .int (zm_price (s_tars s) x.2.2.2.2 x.2.2.2.1 v.2.1.1 v.2.1.2.1 (nI (n + j)))), (6, .int (zm_price (s_tars s) x.2.2.2.2 x.2.2.2.1 v.2.1.1 v.2.1.2.1 (nI (n + j)))), (8, .int least), (7, .int best), (5, .int fr), (4, .ref x.1), (3, .ref v.1), (0, .ref (z_b G)), (1, .int (nI iv)), (2, .int (nI i))]) hX rfl rfl (by decide) rfl dX8_bestMinute_176 ?_
              refine r_goto (tgt := 78) hX rfl dX8_bestMinute_179 ?_
              refine r_lv [0, 3, 4, 2, 5, 6, 7, 8, 9, 10] (lv2 := [(9, .int (nI (n + j) + 1)), (8, .int least), (7, .int best), (6, .int (zm_price (s_tars s) x.2.2.2.2 x.2.2.2.1 v.2.1.1 v.2.1.2.1 (nI (n + j)))), (5, .int fr), (4, .ref x.1), (3, .ref v.1), (0, .ref (z_b G)), (1, .int (nI iv)), (2, .int (nI i))]) rfl ?_
              rw [nI_1, show n + j + 1 = n + (j + 1) by omega]
              exact ih (j + 1) _ _ _ (by omega) (by omega) (hinv)
            · skip
              refine r_iload hX 0 rfl dX8_bestMinute_168 ?_
              refine r_istore (lv' := [(8, .int (zm_price (s_tars s) x.2.2.2.2 x.2.2.2.1 v.2.1.1 v.2.1.2.1 (nI (n + j)))), (10, .int (zm_price (s_tars s) x.2.2.2.2 x.2.2.2.1 v.2.1.1 v.2.1.2.1 (nI (n + j)))), (6, .int (zm_price (s_tars s) x.2.2.2.2 x.2.2.2.1 v.2.1.1 v.2.1.2.1 (nI (n + j)))), (9, .int (nI (n + j))), (7, .int best), (5, .int fr), (4, .ref x.1), (3, .ref v.1), (0, .ref (z_b G)), (1, .int (nI iv)), (2, .int (nI i))]) hX (by decide) rfl dX8_bestMinute_170 ?_
              refine r_iload hX 3 rfl dX8_bestMinute_172 ?_
              refine r_istore (lv' := [(7, .int (nI (n + j))), (8, .int (zm_price (s_tars s) x.2.2.2.2 x.2.2.2.1 v.2.1.1 v.2.1.2.1 (nI (n + j)))), (10, .int (zm_price (s_tars s) x.2.2.2.2 x.2.2.2.1 v.2.1.1 v.2.1.2.1 (nI (n + j)))), (6, .int (zm_price (s_tars s) x.2.2.2.2 x.2.2.2.1 v.2.1.1 v.2.1.2.1 (nI (n + j)))), (9, .int (nI (n + j))), (5, .int fr), (4, .ref x.1), (3, .ref v.1), (0, .ref (z_b G)), (1, .int (nI iv)), (2, .int (nI i))]) hX (by decide) rfl dX8_bestMinute_174 ?_
              refine r_iinc (q := 4) (lv' := [(9, .int ((nI (n + j)) + 1)), (7, .int (nI (n + j))), (8, .int (zm_price (s_tars s) x.2.2.2.2 x.2.2.2.1 v.2.1.1 v.2.1.2.1 (nI (n + j)))), (10, .int (zm_price (s_tars s) x.2.2.2.2 x.2.2.2.1 v.2.1.1 v.2.1.2.1 (nI (n + j)))), (6, .int (zm_price (s_tars s) x.2.2.2.2 x.2.2.2.1 v.2.1.1 v.2.1.2.1 (nI (n + j)))), (5, .int fr), (4, .ref x.1), (3, .ref v.1), (0, .ref (z_b G)), (1, .int (nI iv)), (2, .int (nI i))]) hX rfl rfl (by decide) rfl dX8_bestMinute_176 ?_
              refine r_goto (tgt := 78) hX rfl dX8_bestMinute_179 ?_
              refine r_lv [0, 2, 1, 4, 5, 6, 7, 8, 9, 10] (lv2 := [(9, .int (nI (n + j) + 1)), (8, .int (zm_price (s_tars s) x.2.2.2.2 x.2.2.2.1 v.2.1.1 v.2.1.2.1 (nI (n + j)))), (7, .int (nI (n + j))), (6, .int (zm_price (s_tars s) x.2.2.2.2 x.2.2.2.1 v.2.1.1 v.2.1.2.1 (nI (n + j)))), (5, .int fr), (4, .ref x.1), (3, .ref v.1), (0, .ref (z_b G)), (1, .int (nI iv)), (2, .int (nI i))]) rfl ?_
              rw [nI_1, show n + j + 1 = n + (j + 1) by omega]
              exact ih (j + 1) _ _ _ (by omega) (by omega) (hle)

theorem f_bm {X : zX} {G : zG} {h : zH} {top : Nat} {Post : Option Value → zH → Nat → Prop} (s : zS) (be : zB) (H : z_St G s be h top) (iv : Nat) (v : zVeh) (hv : (s_vehs s)[iv]? = some v) (i : Nat) (x : zSeg) (hx : (s_segs s)[i]? = some x) (n : Nat) (hn : s_now s = nI n) (hn6 : n ≤ 60000) (fr : Int32) (hp : ∀ m : Int32, s_now s ≤ m → Post (some (.int m)) h top) (hX : z_ok X cX8_bestMinute 11 RX8 (some .int) "bestMinute" 6 G) (hq : z_mq X Post) : ∀ (k j : Nat) (pr least best : Int32), 1440 - j < k → j ≤ 1440 → (s_now s ≤ best) → z_Z X h top 78 [(9, .int (nI (n + j))), (8, .int least), (7, .int best), (6, .int pr), (5, .int fr), (4, .ref x.1), (3, .ref v.1), (0, .ref (z_b G)), (1, .int (nI iv)), (2, .int (nI i))] [] := by
  intro k
  induction k with
  | zero => intros; omega
  | succ k ih => intro j pr least best hk hi hinv; exact f_bm_step s be H iv v hv i x hx n hn hn6 fr hp k j pr least best hk hi hinv ih hX hq
set_option maxRecDepth 20000 in
set_option maxHeartbeats 4000000 in
theorem c_X8_bestMinute (l : Launch) (G : zG) (h : zH) (top : Nat) (s : zS) (be : zB) (H : z_St G s be h top) (iv : Nat) (v : zVeh) (hv : (s_vehs s)[iv]? = some v) (i : Nat) (x : zSeg) (hx : (s_segs s)[i]? = some x) (n : Nat) (hn : s_now s = nI n) (hn6 : n ≤ 60000) : z_Ct l yX8_bestMinute cX8_bestMinute 11 (some .int) 6 G [.ref (z_b G), .int (nI iv), .int (nI i)] h top (fun r h' top' => ∃ m : Int32, r = some (.int m) ∧ s_now s ≤ m ∧ h' = h ∧ top' = top) := by
  refine z_of (own := RX8) (nm := "bestMinute") (by decide) rfl rfl (by decide) (Nat.le_of_ble_eq_true rfl) (fun X hX hq => ?_)
  replace hX : z_ok X cX8_bestMinute 11 RX8 (some .int) "bestMinute" 6 G := hX
  show z_Z X h top 0 [(0, .ref (z_b G)), (1, .int (nI iv)), (2, .int (nI i))] []
  have hha := H.hall
  have hbd := H.2.2.1.2.2
  have hl0 := H.l0
  have hl01 := hl0.1
  have hl1 := H.l1
  have hl11 := hl1.1
  have hil : i < (s_segs s).length := (List.getElem?_eq_some_iff.mp hx).1
  have hxs := H.seg hx
  have hvl : iv < (s_vehs s).length := (List.getElem?_eq_some_iff.mp hv).1
  have hvs := H.veh hv
  refine r_aload_n hX rfl 0 rfl dX8_bestMinute_0 ?_
  refine r_iload_n hX rfl 1 rfl dX8_bestMinute_1 ?_
  refine r_callVR (As := [.int (nI iv)]) (rest := []) (rv := some (.int 1)) (st1 := [.int 1]) hX cs_X8_126 (by decide) (fun l => c_X8_isVehicle l G h top s be H iv hvl) hha rfl rfl rfl rfl (Nat.le_of_ble_eq_true rfl) dX8_bestMinute_2 ?_
  refine r_if_eq (tgt := 20) hX dX8_bestMinute_5 rfl (fun c => False.elim (absurd c (by decide))) (fun _ => ?_)
  refine r_aload_n hX rfl 0 rfl dX8_bestMinute_8 ?_
  refine r_iload_n hX rfl 2 rfl dX8_bestMinute_9 ?_
  refine r_callVR (As := [.int (nI i)]) (rest := []) (rv := some (.int 1)) (st1 := [.int 1]) hX cs_X8_85 (by decide) (fun l => c_X8_isSegment l G h top s be H i hil) hha rfl rfl rfl rfl (Nat.le_of_ble_eq_true rfl) dX8_bestMinute_10 ?_
  refine r_if_eq (tgt := 20) hX dX8_bestMinute_13 rfl (fun c => False.elim (absurd c (by decide))) (fun _ => ?_)
  refine r_iconst (v := 1) hX (by decide) dX8_bestMinute_16 ?_
  refine r_goto (tgt := 21) hX rfl dX8_bestMinute_17 ?_
  refine r_callSR (As := [.int 1]) (rest := []) (rv := none) (st1 := []) hX cs_X8_58 (by decide) (fun l => c_X8_needIndex l G h top) rfl rfl rfl (Nat.le_of_ble_eq_true rfl) dX8_bestMinute_21 ?_
  refine r_aload_n hX rfl 0 rfl dX8_bestMinute_24 ?_
  refine r_getf hX fl_X8_16 hha rfl dX8_bestMinute_25 ?_
  refine r_iload_n hX rfl 1 rfl dX8_bestMinute_28 ?_
  refine r_callVR (As := [.int (nI iv)]) (rest := []) (rv := some (.ref v.1)) (st1 := [.ref v.1]) hX cs_X8_92 (by decide) (fun l => z_get hl1 hvl (z_mapget hv) l) hl11 rfl rfl rfl rfl (Nat.le_of_ble_eq_true rfl) dX8_bestMinute_29 ?_
  refine r_cast (ci := 8) hX rfl hvs cl_X8_121 dX8_bestMinute_32 ?_
  refine r_astore_n (lv' := [(3, .ref v.1), (0, .ref (z_b G)), (1, .int (nI iv)), (2, .int (nI i))]) hX rfl (by decide) rfl dX8_bestMinute_35 ?_
  refine r_aload_n hX rfl 1 rfl dX8_bestMinute_36 ?_
  refine r_getf hX fl_X8_10 hha rfl dX8_bestMinute_37 ?_
  refine r_iload_n hX rfl 3 rfl dX8_bestMinute_40 ?_
  refine r_callVR (As := [.int (nI i)]) (rest := []) (rv := some (.ref x.1)) (st1 := [.ref x.1]) hX cs_X8_92 (by decide) (fun l => z_get hl0 hil (z_mapget hx) l) hl01 rfl rfl rfl rfl (Nat.le_of_ble_eq_true rfl) dX8_bestMinute_41 ?_
  refine r_cast (ci := 4) hX rfl hxs cl_X8_76 dX8_bestMinute_44 ?_
  refine r_astore (lv' := [(4, .ref x.1), (3, .ref v.1), (0, .ref (z_b G)), (1, .int (nI iv)), (2, .int (nI i))]) hX (by decide) rfl dX8_bestMinute_47 ?_
  refine r_aload_n hX rfl 1 rfl dX8_bestMinute_49 ?_
  refine r_aload hX 0 rfl dX8_bestMinute_50 ?_
  refine r_getf hX fl_X8_240 hxs rfl dX8_bestMinute_52 ?_
  refine r_callVR (As := [.int x.2.2.2.2]) (rest := []) (rv := some (.int (zf_b (zf_hasBit v.2.2.2.1 x.2.2.2.2)))) (st1 := [.int (zf_b (zf_hasBit v.2.2.2.1 x.2.2.2.2))]) hX cs_X8_129 (by decide) (fun l => c_X7_isExempt l G h top v iv hvs x.2.2.2.2) hvs rfl rfl rfl rfl (Nat.le_of_ble_eq_true rfl) dX8_bestMinute_55 ?_
  refine r_istore (lv' := [(5, .int (zf_b (zf_hasBit v.2.2.2.1 x.2.2.2.2))), (4, .ref x.1), (3, .ref v.1), (0, .ref (z_b G)), (1, .int (nI iv)), (2, .int (nI i))]) hX (by decide) rfl dX8_bestMinute_58 ?_
  refine r_iconst (v := 0) hX (by decide) dX8_bestMinute_60 ?_
  refine r_istore (lv' := [(6, .int 0), (5, .int (zf_b (zf_hasBit v.2.2.2.1 x.2.2.2.2))), (4, .ref x.1), (3, .ref v.1), (0, .ref (z_b G)), (1, .int (nI iv)), (2, .int (nI i))]) hX (by decide) rfl dX8_bestMinute_61 ?_
  refine r_aload_n hX rfl 4 rfl dX8_bestMinute_63 ?_
  refine r_getf hX fl_X8_139 hha rfl dX8_bestMinute_64 ?_
  refine r_istore (lv' := [(7, .int (s_now s)), (6, .int 0), (5, .int (zf_b (zf_hasBit v.2.2.2.1 x.2.2.2.2))), (4, .ref x.1), (3, .ref v.1), (0, .ref (z_b G)), (1, .int (nI iv)), (2, .int (nI i))]) hX (by decide) rfl dX8_bestMinute_67 ?_
  refine r_iconst (v := 0) hX (by decide) dX8_bestMinute_69 ?_
  refine r_istore (lv' := [(8, .int 0), (7, .int (s_now s)), (6, .int 0), (5, .int (zf_b (zf_hasBit v.2.2.2.1 x.2.2.2.2))), (4, .ref x.1), (3, .ref v.1), (0, .ref (z_b G)), (1, .int (nI iv)), (2, .int (nI i))]) hX (by decide) rfl dX8_bestMinute_70 ?_
  refine r_aload_n hX rfl 6 rfl dX8_bestMinute_72 ?_
  refine r_getf hX fl_X8_139 hha rfl dX8_bestMinute_73 ?_
  refine r_istore (lv' := [(9, .int (s_now s)), (8, .int 0), (7, .int (s_now s)), (6, .int 0), (5, .int (zf_b (zf_hasBit v.2.2.2.1 x.2.2.2.2))), (4, .ref x.1), (3, .ref v.1), (0, .ref (z_b G)), (1, .int (nI iv)), (2, .int (nI i))]) hX (by decide) rfl dX8_bestMinute_76 ?_
  rw [hn]
  refine r_lv [0, 1, 2, 3, 4, 5, 6, 7, 8, 9] (lv2 := [(9, .int (nI (n + 0))), (8, .int 0), (7, .int (nI n)), (6, .int 0), (5, .int (zf_b (zf_hasBit v.2.2.2.1 x.2.2.2.2))), (4, .ref x.1), (3, .ref v.1), (0, .ref (z_b G)), (1, .int (nI iv)), (2, .int (nI i))]) rfl ?_
  exact f_bm s be H iv v hv i x hx n hn hn6 _ (fun m hm => ⟨m, rfl, hm, rfl, rfl⟩) hX hq (1440 + 1) 0 0 0 (nI n) (by omega) (by omega) (by rw [hn]; exact Int32.le_refl _)

