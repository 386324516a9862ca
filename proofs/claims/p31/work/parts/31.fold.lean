/-! folding -/
theorem lt_gt {n i : Nat} (hb : i < 2 ^ 31) (c : ¬ nI n < nI i) : i < n + 1 := by
  rcases Nat.lt_or_ge n i with q | q
  · exact absurd (nI_lt q hb) c
  · omega
theorem ge_gt {n i : Nat} (hn : n < 2 ^ 31) (hi : i ≤ n + 1) (c : nI n < nI i) : i = n + 1 := by
  rcases Nat.lt_or_ge n i with q | q
  · omega
  · exact absurd c (nI_nlt q hn)
def zm_iter (f : Nat → Int32) : Nat → Int64 → Int64
  | 0, d => d
  | k + 1, d => zf_fold (zm_iter f k d) (f k)
def zm_iter2 (f : Nat → Nat → Int32) (m : Nat) : Nat → Int64 → Int64
  | 0, d => d
  | k + 1, d => zm_iter (f k) m (zm_iter2 f m k d)
def zm_gseg (s : zS) (i : Nat) : Nat → Int32 := zm_ofSeg (((s_segs s)[i]?).getD (0, 0, 0, 0, 0))
def zm_gsgt (s : zS) (i : Nat) : Nat → Int32 := zm_ofSgt s (((s_sgts s)[i]?).getD (0, (0, 0), 0, 0, 0))
def zm_gtoll (s : zS) (v : zVeh) (i : Nat) : Int32 := zm_toll (s_tars s) (((s_segs s)[i]?).getD (0, 0, 0, 0, 0)) v (s_now s)
def zm_gfact (s : zS) (rows : List zQ) (vals : List (Int32 × Int32)) (k w : Nat) : Int32 := zm_factAt s rows vals k (nI w)
def zm_fday (s : zS) (v : zVeh) (day : Int32) (d : Int64) : Int64 := zm_iter2 (zm_gfact s (zm_day s v.1 day) (zm_charge s v v.2.1.1 (s_cap s) (zm_day s v.1 day)).2) 5 (zm_day s v.1 day).length (zf_fold (zf_fold d (zm_jcount s (zm_cert s v.1 day) (zm_day s v.1 day))) (nI (zm_day s v.1 day).length))
def zm_fv1 (s : zS) (v : zVeh) (d : Int64) : Int64 := zm_iter (zm_gtoll s v) (s_segs s).length (zf_fold (zf_fold (zf_fold d (zm_cheap s v 0 1)) (zm_cheap s v 3 5)) (zm_ws s v))
def zm_fv0 (s : zS) (v : zVeh) (d : Int64) : Int64 := zm_fday s v (s_now s / 1440) (zm_iter (zm_ofVeh v) 8 d)
def zm_fveh (s : zS) (v : zVeh) (d : Int64) : Int64 := zm_fv1 s v (if 0 < s_now s / 1440 then zm_fday s v (s_now s / 1440 - 1) (zm_fv0 s v d) else zm_fv0 s v d)
def zm_fvs (s : zS) : Nat → Int64 → Int64
  | 0, d => d
  | k + 1, d => match (s_vehs s)[k]? with
    | none => zm_fvs s k d
    | some v => zm_fveh s v (zm_fvs s k d)
theorem zm_fvs_s {s : zS} {k : Nat} {v : zVeh} (h : (s_vehs s)[k]? = some v) (d : Int64) : zm_fvs s (k + 1) d = zm_fveh s v (zm_fvs s k d) := by
  show (match (s_vehs s)[k]? with
    | none => zm_fvs s k d
    | some v => zm_fveh s v (zm_fvs s k d)) = _
  rw [h]
def zm_dig (s : zS) : Int64 := zm_fvs s (s_vehs s).length (zm_iter2 (zm_gsgt s) 5 (s_sgts s).length (zm_iter2 (zm_ofOwn s) 4 4 (zm_iter2 (zm_gseg s) 5 (s_segs s).length (zm_iter (zm_many s) 15 4805))))
set_option maxRecDepth 20000 in
set_option maxHeartbeats 4000000 in
theorem f_fd1_step {X : zX} {G : zG} {h : zH} {top : Nat} {Post : Option Value → zH → Nat → Prop} (s : zS) (rch : Nat → Int32) (ct : Int32) (be : zB) (rows : List zQ) (RI : List Nat) (vals : List (Int32 × Int32)) (J : z_DC G s rch ct be rows RI vals h top) (hvl : vals.length = rows.length) (kr : Nat) (hkr : kr < rows.length) (d0 : Int64) (kk : ∀ d : Int64, d = (zm_iter (zm_gfact s rows vals kr) 5 d0) → z_Z X h top 114 [(5, .long d), (7, .int (nI kr)), (0, .ref (z_b G))] []) (k i : Nat) (d : Int64) (hk : 5 - i < k + 1) (hi : i ≤ 5) (hinv : d = (zm_iter (zm_gfact s rows vals kr) i d0)) (ih : ∀ (i : Nat) (d : Int64), 5 - i < k → i ≤ 5 → (d = (zm_iter (zm_gfact s rows vals kr) i d0)) → z_Z X h top 84 [(8, .int (nI i)), (5, .long d), (7, .int (nI kr)), (0, .ref (z_b G))] []) (hX : z_ok X cX8_foldDay 9 RX8 (some .long) "foldDay" 12 G) (hq : z_mq X (Post)) : z_Z X h top 84 [(8, .int (nI i)), (5, .long d), (7, .int (nI kr)), (0, .ref (z_b G))] [] := by
  have hha := J.1.1.hall
  have hbk := J.1.1.bk
  have hrl := J.1.len
  refine r_iload hX 0 rfl dX8_foldDay_84 ?_
  refine r_iconst (v := 4) hX (by decide) dX8_foldDay_86 ?_
  refine r_icmp_gt (tgt := 114) hX dX8_foldDay_87 rfl (fun c87 => ?_) (fun c87 => ?_)
  · skip
    refine r_lv [1, 2, 3] (lv2 := [(5, .long d), (7, .int (nI kr)), (0, .ref (z_b G))]) rfl ?_
    exact kk _ (hinv.trans (by rw [(ge_gt (n := 4) (by omega) hi c87)]))
  · skip
    have hlt : i < 5 := lt_gt (n := 4) (by omega) c87
    refine r_lload hX 1 rfl dX8_foldDay_90 ?_
    refine r_aload_n hX rfl 3 rfl dX8_foldDay_92 ?_
    refine r_getf hX fl_X8_39 hha rfl dX8_foldDay_93 ?_
    refine r_iload hX 2 rfl dX8_foldDay_96 ?_
    refine r_iload hX 0 rfl dX8_foldDay_98 ?_
    refine r_callVR (As := [.int (nI kr), .int (nI i)]) (rest := [.long d]) (rv := some (.int (zm_gfact s rows vals kr i))) (st1 := [.int (zm_gfact s rows vals kr i), .long d]) hX cs_X8_284 (by decide) (fun l => c_fact l G h top s rch ct be rows RI vals J hvl kr hkr (nI i) (Int32.not_lt.mp (nI_pos (by omega))) (show nI i ≤ nI 4 from (nI_leI (by omega) (by omega)).mpr (by omega))) hbk rfl rfl rfl rfl (Nat.le_of_ble_eq_true rfl) dX8_foldDay_100 ?_
    refine r_callSR (As := [.long d, .int (zm_gfact s rows vals kr i)]) (rest := []) (rv := some (.long (zf_fold d (zm_gfact s rows vals kr i)))) (st1 := [.long (zf_fold d (zm_gfact s rows vals kr i))]) hX cs_X8_327 (by decide) (fun l => c_X8_fold l G h top d (zm_gfact s rows vals kr i)) rfl rfl rfl (Nat.le_of_ble_eq_true rfl) dX8_foldDay_103 ?_
    refine r_lstore (lv' := [(5, .long (zf_fold d (zm_gfact s rows vals kr i))), (8, .int (nI i)), (7, .int (nI kr)), (0, .ref (z_b G))]) hX (by decide) rfl dX8_foldDay_106 ?_
    refine r_iinc (q := 1) (lv' := [(8, .int ((nI i) + 1)), (5, .long (zf_fold d (zm_gfact s rows vals kr i))), (7, .int (nI kr)), (0, .ref (z_b G))]) hX rfl rfl (by decide) rfl dX8_foldDay_108 ?_
    refine r_goto (tgt := 84) hX rfl dX8_foldDay_111 ?_
    refine r_lv [0, 1, 2, 3] (lv2 := [(8, .int (nI i + 1)), (5, .long (zf_fold d (zm_gfact s rows vals kr i))), (7, .int (nI kr)), (0, .ref (z_b G))]) rfl ?_
    rw [nI_1]
    exact ih (i + 1) _ (by omega) (by omega) (by rw [hinv]; rfl)

theorem f_fd1 {X : zX} {G : zG} {h : zH} {top : Nat} {Post : Option Value → zH → Nat → Prop} (s : zS) (rch : Nat → Int32) (ct : Int32) (be : zB) (rows : List zQ) (RI : List Nat) (vals : List (Int32 × Int32)) (J : z_DC G s rch ct be rows RI vals h top) (hvl : vals.length = rows.length) (kr : Nat) (hkr : kr < rows.length) (d0 : Int64) (kk : ∀ d : Int64, d = (zm_iter (zm_gfact s rows vals kr) 5 d0) → z_Z X h top 114 [(5, .long d), (7, .int (nI kr)), (0, .ref (z_b G))] []) (hX : z_ok X cX8_foldDay 9 RX8 (some .long) "foldDay" 12 G) (hq : z_mq X Post) : ∀ (k i : Nat) (d : Int64), 5 - i < k → i ≤ 5 → (d = (zm_iter (zm_gfact s rows vals kr) i d0)) → z_Z X h top 84 [(8, .int (nI i)), (5, .long d), (7, .int (nI kr)), (0, .ref (z_b G))] [] := by
  intro k
  induction k with
  | zero => intros; omega
  | succ k ih => intro i d hk hi hinv; exact f_fd1_step s rch ct be rows RI vals J hvl kr hkr d0 kk k i d hk hi hinv ih hX hq
theorem c_rsize (l : Launch) (G : zG) (h : zH) (top : Nat) (s : zS) (rch : Nat → Int32) (ct : Int32) (be : zB) (rows : List zQ) (RI : List Nat) (J : z_DK G s rch ct be rows RI h top) : z_Ct l yX0_size cX0_size 1 (some .int) 2 G [.ref (z_b G + 11)] h top (z_R (some (.int (nI rows.length))) h top) := by
  rw [← J.len.1]
  exact c_X0_size l G h top s be J.1
set_option maxRecDepth 20000 in
set_option maxHeartbeats 4000000 in
theorem f_fd2_step {X : zX} {G : zG} {h : zH} {top : Nat} {Post : Option Value → zH → Nat → Prop} (s : zS) (rch : Nat → Int32) (ct : Int32) (be : zB) (rows : List zQ) (RI : List Nat) (vals : List (Int32 × Int32)) (J : z_DC G s rch ct be rows RI vals h top) (hvl : vals.length = rows.length) (d0 : Int64) (kk : ∀ d : Int64, d = (zm_iter2 (zm_gfact s rows vals) 5 rows.length d0) → z_Z X h top 120 [(5, .long d), (0, .ref (z_b G))] []) (k i : Nat) (d : Int64) (hk : rows.length - i < k + 1) (hi : i ≤ rows.length) (hinv : d = (zm_iter2 (zm_gfact s rows vals) 5 i d0)) (ih : ∀ (i : Nat) (d : Int64), rows.length - i < k → i ≤ rows.length → (d = (zm_iter2 (zm_gfact s rows vals) 5 i d0)) → z_Z X h top 69 [(7, .int (nI i)), (5, .long d), (0, .ref (z_b G))] []) (hX : z_ok X cX8_foldDay 9 RX8 (some .long) "foldDay" 12 G) (hq : z_mq X (Post)) : z_Z X h top 69 [(7, .int (nI i)), (5, .long d), (0, .ref (z_b G))] [] := by
  have hha := J.1.1.hall
  have hbk := J.1.1.bk
  have hrl := J.1.len
  refine r_iload hX 0 rfl dX8_foldDay_69 ?_
  refine r_aload_n hX rfl 2 rfl dX8_foldDay_71 ?_
  refine r_getf hX fl_X8_39 hha rfl dX8_foldDay_72 ?_
  refine r_callVR (As := []) (rest := [.int (nI i)]) (rv := some (.int (nI rows.length))) (st1 := [.int (nI rows.length), .int (nI i)]) hX cs_X8_283 (by decide) (fun l => c_rsize l G h top s rch ct be rows RI J.1) hbk rfl rfl rfl rfl (Nat.le_of_ble_eq_true rfl) dX8_foldDay_75 ?_
  refine r_icmp_ge (tgt := 120) hX dX8_foldDay_78 rfl (fun c78 => ?_) (fun c78 => ?_)
  · skip
    refine r_lv [1, 2] (lv2 := [(5, .long d), (0, .ref (z_b G))]) rfl ?_
    exact kk _ (hinv.trans (by rw [(ge_n (n := rows.length) (by omega) hi c78)]))
  · skip
    have hlt : i < rows.length := lt_n (by omega) c78
    refine r_iconst (v := 0) hX (by decide) dX8_foldDay_81 ?_
    refine r_istore (lv' := [(8, .int 0), (7, .int (nI i)), (5, .long d), (0, .ref (z_b G))]) hX (by decide) rfl dX8_foldDay_82 ?_
    refine r_lv [0, 2, 1, 3] (lv2 := [(8, .int 0), (5, .long d), (7, .int (nI i)), (0, .ref (z_b G))]) rfl ?_
    refine f_fd1 s rch ct be rows RI vals J hvl i hlt d (fun d2 e2 => ?_) hX hq (5 + 1) 0 d (by omega) (by omega) rfl
    refine r_iinc (q := 1) (lv' := [(7, .int ((nI i) + 1)), (5, .long d2), (0, .ref (z_b G))]) hX rfl rfl (by decide) rfl dX8_foldDay_114 ?_
    refine r_goto (tgt := 69) hX rfl dX8_foldDay_117 ?_
    refine r_lv [0, 1, 2] (lv2 := [(7, .int (nI i + 1)), (5, .long d2), (0, .ref (z_b G))]) rfl ?_
    rw [nI_1]
    exact ih (i + 1) _ (by omega) (by omega) (by rw [e2, hinv]; rfl)

theorem f_fd2 {X : zX} {G : zG} {h : zH} {top : Nat} {Post : Option Value → zH → Nat → Prop} (s : zS) (rch : Nat → Int32) (ct : Int32) (be : zB) (rows : List zQ) (RI : List Nat) (vals : List (Int32 × Int32)) (J : z_DC G s rch ct be rows RI vals h top) (hvl : vals.length = rows.length) (d0 : Int64) (kk : ∀ d : Int64, d = (zm_iter2 (zm_gfact s rows vals) 5 rows.length d0) → z_Z X h top 120 [(5, .long d), (0, .ref (z_b G))] []) (hX : z_ok X cX8_foldDay 9 RX8 (some .long) "foldDay" 12 G) (hq : z_mq X Post) : ∀ (k i : Nat) (d : Int64), rows.length - i < k → i ≤ rows.length → (d = (zm_iter2 (zm_gfact s rows vals) 5 i d0)) → z_Z X h top 69 [(7, .int (nI i)), (5, .long d), (0, .ref (z_b G))] [] := by
  intro k
  induction k with
  | zero => intros; omega
  | succ k ih => intro i d hk hi hinv; exact f_fd2_step s rch ct be rows RI vals J hvl d0 kk k i d hk hi hinv ih hX hq
set_option maxRecDepth 20000 in
set_option maxHeartbeats 4000000 in
theorem c_X8_foldDay (l : Launch) (G : zG) (h : zH) (top : Nat) (s : zS) (be : zB) (H : z_St G s be h top) (iv : Nat) (v : zVeh) (hv : (s_vehs s)[iv]? = some v) (d0 : Int64) (day : Int32) : z_Ct l yX8_foldDay cX8_foldDay 9 (some .long) 12 G [.ref (z_b G), .long d0, .ref v.1, .int day] h top (z_PQ G s (.long (zm_fday s v day d0))) := by
  refine z_of (own := RX8) (nm := "foldDay") (by decide) rfl rfl (by decide) (Nat.le_of_ble_eq_true rfl) (fun X hX hq => ?_)
  replace hX : z_ok X cX8_foldDay 9 RX8 (some .long) "foldDay" 12 G := hX
  show z_Z X h top 0 [(0, .ref (z_b G)), (1, .long d0), (3, .ref v.1), (4, .int day)] []
  have hha := H.hall
  have hbd := H.2.2.1.2.2
  have hl0 := H.l0
  have hl01 := hl0.1
  have hl1 := H.l1
  have hl11 := hl1.1
  have hl2 := H.l2
  have hl21 := hl2.1
  have hbk := H.bk
  have hvl : iv < (s_vehs s).length := (List.getElem?_eq_some_iff.mp hv).1
  have hvs := H.veh hv
  refine r_aload_n hX rfl 0 rfl dX8_foldDay_0 ?_
  refine r_getf hX fl_X8_39 hha rfl dX8_foldDay_1 ?_
  refine r_aload_n hX rfl 0 rfl dX8_foldDay_4 ?_
  refine r_getf hX fl_X8_19 hha rfl dX8_foldDay_5 ?_
  refine r_aload_n hX rfl 0 rfl dX8_foldDay_8 ?_
  refine r_getf hX fl_X8_10 hha rfl dX8_foldDay_9 ?_
  refine r_aload_n hX rfl 2 rfl dX8_foldDay_12 ?_
  refine r_iload hX 3 rfl dX8_foldDay_13 ?_
  refine r_callV (As := [.ref (z_b G + 3), .ref (z_b G + 1), .ref v.1, .int day]) (rest := []) hX cs_X8_197 (by decide) (fun l => c_X0_gather l G h top s be v.1 day H) hbk rfl rfl rfl (Nat.le_of_ble_eq_true rfl) dX8_foldDay_15 (fun r1 h1 top1 hp1 => ?_)
  obtain ⟨rfl, be1, RI1, J1⟩ := hp1
  have hha1 := J1.1.hall
  have hbk1 := J1.1.bk
  have htf1 := J1.1.tfs
  have hlg1 := J1.1.lg
  have hl1_0 := J1.1.l0
  have hl1_01 := hl1_0.1
  have hl1_1 := J1.1.l1
  have hl1_11 := hl1_1.1
  have hl1_2 := J1.1.l2
  have hl1_21 := hl1_2.1
  have hvs1 := J1.1.veh hv
  refine r_aload_n hX rfl 0 rfl dX8_foldDay_18 ?_
  refine r_getf hX fl_X8_39 hha1 rfl dX8_foldDay_19 ?_
  refine r_aload_n hX rfl 2 rfl dX8_foldDay_22 ?_
  refine r_aload_n hX rfl 2 rfl dX8_foldDay_23 ?_
  refine r_getf hX fl_X8_201 hvs1 rfl dX8_foldDay_24 ?_
  refine r_aload_n hX rfl 0 rfl dX8_foldDay_27 ?_
  refine r_getf hX fl_X8_47 hha1 rfl dX8_foldDay_28 ?_
  refine r_aload_n hX rfl 0 rfl dX8_foldDay_31 ?_
  refine r_getf hX fl_X8_25 hha1 rfl dX8_foldDay_32 ?_
  refine r_callV (As := [.ref v.1, .int v.2.1.1, .int (s_cap s), .ref (z_b G + 4)]) (rest := []) hX cs_X8_208 (by decide) (fun l => c_X0_charge l G h1 top1 s _ _ v iv hv v.2.1.1 (s_cap s) _ _ _ J1) hbk1 rfl rfl rfl (Nat.le_of_ble_eq_true rfl) dX8_foldDay_35 (fun r2 h2 top2 hp2 => ?_)
  obtain ⟨rfl, rfl, be2, C2⟩ := hp2
  have hha2 := C2.1.1.hall
  have hbk2 := C2.1.1.bk
  have htf2 := C2.1.1.tfs
  have hlg2 := C2.1.1.lg
  have hl2_0 := C2.1.1.l0
  have hl2_01 := hl2_0.1
  have hl2_1 := C2.1.1.l1
  have hl2_11 := hl2_1.1
  have hl2_2 := C2.1.1.l2
  have hl2_21 := hl2_2.1
  have hvs2 := C2.1.1.veh hv
  refine r_pop hX rfl dX8_foldDay_38 ?_
  refine r_lload_n hX rfl 1 rfl dX8_foldDay_39 ?_
  refine r_aload_n hX rfl 0 rfl dX8_foldDay_40 ?_
  refine r_getf hX fl_X8_39 hha2 rfl dX8_foldDay_41 ?_
  refine r_callVR (As := []) (rest := [.long d0]) (rv := some (.int (zm_jcount s (zm_cert s v.1 day) (zm_day s v.1 day)))) (st1 := [.int (zm_jcount s (zm_cert s v.1 day) (zm_day s v.1 day)), .long d0]) hX cs_X8_288 (by decide) (fun l => c_X0_journeyCount l G h2 top2 s _ (zm_cert s v.1 day) be2 _ RI1 C2.1 (zm_cert_le s v.1 day)) hbk2 rfl rfl rfl rfl (Nat.le_of_ble_eq_true rfl) dX8_foldDay_44 ?_
  refine r_callSR (As := [.long d0, .int (zm_jcount s (zm_cert s v.1 day) (zm_day s v.1 day))]) (rest := []) (rv := some (.long (zf_fold d0 (zm_jcount s (zm_cert s v.1 day) (zm_day s v.1 day))))) (st1 := [.long (zf_fold d0 (zm_jcount s (zm_cert s v.1 day) (zm_day s v.1 day)))]) hX cs_X8_327 (by decide) (fun l => c_X8_fold l G h2 top2 d0 (zm_jcount s (zm_cert s v.1 day) (zm_day s v.1 day))) rfl rfl rfl (Nat.le_of_ble_eq_true rfl) dX8_foldDay_47 ?_
  refine r_lstore (lv' := [(5, .long (zf_fold d0 (zm_jcount s (zm_cert s v.1 day) (zm_day s v.1 day)))), (0, .ref (z_b G)), (1, .long d0), (3, .ref v.1), (4, .int day)]) hX (by decide) rfl dX8_foldDay_50 ?_
  refine r_lload hX 0 rfl dX8_foldDay_52 ?_
  refine r_aload_n hX rfl 1 rfl dX8_foldDay_54 ?_
  refine r_getf hX fl_X8_39 hha2 rfl dX8_foldDay_55 ?_
  refine r_callVR (As := []) (rest := [.long (zf_fold d0 (zm_jcount s (zm_cert s v.1 day) (zm_day s v.1 day)))]) (rv := some (.int (nI (zm_day s v.1 day).length))) (st1 := [.int (nI (zm_day s v.1 day).length), .long (zf_fold d0 (zm_jcount s (zm_cert s v.1 day) (zm_day s v.1 day)))]) hX cs_X8_283 (by decide) (fun l => c_rsize l G h2 top2 s _ _ be2 _ _ C2.1) hbk2 rfl rfl rfl rfl (Nat.le_of_ble_eq_true rfl) dX8_foldDay_58 ?_
  refine r_callSR (As := [.long (zf_fold d0 (zm_jcount s (zm_cert s v.1 day) (zm_day s v.1 day))), .int (nI (zm_day s v.1 day).length)]) (rest := []) (rv := some (.long (zf_fold (zf_fold d0 (zm_jcount s (zm_cert s v.1 day) (zm_day s v.1 day))) (nI (zm_day s v.1 day).length)))) (st1 := [.long (zf_fold (zf_fold d0 (zm_jcount s (zm_cert s v.1 day) (zm_day s v.1 day))) (nI (zm_day s v.1 day).length))]) hX cs_X8_327 (by decide) (fun l => c_X8_fold l G h2 top2 (zf_fold d0 (zm_jcount s (zm_cert s v.1 day) (zm_day s v.1 day))) (nI (zm_day s v.1 day).length)) rfl rfl rfl (Nat.le_of_ble_eq_true rfl) dX8_foldDay_61 ?_
  refine r_lstore (lv' := [(5, .long (zf_fold (zf_fold d0 (zm_jcount s (zm_cert s v.1 day) (zm_day s v.1 day))) (nI (zm_day s v.1 day).length))), (0, .ref (z_b G)), (1, .long d0), (3, .ref v.1), (4, .int day)]) hX (by decide) rfl dX8_foldDay_64 ?_
  refine r_iconst (v := 0) hX (by decide) dX8_foldDay_66 ?_
  refine r_istore (lv' := [(7, .int 0), (5, .long (zf_fold (zf_fold d0 (zm_jcount s (zm_cert s v.1 day) (zm_day s v.1 day))) (nI (zm_day s v.1 day).length))), (0, .ref (z_b G)), (1, .long d0), (3, .ref v.1), (4, .int day)]) hX (by decide) rfl dX8_foldDay_67 ?_
  have hl225 := C2.1.len.2
  refine r_lv [0, 1, 2] (lv2 := [(7, .int 0), (5, .long (zf_fold (zf_fold d0 (zm_jcount s (zm_cert s v.1 day) (zm_day s v.1 day))) (nI (zm_day s v.1 day).length))), (0, .ref (z_b G))]) rfl ?_
  refine f_fd2 s _ _ be2 _ RI1 _ C2 (zm_charge_len s v v.2.1.1 (s_cap s) _) (zf_fold (zf_fold d0 (zm_jcount s (zm_cert s v.1 day) (zm_day s v.1 day))) (nI (zm_day s v.1 day).length)) (fun d2 e2 => ?_) hX hq ((zm_day s v.1 day).length + 1) 0 _ (by omega) (by omega) rfl
  refine r_lload hX 0 rfl dX8_foldDay_120 ?_
  exact r_lret hX hq ⟨by rw [e2]; rfl, be2, C2.1.1⟩ dX8_foldDay_122

set_option maxRecDepth 20000 in
set_option maxHeartbeats 4000000 in
theorem f_fv1_step {X : zX} {G : zG} {h : zH} {top : Nat} {Post : Option Value → zH → Nat → Prop} (s : zS) (be : zB) (H : z_St G s be h top) (iv : Nat) (v : zVeh) (hv : (s_vehs s)[iv]? = some v) (d0 : Int64) (kk : ∀ d : Int64, d = (zm_iter (zm_ofVeh v) 8 d0) → z_Z X h top 40 [(5, .long d), (0, .ref (z_b G)), (3, .ref v.1), (4, .int (nI iv))] []) (k i : Nat) (d : Int64) (hk : 8 - i < k + 1) (hi : i ≤ 8) (hinv : d = (zm_iter (zm_ofVeh v) i d0)) (ih : ∀ (i : Nat) (d : Int64), 8 - i < k → i ≤ 8 → (d = (zm_iter (zm_ofVeh v) i d0)) → z_Z X h top 12 [(7, .int (nI i)), (5, .long d), (0, .ref (z_b G)), (3, .ref v.1), (4, .int (nI iv))] []) (hX : z_ok X cX8_foldVehicle 8 RX8 (some .long) "foldVehicle" 13 G) (hq : z_mq X (Post)) : z_Z X h top 12 [(7, .int (nI i)), (5, .long d), (0, .ref (z_b G)), (3, .ref v.1), (4, .int (nI iv))] [] := by
  have hha := H.hall
  have hbd := H.2.2.1.2.2
  refine r_iload hX 0 rfl dX8_foldVehicle_12 ?_
  refine r_bipush (v := 7) hX (by decide) dX8_foldVehicle_14 ?_
  refine r_icmp_gt (tgt := 40) hX dX8_foldVehicle_16 rfl (fun c16 => ?_) (fun c16 => ?_)
  · skip
    refine r_lv [1, 2, 3, 4] (lv2 := [(5, .long d), (0, .ref (z_b G)), (3, .ref v.1), (4, .int (nI iv))]) rfl ?_
    exact kk _ (hinv.trans (by rw [(ge_gt (n := 7) (by omega) hi c16)]))
  · skip
    have hlt : i < 8 := lt_gt (n := 7) (by omega) c16
    refine r_lload hX 1 rfl dX8_foldVehicle_19 ?_
    refine r_aload_n hX rfl 2 rfl dX8_foldVehicle_21 ?_
    refine r_iload hX 4 rfl dX8_foldVehicle_22 ?_
    refine r_iload hX 0 rfl dX8_foldVehicle_24 ?_
    refine r_callVR (As := [.int (nI iv), .int (nI i)]) (rest := [.long d]) (rv := some (.int (zm_ofVeh v i))) (st1 := [.int (zm_ofVeh v i), .long d]) hX cs_X8_377 (by decide) (fun l => c_ofVeh l G h top s be H iv v hv i (by omega)) hha rfl rfl rfl rfl (Nat.le_of_ble_eq_true rfl) dX8_foldVehicle_26 ?_
    refine r_callSR (As := [.long d, .int (zm_ofVeh v i)]) (rest := []) (rv := some (.long (zf_fold d (zm_ofVeh v i)))) (st1 := [.long (zf_fold d (zm_ofVeh v i))]) hX cs_X8_327 (by decide) (fun l => c_X8_fold l G h top d (zm_ofVeh v i)) rfl rfl rfl (Nat.le_of_ble_eq_true rfl) dX8_foldVehicle_29 ?_
    refine r_lstore (lv' := [(5, .long (zf_fold d (zm_ofVeh v i))), (7, .int (nI i)), (0, .ref (z_b G)), (3, .ref v.1), (4, .int (nI iv))]) hX (by decide) rfl dX8_foldVehicle_32 ?_
    refine r_iinc (q := 1) (lv' := [(7, .int ((nI i) + 1)), (5, .long (zf_fold d (zm_ofVeh v i))), (0, .ref (z_b G)), (3, .ref v.1), (4, .int (nI iv))]) hX rfl rfl (by decide) rfl dX8_foldVehicle_34 ?_
    refine r_goto (tgt := 12) hX rfl dX8_foldVehicle_37 ?_
    refine r_lv [0, 1, 2, 3, 4] (lv2 := [(7, .int (nI i + 1)), (5, .long (zf_fold d (zm_ofVeh v i))), (0, .ref (z_b G)), (3, .ref v.1), (4, .int (nI iv))]) rfl ?_
    rw [nI_1]
    exact ih (i + 1) _ (by omega) (by omega) (by rw [hinv]; rfl)

theorem f_fv1 {X : zX} {G : zG} {h : zH} {top : Nat} {Post : Option Value → zH → Nat → Prop} (s : zS) (be : zB) (H : z_St G s be h top) (iv : Nat) (v : zVeh) (hv : (s_vehs s)[iv]? = some v) (d0 : Int64) (kk : ∀ d : Int64, d = (zm_iter (zm_ofVeh v) 8 d0) → z_Z X h top 40 [(5, .long d), (0, .ref (z_b G)), (3, .ref v.1), (4, .int (nI iv))] []) (hX : z_ok X cX8_foldVehicle 8 RX8 (some .long) "foldVehicle" 13 G) (hq : z_mq X Post) : ∀ (k i : Nat) (d : Int64), 8 - i < k → i ≤ 8 → (d = (zm_iter (zm_ofVeh v) i d0)) → z_Z X h top 12 [(7, .int (nI i)), (5, .long d), (0, .ref (z_b G)), (3, .ref v.1), (4, .int (nI iv))] [] := by
  intro k
  induction k with
  | zero => intros; omega
  | succ k ih => intro i d hk hi hinv; exact f_fv1_step s be H iv v hv d0 kk k i d hk hi hinv ih hX hq
theorem c_gtoll (l : Launch) (G : zG) (h : zH) (top : Nat) (s : zS) (be : zB) (H : z_St G s be h top) (iv : Nat) (v : zVeh) (hv : (s_vehs s)[iv]? = some v) (i : Nat) (hlt : i < (s_segs s).length) (n : Nat) (hn : s_now s = nI n) (hn6 : n ≤ 60000) : z_Ct l yX8_toll cX8_toll 4 (some .int) 7 G [.ref (z_b G), .int (nI iv), .int (nI i), .int (s_now s)] h top (z_R (some (.int (zm_gtoll s v i))) h top) := by
  obtain ⟨x, hx⟩ : ∃ x, (s_segs s)[i]? = some x := ⟨_, List.getElem?_eq_getElem hlt⟩
  have eF : zm_gtoll s v i = zm_toll (s_tars s) x v (s_now s) := by unfold zm_gtoll; rw [hx]; rfl
  rw [eF]
  exact c_X8_toll l G h top s be H iv v hv i x hx (s_now s) (by rw [hn]; exact zf_in_nI (n := 72000) (by omega) (by decide))
set_option maxRecDepth 20000 in
set_option maxHeartbeats 4000000 in
theorem f_fv2_step {X : zX} {G : zG} {h : zH} {top : Nat} {Post : Option Value → zH → Nat → Prop} (s : zS) (be : zB) (H : z_St G s be h top) (iv : Nat) (v : zVeh) (hv : (s_vehs s)[iv]? = some v) (n : Nat) (hn : s_now s = nI n) (hn6 : n ≤ 60000) (d0 : Int64) (kk : ∀ d : Int64, d = (zm_iter (zm_gtoll s v) (s_segs s).length d0) → z_Z X h top 158 [(5, .long d), (0, .ref (z_b G)), (4, .int (nI iv))] []) (k i : Nat) (d : Int64) (hk : (s_segs s).length - i < k + 1) (hi : i ≤ (s_segs s).length) (hinv : d = (zm_iter (zm_gtoll s v) i d0)) (ih : ∀ (i : Nat) (d : Int64), (s_segs s).length - i < k → i ≤ (s_segs s).length → (d = (zm_iter (zm_gtoll s v) i d0)) → z_Z X h top 121 [(7, .int (nI i)), (5, .long d), (0, .ref (z_b G)), (4, .int (nI iv))] []) (hX : z_ok X cX8_foldVehicle 8 RX8 (some .long) "foldVehicle" 13 G) (hq : z_mq X (Post)) : z_Z X h top 121 [(7, .int (nI i)), (5, .long d), (0, .ref (z_b G)), (4, .int (nI iv))] [] := by
  have hha := H.hall
  have hbd := H.2.2.1.2.2
  have hl0 := H.l0
  have hl01 := hl0.1
  refine r_iload hX 0 rfl dX8_foldVehicle_121 ?_
  refine r_aload_n hX rfl 2 rfl dX8_foldVehicle_123 ?_
  refine r_getf hX fl_X8_10 hha rfl dX8_foldVehicle_124 ?_
  refine r_callVR (As := []) (rest := [.int (nI i)]) (rv := some (.int (nI (s_segs s).length))) (st1 := [.int (nI (s_segs s).length), .int (nI i)]) hX cs_X8_69 (by decide) (fun l => z_size hl0 l) hl01 rfl rfl rfl rfl (Nat.le_of_ble_eq_true rfl) dX8_foldVehicle_127 ?_
  refine r_icmp_ge (tgt := 158) hX dX8_foldVehicle_130 rfl (fun c130 => ?_) (fun c130 => ?_)
  · skip
    refine r_lv [1, 2, 3] (lv2 := [(5, .long d), (0, .ref (z_b G)), (4, .int (nI iv))]) rfl ?_
    exact kk _ (hinv.trans (by rw [(ge_n (n := (s_segs s).length) (by omega) hi c130)]))
  · skip
    have hlt : i < (s_segs s).length := lt_n (by omega) c130
    refine r_lload hX 1 rfl dX8_foldVehicle_133 ?_
    refine r_aload_n hX rfl 2 rfl dX8_foldVehicle_135 ?_
    refine r_iload hX 3 rfl dX8_foldVehicle_136 ?_
    refine r_iload hX 0 rfl dX8_foldVehicle_138 ?_
    refine r_aload_n hX rfl 2 rfl dX8_foldVehicle_140 ?_
    refine r_getf hX fl_X8_139 hha rfl dX8_foldVehicle_141 ?_
    refine r_callVR (As := [.int (nI iv), .int (nI i), .int (s_now s)]) (rest := [.long d]) (rv := some (.int (zm_gtoll s v i))) (st1 := [.int (zm_gtoll s v i), .long d]) hX cs_X8_391 (by decide) (fun l => c_gtoll l G h top s be H iv v hv i hlt n hn hn6) hha rfl rfl rfl rfl (Nat.le_of_ble_eq_true rfl) dX8_foldVehicle_144 ?_
    refine r_callSR (As := [.long d, .int (zm_gtoll s v i)]) (rest := []) (rv := some (.long (zf_fold d (zm_gtoll s v i)))) (st1 := [.long (zf_fold d (zm_gtoll s v i))]) hX cs_X8_327 (by decide) (fun l => c_X8_fold l G h top d (zm_gtoll s v i)) rfl rfl rfl (Nat.le_of_ble_eq_true rfl) dX8_foldVehicle_147 ?_
    refine r_lstore (lv' := [(5, .long (zf_fold d (zm_gtoll s v i))), (7, .int (nI i)), (0, .ref (z_b G)), (4, .int (nI iv))]) hX (by decide) rfl dX8_foldVehicle_150 ?_
    refine r_iinc (q := 1) (lv' := [(7, .int ((nI i) + 1)), (5, .long (zf_fold d (zm_gtoll s v i))), (0, .ref (z_b G)), (4, .int (nI iv))]) hX rfl rfl (by decide) rfl dX8_foldVehicle_152 ?_
    refine r_goto (tgt := 121) hX rfl dX8_foldVehicle_155 ?_
    refine r_lv [0, 1, 2, 3] (lv2 := [(7, .int (nI i + 1)), (5, .long (zf_fold d (zm_gtoll s v i))), (0, .ref (z_b G)), (4, .int (nI iv))]) rfl ?_
    rw [nI_1]
    exact ih (i + 1) _ (by omega) (by omega) (by rw [hinv]; rfl)

theorem f_fv2 {X : zX} {G : zG} {h : zH} {top : Nat} {Post : Option Value → zH → Nat → Prop} (s : zS) (be : zB) (H : z_St G s be h top) (iv : Nat) (v : zVeh) (hv : (s_vehs s)[iv]? = some v) (n : Nat) (hn : s_now s = nI n) (hn6 : n ≤ 60000) (d0 : Int64) (kk : ∀ d : Int64, d = (zm_iter (zm_gtoll s v) (s_segs s).length d0) → z_Z X h top 158 [(5, .long d), (0, .ref (z_b G)), (4, .int (nI iv))] []) (hX : z_ok X cX8_foldVehicle 8 RX8 (some .long) "foldVehicle" 13 G) (hq : z_mq X Post) : ∀ (k i : Nat) (d : Int64), (s_segs s).length - i < k → i ≤ (s_segs s).length → (d = (zm_iter (zm_gtoll s v) i d0)) → z_Z X h top 121 [(7, .int (nI i)), (5, .long d), (0, .ref (z_b G)), (4, .int (nI iv))] [] := by
  intro k
  induction k with
  | zero => intros; omega
  | succ k ih => intro i d hk hi hinv; exact f_fv2_step s be H iv v hv n hn hn6 d0 kk k i d hk hi hinv ih hX hq
set_option maxRecDepth 20000 in
set_option maxHeartbeats 4000000 in
theorem f_fv75 {X : zX} {G : zG} {h : zH} {top : Nat} {Post : Option Value → zH → Nat → Prop} (s : zS) (be : zB) (H : z_St G s be h top) (iv : Nat) (v : zVeh) (hv : (s_vehs s)[iv]? = some v) (hsg : zg_kn s) (n : Nat) (hn : s_now s = nI n) (hn6 : n ≤ 60000) (d : Int64) (hp : ∀ (h : zH) (top : Nat) (be : zB) {r : Int64}, z_St G s be h top → r = zm_fv1 s v d → Post (some (.long r)) h top) (hX : z_ok X cX8_foldVehicle 8 RX8 (some .long) "foldVehicle" 13 G) (hq : z_mq X (Post)) : z_Z X h top 75 [(5, .long d), (0, .ref (z_b G)), (3, .ref v.1), (4, .int (nI iv))] [] := by
  have hha := H.hall
  have hbd := H.2.2.1.2.2
  have hl0 := H.l0
  have hl01 := hl0.1
  have hl1 := H.l1
  have hl11 := hl1.1
  have hl2 := H.l2
  have hl21 := hl2.1
  have hbk := H.bk
  have hvl : iv < (s_vehs s).length := (List.getElem?_eq_some_iff.mp hv).1
  have hvs := H.veh hv
  refine r_lload hX 0 rfl dX8_foldVehicle_75 ?_
  refine r_aload_n hX rfl 1 rfl dX8_foldVehicle_77 ?_
  refine r_iload hX 3 rfl dX8_foldVehicle_78 ?_
  refine r_iconst (v := 0) hX (by decide) dX8_foldVehicle_80 ?_
  refine r_iconst (v := 1) hX (by decide) dX8_foldVehicle_81 ?_
  refine r_callV (As := [.int (nI iv), .int 0, .int 1]) (rest := [.long d]) hX cs_X8_384 (by decide) (fun l => c_X8_cheapest l G h top s be H iv v hv hsg 0 1 (by decide) (by decide)) hha rfl rfl rfl (Nat.le_of_ble_eq_true rfl) dX8_foldVehicle_82 (fun r1 h1 top1 hp1 => ?_)
  obtain ⟨rfl, be1, H1⟩ := hp1
  have hha1 := H1.hall
  have hbk1 := H1.bk
  have htf1 := H1.tfs
  have hlg1 := H1.lg
  have hl1_0 := H1.l0
  have hl1_01 := hl1_0.1
  have hl1_1 := H1.l1
  have hl1_11 := hl1_1.1
  have hl1_2 := H1.l2
  have hl1_21 := hl1_2.1
  have hvs1 := H1.veh hv
  refine r_callSR (As := [.long d, .int (zm_cheap s v 0 1)]) (rest := []) (rv := some (.long (zf_fold d (zm_cheap s v 0 1)))) (st1 := [.long (zf_fold d (zm_cheap s v 0 1))]) hX cs_X8_327 (by decide) (fun l => c_X8_fold l G h1 top1 d (zm_cheap s v 0 1)) rfl rfl rfl (Nat.le_of_ble_eq_true rfl) dX8_foldVehicle_85 ?_
  refine r_lstore (lv' := [(5, .long (zf_fold d (zm_cheap s v 0 1))), (0, .ref (z_b G)), (3, .ref v.1), (4, .int (nI iv))]) hX (by decide) rfl dX8_foldVehicle_88 ?_
  refine r_lload hX 0 rfl dX8_foldVehicle_90 ?_
  refine r_aload_n hX rfl 1 rfl dX8_foldVehicle_92 ?_
  refine r_iload hX 3 rfl dX8_foldVehicle_93 ?_
  refine r_iconst (v := 3) hX (by decide) dX8_foldVehicle_95 ?_
  refine r_iconst (v := 5) hX (by decide) dX8_foldVehicle_96 ?_
  refine r_callV (As := [.int (nI iv), .int 3, .int 5]) (rest := [.long (zf_fold d (zm_cheap s v 0 1))]) hX cs_X8_384 (by decide) (fun l => c_X8_cheapest l G h1 top1 s be1 H1 iv v hv hsg 3 5 (by decide) (by decide)) hha1 rfl rfl rfl (Nat.le_of_ble_eq_true rfl) dX8_foldVehicle_97 (fun r2 h2 top2 hp2 => ?_)
  obtain ⟨rfl, be2, H2⟩ := hp2
  have hha2 := H2.hall
  have hbk2 := H2.bk
  have htf2 := H2.tfs
  have hlg2 := H2.lg
  have hl2_0 := H2.l0
  have hl2_01 := hl2_0.1
  have hl2_1 := H2.l1
  have hl2_11 := hl2_1.1
  have hl2_2 := H2.l2
  have hl2_21 := hl2_2.1
  have hvs2 := H2.veh hv
  refine r_callSR (As := [.long (zf_fold d (zm_cheap s v 0 1)), .int (zm_cheap s v 3 5)]) (rest := []) (rv := some (.long (zf_fold (zf_fold d (zm_cheap s v 0 1)) (zm_cheap s v 3 5)))) (st1 := [.long (zf_fold (zf_fold d (zm_cheap s v 0 1)) (zm_cheap s v 3 5))]) hX cs_X8_327 (by decide) (fun l => c_X8_fold l G h2 top2 (zf_fold d (zm_cheap s v 0 1)) (zm_cheap s v 3 5)) rfl rfl rfl (Nat.le_of_ble_eq_true rfl) dX8_foldVehicle_100 ?_
  refine r_lstore (lv' := [(5, .long (zf_fold (zf_fold d (zm_cheap s v 0 1)) (zm_cheap s v 3 5))), (0, .ref (z_b G)), (3, .ref v.1), (4, .int (nI iv))]) hX (by decide) rfl dX8_foldVehicle_103 ?_
  refine r_lload hX 0 rfl dX8_foldVehicle_105 ?_
  refine r_aload_n hX rfl 1 rfl dX8_foldVehicle_107 ?_
  refine r_iload hX 3 rfl dX8_foldVehicle_108 ?_
  refine r_callV (As := [.int (nI iv)]) (rest := [.long (zf_fold (zf_fold d (zm_cheap s v 0 1)) (zm_cheap s v 3 5))]) hX cs_X8_388 (by decide) (fun l => c_X8_wouldSave l G h2 top2 s be2 H2 iv v hv) hha2 rfl rfl rfl (Nat.le_of_ble_eq_true rfl) dX8_foldVehicle_110 (fun r3 h3 top3 hp3 => ?_)
  obtain ⟨rfl, be3, H3⟩ := hp3
  have hha3 := H3.hall
  have hbk3 := H3.bk
  have htf3 := H3.tfs
  have hlg3 := H3.lg
  have hl3_0 := H3.l0
  have hl3_01 := hl3_0.1
  have hl3_1 := H3.l1
  have hl3_11 := hl3_1.1
  have hl3_2 := H3.l2
  have hl3_21 := hl3_2.1
  have hvs3 := H3.veh hv
  refine r_callSR (As := [.long (zf_fold (zf_fold d (zm_cheap s v 0 1)) (zm_cheap s v 3 5)), .int (zm_ws s v)]) (rest := []) (rv := some (.long (zf_fold (zf_fold (zf_fold d (zm_cheap s v 0 1)) (zm_cheap s v 3 5)) (zm_ws s v)))) (st1 := [.long (zf_fold (zf_fold (zf_fold d (zm_cheap s v 0 1)) (zm_cheap s v 3 5)) (zm_ws s v))]) hX cs_X8_327 (by decide) (fun l => c_X8_fold l G h3 top3 (zf_fold (zf_fold d (zm_cheap s v 0 1)) (zm_cheap s v 3 5)) (zm_ws s v)) rfl rfl rfl (Nat.le_of_ble_eq_true rfl) dX8_foldVehicle_113 ?_
  refine r_lstore (lv' := [(5, .long (zf_fold (zf_fold (zf_fold d (zm_cheap s v 0 1)) (zm_cheap s v 3 5)) (zm_ws s v))), (0, .ref (z_b G)), (3, .ref v.1), (4, .int (nI iv))]) hX (by decide) rfl dX8_foldVehicle_116 ?_
  refine r_iconst (v := 0) hX (by decide) dX8_foldVehicle_118 ?_
  refine r_istore (lv' := [(7, .int 0), (5, .long (zf_fold (zf_fold (zf_fold d (zm_cheap s v 0 1)) (zm_cheap s v 3 5)) (zm_ws s v))), (0, .ref (z_b G)), (3, .ref v.1), (4, .int (nI iv))]) hX (by decide) rfl dX8_foldVehicle_119 ?_
  have hbd3 := H3.2.2.1.2.2
  refine r_lv [0, 1, 2, 4] (lv2 := [(7, .int 0), (5, .long (zf_fold (zf_fold (zf_fold d (zm_cheap s v 0 1)) (zm_cheap s v 3 5)) (zm_ws s v))), (0, .ref (z_b G)), (4, .int (nI iv))]) rfl ?_
  refine f_fv2 s be3 H3 iv v hv n hn hn6 (zf_fold (zf_fold (zf_fold d (zm_cheap s v 0 1)) (zm_cheap s v 3 5)) (zm_ws s v)) (fun d2 e2 => ?_) hX hq ((s_segs s).length + 1) 0 _ (by omega) (by omega) rfl
  refine r_lload hX 0 rfl dX8_foldVehicle_158 ?_
  exact r_lret hX hq (hp _ _ be3 H3 (by rw [e2]; rfl)) dX8_foldVehicle_160

set_option maxRecDepth 20000 in
set_option maxHeartbeats 4000000 in
theorem c_X8_foldVehicle (l : Launch) (G : zG) (h : zH) (top : Nat) (s : zS) (be : zB) (H : z_St G s be h top) (iv : Nat) (v : zVeh) (hv : (s_vehs s)[iv]? = some v) (hsg : zg_kn s) (n : Nat) (hn : s_now s = nI n) (hn6 : n ≤ 60000) (d0 : Int64) : z_Ct l yX8_foldVehicle cX8_foldVehicle 8 (some .long) 13 G [.ref (z_b G), .long d0, .ref v.1] h top (z_PQ G s (.long (zm_fveh s v d0))) := by
  refine z_of (own := RX8) (nm := "foldVehicle") (by decide) rfl rfl (by decide) (Nat.le_of_ble_eq_true rfl) (fun X hX hq => ?_)
  replace hX : z_ok X cX8_foldVehicle 8 RX8 (some .long) "foldVehicle" 13 G := hX
  show z_Z X h top 0 [(0, .ref (z_b G)), (1, .long d0), (3, .ref v.1)] []
  have hha := H.hall
  have hbd := H.2.2.1.2.2
  have hl0 := H.l0
  have hl01 := hl0.1
  have hl1 := H.l1
  have hl11 := hl1.1
  have hl2 := H.l2
  have hl21 := hl2.1
  have hbk := H.bk
  have hvl : iv < (s_vehs s).length := (List.getElem?_eq_some_iff.mp hv).1
  have hvs := H.veh hv
  refine r_aload_n hX rfl 2 rfl dX8_foldVehicle_0 ?_
  refine r_getf hX fl_X8_174 hvs rfl dX8_foldVehicle_1 ?_
  refine r_istore (lv' := [(4, .int (nI iv)), (0, .ref (z_b G)), (1, .long d0), (3, .ref v.1)]) hX (by decide) rfl dX8_foldVehicle_4 ?_
  refine r_lload_n hX rfl 2 rfl dX8_foldVehicle_6 ?_
  refine r_lstore (lv' := [(5, .long d0), (4, .int (nI iv)), (0, .ref (z_b G)), (1, .long d0), (3, .ref v.1)]) hX (by decide) rfl dX8_foldVehicle_7 ?_
  refine r_iconst (v := 0) hX (by decide) dX8_foldVehicle_9 ?_
  refine r_istore (lv' := [(7, .int 0), (5, .long d0), (4, .int (nI iv)), (0, .ref (z_b G)), (1, .long d0), (3, .ref v.1)]) hX (by decide) rfl dX8_foldVehicle_10 ?_
  refine r_lv [0, 1, 3, 5, 2] (lv2 := [(7, .int 0), (5, .long d0), (0, .ref (z_b G)), (3, .ref v.1), (4, .int (nI iv))]) rfl ?_
  refine f_fv1 s be H iv v hv d0 (fun d1 e1 => ?_) hX hq (8 + 1) 0 _ (by omega) (by omega) rfl
  refine r_aload_n hX rfl 1 rfl dX8_foldVehicle_40 ?_
  refine r_lload hX 0 rfl dX8_foldVehicle_41 ?_
  refine r_aload_n hX rfl 2 rfl dX8_foldVehicle_43 ?_
  refine r_aload_n hX rfl 1 rfl dX8_foldVehicle_44 ?_
  refine r_callVR (As := []) (rest := [.ref v.1, .long d1, .ref (z_b G)]) (rv := some (.int (s_now s / 1440))) (st1 := [.int (s_now s / 1440), .ref v.1, .long d1, .ref (z_b G)]) hX cs_X8_194 (by decide) (fun l => c_X8_today l G h top s be H) hha rfl rfl rfl rfl (Nat.le_of_ble_eq_true rfl) dX8_foldVehicle_45 ?_
  refine r_callV (As := [.long d1, .ref v.1, .int (s_now s / 1440)]) (rest := []) hX cs_X8_380 (by decide) (fun l => c_X8_foldDay l G h top s be H iv v hv d1 (s_now s / 1440)) hha rfl rfl rfl (Nat.le_of_ble_eq_true rfl) dX8_foldVehicle_48 (fun r1 h1 top1 hp1 => ?_)
  obtain ⟨rfl, be1, H1⟩ := hp1
  have hha1 := H1.hall
  have hbk1 := H1.bk
  have htf1 := H1.tfs
  have hlg1 := H1.lg
  have hl1_0 := H1.l0
  have hl1_01 := hl1_0.1
  have hl1_1 := H1.l1
  have hl1_11 := hl1_1.1
  have hl1_2 := H1.l2
  have hl1_21 := hl1_2.1
  have hvs1 := H1.veh hv
  refine r_lstore (lv' := [(5, .long (zm_fday s v (s_now s / 1440) d1)), (0, .ref (z_b G)), (3, .ref v.1), (4, .int (nI iv))]) hX (by decide) rfl dX8_foldVehicle_51 ?_
  refine r_aload_n hX rfl 1 rfl dX8_foldVehicle_53 ?_
  refine r_callVR (As := []) (rest := []) (rv := some (.int (s_now s / 1440))) (st1 := [.int (s_now s / 1440)]) hX cs_X8_194 (by decide) (fun l => c_X8_today l G h1 top1 s be1 H1) hha1 rfl rfl rfl rfl (Nat.le_of_ble_eq_true rfl) dX8_foldVehicle_54 ?_
  refine r_if_le (tgt := 75) hX dX8_foldVehicle_57 rfl (fun c57 => ?_) (fun c57 => ?_)
  · skip
    refine r_lv [0, 1, 2, 3] (lv2 := [(5, .long (zm_fday s v (s_now s / 1440) d1)), (0, .ref (z_b G)), (3, .ref v.1), (4, .int (nI iv))]) rfl ?_
    exact f_fv75 s be1 H1 iv v hv hsg n hn hn6 (zm_fday s v (s_now s / 1440) d1) (fun h9 t9 b9 r9 H9 e9 => ⟨by rw [e9, zm_fveh, if_neg (Int32.not_lt.mpr c57), zm_fv0, ← e1], b9, H9⟩) hX hq
  · skip
    refine r_aload_n hX rfl 1 rfl dX8_foldVehicle_60 ?_
    refine r_lload hX 0 rfl dX8_foldVehicle_61 ?_
    refine r_aload_n hX rfl 2 rfl dX8_foldVehicle_63 ?_
    refine r_aload_n hX rfl 1 rfl dX8_foldVehicle_64 ?_
    refine r_callVR (As := []) (rest := [.ref v.1, .long (zm_fday s v (s_now s / 1440) d1), .ref (z_b G)]) (rv := some (.int (s_now s / 1440))) (st1 := [.int (s_now s / 1440), .ref v.1, .long (zm_fday s v (s_now s / 1440) d1), .ref (z_b G)]) hX cs_X8_194 (by decide) (fun l => c_X8_today l G h1 top1 s be1 H1) hha1 rfl rfl rfl rfl (Nat.le_of_ble_eq_true rfl) dX8_foldVehicle_65 ?_
    refine r_iconst (v := 1) hX (by decide) dX8_foldVehicle_68 ?_
    refine r_isub hX dX8_foldVehicle_69 ?_
    refine r_callV (As := [.long (zm_fday s v (s_now s / 1440) d1), .ref v.1, .int ((s_now s / 1440) - 1)]) (rest := []) hX cs_X8_380 (by decide) (fun l => c_X8_foldDay l G h1 top1 s be1 H1 iv v hv (zm_fday s v (s_now s / 1440) d1) (s_now s / 1440 - 1)) hha1 rfl rfl rfl (Nat.le_of_ble_eq_true rfl) dX8_foldVehicle_70 (fun r2 h2 top2 hp2 => ?_)
    obtain ⟨rfl, be2, H2⟩ := hp2
    have hha2 := H2.hall
    have hbk2 := H2.bk
    have htf2 := H2.tfs
    have hlg2 := H2.lg
    have hl2_0 := H2.l0
    have hl2_01 := hl2_0.1
    have hl2_1 := H2.l1
    have hl2_11 := hl2_1.1
    have hl2_2 := H2.l2
    have hl2_21 := hl2_2.1
    have hvs2 := H2.veh hv
    refine r_lstore (lv' := [(5, .long (zm_fday s v (s_now s / 1440 - 1) (zm_fday s v (s_now s / 1440) d1))), (0, .ref (z_b G)), (3, .ref v.1), (4, .int (nI iv))]) hX (by decide) rfl dX8_foldVehicle_73 ?_
    refine r_lv [0, 1, 2, 3] (lv2 := [(5, .long (zm_fday s v (s_now s / 1440 - 1) (zm_fday s v (s_now s / 1440) d1))), (0, .ref (z_b G)), (3, .ref v.1), (4, .int (nI iv))]) rfl ?_
    exact f_fv75 s be2 H2 iv v hv hsg n hn hn6 (zm_fday s v (s_now s / 1440 - 1) (zm_fday s v (s_now s / 1440) d1)) (fun h9 t9 b9 r9 H9 e9 => ⟨by rw [e9, zm_fveh, if_pos (Int32.not_le.mp c57), zm_fv0, ← e1], b9, H9⟩) hX hq

