/-! small methods of the hall -/
theorem zf_in_nI {i n : Nat} (h : i ≤ n) (hn : n < 2 ^ 31) : zf_isIn (nI i) 0 (nI n) = true := by
  have h1 : (0 : Int32) ≤ nI i := Int32.not_lt.mp (nI_pos (by omega))
  have h2 : nI i ≤ nI n := (nI_leI (by omega) hn).mpr h
  simp [zf_isIn, h1, h2]
theorem c_isIn_1 (l : Launch) (G : zG) (h : zH) (top : Nat) {x lo hi : Int32} (hi1 : zf_isIn x lo hi = true) : z_Ct l yX8_isIn cX8_isIn 3 (some .boolean) 1 G [.int x, .int lo, .int hi] h top (z_R (some (.int 1)) h top) := by
  have q := c_X8_isIn l G h top x lo hi
  rw [hi1] at q
  exact q
theorem c_isKnot_1 (l : Launch) (G : zG) (h : zH) (top : Nat) {k : Nat} (hk : k < 8) : z_Ct l yX8_isKnot cX8_isKnot 1 (some .boolean) 2 G [.int (nI k)] h top (z_R (some (.int 1)) h top) := by
  have q := c_X8_isKnot l G h top (nI k)
  rw [show zf_isIn (nI k) 0 7 = true from zf_in_nI (n := 7) (by omega) (by decide)] at q
  exact q
theorem c_isOwner_1 (l : Launch) (G : zG) (h : zH) (top : Nat) {k : Nat} (hk : k < 4) : z_Ct l yX8_isOwner cX8_isOwner 1 (some .boolean) 2 G [.int (nI k)] h top (z_R (some (.int 1)) h top) := by
  have q := c_X8_isOwner l G h top (nI k)
  rw [show zf_isIn (nI k) 0 3 = true from zf_in_nI (n := 3) (by omega) (by decide)] at q
  exact q
set_option maxRecDepth 20000 in
set_option maxHeartbeats 4000000 in
theorem c_X8_isSegment (l : Launch) (G : zG) (h : zH) (top : Nat) (s : zS) (be : zB) (H : z_St G s be h top) (i : Nat) (hi : i < (s_segs s).length) : z_Ct l yX8_isSegment cX8_isSegment 2 (some .boolean) 2 G [.ref (z_b G), .int (nI i)] h top (z_R (some (.int 1)) h top) := by
  refine z_of (own := RX8) (nm := "isSegment") (by decide) rfl rfl (by decide) (Nat.le_of_ble_eq_true rfl) (fun X hX hq => ?_)
  replace hX : z_ok X cX8_isSegment 2 RX8 (some .boolean) "isSegment" 2 G := hX
  show z_Z X h top 0 [(0, .ref (z_b G)), (1, .int (nI i))] []
  have hha := H.hall
  have hbd := H.2.2.1.2.2
  have hl0 := H.l0
  have hl01 := hl0.1
  refine r_iload_n hX rfl 1 rfl dX8_isSegment_0 ?_
  refine r_iconst (v := 0) hX (by decide) dX8_isSegment_1 ?_
  refine r_aload_n hX rfl 0 rfl dX8_isSegment_2 ?_
  refine r_getf hX fl_X8_10 hha rfl dX8_isSegment_3 ?_
  refine r_callVR (As := []) (rest := [.int 0, .int (nI i)]) (rv := some (.int (nI (s_segs s).length))) (st1 := [.int (nI (s_segs s).length), .int 0, .int (nI i)]) hX cs_X8_69 (by decide) (fun l => z_size hl0 l) hl01 rfl rfl rfl rfl (Nat.le_of_ble_eq_true rfl) dX8_isSegment_6 ?_
  refine r_iconst (v := 1) hX (by decide) dX8_isSegment_9 ?_
  refine r_isub hX dX8_isSegment_10 ?_
  refine r_callSR (As := [.int (nI i), .int 0, .int ((nI (s_segs s).length) - 1)]) (rest := []) (rv := some (.int 1)) (st1 := [.int 1]) hX cs_X8_62 (by decide) (fun l => c_isIn_1 l G h top (by rw [show nI (s_segs s).length - 1 = nI ((s_segs s).length - 1) from by have e := nI_pred ((s_segs s).length - 1); rw [Nat.sub_add_cancel (by omega)] at e; exact e]; exact zf_in_nI (by omega) (by omega))) rfl rfl rfl (Nat.le_of_ble_eq_true rfl) dX8_isSegment_11 ?_
  exact r_zret hX hq (by decide) ⟨rfl, rfl, rfl⟩ dX8_isSegment_14

set_option maxRecDepth 20000 in
set_option maxHeartbeats 4000000 in
theorem c_X8_isVehicle (l : Launch) (G : zG) (h : zH) (top : Nat) (s : zS) (be : zB) (H : z_St G s be h top) (i : Nat) (hi : i < (s_vehs s).length) : z_Ct l yX8_isVehicle cX8_isVehicle 2 (some .boolean) 2 G [.ref (z_b G), .int (nI i)] h top (z_R (some (.int 1)) h top) := by
  refine z_of (own := RX8) (nm := "isVehicle") (by decide) rfl rfl (by decide) (Nat.le_of_ble_eq_true rfl) (fun X hX hq => ?_)
  replace hX : z_ok X cX8_isVehicle 2 RX8 (some .boolean) "isVehicle" 2 G := hX
  show z_Z X h top 0 [(0, .ref (z_b G)), (1, .int (nI i))] []
  have hha := H.hall
  have hbd := H.2.2.1.2.2
  have hl1 := H.l1
  have hl11 := hl1.1
  refine r_iload_n hX rfl 1 rfl dX8_isVehicle_0 ?_
  refine r_iconst (v := 0) hX (by decide) dX8_isVehicle_1 ?_
  refine r_aload_n hX rfl 0 rfl dX8_isVehicle_2 ?_
  refine r_getf hX fl_X8_16 hha rfl dX8_isVehicle_3 ?_
  refine r_callVR (As := []) (rest := [.int 0, .int (nI i)]) (rv := some (.int (nI (s_vehs s).length))) (st1 := [.int (nI (s_vehs s).length), .int 0, .int (nI i)]) hX cs_X8_69 (by decide) (fun l => z_size hl1 l) hl11 rfl rfl rfl rfl (Nat.le_of_ble_eq_true rfl) dX8_isVehicle_6 ?_
  refine r_iconst (v := 1) hX (by decide) dX8_isVehicle_9 ?_
  refine r_isub hX dX8_isVehicle_10 ?_
  refine r_callSR (As := [.int (nI i), .int 0, .int ((nI (s_vehs s).length) - 1)]) (rest := []) (rv := some (.int 1)) (st1 := [.int 1]) hX cs_X8_62 (by decide) (fun l => c_isIn_1 l G h top (by rw [show nI (s_vehs s).length - 1 = nI ((s_vehs s).length - 1) from by have e := nI_pred ((s_vehs s).length - 1); rw [Nat.sub_add_cancel (by omega)] at e; exact e]; exact zf_in_nI (by omega) (by omega))) rfl rfl rfl (Nat.le_of_ble_eq_true rfl) dX8_isVehicle_11 ?_
  exact r_zret hX hq (by decide) ⟨rfl, rfl, rfl⟩ dX8_isVehicle_14

set_option maxRecDepth 20000 in
set_option maxHeartbeats 4000000 in
theorem c_X8_isSighting (l : Launch) (G : zG) (h : zH) (top : Nat) (s : zS) (be : zB) (H : z_St G s be h top) (i : Nat) (hi : i < (s_sgts s).length) : z_Ct l yX8_isSighting cX8_isSighting 2 (some .boolean) 2 G [.ref (z_b G), .int (nI i)] h top (z_R (some (.int 1)) h top) := by
  refine z_of (own := RX8) (nm := "isSighting") (by decide) rfl rfl (by decide) (Nat.le_of_ble_eq_true rfl) (fun X hX hq => ?_)
  replace hX : z_ok X cX8_isSighting 2 RX8 (some .boolean) "isSighting" 2 G := hX
  show z_Z X h top 0 [(0, .ref (z_b G)), (1, .int (nI i))] []
  have hha := H.hall
  have hbd := H.2.2.1.2.2
  have hl2 := H.l2
  have hl21 := hl2.1
  refine r_iload_n hX rfl 1 rfl dX8_isSighting_0 ?_
  refine r_iconst (v := 0) hX (by decide) dX8_isSighting_1 ?_
  refine r_aload_n hX rfl 0 rfl dX8_isSighting_2 ?_
  refine r_getf hX fl_X8_19 hha rfl dX8_isSighting_3 ?_
  refine r_callVR (As := []) (rest := [.int 0, .int (nI i)]) (rv := some (.int (nI (s_sgts s).length))) (st1 := [.int (nI (s_sgts s).length), .int 0, .int (nI i)]) hX cs_X8_69 (by decide) (fun l => z_size hl2 l) hl21 rfl rfl rfl rfl (Nat.le_of_ble_eq_true rfl) dX8_isSighting_6 ?_
  refine r_iconst (v := 1) hX (by decide) dX8_isSighting_9 ?_
  refine r_isub hX dX8_isSighting_10 ?_
  refine r_callSR (As := [.int (nI i), .int 0, .int ((nI (s_sgts s).length) - 1)]) (rest := []) (rv := some (.int 1)) (st1 := [.int 1]) hX cs_X8_62 (by decide) (fun l => c_isIn_1 l G h top (by rw [show nI (s_sgts s).length - 1 = nI ((s_sgts s).length - 1) from by have e := nI_pred ((s_sgts s).length - 1); rw [Nat.sub_add_cancel (by omega)] at e; exact e]; exact zf_in_nI (by omega) (by omega))) rfl rfl rfl (Nat.le_of_ble_eq_true rfl) dX8_isSighting_11 ?_
  exact r_zret hX hq (by decide) ⟨rfl, rfl, rfl⟩ dX8_isSighting_14

set_option maxRecDepth 20000 in
set_option maxHeartbeats 4000000 in
theorem c_X8_today (l : Launch) (G : zG) (h : zH) (top : Nat) (s : zS) (be : zB) (H : z_St G s be h top) : z_Ct l yX8_today cX8_today 1 (some .int) 1 G [.ref (z_b G)] h top (z_R (some (.int (s_now s / 1440))) h top) := by
  refine z_of (own := RX8) (nm := "today") (by decide) rfl rfl (by decide) (Nat.le_of_ble_eq_true rfl) (fun X hX hq => ?_)
  replace hX : z_ok X cX8_today 1 RX8 (some .int) "today" 1 G := hX
  show z_Z X h top 0 [(0, .ref (z_b G))] []
  have hha := H.hall
  have hbd := H.2.2.1.2.2
  refine r_aload_n hX rfl 0 rfl dX8_today_0 ?_
  refine r_getf hX fl_X8_139 hha rfl dX8_today_1 ?_
  refine r_sipush (v := 1440) hX (by decide) dX8_today_4 ?_
  refine r_idiv hX (by decide) dX8_today_7 ?_
  exact r_iret hX hq ⟨rfl, rfl, rfl⟩ dX8_today_8

set_option maxRecDepth 20000 in
set_option maxHeartbeats 4000000 in
theorem c_X8_isClosed (l : Launch) (G : zG) (h : zH) (top : Nat) (s : zS) (be : zB) (H : z_St G s be h top) (d : Int32) : z_Ct l yX8_isClosed cX8_isClosed 2 (some .boolean) 2 G [.ref (z_b G), .int d] h top (z_R (some (.int (zf_b (decide (d ≤ s_now s / 1440 - 2))))) h top) := by
  refine z_of (own := RX8) (nm := "isClosed") (by decide) rfl rfl (by decide) (Nat.le_of_ble_eq_true rfl) (fun X hX hq => ?_)
  replace hX : z_ok X cX8_isClosed 2 RX8 (some .boolean) "isClosed" 2 G := hX
  show z_Z X h top 0 [(0, .ref (z_b G)), (1, .int d)] []
  have hha := H.hall
  have hbd := H.2.2.1.2.2
  refine r_iload_n hX rfl 1 rfl dX8_isClosed_0 ?_
  refine r_aload_n hX rfl 0 rfl dX8_isClosed_1 ?_
  refine r_callVR (As := []) (rest := [.int d]) (rv := some (.int (s_now s / 1440))) (st1 := [.int (s_now s / 1440), .int d]) hX cs_X8_194 (by decide) (fun l => c_X8_today l G h top s be H) hha rfl rfl rfl rfl (Nat.le_of_ble_eq_true rfl) dX8_isClosed_2 ?_
  refine r_iconst (v := 2) hX (by decide) dX8_isClosed_5 ?_
  refine r_isub hX dX8_isClosed_6 ?_
  refine r_icmp_gt (tgt := 14) hX dX8_isClosed_7 rfl (fun c7 => ?_) (fun c7 => ?_)
  · skip
    refine r_iconst (v := 0) hX (by decide) dX8_isClosed_14 ?_
    exact r_zret hX hq (by decide) ⟨by simp only [zf_b, decide_eq_true_eq]; rw [if_neg (Int32.not_le.mpr c7)], rfl, rfl⟩ dX8_isClosed_15
  · skip
    refine r_iconst (v := 1) hX (by decide) dX8_isClosed_10 ?_
    refine r_goto (tgt := 15) hX rfl dX8_isClosed_11 ?_
    exact r_zret hX hq (by decide) ⟨by simp only [zf_b, decide_eq_true_eq]; rw [if_pos (Int32.not_lt.mp c7)], rfl, rfl⟩ dX8_isClosed_15

set_option maxRecDepth 20000 in
set_option maxHeartbeats 4000000 in
theorem c_X8_isDayToTell (l : Launch) (G : zG) (h : zH) (top : Nat) (s : zS) (be : zB) (H : z_St G s be h top) (d : Int32) (hd1 : s_now s / 1440 < d) (hd2 : d ≤ 50) : z_Ct l yX8_isDayToTell cX8_isDayToTell 2 (some .boolean) 2 G [.ref (z_b G), .int d] h top (z_R (some (.int 1)) h top) := by
  refine z_of (own := RX8) (nm := "isDayToTell") (by decide) rfl rfl (by decide) (Nat.le_of_ble_eq_true rfl) (fun X hX hq => ?_)
  replace hX : z_ok X cX8_isDayToTell 2 RX8 (some .boolean) "isDayToTell" 2 G := hX
  show z_Z X h top 0 [(0, .ref (z_b G)), (1, .int d)] []
  have hha := H.hall
  have hbd := H.2.2.1.2.2
  refine r_iload_n hX rfl 1 rfl dX8_isDayToTell_0 ?_
  refine r_aload_n hX rfl 0 rfl dX8_isDayToTell_1 ?_
  refine r_callVR (As := []) (rest := [.int d]) (rv := some (.int (s_now s / 1440))) (st1 := [.int (s_now s / 1440), .int d]) hX cs_X8_194 (by decide) (fun l => c_X8_today l G h top s be H) hha rfl rfl rfl rfl (Nat.le_of_ble_eq_true rfl) dX8_isDayToTell_2 ?_
  refine r_icmp_le (tgt := 18) hX dX8_isDayToTell_5 rfl (fun c => False.elim (absurd hd1 (Int32.not_lt.mpr c))) (fun _ => ?_)
  refine r_iload_n hX rfl 1 rfl dX8_isDayToTell_8 ?_
  refine r_bipush (v := 50) hX (by decide) dX8_isDayToTell_9 ?_
  refine r_icmp_gt (tgt := 18) hX dX8_isDayToTell_11 rfl (fun c => False.elim (absurd hd2 (Int32.not_le.mpr c))) (fun _ => ?_)
  refine r_iconst (v := 1) hX (by decide) dX8_isDayToTell_14 ?_
  refine r_goto (tgt := 19) hX rfl dX8_isDayToTell_15 ?_
  exact r_zret hX hq (by decide) ⟨rfl, rfl, rfl⟩ dX8_isDayToTell_19

set_option maxRecDepth 20000 in
set_option maxHeartbeats 4000000 in
theorem c_X8_tollOf (l : Launch) (G : zG) (h : zH) (top : Nat) (s : zS) (be : zB) (H : z_St G s be h top) (iv : Nat) (v : zVeh) (hv : (s_vehs s)[iv]? = some v) (i : Nat) (x : zSeg) (hx : (s_segs s)[i]? = some x) (m : Int32) : z_Ct l yX8_tollOf cX8_tollOf 4 (some .int) 6 G [.ref (z_b G), .ref v.1, .ref x.1, .int m] h top (z_R (some (.int (zm_toll (s_tars s) x v m))) h top) := by
  refine z_of (own := RX8) (nm := "tollOf") (by decide) rfl rfl (by decide) (Nat.le_of_ble_eq_true rfl) (fun X hX hq => ?_)
  replace hX : z_ok X cX8_tollOf 4 RX8 (some .int) "tollOf" 6 G := hX
  show z_Z X h top 0 [(0, .ref (z_b G)), (1, .ref v.1), (2, .ref x.1), (3, .int m)] []
  have hha := H.hall
  have hbd := H.2.2.1.2.2
  have htf := H.tfs
  have hil : i < (s_segs s).length := (List.getElem?_eq_some_iff.mp hx).1
  have hxs := H.seg hx
  have hvl : iv < (s_vehs s).length := (List.getElem?_eq_some_iff.mp hv).1
  have hvs := H.veh hv
  refine r_aload_n hX rfl 1 rfl dX8_tollOf_0 ?_
  refine r_aload_n hX rfl 2 rfl dX8_tollOf_1 ?_
  refine r_getf hX fl_X8_240 hxs rfl dX8_tollOf_2 ?_
  refine r_callVR (As := [.int x.2.2.2.2]) (rest := []) (rv := some (.int (zf_b (zf_hasBit v.2.2.2.1 x.2.2.2.2)))) (st1 := [.int (zf_b (zf_hasBit v.2.2.2.1 x.2.2.2.2))]) hX cs_X8_129 (by decide) (fun l => c_X7_isExempt l G h top v iv hvs x.2.2.2.2) hvs rfl rfl rfl rfl (Nat.le_of_ble_eq_true rfl) dX8_tollOf_5 ?_
  refine r_if_ne (tgt := 19) hX dX8_tollOf_8 rfl (fun c8 => ?_) (fun c8 => ?_)
  · skip
    refine r_iconst (v := 0) hX (by decide) dX8_tollOf_19 ?_
    exact r_iret hX hq ⟨by rw [zm_toll, if_pos (zf_b_ne c8)], rfl, rfl⟩ dX8_tollOf_20
  · skip
    refine r_aload_n hX rfl 2 rfl dX8_tollOf_11 ?_
    refine r_iload_n hX rfl 3 rfl dX8_tollOf_12 ?_
    refine r_callVR (As := [.int m]) (rest := []) (rv := some (.int 0)) (st1 := [.int 0]) hX cs_X8_243 (by decide) (fun l => c_X3_isShut l G h top x i hxs m) hxs rfl rfl rfl rfl (Nat.le_of_ble_eq_true rfl) dX8_tollOf_13 ?_
    refine r_if_eq (tgt := 21) hX dX8_tollOf_16 rfl (fun _ => ?_) (fun c => False.elim (absurd c (by decide)))
    refine r_aload_n hX rfl 0 rfl dX8_tollOf_21 ?_
    refine r_getf hX fl_X8_25 hha rfl dX8_tollOf_22 ?_
    refine r_aload_n hX rfl 2 rfl dX8_tollOf_25 ?_
    refine r_aload_n hX rfl 1 rfl dX8_tollOf_26 ?_
    refine r_getf hX fl_X8_201 hvs rfl dX8_tollOf_27 ?_
    refine r_aload_n hX rfl 1 rfl dX8_tollOf_30 ?_
    refine r_getf hX fl_X8_246 hvs rfl dX8_tollOf_31 ?_
    refine r_iload_n hX rfl 3 rfl dX8_tollOf_34 ?_
    refine r_callVR (As := [.ref x.1, .int v.2.1.1, .int v.2.1.2.1, .int m]) (rest := []) (rv := some (.int (zm_price (s_tars s) x.2.2.2.2 x.2.2.2.1 v.2.1.1 v.2.1.2.1 m))) (st1 := [.int (zm_price (s_tars s) x.2.2.2.2 x.2.2.2.1 v.2.1.1 v.2.1.2.1 m)]) hX cs_X8_318 (by decide) (fun l => c_price l G h top (z_b G + 4) (z_b G + 5) (z_b G + 6) (s_tars s) (b_ls be 3).1 (b_ls be 3).2.1 (b_ls be 3).2.2 H.tfs H.l3 (fun i t ht => H.tar ht) H.hol x i hxs v.2.1.1 v.2.1.2.1 m) htf rfl rfl rfl rfl (Nat.le_of_ble_eq_true rfl) dX8_tollOf_35 ?_
    exact r_iret hX hq ⟨by rw [zm_toll, if_neg (by rw [zf_b_e c8]; decide)], rfl, rfl⟩ dX8_tollOf_38

set_option maxRecDepth 20000 in
set_option maxHeartbeats 4000000 in
theorem c_X8_toll (l : Launch) (G : zG) (h : zH) (top : Nat) (s : zS) (be : zB) (H : z_St G s be h top) (iv : Nat) (v : zVeh) (hv : (s_vehs s)[iv]? = some v) (i : Nat) (x : zSeg) (hx : (s_segs s)[i]? = some x) (m : Int32) (hm : zf_isIn m 0 72000 = true) : z_Ct l yX8_toll cX8_toll 4 (some .int) 7 G [.ref (z_b G), .int (nI iv), .int (nI i), .int m] h top (z_R (some (.int (zm_toll (s_tars s) x v m))) h top) := by
  refine z_of (own := RX8) (nm := "toll") (by decide) rfl rfl (by decide) (Nat.le_of_ble_eq_true rfl) (fun X hX hq => ?_)
  replace hX : z_ok X cX8_toll 4 RX8 (some .int) "toll" 7 G := hX
  show z_Z X h top 0 [(0, .ref (z_b G)), (1, .int (nI iv)), (2, .int (nI i)), (3, .int m)] []
  have hha := H.hall
  have hbd := H.2.2.1.2.2
  have hl0 := H.l0
  have hl01 := hl0.1
  have hl1 := H.l1
  have hl11 := hl1.1
  have hil : i < (s_segs s).length := (List.getElem?_eq_some_iff.mp hx).1
  have hxs := H.seg hx
  have hvl : iv < (s_vehs s).length := (List.getElem?_eq_some_iff.mp hv).1
  have hvs := H.veh hv
  refine r_aload_n hX rfl 0 rfl dX8_toll_0 ?_
  refine r_iload_n hX rfl 1 rfl dX8_toll_1 ?_
  refine r_callVR (As := [.int (nI iv)]) (rest := []) (rv := some (.int 1)) (st1 := [.int 1]) hX cs_X8_126 (by decide) (fun l => c_X8_isVehicle l G h top s be H iv hvl) hha rfl rfl rfl rfl (Nat.le_of_ble_eq_true rfl) dX8_toll_2 ?_
  refine r_if_eq (tgt := 20) hX dX8_toll_5 rfl (fun c => False.elim (absurd c (by decide))) (fun _ => ?_)
  refine r_aload_n hX rfl 0 rfl dX8_toll_8 ?_
  refine r_iload_n hX rfl 2 rfl dX8_toll_9 ?_
  refine r_callVR (As := [.int (nI i)]) (rest := []) (rv := some (.int 1)) (st1 := [.int 1]) hX cs_X8_85 (by decide) (fun l => c_X8_isSegment l G h top s be H i hil) hha rfl rfl rfl rfl (Nat.le_of_ble_eq_true rfl) dX8_toll_10 ?_
  refine r_if_eq (tgt := 20) hX dX8_toll_13 rfl (fun c => False.elim (absurd c (by decide))) (fun _ => ?_)
  refine r_iconst (v := 1) hX (by decide) dX8_toll_16 ?_
  refine r_goto (tgt := 21) hX rfl dX8_toll_17 ?_
  refine r_callSR (As := [.int 1]) (rest := []) (rv := none) (st1 := []) hX cs_X8_58 (by decide) (fun l => c_X8_needIndex l G h top) rfl rfl rfl (Nat.le_of_ble_eq_true rfl) dX8_toll_21 ?_
  refine r_iload_n hX rfl 3 rfl dX8_toll_24 ?_
  refine r_iconst (v := 0) hX (by decide) dX8_toll_25 ?_
  refine r_ldcw hX kc_X8_301 dX8_toll_26 ?_
  refine r_callSR (As := [.int m, .int 0, .int 72000]) (rest := []) (rv := some (.int 1)) (st1 := [.int 1]) hX cs_X8_62 (by decide) (fun l => c_isIn_1 l G h top hm) rfl rfl rfl (Nat.le_of_ble_eq_true rfl) dX8_toll_29 ?_
  refine r_callSR (As := [.int 1]) (rest := []) (rv := none) (st1 := []) hX cs_X8_66 (by decide) (fun l => c_X8_needArgument l G h top) rfl rfl rfl (Nat.le_of_ble_eq_true rfl) dX8_toll_32 ?_
  refine r_aload_n hX rfl 0 rfl dX8_toll_35 ?_
  refine r_aload_n hX rfl 0 rfl dX8_toll_36 ?_
  refine r_getf hX fl_X8_16 hha rfl dX8_toll_37 ?_
  refine r_iload_n hX rfl 1 rfl dX8_toll_40 ?_
  refine r_callVR (As := [.int (nI iv)]) (rest := [.ref (z_b G)]) (rv := some (.ref v.1)) (st1 := [.ref v.1, .ref (z_b G)]) hX cs_X8_92 (by decide) (fun l => z_get hl1 hvl (z_mapget hv) l) hl11 rfl rfl rfl rfl (Nat.le_of_ble_eq_true rfl) dX8_toll_41 ?_
  refine r_cast (ci := 8) hX rfl hvs cl_X8_121 dX8_toll_44 ?_
  refine r_aload_n hX rfl 0 rfl dX8_toll_47 ?_
  refine r_getf hX fl_X8_10 hha rfl dX8_toll_48 ?_
  refine r_iload_n hX rfl 2 rfl dX8_toll_51 ?_
  refine r_callVR (As := [.int (nI i)]) (rest := [.ref v.1, .ref (z_b G)]) (rv := some (.ref x.1)) (st1 := [.ref x.1, .ref v.1, .ref (z_b G)]) hX cs_X8_92 (by decide) (fun l => z_get hl0 hil (z_mapget hx) l) hl01 rfl rfl rfl rfl (Nat.le_of_ble_eq_true rfl) dX8_toll_52 ?_
  refine r_cast (ci := 4) hX rfl hxs cl_X8_76 dX8_toll_55 ?_
  refine r_iload_n hX rfl 3 rfl dX8_toll_58 ?_
  refine r_callVR (As := [.ref v.1, .ref x.1, .int m]) (rest := []) (rv := some (.int (zm_toll (s_tars s) x v m))) (st1 := [.int (zm_toll (s_tars s) x v m)]) hX cs_X8_181 (by decide) (fun l => c_X8_tollOf l G h top s be H iv v hv i x hx m) hha rfl rfl rfl rfl (Nat.le_of_ble_eq_true rfl) dX8_toll_59 ?_
  exact r_iret hX hq ⟨rfl, rfl, rfl⟩ dX8_toll_62

set_option maxRecDepth 20000 in
set_option maxHeartbeats 4000000 in
theorem c_X8_reachOf (l : Launch) (G : zG) (h : zH) (top : Nat) (s : zS) (be : zB) (H : z_St G s be h top) (k : Nat) (hk : k < 8) : z_Ct l yX8_reachOf cX8_reachOf 2 (some .int) 1 G [.ref (z_b G), .int (nI k)] h top (z_R (some (.int (b_rch be (nI k).toNatClampNeg))) h top) := by
  refine z_of (own := RX8) (nm := "reachOf") (by decide) rfl rfl (by decide) (Nat.le_of_ble_eq_true rfl) (fun X hX hq => ?_)
  replace hX : z_ok X cX8_reachOf 2 RX8 (some .int) "reachOf" 1 G := hX
  show z_Z X h top 0 [(0, .ref (z_b G)), (1, .int (nI k))] []
  have hha := H.hall
  have hbd := H.2.2.1.2.2
  have hrc := H.rch
  refine r_iload_n hX rfl 1 rfl dX8_reachOf_0 ?_
  refine r_if_lt (tgt := 22) hX dX8_reachOf_1 rfl (fun c => False.elim (nI_pos (by omega) c)) (fun _ => ?_)
  refine r_iload_n hX rfl 1 rfl dX8_reachOf_4 ?_
  refine r_aload_n hX rfl 0 rfl dX8_reachOf_5 ?_
  refine r_getf hX fl_X8_43 hha rfl dX8_reachOf_6 ?_
  refine r_alenI (v := 8) hX hrc rfl dX8_reachOf_9 ?_
  refine r_icmp_ge (tgt := 22) hX dX8_reachOf_10 rfl (fun c => False.elim (absurd (show nI 8 ≤ nI k from c) (nI_ge hk (by omega)))) (fun _ => ?_)
  refine r_aload_n hX rfl 0 rfl dX8_reachOf_13 ?_
  refine r_getf hX fl_X8_43 hha rfl dX8_reachOf_14 ?_
  refine r_iload_n hX rfl 1 rfl dX8_reachOf_17 ?_
  refine r_iald (v := ((b_rch be) ((nI k) : Int32).toNatClampNeg)) hX hrc (vp_in_nI hk (by omega)) rfl dX8_reachOf_18 ?_
  refine r_goto (tgt := 23) hX rfl dX8_reachOf_19 ?_
  exact r_iret hX hq ⟨rfl, rfl, rfl⟩ dX8_reachOf_23

set_option maxRecDepth 20000 in
set_option maxHeartbeats 4000000 in
theorem c_X8_setReach (l : Launch) (G : zG) (h : zH) (top : Nat) (s : zS) (be : zB) (H : z_St G s be h top) (k : Nat) (hk : k < 8) (c : Int32) : z_Ct l yX8_setReach cX8_setReach 3 none 1 G [.ref (z_b G), .int (nI k), .int c] h top (fun r h' top' => r = none ∧ top' = top ∧ z_St G s (upd (b_rch be) (nI k).toNatClampNeg c, be.2) h' top') := by
  refine z_of (own := RX8) (nm := "setReach") (by decide) rfl rfl (by decide) (Nat.le_of_ble_eq_true rfl) (fun X hX hq => ?_)
  replace hX : z_ok X cX8_setReach 3 RX8 none "setReach" 1 G := hX
  show z_Z X h top 0 [(0, .ref (z_b G)), (1, .int (nI k)), (2, .int c)] []
  have hha := H.hall
  have hbd := H.2.2.1.2.2
  have hrc := H.rch
  refine r_iload_n hX rfl 1 rfl dX8_setReach_0 ?_
  refine r_if_lt (tgt := 20) hX dX8_setReach_1 rfl (fun c => False.elim (nI_pos (by omega) c)) (fun _ => ?_)
  refine r_iload_n hX rfl 1 rfl dX8_setReach_4 ?_
  refine r_aload_n hX rfl 0 rfl dX8_setReach_5 ?_
  refine r_getf hX fl_X8_43 hha rfl dX8_setReach_6 ?_
  refine r_alenI (v := 8) hX hrc rfl dX8_setReach_9 ?_
  refine r_icmp_ge (tgt := 20) hX dX8_setReach_10 rfl (fun c => False.elim (absurd (show nI 8 ≤ nI k from c) (nI_ge hk (by omega)))) (fun _ => ?_)
  refine r_aload_n hX rfl 0 rfl dX8_setReach_13 ?_
  refine r_getf hX fl_X8_43 hha rfl dX8_setReach_14 ?_
  refine r_iload_n hX rfl 1 rfl dX8_setReach_17 ?_
  refine r_iload_n hX rfl 2 rfl dX8_setReach_18 ?_
  refine r_iast hX hrc (vp_in_nI hk (by omega)) dX8_setReach_19 ?_
  replace hha := hha.up (e3 := (.inl (z_aI G, 8, .inl (upd (b_rch be) ((nI k) : Int32).toNatClampNeg c)))) hrc (by intro z; cases z)
  replace hrc : z_at G (va_up h (z_b G + 16) (.inl (z_aI G, 8, .inl (upd (b_rch be) ((nI k) : Int32).toNatClampNeg c)))) top (z_b G + 16) (.inl (z_aI G, 8, .inl (upd (b_rch be) ((nI k) : Int32).toNatClampNeg c))) := z_at.self hrc
  exact r_vret hX hq ⟨rfl, rfl, H.setRch _⟩ dX8_setReach_20

