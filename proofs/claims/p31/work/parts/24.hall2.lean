/-! the hall asks the book -/
theorem zm_cert_le (s : zS) (va : Nat) (day : Int32) : zm_cert s va day ≤ (zm_day s va day).length := by
  unfold zm_cert zm_day zm_gath
  rw [List.length_append]
  omega
theorem zm_charge_len (s : zS) (v : zVeh) (rank cap : Int32) : ∀ (rows : List zQ), (zm_charge s v rank cap rows).2.length = rows.length := by
  have key : ∀ (rows : List zQ) (acc : Int32 × List (Int32 × Int32)), (rows.foldl (zm_chStep s v rank cap) acc).2.length = acc.2.length + rows.length := by
    intro rows
    induction rows with
    | nil => intro acc; rfl
    | cons q qs ih =>
      intro acc
      rw [List.foldl_cons, ih, List.length_cons]
      show (acc.2 ++ [_]).length + _ = _
      rw [List.length_append, List.length_singleton]
      omega
  intro rows
  have := key rows (0, [])
  rw [List.length_nil, Nat.zero_add] at this
  exact this
/-- an answer, the state unchanged but for the book -/
def z_PQ (G : zG) (s : zS) (r0 : Value) : Option Value → zH → Nat → Prop := fun r h' top' => r = some r0 ∧ ∃ be2, z_St G s be2 h' top'
set_option maxRecDepth 20000 in
set_option maxHeartbeats 4000000 in
theorem c_X8_passages (l : Launch) (G : zG) (h : zH) (top : Nat) (s : zS) (be : zB) (H : z_St G s be h top) (iv : Nat) (v : zVeh) (hv : (s_vehs s)[iv]? = some v) (day : Int32) (hd0 : ¬ day < 0) : z_Ct l yX8_passages cX8_passages 3 (some .int) 12 G [.ref (z_b G), .int (nI iv), .int day] h top (z_PQ G s (.int (nI (zm_day s v.1 day).length))) := by
  refine z_of (own := RX8) (nm := "passages") (by decide) rfl rfl (by decide) (Nat.le_of_ble_eq_true rfl) (fun X hX hq => ?_)
  replace hX : z_ok X cX8_passages 3 RX8 (some .int) "passages" 12 G := hX
  show z_Z X h top 0 [(0, .ref (z_b G)), (1, .int (nI iv)), (2, .int day)] []
  have hha := H.hall
  have hbd := H.2.2.1.2.2
  have hl0 := H.l0
  have hl01 := hl0.1
  have hl1 := H.l1
  have hl11 := hl1.1
  have hl2 := H.l2
  have hl21 := hl2.1
  have hbk := H.bk
  have hvl : iv < (s_vehs s).length := (List.getElem?_eq_some_iff.mp hv).1
  have hvs := H.veh hv
  refine r_aload_n hX rfl 0 rfl dX8_passages_0 ?_
  refine r_iload_n hX rfl 1 rfl dX8_passages_1 ?_
  refine r_callVR (As := [.int (nI iv)]) (rest := []) (rv := some (.int 1)) (st1 := [.int 1]) hX cs_X8_126 (by decide) (fun l => c_X8_isVehicle l G h top s be H iv hvl) hha rfl rfl rfl rfl (Nat.le_of_ble_eq_true rfl) dX8_passages_2 ?_
  refine r_callSR (As := [.int 1]) (rest := []) (rv := none) (st1 := []) hX cs_X8_58 (by decide) (fun l => c_X8_needIndex l G h top) rfl rfl rfl (Nat.le_of_ble_eq_true rfl) dX8_passages_5 ?_
  refine r_iload_n hX rfl 2 rfl dX8_passages_8 ?_
  refine r_if_lt (tgt := 16) hX dX8_passages_9 rfl (fun c => False.elim (hd0 c)) (fun _ => ?_)
  refine r_iconst (v := 1) hX (by decide) dX8_passages_12 ?_
  refine r_goto (tgt := 17) hX rfl dX8_passages_13 ?_
  refine r_callSR (As := [.int 1]) (rest := []) (rv := none) (st1 := []) hX cs_X8_66 (by decide) (fun l => c_X8_needArgument l G h top) rfl rfl rfl (Nat.le_of_ble_eq_true rfl) dX8_passages_17 ?_
  refine r_aload_n hX rfl 0 rfl dX8_passages_20 ?_
  refine r_getf hX fl_X8_39 hha rfl dX8_passages_21 ?_
  refine r_aload_n hX rfl 0 rfl dX8_passages_24 ?_
  refine r_getf hX fl_X8_19 hha rfl dX8_passages_25 ?_
  refine r_aload_n hX rfl 0 rfl dX8_passages_28 ?_
  refine r_getf hX fl_X8_10 hha rfl dX8_passages_29 ?_
  refine r_aload_n hX rfl 0 rfl dX8_passages_32 ?_
  refine r_getf hX fl_X8_16 hha rfl dX8_passages_33 ?_
  refine r_iload_n hX rfl 1 rfl dX8_passages_36 ?_
  refine r_callVR (As := [.int (nI iv)]) (rest := [.ref (z_b G + 1), .ref (z_b G + 3), .ref (z_b G + 11)]) (rv := some (.ref v.1)) (st1 := [.ref v.1, .ref (z_b G + 1), .ref (z_b G + 3), .ref (z_b G + 11)]) hX cs_X8_92 (by decide) (fun l => z_get hl1 hvl (z_mapget hv) l) hl11 rfl rfl rfl rfl (Nat.le_of_ble_eq_true rfl) dX8_passages_37 ?_
  refine r_cast (ci := 8) hX rfl hvs cl_X8_121 dX8_passages_40 ?_
  refine r_iload_n hX rfl 2 rfl dX8_passages_43 ?_
  refine r_callV (As := [.ref (z_b G + 3), .ref (z_b G + 1), .ref v.1, .int day]) (rest := []) hX cs_X8_197 (by decide) (fun l => c_X0_gather l G h top s be v.1 day H) hbk rfl rfl rfl (Nat.le_of_ble_eq_true rfl) dX8_passages_44 (fun r1 h1 top1 hp1 => ?_)
  obtain ⟨rfl, be1, RI1, J1⟩ := hp1
  have hha1 := J1.1.hall
  have hbk1 := J1.1.bk
  have htf1 := J1.1.tfs
  have hlg1 := J1.1.lg
  have hl1_0 := J1.1.l0
  have hl1_01 := hl1_0.1
  have hl1_1 := J1.1.l1
  have hl1_11 := hl1_1.1
  have hl1_2 := J1.1.l2
  have hl1_21 := hl1_2.1
  have hvs1 := J1.1.veh hv
  refine r_aload_n hX rfl 0 rfl dX8_passages_47 ?_
  refine r_getf hX fl_X8_39 hha1 rfl dX8_passages_48 ?_
  refine r_callVR (As := []) (rest := []) (rv := some (.int (nI (b_rw be1).length))) (st1 := [.int (nI (b_rw be1).length)]) hX cs_X8_283 (by decide) (fun l => c_X0_size l G h1 top1 s be1 J1.1) hbk1 rfl rfl rfl rfl (Nat.le_of_ble_eq_true rfl) dX8_passages_51 ?_
  exact r_iret hX hq ⟨by rw [J1.len.1], be1, J1.1⟩ dX8_passages_54

set_option maxRecDepth 20000 in
set_option maxHeartbeats 4000000 in
theorem c_X8_journeys (l : Launch) (G : zG) (h : zH) (top : Nat) (s : zS) (be : zB) (H : z_St G s be h top) (iv : Nat) (v : zVeh) (hv : (s_vehs s)[iv]? = some v) (day : Int32) (hd0 : ¬ day < 0) : z_Ct l yX8_journeys cX8_journeys 3 (some .int) 12 G [.ref (z_b G), .int (nI iv), .int day] h top (z_PQ G s (.int (zm_jcount s (zm_cert s v.1 day) (zm_day s v.1 day)))) := by
  refine z_of (own := RX8) (nm := "journeys") (by decide) rfl rfl (by decide) (Nat.le_of_ble_eq_true rfl) (fun X hX hq => ?_)
  replace hX : z_ok X cX8_journeys 3 RX8 (some .int) "journeys" 12 G := hX
  show z_Z X h top 0 [(0, .ref (z_b G)), (1, .int (nI iv)), (2, .int day)] []
  have hha := H.hall
  have hbd := H.2.2.1.2.2
  have hl0 := H.l0
  have hl01 := hl0.1
  have hl1 := H.l1
  have hl11 := hl1.1
  have hl2 := H.l2
  have hl21 := hl2.1
  have hbk := H.bk
  have hvl : iv < (s_vehs s).length := (List.getElem?_eq_some_iff.mp hv).1
  have hvs := H.veh hv
  refine r_aload_n hX rfl 0 rfl dX8_journeys_0 ?_
  refine r_iload_n hX rfl 1 rfl dX8_journeys_1 ?_
  refine r_callVR (As := [.int (nI iv)]) (rest := []) (rv := some (.int 1)) (st1 := [.int 1]) hX cs_X8_126 (by decide) (fun l => c_X8_isVehicle l G h top s be H iv hvl) hha rfl rfl rfl rfl (Nat.le_of_ble_eq_true rfl) dX8_journeys_2 ?_
  refine r_callSR (As := [.int 1]) (rest := []) (rv := none) (st1 := []) hX cs_X8_58 (by decide) (fun l => c_X8_needIndex l G h top) rfl rfl rfl (Nat.le_of_ble_eq_true rfl) dX8_journeys_5 ?_
  refine r_iload_n hX rfl 2 rfl dX8_journeys_8 ?_
  refine r_if_lt (tgt := 16) hX dX8_journeys_9 rfl (fun c => False.elim (hd0 c)) (fun _ => ?_)
  refine r_iconst (v := 1) hX (by decide) dX8_journeys_12 ?_
  refine r_goto (tgt := 17) hX rfl dX8_journeys_13 ?_
  refine r_callSR (As := [.int 1]) (rest := []) (rv := none) (st1 := []) hX cs_X8_66 (by decide) (fun l => c_X8_needArgument l G h top) rfl rfl rfl (Nat.le_of_ble_eq_true rfl) dX8_journeys_17 ?_
  refine r_aload_n hX rfl 0 rfl dX8_journeys_20 ?_
  refine r_getf hX fl_X8_39 hha rfl dX8_journeys_21 ?_
  refine r_aload_n hX rfl 0 rfl dX8_journeys_24 ?_
  refine r_getf hX fl_X8_19 hha rfl dX8_journeys_25 ?_
  refine r_aload_n hX rfl 0 rfl dX8_journeys_28 ?_
  refine r_getf hX fl_X8_10 hha rfl dX8_journeys_29 ?_
  refine r_aload_n hX rfl 0 rfl dX8_journeys_32 ?_
  refine r_getf hX fl_X8_16 hha rfl dX8_journeys_33 ?_
  refine r_iload_n hX rfl 1 rfl dX8_journeys_36 ?_
  refine r_callVR (As := [.int (nI iv)]) (rest := [.ref (z_b G + 1), .ref (z_b G + 3), .ref (z_b G + 11)]) (rv := some (.ref v.1)) (st1 := [.ref v.1, .ref (z_b G + 1), .ref (z_b G + 3), .ref (z_b G + 11)]) hX cs_X8_92 (by decide) (fun l => z_get hl1 hvl (z_mapget hv) l) hl11 rfl rfl rfl rfl (Nat.le_of_ble_eq_true rfl) dX8_journeys_37 ?_
  refine r_cast (ci := 8) hX rfl hvs cl_X8_121 dX8_journeys_40 ?_
  refine r_iload_n hX rfl 2 rfl dX8_journeys_43 ?_
  refine r_callV (As := [.ref (z_b G + 3), .ref (z_b G + 1), .ref v.1, .int day]) (rest := []) hX cs_X8_197 (by decide) (fun l => c_X0_gather l G h top s be v.1 day H) hbk rfl rfl rfl (Nat.le_of_ble_eq_true rfl) dX8_journeys_44 (fun r1 h1 top1 hp1 => ?_)
  obtain ⟨rfl, be1, RI1, J1⟩ := hp1
  have hha1 := J1.1.hall
  have hbk1 := J1.1.bk
  have htf1 := J1.1.tfs
  have hlg1 := J1.1.lg
  have hl1_0 := J1.1.l0
  have hl1_01 := hl1_0.1
  have hl1_1 := J1.1.l1
  have hl1_11 := hl1_1.1
  have hl1_2 := J1.1.l2
  have hl1_21 := hl1_2.1
  have hvs1 := J1.1.veh hv
  refine r_aload_n hX rfl 0 rfl dX8_journeys_47 ?_
  refine r_getf hX fl_X8_39 hha1 rfl dX8_journeys_48 ?_
  refine r_callVR (As := []) (rest := []) (rv := some (.int (zm_jcount s (zm_cert s v.1 day) (zm_day s v.1 day)))) (st1 := [.int (zm_jcount s (zm_cert s v.1 day) (zm_day s v.1 day))]) hX cs_X8_288 (by decide) (fun l => c_X0_journeyCount l G h1 top1 s _ (zm_cert s v.1 day) be1 _ RI1 J1 (zm_cert_le s v.1 day)) hbk1 rfl rfl rfl rfl (Nat.le_of_ble_eq_true rfl) dX8_journeys_51 ?_
  exact r_iret hX hq ⟨rfl, be1, J1.1⟩ dX8_journeys_54

set_option maxRecDepth 20000 in
set_option maxHeartbeats 4000000 in
theorem c_X8_bill (l : Launch) (G : zG) (h : zH) (top : Nat) (s : zS) (be : zB) (H : z_St G s be h top) (iv : Nat) (v : zVeh) (hv : (s_vehs s)[iv]? = some v) (day : Int32) (hd0 : ¬ day < 0) (cap : Int32) (hcap : zf_isIn cap 50 999 = true) : z_Ct l yX8_bill cX8_bill 5 (some .int) 12 G [.ref (z_b G), .int (nI iv), .int day, .int cap] h top (z_PQ G s (.int (zm_charge s v v.2.1.1 cap (zm_day s v.1 day)).1)) := by
  refine z_of (own := RX8) (nm := "bill") (by decide) rfl rfl (by decide) (Nat.le_of_ble_eq_true rfl) (fun X hX hq => ?_)
  replace hX : z_ok X cX8_bill 5 RX8 (some .int) "bill" 12 G := hX
  show z_Z X h top 0 [(0, .ref (z_b G)), (1, .int (nI iv)), (2, .int day), (3, .int cap)] []
  have hha := H.hall
  have hbd := H.2.2.1.2.2
  have hl0 := H.l0
  have hl01 := hl0.1
  have hl1 := H.l1
  have hl11 := hl1.1
  have hl2 := H.l2
  have hl21 := hl2.1
  have hbk := H.bk
  have hvl : iv < (s_vehs s).length := (List.getElem?_eq_some_iff.mp hv).1
  have hvs := H.veh hv
  refine r_aload_n hX rfl 0 rfl dX8_bill_0 ?_
  refine r_iload_n hX rfl 1 rfl dX8_bill_1 ?_
  refine r_callVR (As := [.int (nI iv)]) (rest := []) (rv := some (.int 1)) (st1 := [.int 1]) hX cs_X8_126 (by decide) (fun l => c_X8_isVehicle l G h top s be H iv hvl) hha rfl rfl rfl rfl (Nat.le_of_ble_eq_true rfl) dX8_bill_2 ?_
  refine r_callSR (As := [.int 1]) (rest := []) (rv := none) (st1 := []) hX cs_X8_58 (by decide) (fun l => c_X8_needIndex l G h top) rfl rfl rfl (Nat.le_of_ble_eq_true rfl) dX8_bill_5 ?_
  refine r_iload_n hX rfl 2 rfl dX8_bill_8 ?_
  refine r_if_lt (tgt := 28) hX dX8_bill_9 rfl (fun c => False.elim (hd0 c)) (fun _ => ?_)
  refine r_iload_n hX rfl 3 rfl dX8_bill_12 ?_
  refine r_bipush (v := 50) hX (by decide) dX8_bill_13 ?_
  refine r_sipush (v := 999) hX (by decide) dX8_bill_15 ?_
  refine r_callSR (As := [.int cap, .int 50, .int 999]) (rest := []) (rv := some (.int 1)) (st1 := [.int 1]) hX cs_X8_62 (by decide) (fun l => c_isIn_1 l G h top hcap) rfl rfl rfl (Nat.le_of_ble_eq_true rfl) dX8_bill_18 ?_
  refine r_if_eq (tgt := 28) hX dX8_bill_21 rfl (fun c => False.elim (absurd c (by decide))) (fun _ => ?_)
  refine r_iconst (v := 1) hX (by decide) dX8_bill_24 ?_
  refine r_goto (tgt := 29) hX rfl dX8_bill_25 ?_
  refine r_callSR (As := [.int 1]) (rest := []) (rv := none) (st1 := []) hX cs_X8_66 (by decide) (fun l => c_X8_needArgument l G h top) rfl rfl rfl (Nat.le_of_ble_eq_true rfl) dX8_bill_29 ?_
  refine r_aload_n hX rfl 0 rfl dX8_bill_32 ?_
  refine r_getf hX fl_X8_16 hha rfl dX8_bill_33 ?_
  refine r_iload_n hX rfl 1 rfl dX8_bill_36 ?_
  refine r_callVR (As := [.int (nI iv)]) (rest := []) (rv := some (.ref v.1)) (st1 := [.ref v.1]) hX cs_X8_92 (by decide) (fun l => z_get hl1 hvl (z_mapget hv) l) hl11 rfl rfl rfl rfl (Nat.le_of_ble_eq_true rfl) dX8_bill_37 ?_
  refine r_cast (ci := 8) hX rfl hvs cl_X8_121 dX8_bill_40 ?_
  refine r_astore (lv' := [(4, .ref v.1), (0, .ref (z_b G)), (1, .int (nI iv)), (2, .int day), (3, .int cap)]) hX (by decide) rfl dX8_bill_43 ?_
  refine r_aload_n hX rfl 1 rfl dX8_bill_45 ?_
  refine r_getf hX fl_X8_39 hha rfl dX8_bill_46 ?_
  refine r_aload_n hX rfl 1 rfl dX8_bill_49 ?_
  refine r_getf hX fl_X8_19 hha rfl dX8_bill_50 ?_
  refine r_aload_n hX rfl 1 rfl dX8_bill_53 ?_
  refine r_getf hX fl_X8_10 hha rfl dX8_bill_54 ?_
  refine r_aload hX 0 rfl dX8_bill_57 ?_
  refine r_iload_n hX rfl 3 rfl dX8_bill_59 ?_
  refine r_callV (As := [.ref (z_b G + 3), .ref (z_b G + 1), .ref v.1, .int day]) (rest := []) hX cs_X8_197 (by decide) (fun l => c_X0_gather l G h top s be v.1 day H) hbk rfl rfl rfl (Nat.le_of_ble_eq_true rfl) dX8_bill_60 (fun r1 h1 top1 hp1 => ?_)
  obtain ⟨rfl, be1, RI1, J1⟩ := hp1
  have hha1 := J1.1.hall
  have hbk1 := J1.1.bk
  have htf1 := J1.1.tfs
  have hlg1 := J1.1.lg
  have hl1_0 := J1.1.l0
  have hl1_01 := hl1_0.1
  have hl1_1 := J1.1.l1
  have hl1_11 := hl1_1.1
  have hl1_2 := J1.1.l2
  have hl1_21 := hl1_2.1
  have hvs1 := J1.1.veh hv
  refine r_aload_n hX rfl 1 rfl dX8_bill_63 ?_
  refine r_getf hX fl_X8_39 hha1 rfl dX8_bill_64 ?_
  refine r_aload hX 0 rfl dX8_bill_67 ?_
  refine r_aload hX 0 rfl dX8_bill_69 ?_
  refine r_getf hX fl_X8_201 hvs1 rfl dX8_bill_71 ?_
  refine r_iload_n hX rfl 4 rfl dX8_bill_74 ?_
  refine r_aload_n hX rfl 1 rfl dX8_bill_75 ?_
  refine r_getf hX fl_X8_25 hha1 rfl dX8_bill_76 ?_
  refine r_callV (As := [.ref v.1, .int v.2.1.1, .int cap, .ref (z_b G + 4)]) (rest := []) hX cs_X8_208 (by decide) (fun l => c_X0_charge l G h1 top1 s _ _ v iv hv v.2.1.1 cap _ _ _ J1) hbk1 rfl rfl rfl (Nat.le_of_ble_eq_true rfl) dX8_bill_79 (fun r2 h2 top2 hp2 => ?_)
  obtain ⟨rfl, rfl, be2, C2⟩ := hp2
  have hha2 := C2.1.1.hall
  have hbk2 := C2.1.1.bk
  have htf2 := C2.1.1.tfs
  have hlg2 := C2.1.1.lg
  have hl2_0 := C2.1.1.l0
  have hl2_01 := hl2_0.1
  have hl2_1 := C2.1.1.l1
  have hl2_11 := hl2_1.1
  have hl2_2 := C2.1.1.l2
  have hl2_21 := hl2_2.1
  have hvs2 := C2.1.1.veh hv
  exact r_iret hX hq ⟨rfl, be2, C2.1.1⟩ dX8_bill_82

set_option maxRecDepth 20000 in
set_option maxHeartbeats 4000000 in
theorem c_X8_ofPassage (l : Launch) (G : zG) (h : zH) (top : Nat) (s : zS) (be : zB) (H : z_St G s be h top) (iv : Nat) (v : zVeh) (hv : (s_vehs s)[iv]? = some v) (day : Int32) (hd0 : ¬ day < 0) (k : Nat) (hk : k < (zm_day s v.1 day).length) (wh : Nat) (hwh : wh ≤ 4) : z_Ct l yX8_ofPassage cX8_ofPassage 6 (some .int) 12 G [.ref (z_b G), .int (nI iv), .int day, .int (nI k), .int (nI wh)] h top (z_PQ G s (.int (zm_factAt s (zm_day s v.1 day) (zm_charge s v v.2.1.1 (s_cap s) (zm_day s v.1 day)).2 k (nI wh)))) := by
  refine z_of (own := RX8) (nm := "ofPassage") (by decide) rfl rfl (by decide) (Nat.le_of_ble_eq_true rfl) (fun X hX hq => ?_)
  replace hX : z_ok X cX8_ofPassage 6 RX8 (some .int) "ofPassage" 12 G := hX
  show z_Z X h top 0 [(0, .ref (z_b G)), (1, .int (nI iv)), (2, .int day), (3, .int (nI k)), (4, .int (nI wh))] []
  have hha := H.hall
  have hbd := H.2.2.1.2.2
  have hl0 := H.l0
  have hl01 := hl0.1
  have hl1 := H.l1
  have hl11 := hl1.1
  have hl2 := H.l2
  have hl21 := hl2.1
  have hbk := H.bk
  have hvl : iv < (s_vehs s).length := (List.getElem?_eq_some_iff.mp hv).1
  have hvs := H.veh hv
  refine r_aload_n hX rfl 0 rfl dX8_ofPassage_0 ?_
  refine r_iload_n hX rfl 1 rfl dX8_ofPassage_1 ?_
  refine r_callVR (As := [.int (nI iv)]) (rest := []) (rv := some (.int 1)) (st1 := [.int 1]) hX cs_X8_126 (by decide) (fun l => c_X8_isVehicle l G h top s be H iv hvl) hha rfl rfl rfl rfl (Nat.le_of_ble_eq_true rfl) dX8_ofPassage_2 ?_
  refine r_if_eq (tgt := 16) hX dX8_ofPassage_5 rfl (fun c => False.elim (absurd c (by decide))) (fun _ => ?_)
  refine r_iload_n hX rfl 2 rfl dX8_ofPassage_8 ?_
  refine r_if_lt (tgt := 16) hX dX8_ofPassage_9 rfl (fun c => False.elim (hd0 c)) (fun _ => ?_)
  refine r_iconst (v := 1) hX (by decide) dX8_ofPassage_12 ?_
  refine r_goto (tgt := 17) hX rfl dX8_ofPassage_13 ?_
  refine r_callSR (As := [.int 1]) (rest := []) (rv := none) (st1 := []) hX cs_X8_58 (by decide) (fun l => c_X8_needIndex l G h top) rfl rfl rfl (Nat.le_of_ble_eq_true rfl) dX8_ofPassage_17 ?_
  refine r_aload_n hX rfl 0 rfl dX8_ofPassage_20 ?_
  refine r_getf hX fl_X8_16 hha rfl dX8_ofPassage_21 ?_
  refine r_iload_n hX rfl 1 rfl dX8_ofPassage_24 ?_
  refine r_callVR (As := [.int (nI iv)]) (rest := []) (rv := some (.ref v.1)) (st1 := [.ref v.1]) hX cs_X8_92 (by decide) (fun l => z_get hl1 hvl (z_mapget hv) l) hl11 rfl rfl rfl rfl (Nat.le_of_ble_eq_true rfl) dX8_ofPassage_25 ?_
  refine r_cast (ci := 8) hX rfl hvs cl_X8_121 dX8_ofPassage_28 ?_
  refine r_astore (lv' := [(5, .ref v.1), (0, .ref (z_b G)), (1, .int (nI iv)), (2, .int day), (3, .int (nI k)), (4, .int (nI wh))]) hX (by decide) rfl dX8_ofPassage_31 ?_
  refine r_aload_n hX rfl 1 rfl dX8_ofPassage_33 ?_
  refine r_getf hX fl_X8_39 hha rfl dX8_ofPassage_34 ?_
  refine r_aload_n hX rfl 1 rfl dX8_ofPassage_37 ?_
  refine r_getf hX fl_X8_19 hha rfl dX8_ofPassage_38 ?_
  refine r_aload_n hX rfl 1 rfl dX8_ofPassage_41 ?_
  refine r_getf hX fl_X8_10 hha rfl dX8_ofPassage_42 ?_
  refine r_aload hX 0 rfl dX8_ofPassage_45 ?_
  refine r_iload_n hX rfl 3 rfl dX8_ofPassage_47 ?_
  refine r_callV (As := [.ref (z_b G + 3), .ref (z_b G + 1), .ref v.1, .int day]) (rest := []) hX cs_X8_197 (by decide) (fun l => c_X0_gather l G h top s be v.1 day H) hbk rfl rfl rfl (Nat.le_of_ble_eq_true rfl) dX8_ofPassage_48 (fun r1 h1 top1 hp1 => ?_)
  obtain ⟨rfl, be1, RI1, J1⟩ := hp1
  have hha1 := J1.1.hall
  have hbk1 := J1.1.bk
  have htf1 := J1.1.tfs
  have hlg1 := J1.1.lg
  have hl1_0 := J1.1.l0
  have hl1_01 := hl1_0.1
  have hl1_1 := J1.1.l1
  have hl1_11 := hl1_1.1
  have hl1_2 := J1.1.l2
  have hl1_21 := hl1_2.1
  have hvs1 := J1.1.veh hv
  refine r_iload_n hX rfl 4 rfl dX8_ofPassage_51 ?_
  refine r_iconst (v := 0) hX (by decide) dX8_ofPassage_52 ?_
  refine r_aload_n hX rfl 1 rfl dX8_ofPassage_53 ?_
  refine r_getf hX fl_X8_39 hha1 rfl dX8_ofPassage_54 ?_
  refine r_callVR (As := []) (rest := [.int 0, .int (nI k)]) (rv := some (.int (nI (b_rw be1).length))) (st1 := [.int (nI (b_rw be1).length), .int 0, .int (nI k)]) hX cs_X8_283 (by decide) (fun l => c_X0_size l G h1 top1 s be1 J1.1) hbk1 rfl rfl rfl rfl (Nat.le_of_ble_eq_true rfl) dX8_ofPassage_57 ?_
  refine r_iconst (v := 1) hX (by decide) dX8_ofPassage_60 ?_
  refine r_isub hX dX8_ofPassage_61 ?_
  refine r_callSR (As := [.int (nI k), .int 0, .int ((nI (b_rw be1).length) - 1)]) (rest := []) (rv := some (.int 1)) (st1 := [.int 1]) hX cs_X8_62 (by decide) (fun l => c_isIn_1 l G h1 top1 (by rw [J1.len.1, show nI (zm_day s v.1 day).length - 1 = nI ((zm_day s v.1 day).length - 1) from by have e := nI_pred ((zm_day s v.1 day).length - 1); rw [Nat.sub_add_cancel (by omega)] at e; exact e]; exact zf_in_nI (by omega) (by have := J1.len.2; omega))) rfl rfl rfl (Nat.le_of_ble_eq_true rfl) dX8_ofPassage_62 ?_
  refine r_callSR (As := [.int 1]) (rest := []) (rv := none) (st1 := []) hX cs_X8_58 (by decide) (fun l => c_X8_needIndex l G h1 top1) rfl rfl rfl (Nat.le_of_ble_eq_true rfl) dX8_ofPassage_65 ?_
  refine r_iload hX 5 rfl dX8_ofPassage_68 ?_
  refine r_iconst (v := 0) hX (by decide) dX8_ofPassage_70 ?_
  refine r_iconst (v := 4) hX (by decide) dX8_ofPassage_71 ?_
  refine r_callSR (As := [.int (nI wh), .int 0, .int 4]) (rest := []) (rv := some (.int 1)) (st1 := [.int 1]) hX cs_X8_62 (by decide) (fun l => c_isIn_1 l G h1 top1 (zf_in_nI (n := 4) hwh (by decide))) rfl rfl rfl (Nat.le_of_ble_eq_true rfl) dX8_ofPassage_72 ?_
  refine r_callSR (As := [.int 1]) (rest := []) (rv := none) (st1 := []) hX cs_X8_66 (by decide) (fun l => c_X8_needArgument l G h1 top1) rfl rfl rfl (Nat.le_of_ble_eq_true rfl) dX8_ofPassage_75 ?_
  refine r_aload_n hX rfl 1 rfl dX8_ofPassage_78 ?_
  refine r_getf hX fl_X8_39 hha1 rfl dX8_ofPassage_79 ?_
  refine r_aload hX 0 rfl dX8_ofPassage_82 ?_
  refine r_aload hX 0 rfl dX8_ofPassage_84 ?_
  refine r_getf hX fl_X8_201 hvs1 rfl dX8_ofPassage_86 ?_
  refine r_aload_n hX rfl 1 rfl dX8_ofPassage_89 ?_
  refine r_getf hX fl_X8_47 hha1 rfl dX8_ofPassage_90 ?_
  refine r_aload_n hX rfl 1 rfl dX8_ofPassage_93 ?_
  refine r_getf hX fl_X8_25 hha1 rfl dX8_ofPassage_94 ?_
  refine r_callV (As := [.ref v.1, .int v.2.1.1, .int (s_cap s), .ref (z_b G + 4)]) (rest := []) hX cs_X8_208 (by decide) (fun l => c_X0_charge l G h1 top1 s _ _ v iv hv v.2.1.1 (s_cap s) _ _ _ J1) hbk1 rfl rfl rfl (Nat.le_of_ble_eq_true rfl) dX8_ofPassage_97 (fun r2 h2 top2 hp2 => ?_)
  obtain ⟨rfl, rfl, be2, C2⟩ := hp2
  have hha2 := C2.1.1.hall
  have hbk2 := C2.1.1.bk
  have htf2 := C2.1.1.tfs
  have hlg2 := C2.1.1.lg
  have hl2_0 := C2.1.1.l0
  have hl2_01 := hl2_0.1
  have hl2_1 := C2.1.1.l1
  have hl2_11 := hl2_1.1
  have hl2_2 := C2.1.1.l2
  have hl2_21 := hl2_2.1
  have hvs2 := C2.1.1.veh hv
  refine r_pop hX rfl dX8_ofPassage_100 ?_
  refine r_aload_n hX rfl 1 rfl dX8_ofPassage_101 ?_
  refine r_getf hX fl_X8_39 hha2 rfl dX8_ofPassage_102 ?_
  refine r_iload_n hX rfl 4 rfl dX8_ofPassage_105 ?_
  refine r_iload hX 5 rfl dX8_ofPassage_106 ?_
  refine r_callVR (As := [.int (nI k), .int (nI wh)]) (rest := []) (rv := some (.int (zm_factAt s (zm_day s v.1 day) (zm_charge s v v.2.1.1 (s_cap s) (zm_day s v.1 day)).2 k (nI wh)))) (st1 := [.int (zm_factAt s (zm_day s v.1 day) (zm_charge s v v.2.1.1 (s_cap s) (zm_day s v.1 day)).2 k (nI wh))]) hX cs_X8_284 (by decide) (fun l => c_fact l G h2 top2 s _ _ be2 _ _ _ C2 (zm_charge_len _ _ _ _ _) k hk (nI wh) (Int32.not_lt.mp (nI_pos (by omega))) (show nI wh ≤ nI 4 from (nI_leI (by omega) (by omega)).mpr hwh)) hbk2 rfl rfl rfl rfl (Nat.le_of_ble_eq_true rfl) dX8_ofPassage_108 ?_
  exact r_iret hX hq ⟨rfl, be2, C2.1.1⟩ dX8_ofPassage_111

