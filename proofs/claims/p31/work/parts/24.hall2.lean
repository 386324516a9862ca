/-! the hall asks the book -/
theorem z_at.u2 {G : zG} {h : zH} {top a b : Nat} {e e2 e3 : va_E} (hb : z_at G (va_up h a e2) top b e) (ha : z_at G (va_up h a e2) top a e2) (hne : e ≠ e2) : z_at G (va_up h a e3) top b e := by
  have n := hb.dif ha hne
  refine ⟨hb.1, hb.2.1, ?_⟩
  have q := hb.2.2
  simp only [va_up, n, if_false] at q ⊢
  exact q
theorem zm_cert_le (s : zS) (va : Nat) (day : Int32) : zm_cert s va day ≤ (zm_day s va day).length := by
  unfold zm_cert zm_day zm_gath
  rw [List.length_append]
  omega
theorem zm_charge_len (s : zS) (v : zVeh) (rank cap : Int32) : ∀ (rows : List zQ), (zm_charge s v rank cap rows).2.length = rows.length := by
  have key : ∀ (rows : List zQ) (acc : Int32 × List (Int32 × Int32)), (rows.foldl (zm_chStep s v rank cap) acc).2.length = acc.2.length + rows.length := by
    intro rows
    induction rows with
    | nil => intro acc; rfl
    | cons q qs ih =>
      intro acc
      rw [List.foldl_cons, ih, List.length_cons]
      show (acc.2 ++ [_]).length + _ = _
      rw [List.length_append, List.length_singleton]
      omega
  intro rows
  have := key rows (0, [])
  rw [List.length_nil, Nat.zero_add] at this
  exact this
/-- an answer, the state unchanged but for the book -/
def z_PQ (G : zG) (s : zS) (r0 : Value) : Option Value → zH → Nat → Prop := fun r h' top' => r = some r0 ∧ ∃ be2, z_St G s be2 h' top'
set_option maxRecDepth 20000 in
set_option maxHeartbeats 4000000 in
theorem c_X8_passages (l : Launch) (G : zG) (h : zH) (top : Nat) (s : zS) (be : zB) (H : z_St G s be h top) (iv : Nat) (v : zVeh) (hv : (s_vehs s)[iv]? = some v) (day : Int32) (hd0 : ¬ day < 0) : z_Ct l yX8_passages cX8_passages 3 (some .int) 12 G [.ref (z_b G), .int (nI iv), .int day] h top (z_PQ G s (.int (nI (zm_day s v.1 day).length))) := by
  refine z_of (own := RX8) (nm := "passages") (by decide) rfl rfl (by decide) (Nat.le_of_ble_eq_true rfl) (fun X hX hq => ?_)
  replace hX : z_ok X cX8_passages 3 RX8 (some .int) "passages" 12 G := hX
  show z_Z X h top 0 [(0, .ref (z_b G)), (1, .int (nI iv)), (2, .int day)] []
  have hha := H.hall
  have hbd := H.2.2.1.2.2
  have hl0 := H.l0
  have hl01 := hl0.1
  have hl1 := H.l1
  have hl11 := hl1.1
  have hl2 := H.l2
  have hl21 := hl2.1
  have hbk := H.bk
  have hvl : iv < (s_vehs s).length := (List.getElem?_eq_some_iff.mp hv).1
  have hvs := H.veh hv
  refine r_aload_n hX rfl 0 rfl dX8_passages_0 ?_
  refine r_iload_n hX rfl 1 rfl dX8_passages_1 ?_
  refine r_callVR (As := [.int (nI iv)]) (rest := []) (rv := some (.int 1)) (st1 := [.int 1]) hX cs_X8_126 (by decide) (fun l => c_X8_isVehicle l G h top s be H iv hvl) hha rfl rfl rfl rfl (Nat.le_of_ble_eq_true rfl) dX8_passages_2 ?_
  refine r_callSR (As := [.int 1]) (rest := []) (rv := none) (st1 := []) hX cs_X8_58 (by decide) (fun l => c_X8_needIndex l G h top) rfl rfl rfl (Nat.le_of_ble_eq_true rfl) dX8_passages_5 ?_
  refine r_iload_n hX rfl 2 rfl dX8_passages_8 ?_
  refine r_if_lt (tgt := 16) hX dX8_passages_9 rfl (fun c => False.elim (hd0 c)) (fun _ => ?_)
  refine r_iconst (v := 1) hX (by decide) dX8_passages_12 ?_
  refine r_goto (tgt := 17) hX rfl dX8_passages_13 ?_
  refine r_callSR (As := [.int 1]) (rest := []) (rv := none) (st1 := []) hX cs_X8_66 (by decide) (fun l => c_X8_needArgument l G h top) rfl rfl rfl (Nat.le_of_ble_eq_true rfl) dX8_passages_17 ?_
  refine r_aload_n hX rfl 0 rfl dX8_passages_20 ?_
  refine r_getf hX fl_X8_39 hha rfl dX8_passages_21 ?_
  refine r_aload_n hX rfl 0 rfl dX8_passages_24 ?_
  refine r_getf hX fl_X8_19 hha rfl dX8_passages_25 ?_
  refine r_aload_n hX rfl 0 rfl dX8_passages_28 ?_
  refine r_getf hX fl_X8_10 hha rfl dX8_passages_29 ?_
  refine r_aload_n hX rfl 0 rfl dX8_passages_32 ?_
  refine r_getf hX fl_X8_16 hha rfl dX8_passages_33 ?_
  refine r_iload_n hX rfl 1 rfl dX8_passages_36 ?_
  refine r_callVR (As := [.int (nI iv)]) (rest := [.ref (z_b G + 1), .ref (z_b G + 3), .ref (z_b G + 11)]) (rv := some (.ref v.1)) (st1 := [.ref v.1, .ref (z_b G + 1), .ref (z_b G + 3), .ref (z_b G + 11)]) hX cs_X8_92 (by decide) (fun l => z_get hl1 hvl (z_mapget hv) l) hl11 rfl rfl rfl rfl (Nat.le_of_ble_eq_true rfl) dX8_passages_37 ?_
  refine r_cast (ci := 8) hX rfl hvs cl_X8_121 dX8_passages_40 ?_
  refine r_iload_n hX rfl 2 rfl dX8_passages_43 ?_
  refine r_callV (As := [.ref (z_b G + 3), .ref (z_b G + 1), .ref v.1, .int day]) (rest := []) hX cs_X8_197 (by decide) (fun l => c_X0_gather l G h top s be v.1 day H) hbk rfl rfl rfl (Nat.le_of_ble_eq_true rfl) dX8_passages_44 (fun r1 h1 top1 hp1 => ?_)
  obtain ⟨rfl, be1, RI1, J1⟩ := hp1
  have hha1 := J1.1.hall
  have hbk1 := J1.1.bk
  have htf1 := J1.1.tfs
  have hlg1 := J1.1.lg
  have hl1_0 := J1.1.l0
  have hl1_01 := hl1_0.1
  have hl1_1 := J1.1.l1
  have hl1_11 := hl1_1.1
  have hl1_2 := J1.1.l2
  have hl1_21 := hl1_2.1
  have hvs1 := J1.1.veh hv
  refine r_aload_n hX rfl 0 rfl dX8_passages_47 ?_
  refine r_getf hX fl_X8_39 hha1 rfl dX8_passages_48 ?_
  refine r_callVR (As := []) (rest := []) (rv := some (.int (nI (b_rw be1).length))) (st1 := [.int (nI (b_rw be1).length)]) hX cs_X8_283 (by decide) (fun l => c_X0_size l G h1 top1 s be1 J1.1) hbk1 rfl rfl rfl rfl (Nat.le_of_ble_eq_true rfl) dX8_passages_51 ?_
  exact r_iret hX hq ⟨by rw [J1.len.1], be1, J1.1⟩ dX8_passages_54

set_option maxRecDepth 20000 in
set_option maxHeartbeats 4000000 in
theorem c_X8_journeys (l : Launch) (G : zG) (h : zH) (top : Nat) (s : zS) (be : zB) (H : z_St G s be h top) (iv : Nat) (v : zVeh) (hv : (s_vehs s)[iv]? = some v) (day : Int32) (hd0 : ¬ day < 0) : z_Ct l yX8_journeys cX8_journeys 3 (some .int) 12 G [.ref (z_b G), .int (nI iv), .int day] h top (z_PQ G s (.int (zm_jcount s (zm_cert s v.1 day) (zm_day s v.1 day)))) := by
  refine z_of (own := RX8) (nm := "journeys") (by decide) rfl rfl (by decide) (Nat.le_of_ble_eq_true rfl) (fun X hX hq => ?_)
  replace hX : z_ok X cX8_journeys 3 RX8 (some .int) "journeys" 12 G := hX
  show z_Z X h top 0 [(0, .ref (z_b G)), (1, .int (nI iv)), (2, .int day)] []
  have hha := H.hall
  have hbd := H.2.2.1.2.2
  have hl0 := H.l0
  have hl01 := hl0.1
  have hl1 := H.l1
  have hl11 := hl1.1
  have hl2 := H.l2
  have hl21 := hl2.1
  have hbk := H.bk
  have hvl : iv < (s_vehs s).length := (List.getElem?_eq_some_iff.mp hv).1
  have hvs := H.veh hv
  refine r_aload_n hX rfl 0 rfl dX8_journeys_0 ?_
  refine r_iload_n hX rfl 1 rfl dX8_journeys_1 ?_
  refine r_callVR (As := [.int (nI iv)]) (rest := []) (rv := some (.int 1)) (st1 := [.int 1]) hX cs_X8_126 (by decide) (fun l => c_X8_isVehicle l G h top s be H iv hvl) hha rfl rfl rfl rfl (Nat.le_of_ble_eq_true rfl) dX8_journeys_2 ?_
  refine r_callSR (As := [.int 1]) (rest := []) (rv := none) (st1 := []) hX cs_X8_58 (by decide) (fun l => c_X8_needIndex l G h top) rfl rfl rfl (Nat.le_of_ble_eq_true rfl) dX8_journeys_5 ?_
  refine r_iload_n hX rfl 2 rfl dX8_journeys_8 ?_
  refine r_if_lt (tgt := 16) hX dX8_journeys_9 rfl (fun c => False.elim (hd0 c)) (fun _ => ?_)
  refine r_iconst (v := 1) hX (by decide) dX8_journeys_12 ?_
  refine r_goto (tgt := 17) hX rfl dX8_journeys_13 ?_
  refine r_callSR (As := [.int 1]) (rest := []) (rv := none) (st1 := []) hX cs_X8_66 (by decide) (fun l => c_X8_needArgument l G h top) rfl rfl rfl (Nat.le_of_ble_eq_true rfl) dX8_journeys_17 ?_
  refine r_aload_n hX rfl 0 rfl dX8_journeys_20 ?_
  refine r_getf hX fl_X8_39 hha rfl dX8_journeys_21 ?_
  refine r_aload_n hX rfl 0 rfl dX8_journeys_24 ?_
  refine r_getf hX fl_X8_19 hha rfl dX8_journeys_25 ?_
  refine r_aload_n hX rfl 0 rfl dX8_journeys_28 ?_
  refine r_getf hX fl_X8_10 hha rfl dX8_journeys_29 ?_
  refine r_aload_n hX rfl 0 rfl dX8_journeys_32 ?_
  refine r_getf hX fl_X8_16 hha rfl dX8_journeys_33 ?_
  refine r_iload_n hX rfl 1 rfl dX8_journeys_36 ?_
  refine r_callVR (As := [.int (nI iv)]) (rest := [.ref (z_b G + 1), .ref (z_b G + 3), .ref (z_b G + 11)]) (rv := some (.ref v.1)) (st1 := [.ref v.1, .ref (z_b G + 1), .ref (z_b G + 3), .ref (z_b G + 11)]) hX cs_X8_92 (by decide) (fun l => z_get hl1 hvl (z_mapget hv) l) hl11 rfl rfl rfl rfl (Nat.le_of_ble_eq_true rfl) dX8_journeys_37 ?_
  refine r_cast (ci := 8) hX rfl hvs cl_X8_121 dX8_journeys_40 ?_
  refine r_iload_n hX rfl 2 rfl dX8_journeys_43 ?_
  refine r_callV (As := [.ref (z_b G + 3), .ref (z_b G + 1), .ref v.1, .int day]) (rest := []) hX cs_X8_197 (by decide) (fun l => c_X0_gather l G h top s be v.1 day H) hbk rfl rfl rfl (Nat.le_of_ble_eq_true rfl) dX8_journeys_44 (fun r1 h1 top1 hp1 => ?_)
  obtain ⟨rfl, be1, RI1, J1⟩ := hp1
  have hha1 := J1.1.hall
  have hbk1 := J1.1.bk
  have htf1 := J1.1.tfs
  have hlg1 := J1.1.lg
  have hl1_0 := J1.1.l0
  have hl1_01 := hl1_0.1
  have hl1_1 := J1.1.l1
  have hl1_11 := hl1_1.1
  have hl1_2 := J1.1.l2
  have hl1_21 := hl1_2.1
  have hvs1 := J1.1.veh hv
  refine r_aload_n hX rfl 0 rfl dX8_journeys_47 ?_
  refine r_getf hX fl_X8_39 hha1 rfl dX8_journeys_48 ?_
  refine r_callVR (As := []) (rest := []) (rv := some (.int (zm_jcount s (zm_cert s v.1 day) (zm_day s v.1 day)))) (st1 := [.int (zm_jcount s (zm_cert s v.1 day) (zm_day s v.1 day))]) hX cs_X8_288 (by decide) (fun l => c_X0_journeyCount l G h1 top1 s _ (zm_cert s v.1 day) be1 _ RI1 J1 (zm_cert_le s v.1 day)) hbk1 rfl rfl rfl rfl (Nat.le_of_ble_eq_true rfl) dX8_journeys_51 ?_
  exact r_iret hX hq ⟨rfl, be1, J1.1⟩ dX8_journeys_54

set_option maxRecDepth 20000 in
set_option maxHeartbeats 4000000 in
theorem c_X8_bill (l : Launch) (G : zG) (h : zH) (top : Nat) (s : zS) (be : zB) (H : z_St G s be h top) (iv : Nat) (v : zVeh) (hv : (s_vehs s)[iv]? = some v) (day : Int32) (hd0 : ¬ day < 0) (cap : Int32) (hcap : zf_isIn cap 50 999 = true) : z_Ct l yX8_bill cX8_bill 5 (some .int) 12 G [.ref (z_b G), .int (nI iv), .int day, .int cap] h top (z_PQ G s (.int (zm_charge s v v.2.1.1 cap (zm_day s v.1 day)).1)) := by
  refine z_of (own := RX8) (nm := "bill") (by decide) rfl rfl (by decide) (Nat.le_of_ble_eq_true rfl) (fun X hX hq => ?_)
  replace hX : z_ok X cX8_bill 5 RX8 (some .int) "bill" 12 G := hX
  show z_Z X h top 0 [(0, .ref (z_b G)), (1, .int (nI iv)), (2, .int day), (3, .int cap)] []
  have hha := H.hall
  have hbd := H.2.2.1.2.2
  have hl0 := H.l0
  have hl01 := hl0.1
  have hl1 := H.l1
  have hl11 := hl1.1
  have hl2 := H.l2
  have hl21 := hl2.1
  have hbk := H.bk
  have hvl : iv < (s_vehs s).length := (List.getElem?_eq_some_iff.mp hv).1
  have hvs := H.veh hv
  refine r_aload_n hX rfl 0 rfl dX8_bill_0 ?_
  refine r_iload_n hX rfl 1 rfl dX8_bill_1 ?_
  refine r_callVR (As := [.int (nI iv)]) (rest := []) (rv := some (.int 1)) (st1 := [.int 1]) hX cs_X8_126 (by decide) (fun l => c_X8_isVehicle l G h top s be H iv hvl) hha rfl rfl rfl rfl (Nat.le_of_ble_eq_true rfl) dX8_bill_2 ?_
  refine r_callSR (As := [.int 1]) (rest := []) (rv := none) (st1 := []) hX cs_X8_58 (by decide) (fun l => c_X8_needIndex l G h top) rfl rfl rfl (Nat.le_of_ble_eq_true rfl) dX8_bill_5 ?_
  refine r_iload_n hX rfl 2 rfl dX8_bill_8 ?_
  refine r_if_lt (tgt := 28) hX dX8_bill_9 rfl (fun c => False.elim (hd0 c)) (fun _ => ?_)
  refine r_iload_n hX rfl 3 rfl dX8_bill_12 ?_
  refine r_bipush (v := 50) hX (by decide) dX8_bill_13 ?_
  refine r_sipush (v := 999) hX (by decide) dX8_bill_15 ?_
  refine r_callSR (As := [.int cap, .int 50, .int 999]) (rest := []) (rv := some (.int 1)) (st1 := [.int 1]) hX cs_X8_62 (by decide) (fun l => c_isIn_1 l G h top hcap) rfl rfl rfl (Nat.le_of_ble_eq_true rfl) dX8_bill_18 ?_
  refine r_if_eq (tgt := 28) hX dX8_bill_21 rfl (fun c => False.elim (absurd c (by decide))) (fun _ => ?_)
  refine r_iconst (v := 1) hX (by decide) dX8_bill_24 ?_
  refine r_goto (tgt := 29) hX rfl dX8_bill_25 ?_
  refine r_callSR (As := [.int 1]) (rest := []) (rv := none) (st1 := []) hX cs_X8_66 (by decide) (fun l => c_X8_needArgument l G h top) rfl rfl rfl (Nat.le_of_ble_eq_true rfl) dX8_bill_29 ?_
  refine r_aload_n hX rfl 0 rfl dX8_bill_32 ?_
  refine r_getf hX fl_X8_16 hha rfl dX8_bill_33 ?_
  refine r_iload_n hX rfl 1 rfl dX8_bill_36 ?_
  refine r_callVR (As := [.int (nI iv)]) (rest := []) (rv := some (.ref v.1)) (st1 := [.ref v.1]) hX cs_X8_92 (by decide) (fun l => z_get hl1 hvl (z_mapget hv) l) hl11 rfl rfl rfl rfl (Nat.le_of_ble_eq_true rfl) dX8_bill_37 ?_
  refine r_cast (ci := 8) hX rfl hvs cl_X8_121 dX8_bill_40 ?_
  refine r_astore (lv' := [(4, .ref v.1), (0, .ref (z_b G)), (1, .int (nI iv)), (2, .int day), (3, .int cap)]) hX (by decide) rfl dX8_bill_43 ?_
  refine r_aload_n hX rfl 1 rfl dX8_bill_45 ?_
  refine r_getf hX fl_X8_39 hha rfl dX8_bill_46 ?_
  refine r_aload_n hX rfl 1 rfl dX8_bill_49 ?_
  refine r_getf hX fl_X8_19 hha rfl dX8_bill_50 ?_
  refine r_aload_n hX rfl 1 rfl dX8_bill_53 ?_
  refine r_getf hX fl_X8_10 hha rfl dX8_bill_54 ?_
  refine r_aload hX 0 rfl dX8_bill_57 ?_
  refine r_iload_n hX rfl 3 rfl dX8_bill_59 ?_
  refine r_callV (As := [.ref (z_b G + 3), .ref (z_b G + 1), .ref v.1, .int day]) (rest := []) hX cs_X8_197 (by decide) (fun l => c_X0_gather l G h top s be v.1 day H) hbk rfl rfl rfl (Nat.le_of_ble_eq_true rfl) dX8_bill_60 (fun r1 h1 top1 hp1 => ?_)
  obtain ⟨rfl, be1, RI1, J1⟩ := hp1
  have hha1 := J1.1.hall
  have hbk1 := J1.1.bk
  have htf1 := J1.1.tfs
  have hlg1 := J1.1.lg
  have hl1_0 := J1.1.l0
  have hl1_01 := hl1_0.1
  have hl1_1 := J1.1.l1
  have hl1_11 := hl1_1.1
  have hl1_2 := J1.1.l2
  have hl1_21 := hl1_2.1
  have hvs1 := J1.1.veh hv
  refine r_aload_n hX rfl 1 rfl dX8_bill_63 ?_
  refine r_getf hX fl_X8_39 hha1 rfl dX8_bill_64 ?_
  refine r_aload hX 0 rfl dX8_bill_67 ?_
  refine r_aload hX 0 rfl dX8_bill_69 ?_
  refine r_getf hX fl_X8_201 hvs1 rfl dX8_bill_71 ?_
  refine r_iload_n hX rfl 4 rfl dX8_bill_74 ?_
  refine r_aload_n hX rfl 1 rfl dX8_bill_75 ?_
  refine r_getf hX fl_X8_25 hha1 rfl dX8_bill_76 ?_
  refine r_callV (As := [.ref v.1, .int v.2.1.1, .int cap, .ref (z_b G + 4)]) (rest := []) hX cs_X8_208 (by decide) (fun l => c_X0_charge l G h1 top1 s _ _ v iv hv v.2.1.1 cap _ _ _ J1) hbk1 rfl rfl rfl (Nat.le_of_ble_eq_true rfl) dX8_bill_79 (fun r2 h2 top2 hp2 => ?_)
  obtain ⟨rfl, rfl, be2, C2⟩ := hp2
  have hha2 := C2.1.1.hall
  have hbk2 := C2.1.1.bk
  have htf2 := C2.1.1.tfs
  have hlg2 := C2.1.1.lg
  have hl2_0 := C2.1.1.l0
  have hl2_01 := hl2_0.1
  have hl2_1 := C2.1.1.l1
  have hl2_11 := hl2_1.1
  have hl2_2 := C2.1.1.l2
  have hl2_21 := hl2_2.1
  have hvs2 := C2.1.1.veh hv
  exact r_iret hX hq ⟨rfl, be2, C2.1.1⟩ dX8_bill_82

set_option maxRecDepth 20000 in
set_option maxHeartbeats 4000000 in
theorem c_X8_ofPassage (l : Launch) (G : zG) (h : zH) (top : Nat) (s : zS) (be : zB) (H : z_St G s be h top) (iv : Nat) (v : zVeh) (hv : (s_vehs s)[iv]? = some v) (day : Int32) (hd0 : ¬ day < 0) (k : Nat) (hk : k < (zm_day s v.1 day).length) (wh : Nat) (hwh : wh ≤ 4) : z_Ct l yX8_ofPassage cX8_ofPassage 6 (some .int) 12 G [.ref (z_b G), .int (nI iv), .int day, .int (nI k), .int (nI wh)] h top (z_PQ G s (.int (zm_factAt s (zm_day s v.1 day) (zm_charge s v v.2.1.1 (s_cap s) (zm_day s v.1 day)).2 k (nI wh)))) := by
  refine z_of (own := RX8) (nm := "ofPassage") (by decide) rfl rfl (by decide) (Nat.le_of_ble_eq_true rfl) (fun X hX hq => ?_)
  replace hX : z_ok X cX8_ofPassage 6 RX8 (some .int) "ofPassage" 12 G := hX
  show z_Z X h top 0 [(0, .ref (z_b G)), (1, .int (nI iv)), (2, .int day), (3, .int (nI k)), (4, .int (nI wh))] []
  have hha := H.hall
  have hbd := H.2.2.1.2.2
  have hl0 := H.l0
  have hl01 := hl0.1
  have hl1 := H.l1
  have hl11 := hl1.1
  have hl2 := H.l2
  have hl21 := hl2.1
  have hbk := H.bk
  have hvl : iv < (s_vehs s).length := (List.getElem?_eq_some_iff.mp hv).1
  have hvs := H.veh hv
  refine r_aload_n hX rfl 0 rfl dX8_ofPassage_0 ?_
  refine r_iload_n hX rfl 1 rfl dX8_ofPassage_1 ?_
  refine r_callVR (As := [.int (nI iv)]) (rest := []) (rv := some (.int 1)) (st1 := [.int 1]) hX cs_X8_126 (by decide) (fun l => c_X8_isVehicle l G h top s be H iv hvl) hha rfl rfl rfl rfl (Nat.le_of_ble_eq_true rfl) dX8_ofPassage_2 ?_
  refine r_if_eq (tgt := 16) hX dX8_ofPassage_5 rfl (fun c => False.elim (absurd c (by decide))) (fun _ => ?_)
  refine r_iload_n hX rfl 2 rfl dX8_ofPassage_8 ?_
  refine r_if_lt (tgt := 16) hX dX8_ofPassage_9 rfl (fun c => False.elim (hd0 c)) (fun _ => ?_)
  refine r_iconst (v := 1) hX (by decide) dX8_ofPassage_12 ?_
  refine r_goto (tgt := 17) hX rfl dX8_ofPassage_13 ?_
  refine r_callSR (As := [.int 1]) (rest := []) (rv := none) (st1 := []) hX cs_X8_58 (by decide) (fun l => c_X8_needIndex l G h top) rfl rfl rfl (Nat.le_of_ble_eq_true rfl) dX8_ofPassage_17 ?_
  refine r_aload_n hX rfl 0 rfl dX8_ofPassage_20 ?_
  refine r_getf hX fl_X8_16 hha rfl dX8_ofPassage_21 ?_
  refine r_iload_n hX rfl 1 rfl dX8_ofPassage_24 ?_
  refine r_callVR (As := [.int (nI iv)]) (rest := []) (rv := some (.ref v.1)) (st1 := [.ref v.1]) hX cs_X8_92 (by decide) (fun l => z_get hl1 hvl (z_mapget hv) l) hl11 rfl rfl rfl rfl (Nat.le_of_ble_eq_true rfl) dX8_ofPassage_25 ?_
  refine r_cast (ci := 8) hX rfl hvs cl_X8_121 dX8_ofPassage_28 ?_
  refine r_astore (lv' := [(5, .ref v.1), (0, .ref (z_b G)), (1, .int (nI iv)), (2, .int day), (3, .int (nI k)), (4, .int (nI wh))]) hX (by decide) rfl dX8_ofPassage_31 ?_
  refine r_aload_n hX rfl 1 rfl dX8_ofPassage_33 ?_
  refine r_getf hX fl_X8_39 hha rfl dX8_ofPassage_34 ?_
  refine r_aload_n hX rfl 1 rfl dX8_ofPassage_37 ?_
  refine r_getf hX fl_X8_19 hha rfl dX8_ofPassage_38 ?_
  refine r_aload_n hX rfl 1 rfl dX8_ofPassage_41 ?_
  refine r_getf hX fl_X8_10 hha rfl dX8_ofPassage_42 ?_
  refine r_aload hX 0 rfl dX8_ofPassage_45 ?_
  refine r_iload_n hX rfl 3 rfl dX8_ofPassage_47 ?_
  refine r_callV (As := [.ref (z_b G + 3), .ref (z_b G + 1), .ref v.1, .int day]) (rest := []) hX cs_X8_197 (by decide) (fun l => c_X0_gather l G h top s be v.1 day H) hbk rfl rfl rfl (Nat.le_of_ble_eq_true rfl) dX8_ofPassage_48 (fun r1 h1 top1 hp1 => ?_)
  obtain ⟨rfl, be1, RI1, J1⟩ := hp1
  have hha1 := J1.1.hall
  have hbk1 := J1.1.bk
  have htf1 := J1.1.tfs
  have hlg1 := J1.1.lg
  have hl1_0 := J1.1.l0
  have hl1_01 := hl1_0.1
  have hl1_1 := J1.1.l1
  have hl1_11 := hl1_1.1
  have hl1_2 := J1.1.l2
  have hl1_21 := hl1_2.1
  have hvs1 := J1.1.veh hv
  refine r_iload_n hX rfl 4 rfl dX8_ofPassage_51 ?_
  refine r_iconst (v := 0) hX (by decide) dX8_ofPassage_52 ?_
  refine r_aload_n hX rfl 1 rfl dX8_ofPassage_53 ?_
  refine r_getf hX fl_X8_39 hha1 rfl dX8_ofPassage_54 ?_
  refine r_callVR (As := []) (rest := [.int 0, .int (nI k)]) (rv := some (.int (nI (b_rw be1).length))) (st1 := [.int (nI (b_rw be1).length), .int 0, .int (nI k)]) hX cs_X8_283 (by decide) (fun l => c_X0_size l G h1 top1 s be1 J1.1) hbk1 rfl rfl rfl rfl (Nat.le_of_ble_eq_true rfl) dX8_ofPassage_57 ?_
  refine r_iconst (v := 1) hX (by decide) dX8_ofPassage_60 ?_
  refine r_isub hX dX8_ofPassage_61 ?_
  refine r_callSR (As := [.int (nI k), .int 0, .int ((nI (b_rw be1).length) - 1)]) (rest := []) (rv := some (.int 1)) (st1 := [.int 1]) hX cs_X8_62 (by decide) (fun l => c_isIn_1 l G h1 top1 (by rw [J1.len.1, show nI (zm_day s v.1 day).length - 1 = nI ((zm_day s v.1 day).length - 1) from by have e := nI_pred ((zm_day s v.1 day).length - 1); rw [Nat.sub_add_cancel (by omega)] at e; exact e]; exact zf_in_nI (by omega) (by have := J1.len.2; omega))) rfl rfl rfl (Nat.le_of_ble_eq_true rfl) dX8_ofPassage_62 ?_
  refine r_callSR (As := [.int 1]) (rest := []) (rv := none) (st1 := []) hX cs_X8_58 (by decide) (fun l => c_X8_needIndex l G h1 top1) rfl rfl rfl (Nat.le_of_ble_eq_true rfl) dX8_ofPassage_65 ?_
  refine r_iload hX 5 rfl dX8_ofPassage_68 ?_
  refine r_iconst (v := 0) hX (by decide) dX8_ofPassage_70 ?_
  refine r_iconst (v := 4) hX (by decide) dX8_ofPassage_71 ?_
  refine r_callSR (As := [.int (nI wh), .int 0, .int 4]) (rest := []) (rv := some (.int 1)) (st1 := [.int 1]) hX cs_X8_62 (by decide) (fun l => c_isIn_1 l G h1 top1 (zf_in_nI (n := 4) hwh (by decide))) rfl rfl rfl (Nat.le_of_ble_eq_true rfl) dX8_ofPassage_72 ?_
  refine r_callSR (As := [.int 1]) (rest := []) (rv := none) (st1 := []) hX cs_X8_66 (by decide) (fun l => c_X8_needArgument l G h1 top1) rfl rfl rfl (Nat.le_of_ble_eq_true rfl) dX8_ofPassage_75 ?_
  refine r_aload_n hX rfl 1 rfl dX8_ofPassage_78 ?_
  refine r_getf hX fl_X8_39 hha1 rfl dX8_ofPassage_79 ?_
  refine r_aload hX 0 rfl dX8_ofPassage_82 ?_
  refine r_aload hX 0 rfl dX8_ofPassage_84 ?_
  refine r_getf hX fl_X8_201 hvs1 rfl dX8_ofPassage_86 ?_
  refine r_aload_n hX rfl 1 rfl dX8_ofPassage_89 ?_
  refine r_getf hX fl_X8_47 hha1 rfl dX8_ofPassage_90 ?_
  refine r_aload_n hX rfl 1 rfl dX8_ofPassage_93 ?_
  refine r_getf hX fl_X8_25 hha1 rfl dX8_ofPassage_94 ?_
  refine r_callV (As := [.ref v.1, .int v.2.1.1, .int (s_cap s), .ref (z_b G + 4)]) (rest := []) hX cs_X8_208 (by decide) (fun l => c_X0_charge l G h1 top1 s _ _ v iv hv v.2.1.1 (s_cap s) _ _ _ J1) hbk1 rfl rfl rfl (Nat.le_of_ble_eq_true rfl) dX8_ofPassage_97 (fun r2 h2 top2 hp2 => ?_)
  obtain ⟨rfl, rfl, be2, C2⟩ := hp2
  have hha2 := C2.1.1.hall
  have hbk2 := C2.1.1.bk
  have htf2 := C2.1.1.tfs
  have hlg2 := C2.1.1.lg
  have hl2_0 := C2.1.1.l0
  have hl2_01 := hl2_0.1
  have hl2_1 := C2.1.1.l1
  have hl2_11 := hl2_1.1
  have hl2_2 := C2.1.1.l2
  have hl2_21 := hl2_2.1
  have hvs2 := C2.1.1.veh hv
  refine r_pop hX rfl dX8_ofPassage_100 ?_
  refine r_aload_n hX rfl 1 rfl dX8_ofPassage_101 ?_
  refine r_getf hX fl_X8_39 hha2 rfl dX8_ofPassage_102 ?_
  refine r_iload_n hX rfl 4 rfl dX8_ofPassage_105 ?_
  refine r_iload hX 5 rfl dX8_ofPassage_106 ?_
  refine r_callVR (As := [.int (nI k), .int (nI wh)]) (rest := []) (rv := some (.int (zm_factAt s (zm_day s v.1 day) (zm_charge s v v.2.1.1 (s_cap s) (zm_day s v.1 day)).2 k (nI wh)))) (st1 := [.int (zm_factAt s (zm_day s v.1 day) (zm_charge s v v.2.1.1 (s_cap s) (zm_day s v.1 day)).2 k (nI wh))]) hX cs_X8_284 (by decide) (fun l => c_fact l G h2 top2 s _ _ be2 _ _ _ C2 (zm_charge_len _ _ _ _ _) k hk (nI wh) (Int32.not_lt.mp (nI_pos (by omega))) (show nI wh ≤ nI 4 from (nI_leI (by omega) (by omega)).mpr hwh)) hbk2 rfl rfl rfl rfl (Nat.le_of_ble_eq_true rfl) dX8_ofPassage_108 ?_
  exact r_iret hX hq ⟨rfl, be2, C2.1.1⟩ dX8_ofPassage_111

def zm_passed (s : zS) (va sg : Nat) (m : Int32) : Bool := zm_begun (zm_cert s va (m / 1440)) (zm_day s va (m / 1440)) sg m || zm_begun (zm_cert s va (m / 1440 - 1)) (zm_day s va (m / 1440 - 1)) sg m
def zs_H (s : zS) (i7 : zI7) : zS := (i7, s.2)
def zm_control (s : zS) (iv : Nat) (v : zVeh) (x : zSeg) (m : Int32) : Int32 × zS := if zm_passed s v.1 x.1 m = true then (-1, s) else (2 * zm_toll (s_tars s) x v m, (s_shuts s, s_now s, s_cap s, s_listed s, s_alarms s, s_catches s + 1, s_erased s), (s_coins s, s_caps s, s_paid s, s_hall s + 2 * zm_toll (s_tars s) x v m, s_taken s, s_gb s), s_segs s, (s_vehs s).set iv (v.1, v.2.1, v.2.2.1 - 2 * zm_toll (s_tars s) x v m, v.2.2.2.1, v.2.2.2.2.1, v.2.2.2.2.2 + 2 * zm_toll (s_tars s) x v m), s_tars s, s_sgts s)
def zm_wsF (s : zS) (v : zVeh) (rows : List zQ) (present : Int32) : Nat → Int32
  | 0 => 0
  | k + 1 => if (zm_charge s v (nI k) (s_cap s) rows).1 < present then zm_wsF s v rows present k ||| (1 <<< (nI k &&& 31)) else zm_wsF s v rows present k
def zm_ws (s : zS) (v : zVeh) : Int32 := zm_wsF s v (zm_day s v.1 (s_now s / 1440)) (zm_charge s v v.2.1.1 (s_cap s) (zm_day s v.1 (s_now s / 1440))).1 3
set_option maxRecDepth 20000 in
set_option maxHeartbeats 4000000 in
theorem c_X8_hasPassed (l : Launch) (G : zG) (h : zH) (top : Nat) (s : zS) (be : zB) (H : z_St G s be h top) (iv : Nat) (v : zVeh) (hv : (s_vehs s)[iv]? = some v) (i : Nat) (x : zSeg) (hx : (s_segs s)[i]? = some x) (m : Int32) : z_Ct l yX8_hasPassed cX8_hasPassed 5 (some .boolean) 12 G [.ref (z_b G), .ref v.1, .ref x.1, .int m] h top (z_PQ G s (.int (zf_b (zm_passed s v.1 x.1 m)))) := by
  refine z_of (own := RX8) (nm := "hasPassed") (by decide) rfl rfl (by decide) (Nat.le_of_ble_eq_true rfl) (fun X hX hq => ?_)
  replace hX : z_ok X cX8_hasPassed 5 RX8 (some .boolean) "hasPassed" 12 G := hX
  show z_Z X h top 0 [(0, .ref (z_b G)), (1, .ref v.1), (2, .ref x.1), (3, .int m)] []
  have hha := H.hall
  have hbd := H.2.2.1.2.2
  have hl0 := H.l0
  have hl01 := hl0.1
  have hl1 := H.l1
  have hl11 := hl1.1
  have hl2 := H.l2
  have hl21 := hl2.1
  have hbk := H.bk
  have hvl : iv < (s_vehs s).length := (List.getElem?_eq_some_iff.mp hv).1
  have hvs := H.veh hv
  have hil : i < (s_segs s).length := (List.getElem?_eq_some_iff.mp hx).1
  have hxs := H.seg hx
  refine r_iload_n hX rfl 3 rfl dX8_hasPassed_0 ?_
  refine r_sipush (v := 1440) hX (by decide) dX8_hasPassed_1 ?_
  refine r_idiv hX (by decide) dX8_hasPassed_4 ?_
  refine r_istore (lv' := [(4, .int (m / 1440)), (0, .ref (z_b G)), (1, .ref v.1), (2, .ref x.1), (3, .int m)]) hX (by decide) rfl dX8_hasPassed_5 ?_
  refine r_aload_n hX rfl 1 rfl dX8_hasPassed_7 ?_
  refine r_getf hX fl_X8_39 hha rfl dX8_hasPassed_8 ?_
  refine r_aload_n hX rfl 1 rfl dX8_hasPassed_11 ?_
  refine r_getf hX fl_X8_19 hha rfl dX8_hasPassed_12 ?_
  refine r_aload_n hX rfl 1 rfl dX8_hasPassed_15 ?_
  refine r_getf hX fl_X8_10 hha rfl dX8_hasPassed_16 ?_
  refine r_aload_n hX rfl 2 rfl dX8_hasPassed_19 ?_
  refine r_iload hX 0 rfl dX8_hasPassed_20 ?_
  refine r_callV (As := [.ref (z_b G + 3), .ref (z_b G + 1), .ref v.1, .int (m / 1440)]) (rest := []) hX cs_X8_197 (by decide) (fun l => c_X0_gather l G h top s be v.1 (m / 1440) H) hbk rfl rfl rfl (Nat.le_of_ble_eq_true rfl) dX8_hasPassed_22 (fun r1 h1 top1 hp1 => ?_)
  obtain ⟨rfl, be1, RI1, J1⟩ := hp1
  have hha1 := J1.1.hall
  have hbk1 := J1.1.bk
  have htf1 := J1.1.tfs
  have hlg1 := J1.1.lg
  have hl1_0 := J1.1.l0
  have hl1_01 := hl1_0.1
  have hl1_1 := J1.1.l1
  have hl1_11 := hl1_1.1
  have hl1_2 := J1.1.l2
  have hl1_21 := hl1_2.1
  have hvs1 := J1.1.veh hv
  have hxs1 := J1.1.seg hx
  refine r_aload_n hX rfl 1 rfl dX8_hasPassed_25 ?_
  refine r_getf hX fl_X8_39 hha1 rfl dX8_hasPassed_26 ?_
  refine r_aload_n hX rfl 3 rfl dX8_hasPassed_29 ?_
  refine r_iload_n hX rfl 4 rfl dX8_hasPassed_30 ?_
  refine r_callVR (As := [.ref x.1, .int m]) (rest := []) (rv := some (.int (zf_b (zm_begun (zm_cert s v.1 (m / 1440)) (zm_day s v.1 (m / 1440)) x.1 m)))) (st1 := [.int (zf_b (zm_begun (zm_cert s v.1 (m / 1440)) (zm_day s v.1 (m / 1440)) x.1 m))]) hX cs_X8_363 (by decide) (fun l => c_X0_hasBegun l G h1 top1 s _ (zm_cert s v.1 (m / 1440)) be1 _ RI1 J1 (zm_cert_le s v.1 (m / 1440)) x.1 m) hbk1 rfl rfl rfl rfl (Nat.le_of_ble_eq_true rfl) dX8_hasPassed_31 ?_
  refine r_if_eq (tgt := 39) hX dX8_hasPassed_34 rfl (fun c34 => ?_) (fun c34 => ?_)
  · skip
    refine r_aload_n hX rfl 1 rfl dX8_hasPassed_39 ?_
    refine r_getf hX fl_X8_39 hha1 rfl dX8_hasPassed_40 ?_
    refine r_aload_n hX rfl 1 rfl dX8_hasPassed_43 ?_
    refine r_getf hX fl_X8_19 hha1 rfl dX8_hasPassed_44 ?_
    refine r_aload_n hX rfl 1 rfl dX8_hasPassed_47 ?_
    refine r_getf hX fl_X8_10 hha1 rfl dX8_hasPassed_48 ?_
    refine r_aload_n hX rfl 2 rfl dX8_hasPassed_51 ?_
    refine r_iload hX 0 rfl dX8_hasPassed_52 ?_
    refine r_iconst (v := 1) hX (by decide) dX8_hasPassed_54 ?_
    refine r_isub hX dX8_hasPassed_55 ?_
    refine r_callV (As := [.ref (z_b G + 3), .ref (z_b G + 1), .ref v.1, .int ((m / 1440) - 1)]) (rest := []) hX cs_X8_197 (by decide) (fun l => c_X0_gather l G h1 top1 s be1 v.1 (m / 1440 - 1) J1.1) hbk1 rfl rfl rfl (Nat.le_of_ble_eq_true rfl) dX8_hasPassed_56 (fun r2 h2 top2 hp2 => ?_)
    obtain ⟨rfl, be2, RI2, J2⟩ := hp2
    have hha2 := J2.1.hall
    have hbk2 := J2.1.bk
    have htf2 := J2.1.tfs
    have hlg2 := J2.1.lg
    have hl2_0 := J2.1.l0
    have hl2_01 := hl2_0.1
    have hl2_1 := J2.1.l1
    have hl2_11 := hl2_1.1
    have hl2_2 := J2.1.l2
    have hl2_21 := hl2_2.1
    have hvs2 := J2.1.veh hv
    have hxs2 := J2.1.seg hx
    refine r_aload_n hX rfl 1 rfl dX8_hasPassed_59 ?_
    refine r_getf hX fl_X8_39 hha2 rfl dX8_hasPassed_60 ?_
    refine r_aload_n hX rfl 3 rfl dX8_hasPassed_63 ?_
    refine r_iload_n hX rfl 4 rfl dX8_hasPassed_64 ?_
    refine r_callVR (As := [.ref x.1, .int m]) (rest := []) (rv := some (.int (zf_b (zm_begun (zm_cert s v.1 (m / 1440 - 1)) (zm_day s v.1 (m / 1440 - 1)) x.1 m)))) (st1 := [.int (zf_b (zm_begun (zm_cert s v.1 (m / 1440 - 1)) (zm_day s v.1 (m / 1440 - 1)) x.1 m))]) hX cs_X8_363 (by decide) (fun l => c_X0_hasBegun l G h2 top2 s _ (zm_cert s v.1 (m / 1440 - 1)) be2 _ RI2 J2 (zm_cert_le s v.1 (m / 1440 - 1)) x.1 m) hbk2 rfl rfl rfl rfl (Nat.le_of_ble_eq_true rfl) dX8_hasPassed_65 ?_
    exact r_zret hX hq (by first | assumption | exact zf_b01 _) ⟨by rw [zm_passed, zf_b_e c34]; rfl, be2, J2.1⟩ dX8_hasPassed_68
  · skip
    refine r_iconst (v := 1) hX (by decide) dX8_hasPassed_37 ?_
    exact r_zret hX hq (by decide) ⟨by rw [zm_passed, zf_b_ne c34]; rfl, be1, J1.1⟩ dX8_hasPassed_38

theorem c_isClosed_0 (l : Launch) (G : zG) (h : zH) (top : Nat) (s : zS) (be : zB) (H : z_St G s be h top) {d : Int32} (hcl : ¬ d ≤ s_now s / 1440 - 2) : z_Ct l yX8_isClosed cX8_isClosed 2 (some .boolean) 2 G [.ref (z_b G), .int d] h top (z_R (some (.int 0)) h top) := by
  have q := c_X8_isClosed l G h top s be H d
  rw [decide_eq_false hcl] at q
  exact q
theorem c_isClosed_1 (l : Launch) (G : zG) (h : zH) (top : Nat) (s : zS) (be : zB) (H : z_St G s be h top) {d : Int32} (hcl : d ≤ s_now s / 1440 - 2) : z_Ct l yX8_isClosed cX8_isClosed 2 (some .boolean) 2 G [.ref (z_b G), .int d] h top (z_R (some (.int 1)) h top) := by
  have q := c_X8_isClosed l G h top s be H d
  rw [decide_eq_true hcl] at q
  exact q
set_option maxRecDepth 20000 in
set_option maxHeartbeats 4000000 in
theorem c_X8_control (l : Launch) (G : zG) (h : zH) (top : Nat) (s : zS) (be : zB) (H : z_St G s be h top) (iv : Nat) (v : zVeh) (hv : (s_vehs s)[iv]? = some v) (i : Nat) (x : zSeg) (hx : (s_segs s)[i]? = some x) (m : Int32) (hm : zf_isIn m 0 (s_now s) = true) (hcl : ¬ m / 1440 ≤ s_now s / 1440 - 2) : z_Ct l yX8_control cX8_control 7 (some .int) 13 G [.ref (z_b G), .int (nI iv), .int (nI i), .int m] h top (z_PQ G (zm_control s iv v x m).2 (.int (zm_control s iv v x m).1)) := by
  refine z_of (own := RX8) (nm := "control") (by decide) rfl rfl (by decide) (Nat.le_of_ble_eq_true rfl) (fun X hX hq => ?_)
  replace hX : z_ok X cX8_control 7 RX8 (some .int) "control" 13 G := hX
  show z_Z X h top 0 [(0, .ref (z_b G)), (1, .int (nI iv)), (2, .int (nI i)), (3, .int m)] []
  have hha := H.hall
  have hbd := H.2.2.1.2.2
  have hl0 := H.l0
  have hl01 := hl0.1
  have hl1 := H.l1
  have hl11 := hl1.1
  have hl2 := H.l2
  have hl21 := hl2.1
  have hbk := H.bk
  have hvl : iv < (s_vehs s).length := (List.getElem?_eq_some_iff.mp hv).1
  have hvs := H.veh hv
  have hil : i < (s_segs s).length := (List.getElem?_eq_some_iff.mp hx).1
  have hxs := H.seg hx
  refine r_aload_n hX rfl 0 rfl dX8_control_0 ?_
  refine r_iload_n hX rfl 1 rfl dX8_control_1 ?_
  refine r_callVR (As := [.int (nI iv)]) (rest := []) (rv := some (.int 1)) (st1 := [.int 1]) hX cs_X8_126 (by decide) (fun l => c_X8_isVehicle l G h top s be H iv hvl) hha rfl rfl rfl rfl (Nat.le_of_ble_eq_true rfl) dX8_control_2 ?_
  refine r_if_eq (tgt := 20) hX dX8_control_5 rfl (fun c => False.elim (absurd c (by decide))) (fun _ => ?_)
  refine r_aload_n hX rfl 0 rfl dX8_control_8 ?_
  refine r_iload_n hX rfl 2 rfl dX8_control_9 ?_
  refine r_callVR (As := [.int (nI i)]) (rest := []) (rv := some (.int 1)) (st1 := [.int 1]) hX cs_X8_85 (by decide) (fun l => c_X8_isSegment l G h top s be H i hil) hha rfl rfl rfl rfl (Nat.le_of_ble_eq_true rfl) dX8_control_10 ?_
  refine r_if_eq (tgt := 20) hX dX8_control_13 rfl (fun c => False.elim (absurd c (by decide))) (fun _ => ?_)
  refine r_iconst (v := 1) hX (by decide) dX8_control_16 ?_
  refine r_goto (tgt := 21) hX rfl dX8_control_17 ?_
  refine r_callSR (As := [.int 1]) (rest := []) (rv := none) (st1 := []) hX cs_X8_58 (by decide) (fun l => c_X8_needIndex l G h top) rfl rfl rfl (Nat.le_of_ble_eq_true rfl) dX8_control_21 ?_
  refine r_iload_n hX rfl 3 rfl dX8_control_24 ?_
  refine r_iconst (v := 0) hX (by decide) dX8_control_25 ?_
  refine r_aload_n hX rfl 0 rfl dX8_control_26 ?_
  refine r_getf hX fl_X8_139 hha rfl dX8_control_27 ?_
  refine r_callSR (As := [.int m, .int 0, .int (s_now s)]) (rest := []) (rv := some (.int 1)) (st1 := [.int 1]) hX cs_X8_62 (by decide) (fun l => c_isIn_1 l G h top hm) rfl rfl rfl (Nat.le_of_ble_eq_true rfl) dX8_control_30 ?_
  refine r_callSR (As := [.int 1]) (rest := []) (rv := none) (st1 := []) hX cs_X8_66 (by decide) (fun l => c_X8_needArgument l G h top) rfl rfl rfl (Nat.le_of_ble_eq_true rfl) dX8_control_33 ?_
  refine r_aload_n hX rfl 0 rfl dX8_control_36 ?_
  refine r_iload_n hX rfl 3 rfl dX8_control_37 ?_
  refine r_sipush (v := 1440) hX (by decide) dX8_control_38 ?_
  refine r_idiv hX (by decide) dX8_control_41 ?_
  refine r_callVR (As := [.int (m / 1440)]) (rest := []) (rv := some (.int 0)) (st1 := [.int 0]) hX cs_X8_142 (by decide) (fun l => c_isClosed_0 l G h top s be H hcl) hha rfl rfl rfl rfl (Nat.le_of_ble_eq_true rfl) dX8_control_42 ?_
  refine r_if_ne (tgt := 52) hX dX8_control_45 rfl (fun c => False.elim (absurd c (by decide))) (fun _ => ?_)
  refine r_iconst (v := 1) hX (by decide) dX8_control_48 ?_
  refine r_goto (tgt := 53) hX rfl dX8_control_49 ?_
  refine r_callSR (As := [.int 1]) (rest := []) (rv := none) (st1 := []) hX cs_X8_73 (by decide) (fun l => c_X8_needState l G h top) rfl rfl rfl (Nat.le_of_ble_eq_true rfl) dX8_control_53 ?_
  refine r_aload_n hX rfl 0 rfl dX8_control_56 ?_
  refine r_getf hX fl_X8_16 hha rfl dX8_control_57 ?_
  refine r_iload_n hX rfl 1 rfl dX8_control_60 ?_
  refine r_callVR (As := [.int (nI iv)]) (rest := []) (rv := some (.ref v.1)) (st1 := [.ref v.1]) hX cs_X8_92 (by decide) (fun l => z_get hl1 hvl (z_mapget hv) l) hl11 rfl rfl rfl rfl (Nat.le_of_ble_eq_true rfl) dX8_control_61 ?_
  refine r_cast (ci := 8) hX rfl hvs cl_X8_121 dX8_control_64 ?_
  refine r_astore (lv' := [(4, .ref v.1), (0, .ref (z_b G)), (1, .int (nI iv)), (2, .int (nI i)), (3, .int m)]) hX (by decide) rfl dX8_control_67 ?_
  refine r_aload_n hX rfl 1 rfl dX8_control_69 ?_
  refine r_getf hX fl_X8_10 hha rfl dX8_control_70 ?_
  refine r_iload_n hX rfl 3 rfl dX8_control_73 ?_
  refine r_callVR (As := [.int (nI i)]) (rest := []) (rv := some (.ref x.1)) (st1 := [.ref x.1]) hX cs_X8_92 (by decide) (fun l => z_get hl0 hil (z_mapget hx) l) hl01 rfl rfl rfl rfl (Nat.le_of_ble_eq_true rfl) dX8_control_74 ?_
  refine r_cast (ci := 4) hX rfl hxs cl_X8_76 dX8_control_77 ?_
  refine r_astore (lv' := [(5, .ref x.1), (4, .ref v.1), (0, .ref (z_b G)), (1, .int (nI iv)), (2, .int (nI i)), (3, .int m)]) hX (by decide) rfl dX8_control_80 ?_
  refine r_aload_n hX rfl 2 rfl dX8_control_82 ?_
  refine r_aload hX 1 rfl dX8_control_83 ?_
  refine r_aload hX 0 rfl dX8_control_85 ?_
  refine r_iload_n hX rfl 5 rfl dX8_control_87 ?_
  refine r_callV (As := [.ref v.1, .ref x.1, .int m]) (rest := []) hX cs_X8_177 (by decide) (fun l => c_X8_hasPassed l G h top s be H iv v hv i x hx m) hha rfl rfl rfl (Nat.le_of_ble_eq_true rfl) dX8_control_88 (fun r1 h1 top1 hp1 => ?_)
  obtain ⟨rfl, be1, H1⟩ := hp1
  have hha1 := H1.hall
  have hbk1 := H1.bk
  have htf1 := H1.tfs
  have hlg1 := H1.lg
  have hl1_0 := H1.l0
  have hl1_01 := hl1_0.1
  have hl1_1 := H1.l1
  have hl1_11 := hl1_1.1
  have hl1_2 := H1.l2
  have hl1_21 := hl1_2.1
  have hvs1 := H1.veh hv
  have hxs1 := H1.seg hx
  refine r_if_eq (tgt := 96) hX dX8_control_91 rfl (fun c91 => ?_) (fun c91 => ?_)
  · skip
    refine r_iconst (v := 2) hX (by decide) dX8_control_96 ?_
    refine r_aload_n hX rfl 2 rfl dX8_control_97 ?_
    refine r_aload hX 1 rfl dX8_control_98 ?_
    refine r_aload hX 0 rfl dX8_control_100 ?_
    refine r_iload_n hX rfl 5 rfl dX8_control_102 ?_
    refine r_callVR (As := [.ref v.1, .ref x.1, .int m]) (rest := [.int 2]) (rv := some (.int (zm_toll (s_tars s) x v m))) (st1 := [.int (zm_toll (s_tars s) x v m), .int 2]) hX cs_X8_181 (by decide) (fun l => c_X8_tollOf l G h1 top1 s be1 H1 iv v hv i x hx m) hha1 rfl rfl rfl rfl (Nat.le_of_ble_eq_true rfl) dX8_control_103 ?_
    refine r_imul hX dX8_control_106 ?_
    refine r_istore (lv' := [(6, .int (2 * (zm_toll (s_tars s) x v m))), (5, .ref x.1), (4, .ref v.1), (0, .ref (z_b G)), (1, .int (nI iv)), (2, .int (nI i)), (3, .int m)]) hX (by decide) rfl dX8_control_107 ?_
    refine r_aload hX 2 rfl dX8_control_109 ?_
    refine r_dup hX rfl dX8_control_111 ?_
    refine r_getf hX fl_X8_136 hvs1 rfl dX8_control_112 ?_
    refine r_iload hX 0 rfl dX8_control_115 ?_
    refine r_isub hX dX8_control_117 ?_
    refine r_put (fs2 := [.int (nI iv), .int v.2.1.1, .int v.2.1.2.1, .int v.2.1.2.2, .int (v.2.2.1 - (2 * (zm_toll (s_tars s) x v m))), .int v.2.2.2.1, .int v.2.2.2.2.1, .int v.2.2.2.2.2]) hX fp_X8_136 hvs1 rfl rfl (Nat.le_of_ble_eq_true rfl) rfl dX8_control_118 ?_
    replace hha1 := hha1.up (e3 := (.inr (8, [.int (nI iv), .int v.2.1.1, .int v.2.1.2.1, .int v.2.1.2.2, .int (v.2.2.1 - (2 * (zm_toll (s_tars s) x v m))), .int v.2.2.2.1, .int v.2.2.2.2.1, .int v.2.2.2.2.2]))) hvs1 (by intro z; cases z)
    replace hbk1 := hbk1.up (e3 := (.inr (8, [.int (nI iv), .int v.2.1.1, .int v.2.1.2.1, .int v.2.1.2.2, .int (v.2.2.1 - (2 * (zm_toll (s_tars s) x v m))), .int v.2.2.2.1, .int v.2.2.2.2.1, .int v.2.2.2.2.2]))) hvs1 (by intro z; cases z)
    replace htf1 := htf1.up (e3 := (.inr (8, [.int (nI iv), .int v.2.1.1, .int v.2.1.2.1, .int v.2.1.2.2, .int (v.2.2.1 - (2 * (zm_toll (s_tars s) x v m))), .int v.2.2.2.1, .int v.2.2.2.2.1, .int v.2.2.2.2.2]))) hvs1 (by intro z; cases z)
    replace hlg1 := hlg1.up (e3 := (.inr (8, [.int (nI iv), .int v.2.1.1, .int v.2.1.2.1, .int v.2.1.2.2, .int (v.2.2.1 - (2 * (zm_toll (s_tars s) x v m))), .int v.2.2.2.1, .int v.2.2.2.2.1, .int v.2.2.2.2.2]))) hvs1 (by intro z; cases z)
    replace hl1_01 := hl1_01.up (e3 := (.inr (8, [.int (nI iv), .int v.2.1.1, .int v.2.1.2.1, .int v.2.1.2.2, .int (v.2.2.1 - (2 * (zm_toll (s_tars s) x v m))), .int v.2.2.2.1, .int v.2.2.2.2.1, .int v.2.2.2.2.2]))) hvs1 (by intro z; cases z)
    replace hl1_11 := hl1_11.up (e3 := (.inr (8, [.int (nI iv), .int v.2.1.1, .int v.2.1.2.1, .int v.2.1.2.2, .int (v.2.2.1 - (2 * (zm_toll (s_tars s) x v m))), .int v.2.2.2.1, .int v.2.2.2.2.1, .int v.2.2.2.2.2]))) hvs1 (by intro z; cases z)
    replace hl1_21 := hl1_21.up (e3 := (.inr (8, [.int (nI iv), .int v.2.1.1, .int v.2.1.2.1, .int v.2.1.2.2, .int (v.2.2.1 - (2 * (zm_toll (s_tars s) x v m))), .int v.2.2.2.1, .int v.2.2.2.2.1, .int v.2.2.2.2.2]))) hvs1 (by intro z; cases z)
    replace hxs1 := hxs1.up (e3 := (.inr (8, [.int (nI iv), .int v.2.1.1, .int v.2.1.2.1, .int v.2.1.2.2, .int (v.2.2.1 - (2 * (zm_toll (s_tars s) x v m))), .int v.2.2.2.1, .int v.2.2.2.2.1, .int v.2.2.2.2.2]))) hvs1 (by intro z; cases z)
    replace hvs1 : z_at G (va_up h1 v.1 (.inr (8, [.int (nI iv), .int v.2.1.1, .int v.2.1.2.1, .int v.2.1.2.2, .int (v.2.2.1 - (2 * (zm_toll (s_tars s) x v m))), .int v.2.2.2.1, .int v.2.2.2.2.1, .int v.2.2.2.2.2]))) top1 v.1 (.inr (8, [.int (nI iv), .int v.2.1.1, .int v.2.1.2.1, .int v.2.1.2.2, .int (v.2.2.1 - (2 * (zm_toll (s_tars s) x v m))), .int v.2.2.2.1, .int v.2.2.2.2.1, .int v.2.2.2.2.2])) := z_at.self hvs1
    refine r_aload hX 2 rfl dX8_control_121 ?_
    refine r_dup hX rfl dX8_control_123 ?_
    refine r_getf hX fl_X8_185 hvs1 rfl dX8_control_124 ?_
    refine r_iload hX 0 rfl dX8_control_127 ?_
    refine r_iadd hX dX8_control_129 ?_
    refine r_putU (fs2 := [.int (nI iv), .int v.2.1.1, .int v.2.1.2.1, .int v.2.1.2.2, .int (v.2.2.1 - (2 * (zm_toll (s_tars s) x v m))), .int v.2.2.2.1, .int v.2.2.2.2.1, .int (v.2.2.2.2.2 + (2 * (zm_toll (s_tars s) x v m)))]) hX fp_X8_185 hvs1 rfl rfl (Nat.le_of_ble_eq_true rfl) rfl dX8_control_130 ?_
    try replace hha1 := z_at.u2 (e3 := (.inr (8, [.int (nI iv), .int v.2.1.1, .int v.2.1.2.1, .int v.2.1.2.2, .int (v.2.2.1 - (2 * (zm_toll (s_tars s) x v m))), .int v.2.2.2.1, .int v.2.2.2.2.1, .int (v.2.2.2.2.2 + (2 * (zm_toll (s_tars s) x v m)))]))) hha1 hvs1 (by intro z; cases z)
    try replace hbk1 := z_at.u2 (e3 := (.inr (8, [.int (nI iv), .int v.2.1.1, .int v.2.1.2.1, .int v.2.1.2.2, .int (v.2.2.1 - (2 * (zm_toll (s_tars s) x v m))), .int v.2.2.2.1, .int v.2.2.2.2.1, .int (v.2.2.2.2.2 + (2 * (zm_toll (s_tars s) x v m)))]))) hbk1 hvs1 (by intro z; cases z)
    try replace htf1 := z_at.u2 (e3 := (.inr (8, [.int (nI iv), .int v.2.1.1, .int v.2.1.2.1, .int v.2.1.2.2, .int (v.2.2.1 - (2 * (zm_toll (s_tars s) x v m))), .int v.2.2.2.1, .int v.2.2.2.2.1, .int (v.2.2.2.2.2 + (2 * (zm_toll (s_tars s) x v m)))]))) htf1 hvs1 (by intro z; cases z)
    try replace hlg1 := z_at.u2 (e3 := (.inr (8, [.int (nI iv), .int v.2.1.1, .int v.2.1.2.1, .int v.2.1.2.2, .int (v.2.2.1 - (2 * (zm_toll (s_tars s) x v m))), .int v.2.2.2.1, .int v.2.2.2.2.1, .int (v.2.2.2.2.2 + (2 * (zm_toll (s_tars s) x v m)))]))) hlg1 hvs1 (by intro z; cases z)
    try replace hl1_01 := z_at.u2 (e3 := (.inr (8, [.int (nI iv), .int v.2.1.1, .int v.2.1.2.1, .int v.2.1.2.2, .int (v.2.2.1 - (2 * (zm_toll (s_tars s) x v m))), .int v.2.2.2.1, .int v.2.2.2.2.1, .int (v.2.2.2.2.2 + (2 * (zm_toll (s_tars s) x v m)))]))) hl1_01 hvs1 (by intro z; cases z)
    try replace hl1_11 := z_at.u2 (e3 := (.inr (8, [.int (nI iv), .int v.2.1.1, .int v.2.1.2.1, .int v.2.1.2.2, .int (v.2.2.1 - (2 * (zm_toll (s_tars s) x v m))), .int v.2.2.2.1, .int v.2.2.2.2.1, .int (v.2.2.2.2.2 + (2 * (zm_toll (s_tars s) x v m)))]))) hl1_11 hvs1 (by intro z; cases z)
    try replace hl1_21 := z_at.u2 (e3 := (.inr (8, [.int (nI iv), .int v.2.1.1, .int v.2.1.2.1, .int v.2.1.2.2, .int (v.2.2.1 - (2 * (zm_toll (s_tars s) x v m))), .int v.2.2.2.1, .int v.2.2.2.2.1, .int (v.2.2.2.2.2 + (2 * (zm_toll (s_tars s) x v m)))]))) hl1_21 hvs1 (by intro z; cases z)
    try replace hxs1 := z_at.u2 (e3 := (.inr (8, [.int (nI iv), .int v.2.1.1, .int v.2.1.2.1, .int v.2.1.2.2, .int (v.2.2.1 - (2 * (zm_toll (s_tars s) x v m))), .int v.2.2.2.1, .int v.2.2.2.2.1, .int (v.2.2.2.2.2 + (2 * (zm_toll (s_tars s) x v m)))]))) hxs1 hvs1 (by intro z; cases z)
    replace hvs1 : z_at G (va_up h1 v.1 (.inr (8, [.int (nI iv), .int v.2.1.1, .int v.2.1.2.1, .int v.2.1.2.2, .int (v.2.2.1 - (2 * (zm_toll (s_tars s) x v m))), .int v.2.2.2.1, .int v.2.2.2.2.1, .int (v.2.2.2.2.2 + (2 * (zm_toll (s_tars s) x v m)))]))) top1 v.1 (.inr (8, [.int (nI iv), .int v.2.1.1, .int v.2.1.2.1, .int v.2.1.2.2, .int (v.2.2.1 - (2 * (zm_toll (s_tars s) x v m))), .int v.2.2.2.1, .int v.2.2.2.2.1, .int (v.2.2.2.2.2 + (2 * (zm_toll (s_tars s) x v m)))])) := z_at.uu hvs1
    refine r_aload_n hX rfl 3 rfl dX8_control_133 ?_
    refine r_getf hX fl_X8_32 hha1 rfl dX8_control_134 ?_
    refine r_dup hX rfl dX8_control_137 ?_
    refine r_getf hX fl_X8_188 hlg1 rfl dX8_control_138 ?_
    refine r_iload hX 0 rfl dX8_control_141 ?_
    refine r_iadd hX dX8_control_143 ?_
    refine r_put (fs2 := [.ref (z_b G + 8), .ref (z_b G + 9), .ref (z_b G + 10), .int ((s_hall s) + (2 * (zm_toll (s_tars s) x v m))), .int (s_taken s), .int (s_gb s)]) hX fp_X8_188 hlg1 rfl rfl (Nat.le_of_ble_eq_true rfl) rfl dX8_control_144 ?_
    replace hha1 := hha1.up (e3 := (.inr (2, [.ref (z_b G + 8), .ref (z_b G + 9), .ref (z_b G + 10), .int ((s_hall s) + (2 * (zm_toll (s_tars s) x v m))), .int (s_taken s), .int (s_gb s)]))) hlg1 (by intro z; cases z)
    replace hbk1 := hbk1.up (e3 := (.inr (2, [.ref (z_b G + 8), .ref (z_b G + 9), .ref (z_b G + 10), .int ((s_hall s) + (2 * (zm_toll (s_tars s) x v m))), .int (s_taken s), .int (s_gb s)]))) hlg1 (by intro z; cases z)
    replace htf1 := htf1.up (e3 := (.inr (2, [.ref (z_b G + 8), .ref (z_b G + 9), .ref (z_b G + 10), .int ((s_hall s) + (2 * (zm_toll (s_tars s) x v m))), .int (s_taken s), .int (s_gb s)]))) hlg1 (by intro z; cases z)
    replace hl1_01 := hl1_01.up (e3 := (.inr (2, [.ref (z_b G + 8), .ref (z_b G + 9), .ref (z_b G + 10), .int ((s_hall s) + (2 * (zm_toll (s_tars s) x v m))), .int (s_taken s), .int (s_gb s)]))) hlg1 (by intro z; cases z)
    replace hl1_11 := hl1_11.up (e3 := (.inr (2, [.ref (z_b G + 8), .ref (z_b G + 9), .ref (z_b G + 10), .int ((s_hall s) + (2 * (zm_toll (s_tars s) x v m))), .int (s_taken s), .int (s_gb s)]))) hlg1 (by intro z; cases z)
    replace hl1_21 := hl1_21.up (e3 := (.inr (2, [.ref (z_b G + 8), .ref (z_b G + 9), .ref (z_b G + 10), .int ((s_hall s) + (2 * (zm_toll (s_tars s) x v m))), .int (s_taken s), .int (s_gb s)]))) hlg1 (by intro z; cases z)
    replace hvs1 := hvs1.up (e3 := (.inr (2, [.ref (z_b G + 8), .ref (z_b G + 9), .ref (z_b G + 10), .int ((s_hall s) + (2 * (zm_toll (s_tars s) x v m))), .int (s_taken s), .int (s_gb s)]))) hlg1 (by intro z; cases z)
    replace hxs1 := hxs1.up (e3 := (.inr (2, [.ref (z_b G + 8), .ref (z_b G + 9), .ref (z_b G + 10), .int ((s_hall s) + (2 * (zm_toll (s_tars s) x v m))), .int (s_taken s), .int (s_gb s)]))) hlg1 (by intro z; cases z)
    replace hlg1 : z_at G (va_up (va_up h1 v.1 (.inr (8, [.int (nI iv), .int v.2.1.1, .int v.2.1.2.1, .int v.2.1.2.2, .int (v.2.2.1 - (2 * (zm_toll (s_tars s) x v m))), .int v.2.2.2.1, .int v.2.2.2.2.1, .int (v.2.2.2.2.2 + (2 * (zm_toll (s_tars s) x v m)))]))) (z_b G + 7) (.inr (2, [.ref (z_b G + 8), .ref (z_b G + 9), .ref (z_b G + 10), .int ((s_hall s) + (2 * (zm_toll (s_tars s) x v m))), .int (s_taken s), .int (s_gb s)]))) top1 (z_b G + 7) (.inr (2, [.ref (z_b G + 8), .ref (z_b G + 9), .ref (z_b G + 10), .int ((s_hall s) + (2 * (zm_toll (s_tars s) x v m))), .int (s_taken s), .int (s_gb s)])) := z_at.self hlg1
    refine r_aload_n hX rfl 3 rfl dX8_control_147 ?_
    refine r_dup hX rfl dX8_control_148 ?_
    refine r_getf hX fl_X8_191 hha1 rfl dX8_control_149 ?_
    refine r_iconst (v := 1) hX (by decide) dX8_control_152 ?_
    refine r_iadd hX dX8_control_153 ?_
    refine r_put (fs2 := [.ref (z_b G + 1), .ref (z_b G + 2), .ref (z_b G + 3), .ref (z_b G + 4), .ref (z_b G + 7), .ref (z_b G + 11), .ref (z_b G + 16), .int (s_shuts s), .int (s_now s), .int (s_cap s), .int (s_listed s), .int (s_alarms s), .int ((s_catches s) + 1), .int (s_erased s)]) hX fp_X8_191 hha1 rfl rfl (Nat.le_of_ble_eq_true rfl) rfl dX8_control_154 ?_
    replace hbk1 := hbk1.up (e3 := (.inr (9, [.ref (z_b G + 1), .ref (z_b G + 2), .ref (z_b G + 3), .ref (z_b G + 4), .ref (z_b G + 7), .ref (z_b G + 11), .ref (z_b G + 16), .int (s_shuts s), .int (s_now s), .int (s_cap s), .int (s_listed s), .int (s_alarms s), .int ((s_catches s) + 1), .int (s_erased s)]))) hha1 (by intro z; cases z)
    replace htf1 := htf1.up (e3 := (.inr (9, [.ref (z_b G + 1), .ref (z_b G + 2), .ref (z_b G + 3), .ref (z_b G + 4), .ref (z_b G + 7), .ref (z_b G + 11), .ref (z_b G + 16), .int (s_shuts s), .int (s_now s), .int (s_cap s), .int (s_listed s), .int (s_alarms s), .int ((s_catches s) + 1), .int (s_erased s)]))) hha1 (by intro z; cases z)
    replace hlg1 := hlg1.up (e3 := (.inr (9, [.ref (z_b G + 1), .ref (z_b G + 2), .ref (z_b G + 3), .ref (z_b G + 4), .ref (z_b G + 7), .ref (z_b G + 11), .ref (z_b G + 16), .int (s_shuts s), .int (s_now s), .int (s_cap s), .int (s_listed s), .int (s_alarms s), .int ((s_catches s) + 1), .int (s_erased s)]))) hha1 (by intro z; cases z)
    replace hl1_01 := hl1_01.up (e3 := (.inr (9, [.ref (z_b G + 1), .ref (z_b G + 2), .ref (z_b G + 3), .ref (z_b G + 4), .ref (z_b G + 7), .ref (z_b G + 11), .ref (z_b G + 16), .int (s_shuts s), .int (s_now s), .int (s_cap s), .int (s_listed s), .int (s_alarms s), .int ((s_catches s) + 1), .int (s_erased s)]))) hha1 (by intro z; cases z)
    replace hl1_11 := hl1_11.up (e3 := (.inr (9, [.ref (z_b G + 1), .ref (z_b G + 2), .ref (z_b G + 3), .ref (z_b G + 4), .ref (z_b G + 7), .ref (z_b G + 11), .ref (z_b G + 16), .int (s_shuts s), .int (s_now s), .int (s_cap s), .int (s_listed s), .int (s_alarms s), .int ((s_catches s) + 1), .int (s_erased s)]))) hha1 (by intro z; cases z)
    replace hl1_21 := hl1_21.up (e3 := (.inr (9, [.ref (z_b G + 1), .ref (z_b G + 2), .ref (z_b G + 3), .ref (z_b G + 4), .ref (z_b G + 7), .ref (z_b G + 11), .ref (z_b G + 16), .int (s_shuts s), .int (s_now s), .int (s_cap s), .int (s_listed s), .int (s_alarms s), .int ((s_catches s) + 1), .int (s_erased s)]))) hha1 (by intro z; cases z)
    replace hvs1 := hvs1.up (e3 := (.inr (9, [.ref (z_b G + 1), .ref (z_b G + 2), .ref (z_b G + 3), .ref (z_b G + 4), .ref (z_b G + 7), .ref (z_b G + 11), .ref (z_b G + 16), .int (s_shuts s), .int (s_now s), .int (s_cap s), .int (s_listed s), .int (s_alarms s), .int ((s_catches s) + 1), .int (s_erased s)]))) hha1 (by intro z; cases z)
    replace hxs1 := hxs1.up (e3 := (.inr (9, [.ref (z_b G + 1), .ref (z_b G + 2), .ref (z_b G + 3), .ref (z_b G + 4), .ref (z_b G + 7), .ref (z_b G + 11), .ref (z_b G + 16), .int (s_shuts s), .int (s_now s), .int (s_cap s), .int (s_listed s), .int (s_alarms s), .int ((s_catches s) + 1), .int (s_erased s)]))) hha1 (by intro z; cases z)
    replace hha1 : z_at G (va_up (va_up (va_up h1 v.1 (.inr (8, [.int (nI iv), .int v.2.1.1, .int v.2.1.2.1, .int v.2.1.2.2, .int (v.2.2.1 - (2 * (zm_toll (s_tars s) x v m))), .int v.2.2.2.1, .int v.2.2.2.2.1, .int (v.2.2.2.2.2 + (2 * (zm_toll (s_tars s) x v m)))]))) (z_b G + 7) (.inr (2, [.ref (z_b G + 8), .ref (z_b G + 9), .ref (z_b G + 10), .int ((s_hall s) + (2 * (zm_toll (s_tars s) x v m))), .int (s_taken s), .int (s_gb s)]))) (z_b G) (.inr (9, [.ref (z_b G + 1), .ref (z_b G + 2), .ref (z_b G + 3), .ref (z_b G + 4), .ref (z_b G + 7), .ref (z_b G + 11), .ref (z_b G + 16), .int (s_shuts s), .int (s_now s), .int (s_cap s), .int (s_listed s), .int (s_alarms s), .int ((s_catches s) + 1), .int (s_erased s)]))) top1 (z_b G) (.inr (9, [.ref (z_b G + 1), .ref (z_b G + 2), .ref (z_b G + 3), .ref (z_b G + 4), .ref (z_b G + 7), .ref (z_b G + 11), .ref (z_b G + 16), .int (s_shuts s), .int (s_now s), .int (s_cap s), .int (s_listed s), .int (s_alarms s), .int ((s_catches s) + 1), .int (s_erased s)])) := z_at.self hha1
    refine r_iload hX 0 rfl dX8_control_157 ?_
    exact r_iret hX hq ⟨by rw [zm_control, if_neg (by rw [zf_b_e c91]; decide)], be1, by rw [zm_control, if_neg (by rw [zf_b_e c91]; decide)]; exact (((H1.setVeh (p2 := (v.1, v.2.1, v.2.2.1 - (2 * zm_toll (s_tars s) x v m), v.2.2.2.1, v.2.2.2.2.1, v.2.2.2.2.2 + (2 * zm_toll (s_tars s) x v m))) hv rfl).setLg (s_hall s + (2 * zm_toll (s_tars s) x v m)) (s_taken s) (s_gb s)).setHall (s_shuts s, s_now s, s_cap s, s_listed s, s_alarms s, s_catches s + 1, s_erased s))⟩ dX8_control_159
  · skip
    refine r_iconst (v := (-1)) hX (by decide) dX8_control_94 ?_
    exact r_iret hX hq ⟨by rw [zm_control, if_pos (zf_b_ne c91)], be1, by rw [zm_control, if_pos (zf_b_ne c91)]; exact H1⟩ dX8_control_95

theorem lt3 {i : Nat} (hb : i ≤ 3) (c : ¬ (3 : Int32) ≤ nI i) : i < 3 := by
  rcases Nat.lt_or_ge i 3 with q | q
  · exact q
  · exact absurd (show nI 3 ≤ nI i from nI_le q (by omega)) c
theorem ge3 {i : Nat} (h : i < 3) (c : (3 : Int32) ≤ nI i) : False := absurd (show nI 3 ≤ nI i from c) (nI_ge h (by omega))
set_option maxRecDepth 20000 in
set_option maxHeartbeats 4000000 in
theorem f_ws_step {X : zX} {G : zG} {h : zH} {top : Nat} {Post : Option Value → zH → Nat → Prop} (s : zS) (iv : Nat) (v : zVeh) (hv : (s_vehs s)[iv]? = some v) (rch : Nat → Int32) (ct present : Int32) (rows : List zQ) (RI : List Nat) (hp : ∀ (v2 : Int32) (h : zH) (top : Nat) (be : zB), z_St G s be h top → v2 = zm_wsF s v rows present 3 → Post (some (.int v2)) h top) (k i : Nat) (be : zB) (acc : Int32) (hk : 3 - i < k + 1) (hi : i ≤ 3) (hinv : z_DK G s rch ct be rows RI h top ∧ acc = zm_wsF s v rows present i) (ih : ∀ (i : Nat) (h : zH) (top : Nat) (be : zB) (acc : Int32), 3 - i < k → i ≤ 3 → (z_DK G s rch ct be rows RI h top ∧ acc = zm_wsF s v rows present i) → z_Z X h top 67 [(5, .int (nI i)), (4, .int acc), (0, .ref (z_b G)), (1, .int (nI iv)), (2, .ref v.1), (3, .int present)] []) (hX : z_ok X cX8_wouldSave 6 RX8 (some .int) "wouldSave" 12 G) (hq : z_mq X (Post)) : z_Z X h top 67 [(5, .int (nI i)), (4, .int acc), (0, .ref (z_b G)), (1, .int (nI iv)), (2, .ref v.1), (3, .int present)] [] := by
  obtain ⟨J, hinv2⟩ := hinv
  have H := J.1
  have hha := H.hall
  have hbk := H.bk
  have hvs := H.veh hv
  refine r_iload hX 0 rfl dX8_wouldSave_67 ?_
  refine r_iconst (v := 3) hX (by decide) dX8_wouldSave_69 ?_
  refine r_icmp_ge (tgt := 110) hX dX8_wouldSave_70 rfl (fun c70 => ?_) (fun c70 => ?_)
  · skip
    refine r_iload hX 1 rfl dX8_wouldSave_110 ?_
    exact r_iret hX hq (hp _ _ _ be J.1 (hinv2.trans (by rw [show i = 3 from Nat.le_antisymm hi (Nat.not_lt.mp (fun z => ge3 z c70))]))) dX8_wouldSave_112
  · skip
    refine r_aload_n hX rfl 2 rfl dX8_wouldSave_73 ?_
    refine r_getf hX fl_X8_39 hha rfl dX8_wouldSave_74 ?_
    refine r_aload_n hX rfl 4 rfl dX8_wouldSave_77 ?_
    refine r_iload hX 0 rfl dX8_wouldSave_78 ?_
    refine r_aload_n hX rfl 2 rfl dX8_wouldSave_80 ?_
    refine r_getf hX fl_X8_47 hha rfl dX8_wouldSave_81 ?_
    refine r_aload_n hX rfl 2 rfl dX8_wouldSave_84 ?_
    refine r_getf hX fl_X8_25 hha rfl dX8_wouldSave_85 ?_
    refine r_callV (As := [.ref v.1, .int (nI i), .int (s_cap s), .ref (z_b G + 4)]) (rest := []) hX cs_X8_208 (by decide) (fun l => c_X0_charge l G h top s rch ct v iv hv (nI i) (s_cap s) rows RI be J) hbk rfl rfl rfl (Nat.le_of_ble_eq_true rfl) dX8_wouldSave_88 (fun r2 h2 top2 hp2 => ?_)
    obtain ⟨rfl, rfl, be2, C2⟩ := hp2
    refine r_iload_n hX rfl 5 rfl dX8_wouldSave_91 ?_
    refine r_icmp_ge (tgt := 104) hX dX8_wouldSave_92 rfl (fun c92 => ?_) (fun c92 => ?_)
    · skip
      refine r_iinc (q := 0) (lv' := [(5, .int ((nI i) + 1)), (4, .int acc), (0, .ref (z_b G)), (1, .int (nI iv)), (2, .ref v.1), (3, .int present)]) hX rfl rfl (by decide) rfl dX8_wouldSave_104 ?_
      refine r_goto (tgt := 67) hX rfl dX8_wouldSave_107 ?_
      refine r_lv [0, 1, 2, 3, 4, 5] (lv2 := [(5, .int (nI i + 1)), (4, .int acc), (0, .ref (z_b G)), (1, .int (nI iv)), (2, .ref v.1), (3, .int present)]) rfl ?_
      rw [nI_1]
      have hlt := lt3 hi c70
      exact ih (i + 1) h2 _ be2 _ (by omega) (by omega) ⟨C2.1, by rw [hinv2]; exact (if_neg (Int32.not_lt.mpr c92)).symm⟩
    · skip
      refine r_iload hX 1 rfl dX8_wouldSave_95 ?_
      refine r_iconst (v := 1) hX (by decide) dX8_wouldSave_97 ?_
      refine r_iload hX 0 rfl dX8_wouldSave_98 ?_
      refine r_ishl hX dX8_wouldSave_100 ?_
      refine r_ior hX dX8_wouldSave_101 ?_
      refine r_istore (lv' := [(4, .int (acc ||| (1 <<< ((nI i) &&& 31)))), (5, .int (nI i)), (0, .ref (z_b G)), (1, .int (nI iv)), (2, .ref v.1), (3, .int present)]) hX (by decide) rfl dX8_wouldSave_102 ?_
      refine r_iinc (q := 1) (lv' := [(5, .int ((nI i) + 1)), (4, .int (acc ||| (1 <<< ((nI i) &&& 31)))), (0, .ref (z_b G)), (1, .int (nI iv)), (2, .ref v.1), (3, .int present)]) hX rfl rfl (by decide) rfl dX8_wouldSave_104 ?_
      refine r_goto (tgt := 67) hX rfl dX8_wouldSave_107 ?_
      refine r_lv [0, 1, 2, 3, 4, 5] (lv2 := [(5, .int (nI i + 1)), (4, .int (acc ||| (1 <<< ((nI i) &&& 31)))), (0, .ref (z_b G)), (1, .int (nI iv)), (2, .ref v.1), (3, .int present)]) rfl ?_
      rw [nI_1]
      have hlt := lt3 hi c70
      exact ih (i + 1) h2 _ be2 _ (by omega) (by omega) ⟨C2.1, by rw [hinv2]; exact (if_pos (Int32.not_le.mp c92)).symm⟩

theorem f_ws {X : zX} {G : zG}  {Post : Option Value → zH → Nat → Prop} (s : zS) (iv : Nat) (v : zVeh) (hv : (s_vehs s)[iv]? = some v) (rch : Nat → Int32) (ct present : Int32) (rows : List zQ) (RI : List Nat) (hp : ∀ (v2 : Int32) (h : zH) (top : Nat) (be : zB), z_St G s be h top → v2 = zm_wsF s v rows present 3 → Post (some (.int v2)) h top) (hX : z_ok X cX8_wouldSave 6 RX8 (some .int) "wouldSave" 12 G) (hq : z_mq X Post) : ∀ (k i : Nat) (h : zH) (top : Nat) (be : zB) (acc : Int32), 3 - i < k → i ≤ 3 → (z_DK G s rch ct be rows RI h top ∧ acc = zm_wsF s v rows present i) → z_Z X h top 67 [(5, .int (nI i)), (4, .int acc), (0, .ref (z_b G)), (1, .int (nI iv)), (2, .ref v.1), (3, .int present)] [] := by
  intro k
  induction k with
  | zero => intros; omega
  | succ k ih => intro i h top be acc hk hi hinv; exact f_ws_step s iv v hv rch ct present rows RI hp k i be acc hk hi hinv ih hX hq
set_option maxRecDepth 20000 in
set_option maxHeartbeats 4000000 in
theorem c_X8_wouldSave (l : Launch) (G : zG) (h : zH) (top : Nat) (s : zS) (be : zB) (H : z_St G s be h top) (iv : Nat) (v : zVeh) (hv : (s_vehs s)[iv]? = some v) : z_Ct l yX8_wouldSave cX8_wouldSave 6 (some .int) 12 G [.ref (z_b G), .int (nI iv)] h top (z_PQ G s (.int (zm_ws s v))) := by
  refine z_of (own := RX8) (nm := "wouldSave") (by decide) rfl rfl (by decide) (Nat.le_of_ble_eq_true rfl) (fun X hX hq => ?_)
  replace hX : z_ok X cX8_wouldSave 6 RX8 (some .int) "wouldSave" 12 G := hX
  show z_Z X h top 0 [(0, .ref (z_b G)), (1, .int (nI iv))] []
  have hha := H.hall
  have hbd := H.2.2.1.2.2
  have hl0 := H.l0
  have hl01 := hl0.1
  have hl1 := H.l1
  have hl11 := hl1.1
  have hl2 := H.l2
  have hl21 := hl2.1
  have hbk := H.bk
  have hvl : iv < (s_vehs s).length := (List.getElem?_eq_some_iff.mp hv).1
  have hvs := H.veh hv
  refine r_aload_n hX rfl 0 rfl dX8_wouldSave_0 ?_
  refine r_iload_n hX rfl 1 rfl dX8_wouldSave_1 ?_
  refine r_callVR (As := [.int (nI iv)]) (rest := []) (rv := some (.int 1)) (st1 := [.int 1]) hX cs_X8_126 (by decide) (fun l => c_X8_isVehicle l G h top s be H iv hvl) hha rfl rfl rfl rfl (Nat.le_of_ble_eq_true rfl) dX8_wouldSave_2 ?_
  refine r_callSR (As := [.int 1]) (rest := []) (rv := none) (st1 := []) hX cs_X8_58 (by decide) (fun l => c_X8_needIndex l G h top) rfl rfl rfl (Nat.le_of_ble_eq_true rfl) dX8_wouldSave_5 ?_
  refine r_aload_n hX rfl 0 rfl dX8_wouldSave_8 ?_
  refine r_getf hX fl_X8_16 hha rfl dX8_wouldSave_9 ?_
  refine r_iload_n hX rfl 1 rfl dX8_wouldSave_12 ?_
  refine r_callVR (As := [.int (nI iv)]) (rest := []) (rv := some (.ref v.1)) (st1 := [.ref v.1]) hX cs_X8_92 (by decide) (fun l => z_get hl1 hvl (z_mapget hv) l) hl11 rfl rfl rfl rfl (Nat.le_of_ble_eq_true rfl) dX8_wouldSave_13 ?_
  refine r_cast (ci := 8) hX rfl hvs cl_X8_121 dX8_wouldSave_16 ?_
  refine r_astore_n (lv' := [(2, .ref v.1), (0, .ref (z_b G)), (1, .int (nI iv))]) hX rfl (by decide) rfl dX8_wouldSave_19 ?_
  refine r_aload_n hX rfl 1 rfl dX8_wouldSave_20 ?_
  refine r_getf hX fl_X8_39 hha rfl dX8_wouldSave_21 ?_
  refine r_aload_n hX rfl 1 rfl dX8_wouldSave_24 ?_
  refine r_getf hX fl_X8_19 hha rfl dX8_wouldSave_25 ?_
  refine r_aload_n hX rfl 1 rfl dX8_wouldSave_28 ?_
  refine r_getf hX fl_X8_10 hha rfl dX8_wouldSave_29 ?_
  refine r_aload_n hX rfl 0 rfl dX8_wouldSave_32 ?_
  refine r_aload_n hX rfl 1 rfl dX8_wouldSave_33 ?_
  refine r_callVR (As := []) (rest := [.ref v.1, .ref (z_b G + 1), .ref (z_b G + 3), .ref (z_b G + 11)]) (rv := some (.int (s_now s / 1440))) (st1 := [.int (s_now s / 1440), .ref v.1, .ref (z_b G + 1), .ref (z_b G + 3), .ref (z_b G + 11)]) hX cs_X8_194 (by decide) (fun l => c_X8_today l G h top s be H) hha rfl rfl rfl rfl (Nat.le_of_ble_eq_true rfl) dX8_wouldSave_34 ?_
  refine r_callV (As := [.ref (z_b G + 3), .ref (z_b G + 1), .ref v.1, .int (s_now s / 1440)]) (rest := []) hX cs_X8_197 (by decide) (fun l => c_X0_gather l G h top s be v.1 (s_now s / 1440) H) hbk rfl rfl rfl (Nat.le_of_ble_eq_true rfl) dX8_wouldSave_37 (fun r1 h1 top1 hp1 => ?_)
  obtain ⟨rfl, be1, RI1, J1⟩ := hp1
  have hha1 := J1.1.hall
  have hbk1 := J1.1.bk
  have htf1 := J1.1.tfs
  have hlg1 := J1.1.lg
  have hl1_0 := J1.1.l0
  have hl1_01 := hl1_0.1
  have hl1_1 := J1.1.l1
  have hl1_11 := hl1_1.1
  have hl1_2 := J1.1.l2
  have hl1_21 := hl1_2.1
  have hvs1 := J1.1.veh hv
  refine r_aload_n hX rfl 1 rfl dX8_wouldSave_40 ?_
  refine r_getf hX fl_X8_39 hha1 rfl dX8_wouldSave_41 ?_
  refine r_aload_n hX rfl 0 rfl dX8_wouldSave_44 ?_
  refine r_aload_n hX rfl 0 rfl dX8_wouldSave_45 ?_
  refine r_getf hX fl_X8_201 hvs1 rfl dX8_wouldSave_46 ?_
  refine r_aload_n hX rfl 1 rfl dX8_wouldSave_49 ?_
  refine r_getf hX fl_X8_47 hha1 rfl dX8_wouldSave_50 ?_
  refine r_aload_n hX rfl 1 rfl dX8_wouldSave_53 ?_
  refine r_getf hX fl_X8_25 hha1 rfl dX8_wouldSave_54 ?_
  refine r_callV (As := [.ref v.1, .int v.2.1.1, .int (s_cap s), .ref (z_b G + 4)]) (rest := []) hX cs_X8_208 (by decide) (fun l => c_X0_charge l G h1 top1 s _ _ v iv hv v.2.1.1 (s_cap s) _ _ _ J1) hbk1 rfl rfl rfl (Nat.le_of_ble_eq_true rfl) dX8_wouldSave_57 (fun r2 h2 top2 hp2 => ?_)
  obtain ⟨rfl, rfl, be2, C2⟩ := hp2
  have hha2 := C2.1.1.hall
  have hbk2 := C2.1.1.bk
  have htf2 := C2.1.1.tfs
  have hlg2 := C2.1.1.lg
  have hl2_0 := C2.1.1.l0
  have hl2_01 := hl2_0.1
  have hl2_1 := C2.1.1.l1
  have hl2_11 := hl2_1.1
  have hl2_2 := C2.1.1.l2
  have hl2_21 := hl2_2.1
  have hvs2 := C2.1.1.veh hv
  refine r_istore_n (lv' := [(3, .int (zm_charge s v v.2.1.1 (s_cap s) (zm_day s v.1 (s_now s / 1440))).1), (2, .ref v.1), (0, .ref (z_b G)), (1, .int (nI iv))]) hX rfl (by decide) rfl dX8_wouldSave_60 ?_
  refine r_iconst (v := 0) hX (by decide) dX8_wouldSave_61 ?_
  refine r_istore (lv' := [(4, .int 0), (3, .int (zm_charge s v v.2.1.1 (s_cap s) (zm_day s v.1 (s_now s / 1440))).1), (2, .ref v.1), (0, .ref (z_b G)), (1, .int (nI iv))]) hX (by decide) rfl dX8_wouldSave_62 ?_
  refine r_iconst (v := 0) hX (by decide) dX8_wouldSave_64 ?_
  refine r_istore (lv' := [(5, .int 0), (4, .int 0), (3, .int (zm_charge s v v.2.1.1 (s_cap s) (zm_day s v.1 (s_now s / 1440))).1), (2, .ref v.1), (0, .ref (z_b G)), (1, .int (nI iv))]) hX (by decide) rfl dX8_wouldSave_65 ?_
  rw [← nI_0]
  refine r_lv [0, 1, 4, 5, 3, 2] (lv2 := [(5, .int (nI 0)), (4, .int (nI 0)), (0, .ref (z_b G)), (1, .int (nI iv)), (2, .ref v.1), (3, .int (zm_charge s v v.2.1.1 (s_cap s) (zm_day s v.1 (s_now s / 1440))).1)]) rfl ?_
  exact f_ws s iv v hv _ _ _ _ RI1 (fun v2 h9 t9 b9 H9 e => ⟨by rw [e]; rfl, b9, H9⟩) hX hq (3 + 1) 0 h2 top2 be2 (nI 0) (by omega) (by omega) ⟨C2.1, by rw [nI_0]; rfl⟩

