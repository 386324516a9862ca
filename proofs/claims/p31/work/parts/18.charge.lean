/-! charging -/
def zm_reason (ex : Bool) (doubt price left : Int32) : Int32 := if doubt = 0 then (if ex = true then 2 else (if price ≤ left then 0 else 4)) else 1
def zm_due (reason price left : Int32) : Int32 := if reason = 0 then price else if reason = 4 then left else 0
def zm_qprice (s : zS) (v : zVeh) (rank : Int32) (q : zQ) : Int32 := zm_price (s_tars s) (zm_sg (s_segs s) q.1).2.2.2.2 (zm_sg (s_segs s) q.1).2.2.2.1 rank v.2.1.2.1 q.2.1
def zm_qreason (s : zS) (v : zVeh) (rank left : Int32) (q : zQ) : Int32 := zm_reason (zf_hasBit v.2.2.2.1 (zm_sg (s_segs s) q.1).2.2.2.2) q.2.2.2 (zm_qprice s v rank q) left
def zm_qdue (s : zS) (v : zVeh) (rank left : Int32) (q : zQ) : Int32 := zm_due (zm_qreason s v rank left q) (zm_qprice s v rank q) left
def zm_chStep (s : zS) (v : zVeh) (rank cap : Int32) (acc : Int32 × List (Int32 × Int32)) (q : zQ) : Int32 × List (Int32 × Int32) := (acc.1 + zm_qdue s v rank (cap - acc.1) q, acc.2 ++ [(zm_qreason s v rank (cap - acc.1) q, zm_qdue s v rank (cap - acc.1) q)])
def zm_charge (s : zS) (v : zVeh) (rank cap : Int32) (rows : List zQ) : Int32 × List (Int32 × Int32) := rows.foldl (zm_chStep s v rank cap) (0, [])
theorem zm_nd {l : List Nat} (h : l.Nodup) {i j x : Nat} (hi : l[i]? = some x) (hj : l[j]? = some x) : i = j := by
  obtain ⟨i1, i2⟩ := List.getElem?_eq_some_iff.mp hi
  obtain ⟨j1, j2⟩ := List.getElem?_eq_some_iff.mp hj
  have hp := List.pairwise_iff_getElem.mp h
  rcases Nat.lt_trichotomy i j with w | w | w
  · exact absurd (i2.trans j2.symm) (hp i j i1 j1 w)
  · exact w
  · exact absurd (j2.trans i2.symm) (hp j i j1 i1 w)
theorem z_Ct_as {l : Launch} {y : MethodName} {cc : ByteArray} {n : Nat} {r : Option FieldType} {d : Nat} {G : zG} {As As2 : List Value} {h : zH} {top : Nat} {P : Option Value → zH → Nat → Prop} (e : As = As2) (H : z_Ct l y cc n r d G As h top P) : z_Ct l y cc n r d G As2 h top P := e ▸ H
/-- reasons and dues stand in the rows -/
def z_CH (be : zB) (RI : List Nat) (vals : List (Int32 × Int32)) : Prop := ∀ (n k : Nat) (v : Int32 × Int32), RI[n]? = some k → vals[n]? = some v → ∃ p : zPas, (b_pool be)[k]? = some p ∧ p.2.2.2.2.2 = v
def z_DC (G : zG) (s : zS) (rch : Nat → Int32) (ct : Int32) (be : zB) (rows : List zQ) (RI : List Nat) (vals : List (Int32 × Int32)) (h : zH) (top : Nat) : Prop := z_DK G s rch ct be rows RI h top ∧ z_CH be RI vals
theorem z_DK.at {G : zG} {s : zS} {rch : Nat → Int32} {ct : Int32} {be : zB} {rows : List zQ} {RI : List Nat} {h : zH} {top : Nat} (J : z_DK G s rch ct be rows RI h top) {n : Nat} {q : zQ} (hq : rows[n]? = some q) : ∃ (k : Nat) (p : zPas), RI[n]? = some k ∧ (b_pool be)[k]? = some p ∧ zm_q p = q ∧ (b_rw be)[n]? = some p.1 := by
  obtain ⟨H, ⟨pu, h1, h2, h3, h4⟩, _⟩ := J
  have hn : n < RI.length := by rw [h1]; exact (List.getElem?_eq_some_iff.mp hq).1
  have e := List.getElem?_eq_getElem hn
  obtain ⟨_, p, g1, g2, g3⟩ := h4 n _ e
  rw [hq] at g2
  exact ⟨_, p, e, g1, (Option.some.inj g2).symm, g3⟩
theorem z_DK.len {G : zG} {s : zS} {rch : Nat → Int32} {ct : Int32} {be : zB} {rows : List zQ} {RI : List Nat} {h : zH} {top : Nat} (J : z_DK G s rch ct be rows RI h top) : (b_rw be).length = rows.length ∧ rows.length ≤ 225 := by
  obtain ⟨H, ⟨pu, h1, h2, h3, h4⟩, _⟩ := J
  have := H.l6.2.1
  have := H.l6.2.2.1
  exact ⟨h2, by omega⟩
/-- one row is charged -/
theorem z_DC.set {G : zG} {s : zS} {rch : Nat → Int32} {ct : Int32} {be : zB} {rows : List zQ} {RI : List Nat} {vals : List (Int32 × Int32)} {h : zH} {top : Nat} (J : z_DC G s rch ct be rows RI vals h top) {k : Nat} {p : zPas} (hk : RI[vals.length]? = some k) (hp : (b_pool be)[k]? = some p) (r d : Int32) : z_DC G s rch ct (z_setPool be ((b_pool be).set k (p.1, p.2.1, p.2.2.1, p.2.2.2.1, p.2.2.2.2.1, r, d))) rows RI (vals ++ [(r, d)]) (va_up h p.1 (.inr (3, [.ref p.2.1, .int p.2.2.1, .int p.2.2.2.1, .int p.2.2.2.2.1, .int r, .int d]))) top := by
  obtain ⟨⟨H, ⟨pu, h1, h2, h3, h4⟩, h5, h6⟩, hC⟩ := J
  have hkl : k < (b_pool be).length := (List.getElem?_eq_some_iff.mp hp).1
  refine ⟨⟨H.setPas (p2 := (p.1, p.2.1, p.2.2.1, p.2.2.2.1, p.2.2.2.2.1, r, d)) hp rfl (H.2.2.2.1.2 p (List.mem_of_getElem? hp)), ⟨pu, h1, h2, h3, fun n m hm => ?_⟩, h5, h6⟩, fun n m v hm hv => ?_⟩
  · obtain ⟨g1, p9, g2, g3, g4⟩ := h4 n m hm
    refine ⟨g1, ?_⟩
    by_cases e : k = m
    · subst e
      rw [hp] at g2
      cases g2
      exact ⟨_, List.getElem?_set_self hkl, g3, g4⟩
    · exact ⟨p9, by show ((b_pool be).set k _)[m]? = _; rw [List.getElem?_set_ne e]; exact g2, g3, g4⟩
  · rcases Nat.lt_or_ge n vals.length with w | w
    · rw [List.getElem?_append_left w] at hv
      obtain ⟨p9, g1, g2⟩ := hC n m v hm hv
      refine ⟨p9, ?_, g2⟩
      show ((b_pool be).set k _)[m]? = _
      rw [List.getElem?_set_ne ?_]
      · exact g1
      · intro e
        subst e
        have hn : n < RI.length := (List.getElem?_eq_some_iff.mp hm).1
        have := zm_nd h3 hm hk
        omega
    · rw [List.getElem?_append_right w] at hv
      have h0 : n - vals.length = 0 := by
        have := (List.getElem?_eq_some_iff.mp hv).1
        simp only [List.length_singleton] at this
        omega
      rw [h0] at hv
      cases hv
      have e : n = vals.length := by omega
      subst e
      rw [hk] at hm
      cases hm
      exact ⟨_, List.getElem?_set_self hkl, rfl⟩
set_option maxRecDepth 20000 in
set_option maxHeartbeats 4000000 in
theorem c_X0_dueFor (l : Launch) (G : zG) (h : zH) (top : Nat) (r price left : Int32) : z_Ct l yX0_dueFor cX0_dueFor 3 (some .int) 1 G [.int r, .int price, .int left] h top (z_R (some (.int (zm_due r price left))) h top) := by
  refine z_of (own := RX0) (nm := "dueFor") (by decide) rfl rfl (by decide) (Nat.le_of_ble_eq_true rfl) (fun X hX hq => ?_)
  replace hX : z_ok X cX0_dueFor 3 RX0 (some .int) "dueFor" 1 G := hX
  show z_Z X h top 0 [(0, .int r), (1, .int price), (2, .int left)] []
  refine r_iload_n hX rfl 0 rfl dX0_dueFor_0 ?_
  refine r_if_ne (tgt := 6) hX dX0_dueFor_1 rfl (fun c1 => ?_) (fun c1 => ?_)
  · skip
    refine r_iload_n hX rfl 0 rfl dX0_dueFor_6 ?_
    refine r_iconst (v := 4) hX (by decide) dX0_dueFor_7 ?_
    refine r_icmp_ne (tgt := 15) hX dX0_dueFor_8 rfl (fun c8 => ?_) (fun c8 => ?_)
    · skip
      refine r_iconst (v := 0) hX (by decide) dX0_dueFor_15 ?_
      exact r_iret hX hq ⟨by simp [zm_due, c1, c8], rfl, rfl⟩ dX0_dueFor_16
    · skip
      refine r_iload_n hX rfl 2 rfl dX0_dueFor_11 ?_
      refine r_goto (tgt := 16) hX rfl dX0_dueFor_12 ?_
      exact r_iret hX hq ⟨by simp [zm_due, c1, c8], rfl, rfl⟩ dX0_dueFor_16
  · skip
    refine r_iload_n hX rfl 1 rfl dX0_dueFor_4 ?_
    exact r_iret hX hq ⟨by rw [zm_due, if_pos (by first | exact c1 | exact Decidable.not_not.mp c1)], rfl, rfl⟩ dX0_dueFor_5

set_option maxRecDepth 20000 in
set_option maxHeartbeats 4000000 in
theorem c_X0_reasonOf (l : Launch) (G : zG) (h : zH) (top : Nat) (p : zPas) (hp : z_at G h top p.1 (z_pasC p)) (v : zVeh) (iv : Nat) (hv : z_at G h top v.1 (z_vehC iv v)) (x : zSeg) (ix : Nat) (hx : z_at G h top x.1 (z_segC ix x)) (e : x.1 = p.2.1) (price left : Int32) : z_Ct l yX0_reasonOf cX0_reasonOf 4 (some .int) 3 G [.ref p.1, .ref v.1, .int price, .int left] h top (z_R (some (.int (zm_reason (zf_hasBit v.2.2.2.1 x.2.2.2.2) p.2.2.2.2.1 price left))) h top) := by
  refine z_of (own := RX0) (nm := "reasonOf") (by decide) rfl rfl (by decide) (Nat.le_of_ble_eq_true rfl) (fun X hX hq => ?_)
  replace hX : z_ok X cX0_reasonOf 4 RX0 (some .int) "reasonOf" 3 G := hX
  show z_Z X h top 0 [(0, .ref p.1), (1, .ref v.1), (2, .int price), (3, .int left)] []
  have hx2 := hx
  rw [e] at hx2
  refine r_aload_n hX rfl 0 rfl dX0_reasonOf_0 ?_
  refine r_getf hX fl_X0_109 hp rfl dX0_reasonOf_1 ?_
  refine r_if_eq (tgt := 9) hX dX0_reasonOf_4 rfl (fun c4 => ?_) (fun c4 => ?_)
  · skip
    refine r_aload_n hX rfl 1 rfl dX0_reasonOf_9 ?_
    refine r_aload_n hX rfl 0 rfl dX0_reasonOf_10 ?_
    refine r_getf hX fl_X0_102 hp rfl dX0_reasonOf_11 ?_
    refine r_getf hX fl_X0_154 hx2 rfl dX0_reasonOf_14 ?_
    refine r_callVR (As := [.int x.2.2.2.2]) (rest := []) (rv := some (.int (zf_b (zf_hasBit v.2.2.2.1 x.2.2.2.2)))) (st1 := [.int (zf_b (zf_hasBit v.2.2.2.1 x.2.2.2.2))]) hX cs_X0_157 (by decide) (fun l => c_X7_isExempt l G h top v iv hv x.2.2.2.2) hv rfl rfl rfl rfl (Nat.le_of_ble_eq_true rfl) dX0_reasonOf_17 ?_
    refine r_if_eq (tgt := 25) hX dX0_reasonOf_20 rfl (fun c20 => ?_) (fun c20 => ?_)
    · skip
      refine r_aload_n hX rfl 0 rfl dX0_reasonOf_25 ?_
      refine r_getf hX fl_X0_102 hp rfl dX0_reasonOf_26 ?_
      refine r_aload_n hX rfl 0 rfl dX0_reasonOf_29 ?_
      refine r_getf hX fl_X0_88 hp rfl dX0_reasonOf_30 ?_
      refine r_callVR (As := [.int p.2.2.1]) (rest := []) (rv := some (.int 0)) (st1 := [.int 0]) hX cs_X0_161 (by decide) (fun l => z_Ct_as (by rw [e]) (c_X3_isShut l G h top x ix hx p.2.2.1)) hx2 rfl rfl rfl rfl (Nat.le_of_ble_eq_true rfl) dX0_reasonOf_33 ?_
      refine r_if_eq (tgt := 41) hX dX0_reasonOf_36 rfl (fun _ => ?_) (fun c => False.elim (absurd c (by decide)))
      refine r_iload_n hX rfl 2 rfl dX0_reasonOf_41 ?_
      refine r_iload_n hX rfl 3 rfl dX0_reasonOf_42 ?_
      refine r_icmp_le (tgt := 50) hX dX0_reasonOf_43 rfl (fun c43 => ?_) (fun c43 => ?_)
      · skip
        refine r_iconst (v := 0) hX (by decide) dX0_reasonOf_50 ?_
        exact r_iret hX hq ⟨by rw [zm_reason, if_pos c4, if_neg (by rw [zf_b_e c20]; decide), if_pos c43], rfl, rfl⟩ dX0_reasonOf_51
      · skip
        refine r_iconst (v := 4) hX (by decide) dX0_reasonOf_46 ?_
        refine r_goto (tgt := 51) hX rfl dX0_reasonOf_47 ?_
        exact r_iret hX hq ⟨by rw [zm_reason, if_pos c4, if_neg (by rw [zf_b_e c20]; decide), if_neg c43], rfl, rfl⟩ dX0_reasonOf_51
    · skip
      refine r_iconst (v := 2) hX (by decide) dX0_reasonOf_23 ?_
      exact r_iret hX hq ⟨by rw [zm_reason, if_pos c4, if_pos (zf_b_ne c20)], rfl, rfl⟩ dX0_reasonOf_24
  · skip
    refine r_iconst (v := 1) hX (by decide) dX0_reasonOf_7 ?_
    exact r_iret hX hq ⟨by rw [zm_reason, if_neg c4], rfl, rfl⟩ dX0_reasonOf_8

set_option maxRecDepth 20000 in
set_option maxHeartbeats 4000000 in
theorem c_X0_size (l : Launch) (G : zG) (h : zH) (top : Nat) (s : zS) (be : zB) (H : z_St G s be h top) : z_Ct l yX0_size cX0_size 1 (some .int) 2 G [.ref (z_b G + 11)] h top (z_R (some (.int (nI (b_rw be).length))) h top) := by
  refine z_of (own := RX0) (nm := "size") (by decide) rfl rfl (by decide) (Nat.le_of_ble_eq_true rfl) (fun X hX hq => ?_)
  replace hX : z_ok X cX0_size 1 RX0 (some .int) "size" 2 G := hX
  show z_Z X h top 0 [(0, .ref (z_b G + 11))] []
  have hbk := H.bk
  have hl6 := H.l6
  have hl61 := hl6.1
  refine r_aload_n hX rfl 0 rfl dX0_size_0 ?_
  refine r_getf hX fl_X0_21 hbk rfl dX0_size_1 ?_
  refine r_callVR (As := []) (rest := []) (rv := some (.int (nI (b_rw be).length))) (st1 := [.int (nI (b_rw be).length)]) hX cs_X0_27 (by decide) (fun l => z_size hl6 l) hl61 rfl rfl rfl rfl (Nat.le_of_ble_eq_true rfl) dX0_size_4 ?_
  exact r_iret hX hq ⟨rfl, rfl, rfl⟩ dX0_size_7

set_option maxRecDepth 20000 in
set_option maxHeartbeats 4000000 in
theorem f_chS {X : zX} {G : zG} {h : zH} {top : Nat} {Post : Option Value → zH → Nat → Prop} (s : zS) (rch : Nat → Int32) (ct : Int32) (v : zVeh) (iv : Nat) (hviv : (s_vehs s)[iv]? = some v) (rank cap : Int32) (rows : List zQ) (RI : List Nat) (be : zB) (i k : Nat) (vals : Int32 × List (Int32 × Int32)) (p : zPas) (J : z_DC G s rch ct be rows RI vals.2 h top) (hqi : rows[i]? = some (zm_q p)) (hRI : RI[i]? = some k) (hp1 : (b_pool be)[k]? = some p) (hrw : (b_rw be)[i]? = some p.1) (hvl : vals.2.length = i) (ih : ∀ (h : zH) (be : zB), z_DC G s rch ct be rows RI (vals.2 ++ [((zm_qreason s v rank (cap - vals.1) (zm_q p)), (zm_qdue s v rank (cap - vals.1) (zm_q p)))]) h top → z_Z X h top 6 [(6, .int (nI (i + 1))), (5, .int (vals.1 + (zm_qdue s v rank (cap - vals.1) (zm_q p)))), (0, .ref (z_b G + 11)), (1, .ref v.1), (2, .int rank), (3, .int cap), (4, .ref (z_b G + 4))] []) (hX : z_ok X cX0_charge 9 RX0 (some .int) "charge" 6 G) (hq : z_mq X (Post)) : z_Z X h top 6 [(6, .int (nI i)), (5, .int vals.1), (0, .ref (z_b G + 11)), (1, .ref v.1), (2, .int rank), (3, .int cap), (4, .ref (z_b G + 4))] [] := by
  have H := J.1.1
  have hbk := H.bk
  have hl6 := H.l6
  rw [J.1.len.1] at hl6
  have hl61 := hl6.1
  have htf := H.tfs
  have hv := H.veh hviv
  have h225 := J.1.len.2
  have hlt : i < rows.length := (List.getElem?_eq_some_iff.mp hqi).1
  have hps := H.pas hp1
  obtain ⟨hx1, hx2⟩ := zm_sg_at (H.2.2.2.1.2 p (List.mem_of_getElem? hp1))
  have hxs := H.seg hx1
  refine r_iload hX 0 rfl dX0_charge_6 ?_
  refine r_aload_n hX rfl 2 rfl dX0_charge_8 ?_
  refine r_getf hX fl_X0_21 hbk rfl dX0_charge_9 ?_
  refine r_callVR (As := []) (rest := [.int (nI i)]) (rv := some (.int (nI rows.length))) (st1 := [.int (nI rows.length), .int (nI i)]) hX cs_X0_27 (by decide) (fun l => z_size hl6 l) hl61 rfl rfl rfl rfl (Nat.le_of_ble_eq_true rfl) dX0_charge_12 ?_
  refine r_icmp_ge (tgt := 106) hX dX0_charge_15 rfl (fun c => False.elim (absurd c (nI_ge hlt (by omega)))) (fun _ => ?_)
  refine r_aload_n hX rfl 2 rfl dX0_charge_18 ?_
  refine r_getf hX fl_X0_21 hbk rfl dX0_charge_19 ?_
  refine r_iload hX 0 rfl dX0_charge_22 ?_
  refine r_callVR (As := [.int (nI i)]) (rest := []) (rv := some (.ref p.1)) (st1 := [.ref p.1]) hX cs_X0_55 (by decide) (fun l => z_get hl6 hlt hrw l) hl61 rfl rfl rfl rfl (Nat.le_of_ble_eq_true rfl) dX0_charge_24 ?_
  refine r_cast (ci := 3) hX rfl hps cl_X0_89 dX0_charge_27 ?_
  refine r_astore (lv' := [(7, .ref p.1), (6, .int (nI i)), (5, .int vals.1), (0, .ref (z_b G + 11)), (1, .ref v.1), (2, .int rank), (3, .int cap), (4, .ref (z_b G + 4))]) hX (by decide) rfl dX0_charge_30 ?_
  refine r_aload hX 7 rfl dX0_charge_32 ?_
  refine r_aload hX 0 rfl dX0_charge_34 ?_
  refine r_getf hX fl_X0_102 hps rfl dX0_charge_36 ?_
  refine r_iload_n hX rfl 5 rfl dX0_charge_39 ?_
  refine r_aload_n hX rfl 4 rfl dX0_charge_40 ?_
  refine r_getf hX fl_X0_129 hv rfl dX0_charge_41 ?_
  refine r_aload hX 0 rfl dX0_charge_44 ?_
  refine r_getf hX fl_X0_88 hps rfl dX0_charge_46 ?_
  refine r_callVR (As := [.ref p.2.1, .int rank, .int v.2.1.2.1, .int p.2.2.1]) (rest := []) (rv := some (.int (zm_qprice s v rank (zm_q p)))) (st1 := [.int (zm_qprice s v rank (zm_q p))]) hX cs_X0_134 (by decide) (fun l => z_Ct_as (by rw [hx2]) (c_price l G h top (z_b G + 4) (z_b G + 5) (z_b G + 6) (s_tars s) (b_ls be 3).1 (b_ls be 3).2.1 (b_ls be 3).2.2 H.tfs H.l3 (fun i t ht => H.tar ht) H.hol (zm_sg (s_segs s) p.2.1) _ hxs rank v.2.1.2.1 p.2.2.1)) htf rfl rfl rfl rfl (Nat.le_of_ble_eq_true rfl) dX0_charge_49 ?_
  refine r_istore (lv' := [(8, .int (zm_qprice s v rank (zm_q p))), (7, .ref p.1), (6, .int (nI i)), (5, .int vals.1), (0, .ref (z_b G + 11)), (1, .ref v.1), (2, .int rank), (3, .int cap), (4, .ref (z_b G + 4))]) hX (by decide) rfl dX0_charge_52 ?_
  refine r_aload hX 1 rfl dX0_charge_54 ?_
  refine r_aload hX 1 rfl dX0_charge_56 ?_
  refine r_aload_n hX rfl 5 rfl dX0_charge_58 ?_
  refine r_iload hX 0 rfl dX0_charge_59 ?_
  refine r_iload_n hX rfl 7 rfl dX0_charge_61 ?_
  refine r_iload hX 3 rfl dX0_charge_62 ?_
  refine r_isub hX dX0_charge_64 ?_
  refine r_callSR (As := [.ref p.1, .ref v.1, .int (zm_qprice s v rank (zm_q p)), .int (cap - vals.1)]) (rest := [.ref p.1]) (rv := some (.int (zm_qreason s v rank (cap - vals.1) (zm_q p)))) (st1 := [.int (zm_qreason s v rank (cap - vals.1) (zm_q p)), .ref p.1]) hX cs_X0_140 (by decide) (fun l => c_X0_reasonOf l G h top p hps v iv (H.veh hviv) (zm_sg (s_segs s) p.2.1) _ hxs hx2 (zm_qprice s v rank (zm_q p)) (cap - vals.1)) rfl rfl rfl (Nat.le_of_ble_eq_true rfl) dX0_charge_65 ?_
  refine r_put (fs2 := [.ref p.2.1, .int p.2.2.1, .int p.2.2.2.1, .int p.2.2.2.2.1, .int (zm_qreason s v rank (cap - vals.1) (zm_q p)), .int p.2.2.2.2.2.2]) hX fp_X0_144 hps rfl rfl (Nat.le_of_ble_eq_true rfl) rfl dX0_charge_68 ?_
  replace hbk := hbk.up (e3 := (.inr (3, [.ref p.2.1, .int p.2.2.1, .int p.2.2.2.1, .int p.2.2.2.2.1, .int (zm_qreason s v rank (cap - vals.1) (zm_q p)), .int p.2.2.2.2.2.2]))) hps (by intro z; cases z)
  replace hl61 := hl61.up (e3 := (.inr (3, [.ref p.2.1, .int p.2.2.1, .int p.2.2.2.1, .int p.2.2.2.2.1, .int (zm_qreason s v rank (cap - vals.1) (zm_q p)), .int p.2.2.2.2.2.2]))) hps (by intro z; cases z)
  replace htf := htf.up (e3 := (.inr (3, [.ref p.2.1, .int p.2.2.1, .int p.2.2.2.1, .int p.2.2.2.2.1, .int (zm_qreason s v rank (cap - vals.1) (zm_q p)), .int p.2.2.2.2.2.2]))) hps (by intro z; cases z)
  replace hv := hv.up (e3 := (.inr (3, [.ref p.2.1, .int p.2.2.1, .int p.2.2.2.1, .int p.2.2.2.2.1, .int (zm_qreason s v rank (cap - vals.1) (zm_q p)), .int p.2.2.2.2.2.2]))) hps (by intro z; cases z)
  replace hps : z_at G (va_up h p.1 (.inr (3, [.ref p.2.1, .int p.2.2.1, .int p.2.2.2.1, .int p.2.2.2.2.1, .int (zm_qreason s v rank (cap - vals.1) (zm_q p)), .int p.2.2.2.2.2.2]))) top p.1 (.inr (3, [.ref p.2.1, .int p.2.2.1, .int p.2.2.2.1, .int p.2.2.2.2.1, .int (zm_qreason s v rank (cap - vals.1) (zm_q p)), .int p.2.2.2.2.2.2])) := z_at.self hps
  refine r_aload hX 1 rfl dX0_charge_71 ?_
  refine r_aload hX 1 rfl dX0_charge_73 ?_
  refine r_getf hX fl_X0_144 hps rfl dX0_charge_75 ?_
  refine r_iload hX 0 rfl dX0_charge_78 ?_
  refine r_iload_n hX rfl 7 rfl dX0_charge_80 ?_
  refine r_iload hX 3 rfl dX0_charge_81 ?_
  refine r_isub hX dX0_charge_83 ?_
  refine r_callSR (As := [.int (zm_qreason s v rank (cap - vals.1) (zm_q p)), .int (zm_qprice s v rank (zm_q p)), .int (cap - vals.1)]) (rest := [.ref p.1]) (rv := some (.int (zm_qdue s v rank (cap - vals.1) (zm_q p)))) (st1 := [.int (zm_qdue s v rank (cap - vals.1) (zm_q p)), .ref p.1]) hX cs_X0_147 (by decide) (fun l => c_X0_dueFor l G (va_up h p.1 (.inr (3, [.ref p.2.1, .int p.2.2.1, .int p.2.2.2.1, .int p.2.2.2.2.1, .int (zm_qreason s v rank (cap - vals.1) (zm_q p)), .int p.2.2.2.2.2.2]))) top (zm_qreason s v rank (cap - vals.1) (zm_q p)) (zm_qprice s v rank (zm_q p)) (cap - vals.1)) rfl rfl rfl (Nat.le_of_ble_eq_true rfl) dX0_charge_84 ?_
  refine r_putU (fs2 := [.ref p.2.1, .int p.2.2.1, .int p.2.2.2.1, .int p.2.2.2.2.1, .int (zm_qreason s v rank (cap - vals.1) (zm_q p)), .int (zm_qdue s v rank (cap - vals.1) (zm_q p))]) hX fp_X0_151 hps rfl rfl (Nat.le_of_ble_eq_true rfl) rfl dX0_charge_87 ?_
  replace hps : z_at G (va_up h p.1 (.inr (3, [.ref p.2.1, .int p.2.2.1, .int p.2.2.2.1, .int p.2.2.2.2.1, .int (zm_qreason s v rank (cap - vals.1) (zm_q p)), .int (zm_qdue s v rank (cap - vals.1) (zm_q p))]))) top p.1 (.inr (3, [.ref p.2.1, .int p.2.2.1, .int p.2.2.2.1, .int p.2.2.2.2.1, .int (zm_qreason s v rank (cap - vals.1) (zm_q p)), .int (zm_qdue s v rank (cap - vals.1) (zm_q p))])) := z_at.uu hps
  refine r_iload hX 3 rfl dX0_charge_90 ?_
  refine r_aload hX 1 rfl dX0_charge_92 ?_
  refine r_getf hX fl_X0_151 hps rfl dX0_charge_94 ?_
  refine r_iadd hX dX0_charge_97 ?_
  refine r_istore (lv' := [(5, .int (vals.1 + (zm_qdue s v rank (cap - vals.1) (zm_q p)))), (8, .int (zm_qprice s v rank (zm_q p))), (7, .ref p.1), (6, .int (nI i)), (0, .ref (z_b G + 11)), (1, .ref v.1), (2, .int rank), (3, .int cap), (4, .ref (z_b G + 4))]) hX (by decide) rfl dX0_charge_98 ?_
  refine r_iinc (q := 3) (lv' := [(6, .int ((nI i) + 1)), (5, .int (vals.1 + (zm_qdue s v rank (cap - vals.1) (zm_q p)))), (8, .int (zm_qprice s v rank (zm_q p))), (7, .ref p.1), (0, .ref (z_b G + 11)), (1, .ref v.1), (2, .int rank), (3, .int cap), (4, .ref (z_b G + 4))]) hX rfl rfl (by decide) rfl dX0_charge_100 ?_
  refine r_goto (tgt := 6) hX rfl dX0_charge_103 ?_
  refine r_lv [0, 1, 4, 5, 6, 7, 8] (lv2 := [(6, .int (nI i + 1)), (5, .int (vals.1 + (zm_qdue s v rank (cap - vals.1) (zm_q p)))), (0, .ref (z_b G + 11)), (1, .ref v.1), (2, .int rank), (3, .int cap), (4, .ref (z_b G + 4))]) rfl ?_
  rw [nI_1]
  exact ih _ _ (J.set (by rw [hvl]; exact hRI) hp1 (zm_qreason s v rank (cap - vals.1) (zm_q p)) (zm_qdue s v rank (cap - vals.1) (zm_q p)))

set_option maxRecDepth 20000 in
set_option maxHeartbeats 4000000 in
theorem f_chE {X : zX} {G : zG} {h : zH} {top : Nat} {Post : Option Value → zH → Nat → Prop} (s : zS) (rch : Nat → Int32) (ct : Int32) (v : zVeh) (iv : Nat) (hviv : (s_vehs s)[iv]? = some v) (rank cap : Int32) (rows : List zQ) (RI : List Nat) (be : zB) (i : Nat) (vals : Int32 × List (Int32 × Int32)) (J : z_DC G s rch ct be rows RI vals.2 h top) (hge : rows.length ≤ i) (hi : i ≤ 225) (hp : Post (some (.int vals.1)) h top) (hX : z_ok X cX0_charge 9 RX0 (some .int) "charge" 6 G) (hq : z_mq X (Post)) : z_Z X h top 6 [(6, .int (nI i)), (5, .int vals.1), (0, .ref (z_b G + 11)), (1, .ref v.1), (2, .int rank), (3, .int cap), (4, .ref (z_b G + 4))] [] := by
  have H := J.1.1
  have hbk := H.bk
  have hl6 := H.l6
  rw [J.1.len.1] at hl6
  have hl61 := hl6.1
  have htf := H.tfs
  have hv := H.veh hviv
  have h225 := J.1.len.2
  refine r_iload hX 0 rfl dX0_charge_6 ?_
  refine r_aload_n hX rfl 2 rfl dX0_charge_8 ?_
  refine r_getf hX fl_X0_21 hbk rfl dX0_charge_9 ?_
  refine r_callVR (As := []) (rest := [.int (nI i)]) (rv := some (.int (nI rows.length))) (st1 := [.int (nI rows.length), .int (nI i)]) hX cs_X0_27 (by decide) (fun l => z_size hl6 l) hl61 rfl rfl rfl rfl (Nat.le_of_ble_eq_true rfl) dX0_charge_12 ?_
  refine r_icmp_ge (tgt := 106) hX dX0_charge_15 rfl (fun _ => ?_) (fun c => False.elim (c (nI_le hge (by omega))))
  refine r_iload hX 1 rfl dX0_charge_106 ?_
  exact r_iret hX hq hp dX0_charge_108

theorem f_charge {X : zX} {G : zG} {Post : Option Value → zH → Nat → Prop} (s : zS) (rch : Nat → Int32) (ct : Int32) (v : zVeh) (iv : Nat) (hviv : (s_vehs s)[iv]? = some v) (rank cap : Int32) (rows : List zQ) (RI : List Nat) (top : Nat) (hp : ∀ (h : zH) (be : zB), z_DC G s rch ct be rows RI (zm_charge s v rank cap rows).2 h top → Post (some (.int (zm_charge s v rank cap rows).1)) h top) (hX : z_ok X cX0_charge 9 RX0 (some .int) "charge" 6 G) (hq : z_mq X Post) : ∀ (k i : Nat) (h : zH) (be : zB) (vals : Int32 × List (Int32 × Int32)), rows.length - i < k → i ≤ rows.length → z_DC G s rch ct be rows RI vals.2 h top → vals = (rows.take i).foldl (zm_chStep s v rank cap) (0, []) → vals.2.length = i → z_Z X h top 6 [(6, .int (nI i)), (5, .int vals.1), (0, .ref (z_b G + 11)), (1, .ref v.1), (2, .int rank), (3, .int cap), (4, .ref (z_b G + 4))] [] := by
  intro k
  induction k with
  | zero => intros; omega
  | succ k ih =>
    intro i h be vals hk hi J hv hvl
    have h225 := J.1.len.2
    rcases Nat.lt_or_ge i rows.length with hlt | hge
    · have hqi := List.getElem?_eq_getElem hlt
      obtain ⟨k9, p, hRI, hp1, hp2, hrw⟩ := J.1.at hqi
      rw [← hp2] at hqi
      refine f_chS s rch ct v iv hviv rank cap rows RI be i k9 vals p J hqi hRI hp1 hrw hvl (fun h9 b9 J9 => ?_) hX hq
      exact ih (i + 1) h9 b9 (zm_chStep s v rank cap vals (zm_q p)) (by omega) (by omega) J9 (by rw [zm_take _ _ _ hqi, ← hv]) (by show (vals.2 ++ [_]).length = _; rw [List.length_append, hvl]; rfl)
    · rw [List.take_of_length_le hge] at hv
      refine f_chE s rch ct v iv hviv rank cap rows RI be i vals J hge (by omega) ?_ hX hq
      have := hp h be (by rw [hv] at J; exact J)
      rw [hv]
      exact this
set_option maxRecDepth 20000 in
set_option maxHeartbeats 4000000 in
theorem c_X0_charge (l : Launch) (G : zG) (h : zH) (top : Nat) (s : zS) (rch : Nat → Int32) (ct : Int32) (v : zVeh) (iv : Nat) (hviv : (s_vehs s)[iv]? = some v) (rank cap : Int32) (rows : List zQ) (RI : List Nat) (be : zB) (J : z_DK G s rch ct be rows RI h top) : z_Ct l yX0_charge cX0_charge 9 (some .int) 6 G [.ref (z_b G + 11), .ref v.1, .int rank, .int cap, .ref (z_b G + 4)] h top (fun r h' top' => r = some (.int (zm_charge s v rank cap rows).1) ∧ top' = top ∧ ∃ be2, z_DC G s rch ct be2 rows RI (zm_charge s v rank cap rows).2 h' top') := by
  refine z_of (own := RX0) (nm := "charge") (by decide) rfl rfl (by decide) (Nat.le_of_ble_eq_true rfl) (fun X hX hq => ?_)
  replace hX : z_ok X cX0_charge 9 RX0 (some .int) "charge" 6 G := hX
  show z_Z X h top 0 [(0, .ref (z_b G + 11)), (1, .ref v.1), (2, .int rank), (3, .int cap), (4, .ref (z_b G + 4))] []
  refine r_iconst (v := 0) hX (by decide) dX0_charge_0 ?_
  refine r_istore (lv' := [(5, .int 0), (0, .ref (z_b G + 11)), (1, .ref v.1), (2, .int rank), (3, .int cap), (4, .ref (z_b G + 4))]) hX (by decide) rfl dX0_charge_1 ?_
  refine r_iconst (v := 0) hX (by decide) dX0_charge_3 ?_
  refine r_istore (lv' := [(6, .int 0), (5, .int 0), (0, .ref (z_b G + 11)), (1, .ref v.1), (2, .int rank), (3, .int cap), (4, .ref (z_b G + 4))]) hX (by decide) rfl dX0_charge_4 ?_
  rw [← nI_0]
  refine r_lv [0, 1, 2, 3, 4, 5, 6] (lv2 := [(6, .int (nI 0)), (5, .int (nI 0)), (0, .ref (z_b G + 11)), (1, .ref v.1), (2, .int rank), (3, .int cap), (4, .ref (z_b G + 4))]) rfl ?_
  exact f_charge s rch ct v iv hviv rank cap rows RI top (fun h9 b9 J9 => ⟨rfl, rfl, b9, J9⟩) hX hq (rows.length + 1) 0 h be (nI 0, []) (by omega) (by omega) ⟨J, fun n k v _ e => by cases e⟩ (by rw [nI_0]; rfl) rfl

