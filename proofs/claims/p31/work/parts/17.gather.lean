/-! gathering -/
def zm_sureStep (segs : List zSeg) (acc : Option zQ × List zQ) (q : zQ) : Option zQ × List zQ :=
  if q.2.2.2 = 0 then (some q, acc.2 ++ (match acc.1 with | none => [] | some a => (zm_inf segs a q).toList) ++ [q]) else acc
def zm_sure (segs : List zSeg) (Q : List zQ) : Option zQ × List zQ := Q.foldl (zm_sureStep segs) (none, [])
def zm_dbt (Q : List zQ) : List zQ := Q.filter (fun q => !decide (q.2.2.2 = 0))
def zm_gath (segs : List zSeg) (Q : List zQ) : List zQ := (zm_sure segs Q).2 ++ zm_dbt Q
/-- the rows stand in the pool, each at a place of its own, and say what is wanted -/
def z_RW (be : zB) (pu : Nat) (rows : List zQ) (RI : List Nat) : Prop := RI.length = rows.length ∧ (b_rw be).length = rows.length ∧ RI.Nodup ∧ ∀ (n k : Nat), RI[n]? = some k → k < pu ∧ ∃ p : zPas, (b_pool be)[k]? = some p ∧ rows[n]? = some (zm_q p) ∧ (b_rw be)[n]? = some p.1
def z_GI (G : zG) (s : zS) (Q : List zQ) (be0 be : zB) (pu : Nat) (rows : List zQ) (RI : List Nat) (h : zH) (top : Nat) : Prop := z_St G s be h top ∧ (b_pu be = nI pu ∧ Q.length ≤ pu ∧ pu ≤ (b_pool be).length) ∧ (b_jn be = ((b_pool be).take Q.length).map (fun x => x.1) ∧ ((b_pool be).take Q.length).map zm_q = Q) ∧ z_RW be pu rows RI ∧ b_rch be = b_rch be0 ∧ b_ct be = b_ct be0
theorem z_GI.at {G : zG} {s : zS} {be0 be : zB} {Q : List zQ} {pu : Nat} {rows : List zQ} {RI : List Nat} {h : zH} {top : Nat} (J : z_GI G s Q be0 be pu rows RI h top) {k : Nat} {q : zQ} (hq : Q[k]? = some q) : ∃ p : zPas, (b_pool be)[k]? = some p ∧ zm_q p = q ∧ (b_jn be)[k]? = some p.1 := by
  have hk : k < Q.length := (List.getElem?_eq_some_iff.mp hq).1
  have hk2 : k < (b_pool be).length := by have := J.2.1.2.1; have := J.2.1.2.2; omega
  have e := J.2.2.1.2
  rw [← e, List.getElem?_map, List.getElem?_take_of_lt hk, List.getElem?_eq_getElem hk2] at hq
  refine ⟨_, List.getElem?_eq_getElem hk2, Option.some.inj hq, ?_⟩
  rw [J.2.2.1.1, List.getElem?_map, List.getElem?_take_of_lt hk, List.getElem?_eq_getElem hk2]
  rfl
theorem z_GI.jlen {G : zG} {s : zS} {be0 be : zB} {Q : List zQ} {pu : Nat} {rows : List zQ} {RI : List Nat} {h : zH} {top : Nat} (J : z_GI G s Q be0 be pu rows RI h top) : (b_jn be).length = Q.length := by
  rw [J.2.2.1.1, List.length_map, List.length_take]
  have := J.2.1.2.1; have := J.2.1.2.2
  omega
theorem z_RW.own {be : zB} {pu : Nat} {rows : List zQ} {RI : List Nat} (J : z_RW be pu rows RI) {n u : Nat} (hu : (b_rw be)[n]? = some u) : ∃ (k : Nat) (p : zPas), k < pu ∧ (b_pool be)[k]? = some p ∧ p.1 = u := by
  have hn : n < RI.length := by rw [J.1, ← J.2.1]; exact (List.getElem?_eq_some_iff.mp hu).1
  obtain ⟨h1, p, h2, h3, h4⟩ := J.2.2.2 n _ (List.getElem?_eq_getElem hn)
  rw [hu] at h4
  exact ⟨_, p, h1, h2, (Option.some.inj h4).symm⟩
theorem z_RW.push {be be2 : zB} {pu pu2 : Nat} {rows : List zQ} {RI : List Nat} (J : z_RW be pu rows RI) {k : Nat} {p : zPas} (hpu : pu ≤ pu2) (hk : k < pu2) (hp : (b_pool be2)[k]? = some p) (hn : k ∉ RI) (hpool : ∀ i, i < pu → (b_pool be2)[i]? = (b_pool be)[i]?) (hrw : b_rw be2 = b_rw be ++ [p.1]) : z_RW be2 pu2 (rows ++ [zm_q p]) (RI ++ [k]) := by
  obtain ⟨h1, h2, h3, h4⟩ := J
  refine ⟨by rw [List.length_append, List.length_append, h1]; rfl, by rw [hrw, List.length_append, List.length_append, h2]; rfl, ?_, fun n m hm => ?_⟩
  · rw [List.nodup_append]
    exact ⟨h3, List.nodup_cons.mpr ⟨List.not_mem_nil, List.nodup_nil⟩, fun a ha b hb => by rw [List.mem_singleton.mp hb]; intro z; rw [z] at ha; exact hn ha⟩
  · rw [hrw]
    rcases Nat.lt_or_ge n RI.length with q | q
    · rw [List.getElem?_append_left q] at hm
      obtain ⟨g1, p9, g2, g3, g4⟩ := h4 n m hm
      refine ⟨by omega, p9, by rw [hpool m g1]; exact g2, ?_, ?_⟩
      · rw [List.getElem?_append_left (by omega)]; exact g3
      · rw [List.getElem?_append_left (by omega)]; exact g4
    · rw [List.getElem?_append_right q] at hm
      have hn0 : n - RI.length = 0 := by
        have := (List.getElem?_eq_some_iff.mp hm).1
        simp only [List.length_singleton] at this
        omega
      rw [hn0] at hm
      cases hm
      refine ⟨hk, p, hp, ?_, ?_⟩
      · rw [List.getElem?_append_right (by omega), show n - rows.length = 0 by omega]; rfl
      · rw [List.getElem?_append_right (by omega), show n - (b_rw be).length = 0 by omega]; rfl
theorem z_GI.inf {G : zG} {s : zS} {be0 be : zB} {Q : List zQ} {pu : Nat} {rows : List zQ} {RI : List Nat} {h h2 : zH} {top top2 : Nat} {o : Option zQ} {r : Option Value} (J : z_GI G s Q be0 be pu rows RI h top) (ho : ∀ q, o = some q → q.2.2 = (0, 0)) (hp : z_PInf G s be pu o r h2 top2) : r = none ∧ ∃ (be2 : zB) (pu2 : Nat) (RI2 : List Nat), z_GI G s Q be0 be2 pu2 (rows ++ o.toList) RI2 h2 top2 ∧ pu2 ≤ pu + 1 ∧ (∀ k ∈ RI2, k ∈ RI ∨ Q.length ≤ k) ∧ (∀ i, i < pu → (b_pool be2)[i]? = (b_pool be)[i]?) := by
  obtain ⟨hr, be2, H2, hm⟩ := hp
  refine ⟨hr, ?_⟩
  cases o with
  | none =>
    dsimp only at hm
    subst hm
    exact ⟨be2, pu, RI, ⟨H2, J.2.1, J.2.2.1, by rw [show rows ++ (none : Option zQ).toList = rows from List.append_nil _]; exact J.2.2.2.1, J.2.2.2.2⟩, by omega, fun k hk => Or.inl hk, fun _ _ => rfl⟩
  | some q =>
    obtain ⟨q1, ⟨a, q2, q3⟩, q4, q5, q6, q7, q8⟩ := hm
    have hqd := ho q rfl
    have e1 : q = zm_q (a, q.1, q.2.1, 0, 0, 0, 0) := by
      obtain ⟨x1, x2, x3⟩ := q
      dsimp only at hqd
      subst hqd
      rfl
    have hlt : pu < (b_pool be2).length := (List.getElem?_eq_some_iff.mp q2).1
    have hnm : pu ∉ RI := fun z => by
      obtain ⟨n, hn⟩ := List.getElem?_of_mem z
      have := (J.2.2.2.1.2.2.2 n pu hn).1
      omega
    have htk : (b_pool be2).take Q.length = (b_pool be).take Q.length := by
      have := J.2.1.2.1
      apply List.ext_getElem?
      intro n
      rcases Nat.lt_or_ge n Q.length with v | v
      · rw [List.getElem?_take_of_lt v, List.getElem?_take_of_lt v, q4 n (by omega)]
      · rw [List.getElem?_eq_none (by rw [List.length_take]; omega), List.getElem?_eq_none (by rw [List.length_take]; omega)]
    refine ⟨be2, pu + 1, RI ++ [pu], ⟨H2, ⟨q1, by have := J.2.1.2.1; omega, by omega⟩, ⟨by rw [htk, q8]; exact J.2.2.1.1, by rw [htk]; exact J.2.2.1.2⟩, ?_, q5.trans J.2.2.2.2.1, q6.trans J.2.2.2.2.2⟩, Nat.le_refl _, fun k hk => ?_, q4⟩
    · have := J.2.2.2.1.push (be2 := be2) (k := pu) (p := (a, q.1, q.2.1, 0, 0, 0, 0)) (Nat.le_succ pu) (Nat.lt_succ_self pu) q2 hnm q4 q3
      rw [← e1] at this
      exact this
    · rcases List.mem_append.mp hk with w | w
      · exact Or.inl w
      · rw [List.mem_singleton.mp w]; exact Or.inr J.2.1.2.1
theorem z_GI.add {G : zG} {s : zS} {be0 be : zB} {Q : List zQ} {pu : Nat} {rows : List zQ} {RI : List Nat} {h h2 : zH} {top top2 : Nat} {r : Option Value} (J : z_GI G s Q be0 be pu rows RI h top) {k : Nat} {p : zPas} (hp : (b_pool be)[k]? = some p) (hk : k < pu) (hn : k ∉ RI) (hr : rows.length ≤ 120) (ha : z_PAdd G h top (z_b G + 14) (b_ls be 6).2.1 rows.length (b_ls be 6).2.2 (fun q : Nat => (b_rw be)[q]?) rows.length p.1 (some (.int 1)) r h2 top2) : r = some (.int 1) ∧ ∃ be2, z_GI G s Q be0 be2 pu (rows ++ [zm_q p]) (RI ++ [k]) h2 top2 ∧ b_pool be2 = b_pool be := by
  have hl := J.2.2.2.1.2.1
  rw [← hl] at ha hr
  obtain ⟨h1, l6, H3⟩ := J.1.addB 6 (Or.inr (Or.inr rfl)) ha (Nat.le_refl _) hr
  refine ⟨h1, _, ⟨H3, J.2.1, J.2.2.1, J.2.2.2.1.push (Nat.le_refl _) hk hp hn (fun _ _ => rfl) ?_, J.2.2.2.2⟩, rfl⟩
  show (b_rw be).insertIdx (b_rw be).length p.1 = _
  rw [List.insertIdx_length_self]
theorem zm_inf_2 {segs : List zSeg} {a b q : zQ} (h : zm_inf segs a b = some q) : q.2.2 = (0, 0) := by
  unfold zm_inf at h
  split at h
  · cases h
  · obtain ⟨x, _, rfl⟩ := Option.map_eq_some_iff.mp h
    rfl
theorem z_GI.add1 {G : zG} {s : zS} {be0 be : zB} {Q : List zQ} {pu : Nat} {rows : List zQ} {RI : List Nat} {h : zH} {top : Nat} (l : Launch) (J : z_GI G s Q be0 be pu rows RI h top) {k : Nat} {p : zPas} (hp : (b_pool be)[k]? = some p) (hr : rows.length ≤ 120) : z_Ct l yJx4a65c_add_9ea2d cJx4a65c_add_9ea2d 2 (some .boolean) 7 G [.ref (z_b G + 14), .ref p.1] h top (z_PAdd G h top (z_b G + 14) (b_ls be 6).2.1 rows.length (b_ls be 6).2.2 (fun q : Nat => (b_rw be)[q]?) rows.length p.1 (some (.int 1))) := c_add1 l G h top (z_b G + 14) p.1 (b_ls be 6).2.1 rows.length (b_ls be 6).2.2 (b_ls be 6).1 (fun q : Nat => (b_rw be)[q]?) (Nat.le_trans J.1.hall.1 (Nat.le_of_lt J.1.hall.2.1)) (by rw [← J.2.2.2.1.2.1]; exact J.1.l6) (fun i _ u hu => by obtain ⟨k9, p9, _, w2, w3⟩ := J.2.2.2.1.own hu; rw [← w3]; exact J.1.ob_pas w2) (by omega) (J.1.ob_pas hp) (fun _ => by have := J.1.2.2.1.room; omega)
set_option maxRecDepth 20000 in
set_option maxHeartbeats 4000000 in
theorem f_suN {X : zX} {G : zG} {h : zH} {top : Nat} {Post : Option Value → zH → Nat → Prop} (s : zS) (be0 be : zB) (Q : List zQ) (hQ : Q.length ≤ 60) (i pu : Nat) (rows : List zQ) (RI : List Nat) (p : zPas) (J : z_GI G s Q be0 be pu rows RI h top) (hpi : Q[i]? = some (zm_q p)) (hp1 : (b_pool be)[i]? = some p) (hpu : pu ≤ Q.length + i) (hrl : rows.length ≤ 2 * i) (hRI : (∀ k ∈ RI, Q.length ≤ k ∨ (k < i ∧ ∃ q : zQ, Q[k]? = some q ∧ q.2.2.2 = 0))) (ih : ∀ (h : zH) (top : Nat) (be : zB) (pu : Nat) (o : Option zPas) (rows2 : List zQ) (RI : List Nat), z_GI G s Q be0 be pu rows2 RI h top → (o.map zm_q, rows2) = zm_sureStep (s_segs s) (none, rows) (zm_q p) → (∀ p, o = some p → ∃ k, k < Q.length ∧ (b_pool be)[k]? = some p) → pu ≤ Q.length + (i + 1) → rows2.length ≤ 2 * (i + 1) → (∀ k ∈ RI, Q.length ≤ k ∨ (k < i + 1 ∧ ∃ q : zQ, Q[k]? = some q ∧ q.2.2.2 = 0)) → z_Z X h top 4 [(3, .int (nI (i + 1))), (2, va_rf (o.map (fun x => x.1))), (0, .ref (z_b G + 11)), (1, .ref (z_b G + 1))] []) (hX : z_ok X cX0_addSure 5 RX0 none "addSure" 10 G) (hq : z_mq X (Post)) : z_Z X h top 4 [(3, .int (nI i)), (2, .null), (0, .ref (z_b G + 11)), (1, .ref (z_b G + 1))] [] := by
  have H := J.1
  have hbk := H.bk
  have hl5 := H.l5
  rw [J.jlen] at hl5
  have hl51 := hl5.1
  have hl6 := H.l6
  have hl61 := hl6.1
  have hps := H.pas hp1
  have hlt : i < Q.length := (List.getElem?_eq_some_iff.mp hpi).1
  have hgi : (b_jn be)[i]? = some p.1 := by
    obtain ⟨p9, w1, w2, w3⟩ := J.at hpi
    rw [hp1] at w1
    cases w1
    exact w3
  have hni : i ∉ RI := fun z => by rcases hRI i z with w | w <;> omega
  refine r_iload_n hX rfl 0 rfl dX0_addSure_4 ?_
  refine r_aload_n hX rfl 2 rfl dX0_addSure_5 ?_
  refine r_getf hX fl_X0_18 hbk rfl dX0_addSure_6 ?_
  refine r_callVR (As := []) (rest := [.int (nI i)]) (rv := some (.int (nI Q.length))) (st1 := [.int (nI Q.length), .int (nI i)]) hX cs_X0_27 (by decide) (fun l => z_size hl5 l) hl51 rfl rfl rfl rfl (Nat.le_of_ble_eq_true rfl) dX0_addSure_9 ?_
  refine r_icmp_ge (tgt := 70) hX dX0_addSure_12 rfl (fun c => False.elim (absurd c (nI_ge hlt (by omega)))) (fun _ => ?_)
  refine r_aload_n hX rfl 2 rfl dX0_addSure_15 ?_
  refine r_getf hX fl_X0_18 hbk rfl dX0_addSure_16 ?_
  refine r_iload_n hX rfl 0 rfl dX0_addSure_19 ?_
  refine r_callVR (As := [.int (nI i)]) (rest := []) (rv := some (.ref p.1)) (st1 := [.ref p.1]) hX cs_X0_55 (by decide) (fun l => z_get hl5 hlt hgi l) hl51 rfl rfl rfl rfl (Nat.le_of_ble_eq_true rfl) dX0_addSure_20 ?_
  refine r_cast (ci := 3) hX rfl hps cl_X0_89 dX0_addSure_23 ?_
  refine r_astore (lv' := [(4, .ref p.1), (3, .int (nI i)), (2, .null), (0, .ref (z_b G + 11)), (1, .ref (z_b G + 1))]) hX (by decide) rfl dX0_addSure_26 ?_
  refine r_aload hX 0 rfl dX0_addSure_28 ?_
  refine r_getf hX fl_X0_109 hps rfl dX0_addSure_30 ?_
  refine r_if_eq (tgt := 39) hX dX0_addSure_33 rfl (fun c33 => ?_) (fun c33 => ?_)
  · skip
    refine r_aload_nN hX rfl 2 rfl dX0_addSure_39 ?_
    refine r_ifnullN (tgt := 51) hX rfl dX0_addSure_40 ?_
    refine r_aload_n hX rfl 3 rfl dX0_addSure_51 ?_
    refine r_getf hX fl_X0_21 hbk rfl dX0_addSure_52 ?_
    refine r_aload hX 0 rfl dX0_addSure_55 ?_
    refine r_callV (As := [.ref p.1]) (rest := []) hX cs_X0_95 (by decide) (fun l => J.add1 l hp1 (by omega)) hl61 rfl rfl rfl (Nat.le_of_ble_eq_true rfl) dX0_addSure_57 (fun r2 h2 top2 hp2x => ?_)
    obtain ⟨rfl, be3, J3, hpl3⟩ := J.add hp1 (by have := J.2.1.2.1; omega) hni (by omega) hp2x
    refine r_pop hX rfl dX0_addSure_60 ?_
    refine r_aload hX 0 rfl dX0_addSure_61 ?_
    refine r_astore_n (lv' := [(2, .ref p.1), (4, .ref p.1), (3, .int (nI i)), (0, .ref (z_b G + 11)), (1, .ref (z_b G + 1))]) hX rfl (by decide) rfl dX0_addSure_63 ?_
    refine r_iinc (q := 2) (lv' := [(3, .int ((nI i) + 1)), (2, .ref p.1), (4, .ref p.1), (0, .ref (z_b G + 11)), (1, .ref (z_b G + 1))]) hX rfl rfl (by decide) rfl dX0_addSure_64 ?_
    refine r_goto (tgt := 4) hX rfl dX0_addSure_67 ?_
    refine r_lv [0, 1, 3, 4] (lv2 := [(3, .int (nI i + 1)), (2, .ref p.1), (0, .ref (z_b G + 11)), (1, .ref (z_b G + 1))]) rfl ?_
    rw [nI_1]
    refine ih h2 top2 be3 pu (some p) _ _ J3 (by rw [zm_sureStep, if_pos (show (zm_q p).2.2.2 = 0 from c33)]; simp) (fun p9 e => by cases e; exact ⟨i, hlt, by rw [hpl3]; exact hp1⟩) (by omega) ?_ ?_
    · rw [List.length_append, List.length_singleton]
      omega
    · intro k hk
      rcases List.mem_append.mp hk with w | w
      · exact (hRI k w).imp id (fun w => ⟨by omega, w.2⟩)
      · rw [List.mem_singleton.mp w]; exact Or.inr ⟨by omega, _, hpi, c33⟩
  · skip
    refine r_goto (tgt := 64) hX rfl dX0_addSure_36 ?_
    refine r_iinc (q := 1) (lv' := [(3, .int ((nI i) + 1)), (4, .ref p.1), (2, .null), (0, .ref (z_b G + 11)), (1, .ref (z_b G + 1))]) hX rfl rfl (by decide) rfl dX0_addSure_64 ?_
    refine r_goto (tgt := 4) hX rfl dX0_addSure_67 ?_
    refine r_lv [0, 2, 3, 4] (lv2 := [(3, .int (nI i + 1)), (2, .null), (0, .ref (z_b G + 11)), (1, .ref (z_b G + 1))]) rfl ?_
    rw [nI_1]
    exact ih h top be pu none rows RI J (Eq.symm (if_neg c33)) (fun p9 e => by cases e) (by omega) (by omega) (fun k hk => (hRI k hk).imp id (fun w => ⟨by omega, w.2⟩))

set_option maxRecDepth 20000 in
set_option maxHeartbeats 4000000 in
theorem f_suS {X : zX} {G : zG} {h : zH} {top : Nat} {Post : Option Value → zH → Nat → Prop} (s : zS) (be0 be : zB) (Q : List zQ) (hQ : Q.length ≤ 60) (i pu : Nat) (rows : List zQ) (RI : List Nat) (p : zPas) (J : z_GI G s Q be0 be pu rows RI h top) (hpi : Q[i]? = some (zm_q p)) (hp1 : (b_pool be)[i]? = some p) (hpu : pu ≤ Q.length + i) (hrl : rows.length ≤ 2 * i) (hRI : (∀ k ∈ RI, Q.length ≤ k ∨ (k < i ∧ ∃ q : zQ, Q[k]? = some q ∧ q.2.2.2 = 0))) (pa : zPas) (ka : Nat) (hka : ka < Q.length) (hpa : (b_pool be)[ka]? = some pa) (ih : ∀ (h : zH) (top : Nat) (be : zB) (pu : Nat) (o : Option zPas) (rows2 : List zQ) (RI : List Nat), z_GI G s Q be0 be pu rows2 RI h top → (o.map zm_q, rows2) = zm_sureStep (s_segs s) (some (zm_q pa), rows) (zm_q p) → (∀ p, o = some p → ∃ k, k < Q.length ∧ (b_pool be)[k]? = some p) → pu ≤ Q.length + (i + 1) → rows2.length ≤ 2 * (i + 1) → (∀ k ∈ RI, Q.length ≤ k ∨ (k < i + 1 ∧ ∃ q : zQ, Q[k]? = some q ∧ q.2.2.2 = 0)) → z_Z X h top 4 [(3, .int (nI (i + 1))), (2, va_rf (o.map (fun x => x.1))), (0, .ref (z_b G + 11)), (1, .ref (z_b G + 1))] []) (hX : z_ok X cX0_addSure 5 RX0 none "addSure" 10 G) (hq : z_mq X (Post)) : z_Z X h top 4 [(3, .int (nI i)), (2, .ref pa.1), (0, .ref (z_b G + 11)), (1, .ref (z_b G + 1))] [] := by
  have H := J.1
  have hbk := H.bk
  have hl5 := H.l5
  rw [J.jlen] at hl5
  have hl51 := hl5.1
  have hl6 := H.l6
  have hl61 := hl6.1
  have hps := H.pas hp1
  have hlt : i < Q.length := (List.getElem?_eq_some_iff.mp hpi).1
  have hgi : (b_jn be)[i]? = some p.1 := by
    obtain ⟨p9, w1, w2, w3⟩ := J.at hpi
    rw [hp1] at w1
    cases w1
    exact w3
  have hni : i ∉ RI := fun z => by rcases hRI i z with w | w <;> omega
  have hpsa := H.pas hpa
  refine r_iload_n hX rfl 0 rfl dX0_addSure_4 ?_
  refine r_aload_n hX rfl 2 rfl dX0_addSure_5 ?_
  refine r_getf hX fl_X0_18 hbk rfl dX0_addSure_6 ?_
  refine r_callVR (As := []) (rest := [.int (nI i)]) (rv := some (.int (nI Q.length))) (st1 := [.int (nI Q.length), .int (nI i)]) hX cs_X0_27 (by decide) (fun l => z_size hl5 l) hl51 rfl rfl rfl rfl (Nat.le_of_ble_eq_true rfl) dX0_addSure_9 ?_
  refine r_icmp_ge (tgt := 70) hX dX0_addSure_12 rfl (fun c => False.elim (absurd c (nI_ge hlt (by omega)))) (fun _ => ?_)
  refine r_aload_n hX rfl 2 rfl dX0_addSure_15 ?_
  refine r_getf hX fl_X0_18 hbk rfl dX0_addSure_16 ?_
  refine r_iload_n hX rfl 0 rfl dX0_addSure_19 ?_
  refine r_callVR (As := [.int (nI i)]) (rest := []) (rv := some (.ref p.1)) (st1 := [.ref p.1]) hX cs_X0_55 (by decide) (fun l => z_get hl5 hlt hgi l) hl51 rfl rfl rfl rfl (Nat.le_of_ble_eq_true rfl) dX0_addSure_20 ?_
  refine r_cast (ci := 3) hX rfl hps cl_X0_89 dX0_addSure_23 ?_
  refine r_astore (lv' := [(4, .ref p.1), (3, .int (nI i)), (2, .ref pa.1), (0, .ref (z_b G + 11)), (1, .ref (z_b G + 1))]) hX (by decide) rfl dX0_addSure_26 ?_
  refine r_aload hX 0 rfl dX0_addSure_28 ?_
  refine r_getf hX fl_X0_109 hps rfl dX0_addSure_30 ?_
  refine r_if_eq (tgt := 39) hX dX0_addSure_33 rfl (fun c33 => ?_) (fun c33 => ?_)
  · skip
    refine r_aload_n hX rfl 2 rfl dX0_addSure_39 ?_
    refine r_ifnull hX dX0_addSure_40 ?_
    refine r_aload_n hX rfl 3 rfl dX0_addSure_43 ?_
    refine r_aload_n hX rfl 4 rfl dX0_addSure_44 ?_
    refine r_aload_n hX rfl 2 rfl dX0_addSure_45 ?_
    refine r_aload hX 0 rfl dX0_addSure_46 ?_
    refine r_callV (As := [.ref (z_b G + 1), .ref pa.1, .ref p.1]) (rest := []) hX cs_X0_113 (by decide) (fun l => c_inf l G h top s be pu H J.2.1.1 J.2.1.2.2 (by omega) (by rw [J.2.2.2.1.2.1]; omega) (fun n u hu => J.2.2.2.1.own hu) ka i pa p hpa hp1) hbk rfl rfl rfl (Nat.le_of_ble_eq_true rfl) dX0_addSure_48 (fun r1 h1 top1 hp1x => ?_)
    obtain ⟨rfl, be2, pu2, RI2, J2, hpu2, hRI2, hpl⟩ := J.inf (fun q hq => zm_inf_2 hq) hp1x
    have hp2 : (b_pool be2)[i]? = some p := by rw [hpl i (by have := J.2.1.2.1; omega)]; exact hp1
    have hbk2 := J2.1.bk
    have hps2 := J2.1.pas hp2
    have hl62 := J2.1.l6.1
    rw [J2.2.2.2.1.2.1] at hl62
    refine r_aload_n hX rfl 3 rfl dX0_addSure_51 ?_
    refine r_getf hX fl_X0_21 hbk2 rfl dX0_addSure_52 ?_
    refine r_aload hX 0 rfl dX0_addSure_55 ?_
    have hol : (rows ++ (zm_inf (s_segs s) (zm_q pa) (zm_q p)).toList).length ≤ 120 := by
      rw [List.length_append]
      have : (zm_inf (s_segs s) (zm_q pa) (zm_q p)).toList.length ≤ 1 := by cases zm_inf (s_segs s) (zm_q pa) (zm_q p) <;> simp
      omega
    refine r_callV (As := [.ref p.1]) (rest := []) hX cs_X0_95 (by decide) (fun l => J2.add1 l hp2 hol) hl62 rfl rfl rfl (Nat.le_of_ble_eq_true rfl) dX0_addSure_57 (fun r2 h2 top2 hp2x => ?_)
    obtain ⟨rfl, be3, J3, hpl3⟩ := J2.add hp2 (by have := J2.2.1.2.1; omega) (fun z => by rcases hRI2 i z with w | w <;> first | exact hni w | omega) hol hp2x
    refine r_pop hX rfl dX0_addSure_60 ?_
    refine r_aload hX 0 rfl dX0_addSure_61 ?_
    refine r_astore_n (lv' := [(2, .ref p.1), (4, .ref p.1), (3, .int (nI i)), (0, .ref (z_b G + 11)), (1, .ref (z_b G + 1))]) hX rfl (by decide) rfl dX0_addSure_63 ?_
    refine r_iinc (q := 2) (lv' := [(3, .int ((nI i) + 1)), (2, .ref p.1), (4, .ref p.1), (0, .ref (z_b G + 11)), (1, .ref (z_b G + 1))]) hX rfl rfl (by decide) rfl dX0_addSure_64 ?_
    refine r_goto (tgt := 4) hX rfl dX0_addSure_67 ?_
    refine r_lv [0, 1, 3, 4] (lv2 := [(3, .int (nI i + 1)), (2, .ref p.1), (0, .ref (z_b G + 11)), (1, .ref (z_b G + 1))]) rfl ?_
    rw [nI_1]
    refine ih h2 top2 be3 pu2 (some p) _ _ J3 (Eq.symm (if_pos c33)) (fun p9 e => by cases e; exact ⟨i, hlt, by rw [hpl3]; exact hp2⟩) (by omega) ?_ ?_
    · rw [List.length_append, List.length_append, List.length_singleton]
      have : (zm_inf (s_segs s) (zm_q pa) (zm_q p)).toList.length ≤ 1 := by cases zm_inf (s_segs s) (zm_q pa) (zm_q p) <;> simp
      omega
    · intro k hk
      rcases List.mem_append.mp hk with w | w
      · rcases hRI2 k w with v | v
        · exact (hRI k v).imp id (fun w => ⟨by omega, w.2⟩)
        · exact Or.inl v
      · rw [List.mem_singleton.mp w]; exact Or.inr ⟨by omega, _, hpi, c33⟩
  · skip
    refine r_goto (tgt := 64) hX rfl dX0_addSure_36 ?_
    refine r_iinc (q := 1) (lv' := [(3, .int ((nI i) + 1)), (4, .ref p.1), (2, .ref pa.1), (0, .ref (z_b G + 11)), (1, .ref (z_b G + 1))]) hX rfl rfl (by decide) rfl dX0_addSure_64 ?_
    refine r_goto (tgt := 4) hX rfl dX0_addSure_67 ?_
    refine r_lv [0, 2, 3, 4] (lv2 := [(3, .int (nI i + 1)), (2, .ref pa.1), (0, .ref (z_b G + 11)), (1, .ref (z_b G + 1))]) rfl ?_
    rw [nI_1]
    exact ih h top be pu (some pa) rows RI J (Eq.symm (if_neg c33)) (fun p9 e => by cases e; exact ⟨ka, hka, hpa⟩) (by omega) (by omega) (fun k hk => (hRI k hk).imp id (fun w => ⟨by omega, w.2⟩))

set_option maxRecDepth 20000 in
set_option maxHeartbeats 4000000 in
theorem f_suNe {X : zX} {G : zG} {h : zH} {top : Nat} {Post : Option Value → zH → Nat → Prop} (s : zS) (be0 be : zB) (Q : List zQ) (hQ : Q.length ≤ 60) (i pu : Nat) (rows : List zQ) (RI : List Nat) (J : z_GI G s Q be0 be pu rows RI h top) (hge : Q.length ≤ i) (hi : i ≤ 60) (hp : Post none h top) (hX : z_ok X cX0_addSure 5 RX0 none "addSure" 10 G) (hq : z_mq X (Post)) : z_Z X h top 4 [(3, .int (nI i)), (2, .null), (0, .ref (z_b G + 11)), (1, .ref (z_b G + 1))] [] := by
  have H := J.1
  have hbk := H.bk
  have hl5 := H.l5
  rw [J.jlen] at hl5
  have hl51 := hl5.1
  refine r_iload_n hX rfl 0 rfl dX0_addSure_4 ?_
  refine r_aload_n hX rfl 2 rfl dX0_addSure_5 ?_
  refine r_getf hX fl_X0_18 hbk rfl dX0_addSure_6 ?_
  refine r_callVR (As := []) (rest := [.int (nI i)]) (rv := some (.int (nI Q.length))) (st1 := [.int (nI Q.length), .int (nI i)]) hX cs_X0_27 (by decide) (fun l => z_size hl5 l) hl51 rfl rfl rfl rfl (Nat.le_of_ble_eq_true rfl) dX0_addSure_9 ?_
  refine r_icmp_ge (tgt := 70) hX dX0_addSure_12 rfl (fun _ => ?_) (fun c => False.elim (c (nI_le hge (by omega))))
  exact r_vret hX hq hp dX0_addSure_70

set_option maxRecDepth 20000 in
set_option maxHeartbeats 4000000 in
theorem f_suSe {X : zX} {G : zG} {h : zH} {top : Nat} {Post : Option Value → zH → Nat → Prop} (s : zS) (be0 be : zB) (Q : List zQ) (hQ : Q.length ≤ 60) (i pu : Nat) (rows : List zQ) (RI : List Nat) (J : z_GI G s Q be0 be pu rows RI h top) (hge : Q.length ≤ i) (hi : i ≤ 60) (a : Nat) (hp : Post none h top) (hX : z_ok X cX0_addSure 5 RX0 none "addSure" 10 G) (hq : z_mq X (Post)) : z_Z X h top 4 [(3, .int (nI i)), (2, .ref a), (0, .ref (z_b G + 11)), (1, .ref (z_b G + 1))] [] := by
  have H := J.1
  have hbk := H.bk
  have hl5 := H.l5
  rw [J.jlen] at hl5
  have hl51 := hl5.1
  refine r_iload_n hX rfl 0 rfl dX0_addSure_4 ?_
  refine r_aload_n hX rfl 2 rfl dX0_addSure_5 ?_
  refine r_getf hX fl_X0_18 hbk rfl dX0_addSure_6 ?_
  refine r_callVR (As := []) (rest := [.int (nI i)]) (rv := some (.int (nI Q.length))) (st1 := [.int (nI Q.length), .int (nI i)]) hX cs_X0_27 (by decide) (fun l => z_size hl5 l) hl51 rfl rfl rfl rfl (Nat.le_of_ble_eq_true rfl) dX0_addSure_9 ?_
  refine r_icmp_ge (tgt := 70) hX dX0_addSure_12 rfl (fun _ => ?_) (fun c => False.elim (c (nI_le hge (by omega))))
  exact r_vret hX hq hp dX0_addSure_70

theorem f_sure {X : zX} {G : zG} {Post : Option Value → zH → Nat → Prop} (s : zS) (be0 : zB) (Q : List zQ) (hQ : Q.length ≤ 60) (hX : z_ok X cX0_addSure 5 RX0 none "addSure" 10 G) (hq : z_mq X Post) (hp : ∀ (h : zH) (top : Nat) (be : zB) (pu : Nat) (RI : List Nat), z_GI G s Q be0 be pu (zm_sure (s_segs s) Q).2 RI h top → (∀ k ∈ RI, Q.length ≤ k ∨ ∃ q : zQ, Q[k]? = some q ∧ q.2.2.2 = 0) → (zm_sure (s_segs s) Q).2.length ≤ 120 → Post none h top) : ∀ (k i : Nat) (h : zH) (top : Nat) (be : zB) (pu : Nat) (o : Option zPas) (rows : List zQ) (RI : List Nat), Q.length - i < k → i ≤ Q.length → z_GI G s Q be0 be pu rows RI h top → (o.map zm_q, rows) = (Q.take i).foldl (zm_sureStep (s_segs s)) (none, []) → (∀ p, o = some p → ∃ k, k < Q.length ∧ (b_pool be)[k]? = some p) → pu ≤ Q.length + i → rows.length ≤ 2 * i → (∀ k ∈ RI, Q.length ≤ k ∨ (k < i ∧ ∃ q : zQ, Q[k]? = some q ∧ q.2.2.2 = 0)) → z_Z X h top 4 [(3, .int (nI i)), (2, va_rf (o.map (fun x => x.1))), (0, .ref (z_b G + 11)), (1, .ref (z_b G + 1))] [] := by
  intro k
  induction k with
  | zero => intros; omega
  | succ k ih =>
    intro i h top be pu o rows RI hk hi J hfo ho hpu hrl hRI
    rcases Nat.lt_or_ge i Q.length with hlt | hge
    · have hqi := List.getElem?_eq_getElem hlt
      obtain ⟨p, hp1, hp2, hp3⟩ := J.at hqi
      rw [← hp2] at hqi
      have hnx : ∀ (h : zH) (top : Nat) (be : zB) (pu : Nat) (o2 : Option zPas) (rows2 : List zQ) (RI : List Nat), z_GI G s Q be0 be pu rows2 RI h top → (o2.map zm_q, rows2) = zm_sureStep (s_segs s) (o.map zm_q, rows) (zm_q p) → (∀ p, o2 = some p → ∃ k, k < Q.length ∧ (b_pool be)[k]? = some p) → pu ≤ Q.length + (i + 1) → rows2.length ≤ 2 * (i + 1) → (∀ k ∈ RI, Q.length ≤ k ∨ (k < i + 1 ∧ ∃ q : zQ, Q[k]? = some q ∧ q.2.2.2 = 0)) → z_Z X h top 4 [(3, .int (nI (i + 1))), (2, va_rf (o2.map (fun x => x.1))), (0, .ref (z_b G + 11)), (1, .ref (z_b G + 1))] [] := fun h9 t9 b9 pu9 o9 r9 R9 J9 e9 w1 w2 w3 w4 => ih (i + 1) h9 t9 b9 pu9 o9 r9 R9 (by omega) (by omega) J9 (by rw [zm_take _ _ _ hqi, ← hfo]; exact e9) w1 w2 w3 w4
      cases o with
      | none => exact f_suN s be0 be Q hQ i pu rows RI p J hqi hp1 hpu hrl hRI hnx hX hq
      | some pa =>
        obtain ⟨ka, hka, hpa⟩ := ho pa rfl
        exact f_suS s be0 be Q hQ i pu rows RI p J hqi hp1 hpu hrl hRI pa ka hka hpa hnx hX hq
    · rw [List.take_of_length_le hge] at hfo
      have he : rows = (zm_sure (s_segs s) Q).2 := congrArg Prod.snd hfo
      rw [he] at J hrl
      have hpp := hp h top be pu RI J (fun k hk => (hRI k hk).imp id (fun w => w.2)) (by omega)
      cases o with
      | none => exact f_suNe s be0 be Q hQ i pu _ RI J hge (by omega) hpp hX hq
      | some pa => exact f_suSe s be0 be Q hQ i pu _ RI J hge (by omega) pa.1 hpp hX hq
set_option maxRecDepth 20000 in
set_option maxHeartbeats 4000000 in
theorem c_X0_addSure (l : Launch) (G : zG) (h : zH) (top : Nat) (s : zS) (be0 be : zB) (Q : List zQ) (hQ : Q.length ≤ 60) (pu : Nat) (J : z_GI G s Q be0 be pu [] [] h top) (hpu : pu ≤ Q.length + 0) : z_Ct l yX0_addSure cX0_addSure 5 none 10 G [.ref (z_b G + 11), .ref (z_b G + 1)] h top (fun r h' top' => r = none ∧ ∃ (be2 : zB) (pu : Nat) (RI : List Nat), z_GI G s Q be0 be2 pu (zm_sure (s_segs s) Q).2 RI h' top' ∧ (∀ k ∈ RI, Q.length ≤ k ∨ ∃ q : zQ, Q[k]? = some q ∧ q.2.2.2 = 0) ∧ (zm_sure (s_segs s) Q).2.length ≤ 120) := by
  refine z_of (own := RX0) (nm := "addSure") (by decide) rfl rfl (by decide) (Nat.le_of_ble_eq_true rfl) (fun X hX hq => ?_)
  replace hX : z_ok X cX0_addSure 5 RX0 none "addSure" 10 G := hX
  show z_Z X h top 0 [(0, .ref (z_b G + 11)), (1, .ref (z_b G + 1))] []
  refine r_null hX dX0_addSure_0 ?_
  refine r_astore_nN (lv' := [(2, .null), (0, .ref (z_b G + 11)), (1, .ref (z_b G + 1))]) hX rfl (by decide) rfl dX0_addSure_1 ?_
  refine r_iconst (v := 0) hX (by decide) dX0_addSure_2 ?_
  refine r_istore_n (lv' := [(3, .int 0), (2, .null), (0, .ref (z_b G + 11)), (1, .ref (z_b G + 1))]) hX rfl (by decide) rfl dX0_addSure_3 ?_
  rw [← nI_0]
  refine r_lv [0, 1, 2, 3] (lv2 := [(3, .int (nI 0)), (2, .null), (0, .ref (z_b G + 11)), (1, .ref (z_b G + 1))]) rfl ?_
  exact f_sure s be0 Q hQ hX hq (fun h9 t9 b9 pu9 R9 J9 w1 w2 => ⟨rfl, b9, pu9, R9, J9, w1, w2⟩) (Q.length + 1) 0 h top be pu none [] [] (by omega) (by omega) J rfl (fun p9 e => by cases e) hpu (by simp) (fun k hk => by cases hk)

theorem zm_pig : ∀ (n : Nat) (l : List Nat), l.Nodup → (∀ x ∈ l, x < n) → l.length ≤ n := by
  intro n
  induction n with
  | zero =>
    intro l _ h
    cases l with
    | nil => exact Nat.le_refl _
    | cons x xs => exact absurd (h x List.mem_cons_self) (Nat.not_lt_zero _)
  | succ n ih =>
    intro l hn h
    by_cases q : n ∈ l
    · have h1 := ih (l.erase n) (hn.erase n) (fun x hx => by
        have w := (List.Nodup.mem_erase_iff hn).mp hx
        have := h x w.2
        omega)
      rw [List.length_erase_of_mem q] at h1
      omega
    · exact Nat.le_succ_of_le (ih l hn (fun x hx => by
        have := h x hx
        have : x ≠ n := fun z => q (z ▸ hx)
        omega))
theorem z_RW.le {be : zB} {pu : Nat} {rows : List zQ} {RI : List Nat} (J : z_RW be pu rows RI) : rows.length ≤ pu := by
  rw [← J.1]
  refine zm_pig pu RI J.2.2.1 (fun x hx => ?_)
  obtain ⟨n, hn⟩ := List.getElem?_of_mem hx
  exact (J.2.2.2 n x hn).1
theorem zm_dbt_take {Q : List zQ} {i : Nat} {q : zQ} (h : Q[i]? = some q) : zm_dbt (Q.take (i + 1)) = zm_dbt (Q.take i) ++ (if q.2.2.2 = 0 then [] else [q]) := by
  unfold zm_dbt
  rw [List.take_add_one, h, List.filter_append]
  congr 1
  by_cases c : q.2.2.2 = 0 <;> simp [c]
set_option maxRecDepth 20000 in
set_option maxHeartbeats 4000000 in
theorem f_dbS {X : zX} {G : zG} {h : zH} {top : Nat} {Post : Option Value → zH → Nat → Prop} (s : zS) (be0 be : zB) (Q : List zQ) (hQ : Q.length ≤ 60) (base : List zQ) (pu i : Nat) (RI : List Nat) (p : zPas) (J : z_GI G s Q be0 be pu (base ++ zm_dbt (Q.take i)) RI h top) (hpi : Q[i]? = some (zm_q p)) (hp1 : (b_pool be)[i]? = some p) (hRI : (∀ k ∈ RI, Q.length ≤ k ∨ k < i ∨ ∃ q : zQ, Q[k]? = some q ∧ q.2.2.2 = 0)) (ih : ∀ (h : zH) (top : Nat) (be : zB) (RI : List Nat), z_GI G s Q be0 be pu (base ++ zm_dbt (Q.take (i + 1))) RI h top → (∀ k ∈ RI, Q.length ≤ k ∨ k < i + 1 ∨ ∃ q : zQ, Q[k]? = some q ∧ q.2.2.2 = 0) → z_Z X h top 2 [(1, .int (nI (i + 1))), (0, .ref (z_b G + 11))] []) (hX : z_ok X cX0_addDoubtful 3 RX0 none "addDoubtful" 8 G) (hq : z_mq X (Post)) : z_Z X h top 2 [(1, .int (nI i)), (0, .ref (z_b G + 11))] [] := by
  have H := J.1
  have hbk := H.bk
  have hl5 := H.l5
  rw [J.jlen] at hl5
  have hl51 := hl5.1
  have hl6 := H.l6
  have hl61 := hl6.1
  have hlt : i < Q.length := (List.getElem?_eq_some_iff.mp hpi).1
  have hps := H.pas hp1
  have hgi : (b_jn be)[i]? = some p.1 := by
    obtain ⟨p9, w1, w2, w3⟩ := J.at hpi
    rw [hp1] at w1
    cases w1
    exact w3
  have hr120 : (base ++ zm_dbt (Q.take i)).length ≤ 120 := by
    have := J.2.2.2.1.le
    have := J.2.1.2.2
    have := H.2.2.1.2.2.2.2.2.2
    omega
  refine r_iload_n hX rfl 0 rfl dX0_addDoubtful_2 ?_
  refine r_aload_n hX rfl 1 rfl dX0_addDoubtful_3 ?_
  refine r_getf hX fl_X0_18 hbk rfl dX0_addDoubtful_4 ?_
  refine r_callVR (As := []) (rest := [.int (nI i)]) (rv := some (.int (nI Q.length))) (st1 := [.int (nI Q.length), .int (nI i)]) hX cs_X0_27 (by decide) (fun l => z_size hl5 l) hl51 rfl rfl rfl rfl (Nat.le_of_ble_eq_true rfl) dX0_addDoubtful_7 ?_
  refine r_icmp_ge (tgt := 47) hX dX0_addDoubtful_10 rfl (fun c => False.elim (absurd c (nI_ge hlt (by omega)))) (fun _ => ?_)
  refine r_aload_n hX rfl 1 rfl dX0_addDoubtful_13 ?_
  refine r_getf hX fl_X0_18 hbk rfl dX0_addDoubtful_14 ?_
  refine r_iload_n hX rfl 0 rfl dX0_addDoubtful_17 ?_
  refine r_callVR (As := [.int (nI i)]) (rest := []) (rv := some (.ref p.1)) (st1 := [.ref p.1]) hX cs_X0_55 (by decide) (fun l => z_get hl5 hlt hgi l) hl51 rfl rfl rfl rfl (Nat.le_of_ble_eq_true rfl) dX0_addDoubtful_18 ?_
  refine r_cast (ci := 3) hX rfl hps cl_X0_89 dX0_addDoubtful_21 ?_
  refine r_astore_n (lv' := [(2, .ref p.1), (1, .int (nI i)), (0, .ref (z_b G + 11))]) hX rfl (by decide) rfl dX0_addDoubtful_24 ?_
  refine r_aload_n hX rfl 0 rfl dX0_addDoubtful_25 ?_
  refine r_getf hX fl_X0_109 hps rfl dX0_addDoubtful_26 ?_
  refine r_if_eq (tgt := 41) hX dX0_addDoubtful_29 rfl (fun c29 => ?_) (fun c29 => ?_)
  · skip
    refine r_iinc (q := 1) (lv' := [(1, .int ((nI i) + 1)), (2, .ref p.1), (0, .ref (z_b G + 11))]) hX rfl rfl (by decide) rfl dX0_addDoubtful_41 ?_
    refine r_goto (tgt := 2) hX rfl dX0_addDoubtful_44 ?_
    refine r_lv [0, 2] (lv2 := [(1, .int (nI i + 1)), (0, .ref (z_b G + 11))]) rfl ?_
    rw [nI_1]
    exact ih h top be RI (by rw [zm_dbt_take hpi, if_pos (show (zm_q p).2.2.2 = 0 from c29), List.append_nil]; exact J) (fun k hk => (hRI k hk).imp id (fun w => w.imp (fun x => by omega) id))
  · skip
    refine r_aload_n hX rfl 2 rfl dX0_addDoubtful_32 ?_
    refine r_getf hX fl_X0_21 hbk rfl dX0_addDoubtful_33 ?_
    refine r_aload_n hX rfl 0 rfl dX0_addDoubtful_36 ?_
    refine r_callV (As := [.ref p.1]) (rest := []) hX cs_X0_95 (by decide) (fun l => J.add1 l hp1 hr120) hl61 rfl rfl rfl (Nat.le_of_ble_eq_true rfl) dX0_addDoubtful_37 (fun r2 h2 top2 hp2x => ?_)
    obtain ⟨rfl, be3, J3, hpl3⟩ := J.add hp1 (by have := J.2.1.2.1; omega) (fun z => by
      rcases hRI i z with v | v | ⟨q9, v1, v2⟩
      · omega
      · omega
      · rw [hpi] at v1; cases v1; exact c29 v2) hr120 hp2x
    refine r_pop hX rfl dX0_addDoubtful_40 ?_
    refine r_iinc (q := 1) (lv' := [(1, .int ((nI i) + 1)), (2, .ref p.1), (0, .ref (z_b G + 11))]) hX rfl rfl (by decide) rfl dX0_addDoubtful_41 ?_
    refine r_goto (tgt := 2) hX rfl dX0_addDoubtful_44 ?_
    refine r_lv [0, 2] (lv2 := [(1, .int (nI i + 1)), (0, .ref (z_b G + 11))]) rfl ?_
    rw [nI_1]
    refine ih h2 top2 be3 _ (by rw [zm_dbt_take hpi, if_neg (show ¬ (zm_q p).2.2.2 = 0 from c29), ← List.append_assoc]; exact J3) (fun k hk => ?_)
    rcases List.mem_append.mp hk with v | v
    · exact (hRI k v).imp id (fun w => w.imp (fun x => by omega) id)
    · rw [List.mem_singleton.mp v]; exact Or.inr (Or.inl (Nat.lt_succ_self i))

set_option maxRecDepth 20000 in
set_option maxHeartbeats 4000000 in
theorem f_dbE {X : zX} {G : zG} {h : zH} {top : Nat} {Post : Option Value → zH → Nat → Prop} (s : zS) (be0 be : zB) (Q : List zQ) (hQ : Q.length ≤ 60) (i pu : Nat) (rows : List zQ) (RI : List Nat) (J : z_GI G s Q be0 be pu rows RI h top) (hge : Q.length ≤ i) (hi : i ≤ 60) (hp : Post none h top) (hX : z_ok X cX0_addDoubtful 3 RX0 none "addDoubtful" 8 G) (hq : z_mq X (Post)) : z_Z X h top 2 [(1, .int (nI i)), (0, .ref (z_b G + 11))] [] := by
  have H := J.1
  have hbk := H.bk
  have hl5 := H.l5
  rw [J.jlen] at hl5
  have hl51 := hl5.1
  refine r_iload_n hX rfl 0 rfl dX0_addDoubtful_2 ?_
  refine r_aload_n hX rfl 1 rfl dX0_addDoubtful_3 ?_
  refine r_getf hX fl_X0_18 hbk rfl dX0_addDoubtful_4 ?_
  refine r_callVR (As := []) (rest := [.int (nI i)]) (rv := some (.int (nI Q.length))) (st1 := [.int (nI Q.length), .int (nI i)]) hX cs_X0_27 (by decide) (fun l => z_size hl5 l) hl51 rfl rfl rfl rfl (Nat.le_of_ble_eq_true rfl) dX0_addDoubtful_7 ?_
  refine r_icmp_ge (tgt := 47) hX dX0_addDoubtful_10 rfl (fun _ => ?_) (fun c => False.elim (c (nI_le hge (by omega))))
  exact r_vret hX hq hp dX0_addDoubtful_47

theorem f_db {X : zX} {G : zG} {Post : Option Value → zH → Nat → Prop} (s : zS) (be0 : zB) (Q : List zQ) (hQ : Q.length ≤ 60) (base : List zQ) (pu : Nat) (hX : z_ok X cX0_addDoubtful 3 RX0 none "addDoubtful" 8 G) (hq : z_mq X Post) (hp : ∀ (h : zH) (top : Nat) (be : zB) (RI : List Nat), z_GI G s Q be0 be pu (base ++ zm_dbt Q) RI h top → Post none h top) : ∀ (k i : Nat) (h : zH) (top : Nat) (be : zB) (RI : List Nat), Q.length - i < k → i ≤ Q.length → z_GI G s Q be0 be pu (base ++ zm_dbt (Q.take i)) RI h top → (∀ k ∈ RI, Q.length ≤ k ∨ k < i ∨ ∃ q : zQ, Q[k]? = some q ∧ q.2.2.2 = 0) → z_Z X h top 2 [(1, .int (nI i)), (0, .ref (z_b G + 11))] [] := by
  intro k
  induction k with
  | zero => intros; omega
  | succ k ih =>
    intro i h top be RI hk hi J hRI
    rcases Nat.lt_or_ge i Q.length with hlt | hge
    · have hqi := List.getElem?_eq_getElem hlt
      obtain ⟨p, hp1, hp2, hp3⟩ := J.at hqi
      rw [← hp2] at hqi
      exact f_dbS s be0 be Q hQ base pu i RI p J hqi hp1 hRI (fun h9 t9 b9 R9 J9 w => ih (i + 1) h9 t9 b9 R9 (by omega) (by omega) J9 w) hX hq
    · refine f_dbE s be0 be Q hQ i pu _ RI J hge (by omega) (hp h top be RI ?_) hX hq
      rw [List.take_of_length_le hge] at J
      exact J
set_option maxRecDepth 20000 in
set_option maxHeartbeats 4000000 in
theorem c_X0_addDoubtful (l : Launch) (G : zG) (h : zH) (top : Nat) (s : zS) (be0 be : zB) (Q : List zQ) (hQ : Q.length ≤ 60) (base : List zQ) (pu : Nat) (RI : List Nat) (J : z_GI G s Q be0 be pu base RI h top) (hRI : ∀ k ∈ RI, Q.length ≤ k ∨ ∃ q : zQ, Q[k]? = some q ∧ q.2.2.2 = 0) : z_Ct l yX0_addDoubtful cX0_addDoubtful 3 none 8 G [.ref (z_b G + 11)] h top (fun r h' top' => r = none ∧ ∃ (be2 : zB) (RI : List Nat), z_GI G s Q be0 be2 pu (base ++ zm_dbt Q) RI h' top') := by
  refine z_of (own := RX0) (nm := "addDoubtful") (by decide) rfl rfl (by decide) (Nat.le_of_ble_eq_true rfl) (fun X hX hq => ?_)
  replace hX : z_ok X cX0_addDoubtful 3 RX0 none "addDoubtful" 8 G := hX
  show z_Z X h top 0 [(0, .ref (z_b G + 11))] []
  refine r_iconst (v := 0) hX (by decide) dX0_addDoubtful_0 ?_
  refine r_istore_n (lv' := [(1, .int 0), (0, .ref (z_b G + 11))]) hX rfl (by decide) rfl dX0_addDoubtful_1 ?_
  rw [← nI_0]
  refine r_lv [0, 1] (lv2 := [(1, .int (nI 0)), (0, .ref (z_b G + 11))]) rfl ?_
  exact f_db s be0 Q hQ base pu hX hq (fun h9 t9 b9 R9 J9 => ⟨rfl, b9, R9, J9⟩) (Q.length + 1) 0 h top be RI (by omega) (by omega) (by rw [show base ++ zm_dbt (Q.take 0) = base from List.append_nil _]; exact J) (fun k hk => (hRI k hk).imp id (fun w => Or.inr w))

theorem zm_join_len : ∀ (pk : List zSgt), (zm_join pk).length ≤ pk.length := by
  have key : ∀ (pk : List zSgt) (Q : List zQ), (pk.foldl zm_joinStep Q).length ≤ Q.length + pk.length := by
    intro pk
    induction pk with
    | nil => intro Q; exact Nat.le_refl _
    | cons y ys ih =>
      intro Q
      have h1 := ih (zm_joinStep Q y)
      have h2 := zm_joinStep_len Q y
      rw [List.foldl_cons, List.length_cons]
      omega
  intro pk
  have := key pk []
  rw [List.length_nil, Nat.zero_add] at this
  exact this
theorem zm_pick_len (segs : List zSeg) (sgts : List zSgt) (va : Nat) (day : Int32) : (zm_pick segs sgts va day).length ≤ sgts.length ∧ ∀ z ∈ zm_pick segs sgts va day, z ∈ sgts := by
  have key : ∀ (l acc : List zSgt), (l.foldl (zm_pickStep segs va day) acc).length ≤ acc.length + l.length ∧ ∀ z ∈ l.foldl (zm_pickStep segs va day) acc, z ∈ acc ∨ z ∈ l := by
    intro l
    induction l with
    | nil => intro acc; exact ⟨Nat.le_refl _, fun z hz => Or.inl hz⟩
    | cons y ys ih =>
      intro acc
      obtain ⟨h1, h2⟩ := ih (zm_pickStep segs va day acc y)
      have h3 := zm_step_len segs va day acc y
      rw [List.foldl_cons, List.length_cons]
      refine ⟨by omega, fun z hz => ?_⟩
      rcases h2 z hz with w | w
      · rcases zm_step_mem w with v | v
        · exact Or.inr (v ▸ List.mem_cons_self)
        · exact Or.inl v
      · exact Or.inr (List.mem_cons_of_mem _ w)
  obtain ⟨h1, h2⟩ := key sgts []
  refine ⟨by rw [List.length_nil, Nat.zero_add] at h1; exact h1, fun z hz => (h2 z hz).elim (fun w => by cases w) id⟩
/-- the passages of a vehicle on a day -/
def zm_Q (s : zS) (va : Nat) (day : Int32) : List zQ := zm_join (zm_pick (s_segs s) (s_sgts s) va day)
def zm_day (s : zS) (va : Nat) (day : Int32) : List zQ := zm_gath (s_segs s) (zm_Q s va day)
def zm_cert (s : zS) (va : Nat) (day : Int32) : Nat := (zm_sure (s_segs s) (zm_Q s va day)).2.length
/-- the book holds the rows -/
def z_DK (G : zG) (s : zS) (rch : Nat → Int32) (ct : Int32) (be : zB) (rows : List zQ) (RI : List Nat) (h : zH) (top : Nat) : Prop := z_St G s be h top ∧ (∃ pu, z_RW be pu rows RI) ∧ b_rch be = rch ∧ b_ct be = ct
def z_PGath (G : zG) (s : zS) (be : zB) (va : Nat) (day : Int32) : Option Value → zH → Nat → Prop := fun r h' top' => r = none ∧ ∃ (be2 : zB) (RI : List Nat), z_DK G s (b_rch be) (nI (zm_cert s va day)) be2 (zm_day s va day) RI h' top'
set_option maxRecDepth 20000 in
set_option maxHeartbeats 4000000 in
theorem c_X0_gather (l : Launch) (G : zG) (h : zH) (top : Nat) (s : zS) (be : zB) (va : Nat) (day : Int32) (H : z_St G s be h top) : z_Ct l yX0_gather cX0_gather 5 none 11 G [.ref (z_b G + 11), .ref (z_b G + 3), .ref (z_b G + 1), .ref va, .int day] h top (z_PGath G s be va day) := by
  refine z_of (own := RX0) (nm := "gather") (by decide) rfl rfl (by decide) (Nat.le_of_ble_eq_true rfl) (fun X hX hq => ?_)
  replace hX : z_ok X cX0_gather 5 RX0 none "gather" 11 G := hX
  show z_Z X h top 0 [(0, .ref (z_b G + 11)), (1, .ref (z_b G + 3)), (2, .ref (z_b G + 1)), (3, .ref va), (4, .int day)] []
  have hbk := H.bk
  refine r_aload_n hX rfl 0 rfl dX0_gather_0 ?_
  refine r_iconst (v := 0) hX (by decide) dX0_gather_1 ?_
  refine r_put (fs2 := [.ref (z_b G + 12), .ref (z_b G + 13), .ref (z_b G + 14), .ref (z_b G + 15), .int 0, .int (b_ct be)]) hX fp_X0_31 hbk rfl rfl (Nat.le_of_ble_eq_true rfl) rfl dX0_gather_2 ?_
  replace hbk : z_at G (va_up h (z_b G + 11) (.inr (1, [.ref (z_b G + 12), .ref (z_b G + 13), .ref (z_b G + 14), .ref (z_b G + 15), .int 0, .int (b_ct be)]))) top (z_b G + 11) (.inr (1, [.ref (z_b G + 12), .ref (z_b G + 13), .ref (z_b G + 14), .ref (z_b G + 15), .int 0, .int (b_ct be)])) := z_at.self hbk
  have H0 := H.setBk (nI 0) (b_ct be)
  refine r_aload_n hX rfl 0 rfl dX0_gather_5 ?_
  refine r_aload_n hX rfl 1 rfl dX0_gather_6 ?_
  refine r_aload_n hX rfl 3 rfl dX0_gather_7 ?_
  refine r_iload hX 4 rfl dX0_gather_8 ?_
  refine r_callV (As := [.ref (z_b G + 3), .ref va, .int day]) (rest := []) hX cs_X0_35 (by decide) (fun l => c_X0_pick l G (va_up h (z_b G + 11) (.inr (1, [.ref (z_b G + 12), .ref (z_b G + 13), .ref (z_b G + 14), .ref (z_b G + 15), .int 0, .int (b_ct be)]))) top s _ va day H0) hbk rfl rfl rfl (Nat.le_of_ble_eq_true rfl) dX0_gather_10 (fun r1 h1 top1 hp1 => ?_)
  obtain ⟨rfl, be1, H1, hpk1, els1, l1, hb1⟩ := hp1
  have hpu1 : b_pu be1 = nI 0 := by rw [hb1]; rfl
  have hbk1 := H1.bk
  obtain ⟨hpl, hpm⟩ := zm_pick_len (s_segs s) (s_sgts s) va day
  have hs60 := H1.2.2.1.2.2.2.2.2.1
  refine r_aload_n hX rfl 0 rfl dX0_gather_13 ?_
  refine r_callV (As := []) (rest := []) hX cs_X0_39 (by decide) (fun l => c_X0_joinPicked l G h1 top1 s be1 _ H1 hpu1 hpk1 hpm (by omega)) hbk1 rfl rfl rfl (Nat.le_of_ble_eq_true rfl) dX0_gather_14 (fun r2 h2 top2 hp2 => ?_)
  obtain ⟨rfl, be2, J2⟩ := hp2
  have hbk2 := J2.1.bk
  have hl62 := J2.1.l6
  have hl621 := hl62.1
  refine r_aload_n hX rfl 0 rfl dX0_gather_17 ?_
  refine r_getf hX fl_X0_21 hbk2 rfl dX0_gather_18 ?_
  refine r_callV (As := []) (rest := []) hX cs_X0_42 (by decide) (fun l => c_Jx4a65c_clear_da8c8 l G h2 top2 (z_b G + 14) (b_ls be2 6).2.1 (b_rw be2).length (b_ls be2 6).2.2 (b_ls be2 6).1 (fun q : Nat => (b_rw be2)[q]?) hl62 (by have := J2.1.2.2.2.2; omega)) hl621 rfl rfl rfl (Nat.le_of_ble_eq_true rfl) dX0_gather_21 (fun r3 h3 top3 hp3 => ?_)
  obtain ⟨rfl, rfl, m6, f6, hA6, hf6⟩ := hp3
  obtain ⟨l6, H3⟩ := J2.1.clrB 6 (Or.inr (Or.inr rfl)) hA6 hf6
  have hQ60 : (zm_Q s va day).length ≤ 60 := by have := zm_join_len (zm_pick (s_segs s) (s_sgts s) va day); show (zm_join _).length ≤ 60; omega
  have J3 : z_GI G s (zm_Q s va day) (z_setL be2 6 [] l6) (z_setL be2 6 [] l6) (zm_Q s va day).length [] [] h3 top3 := ⟨H3, ⟨J2.2.1, Nat.le_refl _, J2.len⟩, ⟨J2.2.2.1, J2.2.2.2.1⟩, ⟨rfl, rfl, List.nodup_nil, fun n k hk => by cases hk⟩, rfl, rfl⟩
  have hrch3 : b_rch (z_setL be2 6 [] l6) = b_rch be := J2.2.2.2.2.2.2.1.trans (by rw [hb1]; rfl)
  have hbk3 := J3.1.bk
  refine r_aload_n hX rfl 0 rfl dX0_gather_24 ?_
  refine r_aload_n hX rfl 2 rfl dX0_gather_25 ?_
  refine r_callV (As := [.ref (z_b G + 1)]) (rest := []) hX cs_X0_45 (by decide) (fun l => c_X0_addSure l G h3 top3 s _ _ (zm_Q s va day) hQ60 _ J3 (Nat.le_refl _)) hbk3 rfl rfl rfl (Nat.le_of_ble_eq_true rfl) dX0_gather_26 (fun r4 h4 top4 hp4 => ?_)
  obtain ⟨rfl, be4, pu4, RI4, J4, hRI4, hle4⟩ := hp4
  have hbk4 := J4.1.bk
  have hl64 := J4.1.l6
  rw [J4.2.2.2.1.2.1] at hl64
  have hl641 := hl64.1
  refine r_aload_n hX rfl 0 rfl dX0_gather_29 ?_
  refine r_aload_n hX rfl 0 rfl dX0_gather_30 ?_
  refine r_getf hX fl_X0_21 hbk4 rfl dX0_gather_31 ?_
  refine r_callVR (As := []) (rest := [.ref (z_b G + 11)]) (rv := some (.int (nI (zm_sure (s_segs s) (zm_Q s va day)).2.length))) (st1 := [.int (nI (zm_sure (s_segs s) (zm_Q s va day)).2.length), .ref (z_b G + 11)]) hX cs_X0_27 (by decide) (fun l => z_size hl64 l) hl641 rfl rfl rfl rfl (Nat.le_of_ble_eq_true rfl) dX0_gather_34 ?_
  refine r_put (fs2 := [.ref (z_b G + 12), .ref (z_b G + 13), .ref (z_b G + 14), .ref (z_b G + 15), .int (b_pu be4), .int (nI (zm_sure (s_segs s) (zm_Q s va day)).2.length)]) hX fp_X0_49 hbk4 rfl rfl (Nat.le_of_ble_eq_true rfl) rfl dX0_gather_37 ?_
  replace hl641 := hl641.up (e3 := (.inr (1, [.ref (z_b G + 12), .ref (z_b G + 13), .ref (z_b G + 14), .ref (z_b G + 15), .int (b_pu be4), .int (nI (zm_sure (s_segs s) (zm_Q s va day)).2.length)]))) hbk4 (by intro z; cases z)
  replace hbk4 : z_at G (va_up h4 (z_b G + 11) (.inr (1, [.ref (z_b G + 12), .ref (z_b G + 13), .ref (z_b G + 14), .ref (z_b G + 15), .int (b_pu be4), .int (nI (zm_sure (s_segs s) (zm_Q s va day)).2.length)]))) top4 (z_b G + 11) (.inr (1, [.ref (z_b G + 12), .ref (z_b G + 13), .ref (z_b G + 14), .ref (z_b G + 15), .int (b_pu be4), .int (nI (zm_sure (s_segs s) (zm_Q s va day)).2.length)])) := z_at.self hbk4
  refine r_aload_n hX rfl 0 rfl dX0_gather_40 ?_
  have H5 := J4.1.setBk (b_pu be4) (nI (zm_sure (s_segs s) (zm_Q s va day)).2.length)
  have J5 : z_GI G s (zm_Q s va day) (z_setBk be4 (b_pu be4) (nI (zm_sure (s_segs s) (zm_Q s va day)).2.length)) (z_setBk be4 (b_pu be4) (nI (zm_sure (s_segs s) (zm_Q s va day)).2.length)) pu4 (zm_sure (s_segs s) (zm_Q s va day)).2 RI4 _ _ := ⟨H5, J4.2.1, J4.2.2.1, J4.2.2.2.1, rfl, rfl⟩
  refine r_callV (As := []) (rest := []) hX cs_X0_52 (by decide) (fun l => c_X0_addDoubtful l G _ _ s _ _ (zm_Q s va day) hQ60 _ pu4 RI4 J5 hRI4) hbk4 rfl rfl rfl (Nat.le_of_ble_eq_true rfl) dX0_gather_41 (fun r6 h6 top6 hp6 => ?_)
  obtain ⟨rfl, be6, RI6, J6⟩ := hp6
  exact r_vret hX hq ⟨rfl, be6, RI6, J6.1, ⟨pu4, J6.2.2.2.1⟩, (J6.2.2.2.2.1.trans J4.2.2.2.2.1).trans hrch3, J6.2.2.2.2.2⟩ dX0_gather_44

