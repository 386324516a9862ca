/-! joining -/
/-- a passage: its segment's address, minute, sightings, doubtful -/
abbrev zQ : Type := Nat × Int32 × Int32 × Int32
def zm_q (p : zPas) : zQ := (p.2.1, p.2.2.1, p.2.2.2.1, p.2.2.2.2.1)
def zm_lastF (Q : List zQ) (sA : Nat) : Nat → Option Nat
  | 0 => none
  | k + 1 => match Q[k]? with
    | none => none
    | some q => if q.1 = sA then some k else zm_lastF Q sA k
def zm_last (Q : List zQ) (sA : Nat) : Option Nat := zm_lastF Q sA Q.length
theorem zm_lastF_s {Q : List zQ} {sA k : Nat} {q : zQ} (h : Q[k]? = some q) : zm_lastF Q sA (k + 1) = if q.1 = sA then some k else zm_lastF Q sA k := by
  show (match Q[k]? with
    | none => none
    | some q => if q.1 = sA then some k else zm_lastF Q sA k) = _
  rw [h]
theorem zm_last_lt {Q : List zQ} {sA k : Nat} (h : zm_last Q sA = some k) : ∃ q, Q[k]? = some q ∧ q.1 = sA := by
  have key : ∀ n, zm_lastF Q sA n = some k → ∃ q, Q[k]? = some q ∧ q.1 = sA := by
    intro n
    induction n with
    | zero => intro z; cases z
    | succ n ih =>
      intro z
      cases hq : Q[n]? with
      | none => simp only [zm_lastF, hq] at z; cases z
      | some q =>
        rw [zm_lastF_s hq] at z
        by_cases e : q.1 = sA
        · rw [if_pos e] at z; cases z; exact ⟨q, hq, e⟩
        · rw [if_neg e] at z; exact ih z
  exact key _ h
def zm_jn (q : zQ) (y : zSgt) : zQ := (q.1, q.2.1, q.2.2.1 + 1, zm_doubt (q.2.2.1 + 1) y.2.2.2.1)
def zm_joinStep (Q : List zQ) (y : zSgt) : List zQ := match zm_last Q y.2.1.2 with
  | none => (Q ++ [(y.2.1.2, y.2.2.1, 0, 0)]).set Q.length (zm_jn (y.2.1.2, y.2.2.1, 0, 0) y)
  | some k => match Q[k]? with
    | none => Q
    | some q => if 15 < y.2.2.1 - q.2.1 then (Q ++ [(y.2.1.2, y.2.2.1, 0, 0)]).set Q.length (zm_jn (y.2.1.2, y.2.2.1, 0, 0) y) else Q.set k (zm_jn q y)
def zm_join (pk : List zSgt) : List zQ := pk.foldl zm_joinStep []
theorem zm_joinStep_len (Q : List zQ) (y : zSgt) : (zm_joinStep Q y).length ≤ Q.length + 1 := by
  unfold zm_joinStep
  split
  · simp
  · split
    · omega
    · split <;> simp
/-- while joining: the pool's first passages are the joined ones, and say Q -/
def z_JI (G : zG) (s : zS) (be0 be : zB) (Q : List zQ) (h : zH) (top : Nat) : Prop := z_St G s be h top ∧ b_pu be = nI Q.length ∧ b_jn be = ((b_pool be).take Q.length).map (fun x => x.1) ∧ ((b_pool be).take Q.length).map zm_q = Q ∧ b_pk be = b_pk be0 ∧ b_rw be = b_rw be0 ∧ b_rch be = b_rch be0 ∧ b_ct be = b_ct be0
theorem z_JI.len {G : zG} {s : zS} {be0 be : zB} {Q : List zQ} {h : zH} {top : Nat} (J : z_JI G s be0 be Q h top) : Q.length ≤ (b_pool be).length := by
  have := congrArg List.length J.2.2.2.1
  rw [List.length_map, List.length_take] at this
  omega
theorem z_JI.at {G : zG} {s : zS} {be0 be : zB} {Q : List zQ} {h : zH} {top : Nat} (J : z_JI G s be0 be Q h top) {k : Nat} {q : zQ} (hq : Q[k]? = some q) : ∃ p : zPas, (b_pool be)[k]? = some p ∧ zm_q p = q ∧ (b_jn be)[k]? = some p.1 := by
  have hk : k < Q.length := (List.getElem?_eq_some_iff.mp hq).1
  have hk2 := Nat.lt_of_lt_of_le hk J.len
  have e := J.2.2.2.1
  rw [← e, List.getElem?_map, List.getElem?_take_of_lt hk, List.getElem?_eq_getElem hk2] at hq
  refine ⟨_, List.getElem?_eq_getElem hk2, Option.some.inj hq, ?_⟩
  rw [J.2.2.1, List.getElem?_map, List.getElem?_take_of_lt hk, List.getElem?_eq_getElem hk2]
  rfl
theorem z_JI.jlen {G : zG} {s : zS} {be0 be : zB} {Q : List zQ} {h : zH} {top : Nat} (J : z_JI G s be0 be Q h top) : (b_jn be).length = Q.length := by
  rw [J.2.2.1, List.length_map, List.length_take]
  have := J.len
  omega
set_option maxRecDepth 20000 in
set_option maxHeartbeats 4000000 in
theorem f_last_step {X : zX} {G : zG} {h : zH} {top : Nat} {Post : Option Value → zH → Nat → Prop} (s : zS) (be0 be : zB) (Q : List zQ) (J : z_JI G s be0 be Q h top) (sg : Nat) (k : Nat) (r : Option Nat) (hk : k < Q.length) (hr : zm_lastF Q sg (k + 1) = r) (hp : ∀ r2, r2 = r → Post (some (va_rf (r2.bind (fun k => ((b_pool be)[k]?).map (fun p => p.1))))) h top) (ih : zm_lastF Q sg k = r → z_Z X h top 10 [(2, .int (nI k + (-1))), (0, .ref (z_b G + 11)), (1, .ref sg)] []) (hX : z_ok X cX0_lastOn 4 RX0 (some (.object "GantryHall$Passage")) "lastOn" 4 G) (hq : z_mq X (Post)) : z_Z X h top 10 [(2, .int (nI k)), (0, .ref (z_b G + 11)), (1, .ref sg)] [] := by
  have H := J.1
  have hbk := H.bk
  have hl5 := H.l5
  rw [J.jlen] at hl5
  have hl51 := hl5.1
  refine r_iload_n hX rfl 0 rfl dX0_lastOn_10 ?_
  refine r_if_lt (tgt := 42) hX dX0_lastOn_11 rfl (fun c => False.elim (absurd c (nI_pos (show k < 2 ^ 31 by have := hl5.2.1; have := hl5.2.2.1; omega)))) (fun _ => ?_)
  obtain ⟨q, hqk⟩ : ∃ q, Q[k]? = some q := ⟨_, List.getElem?_eq_getElem hk⟩
  obtain ⟨p, hp1, hp2, hp3⟩ := J.at hqk
  have hps := H.pas hp1
  have hpq : p.2.1 = q.1 := by rw [← hp2]; rfl
  refine r_aload_n hX rfl 1 rfl dX0_lastOn_14 ?_
  refine r_getf hX fl_X0_18 hbk rfl dX0_lastOn_15 ?_
  refine r_iload_n hX rfl 0 rfl dX0_lastOn_18 ?_
  refine r_callVR (As := [.int (nI k)]) (rest := []) (rv := some (.ref p.1)) (st1 := [.ref p.1]) hX cs_X0_55 (by decide) (fun l => z_get hl5 hk hp3 l) hl51 rfl rfl rfl rfl (Nat.le_of_ble_eq_true rfl) dX0_lastOn_19 ?_
  refine r_cast (ci := 3) hX rfl hps cl_X0_89 dX0_lastOn_22 ?_
  refine r_astore_n (lv' := [(3, .ref p.1), (2, .int (nI k)), (0, .ref (z_b G + 11)), (1, .ref sg)]) hX rfl (by decide) rfl dX0_lastOn_25 ?_
  refine r_aload_n hX rfl 0 rfl dX0_lastOn_26 ?_
  refine r_getf hX fl_X0_102 hps rfl dX0_lastOn_27 ?_
  refine r_aload_n hX rfl 3 rfl dX0_lastOn_30 ?_
  refine r_acmp_ne (tgt := 36) hX dX0_lastOn_31 rfl (fun c31 => ?_) (fun c31 => ?_)
  · skip
    refine r_iinc (q := 1) (lv' := [(2, .int ((nI k) + (-1))), (3, .ref p.1), (0, .ref (z_b G + 11)), (1, .ref sg)]) hX rfl (congrArg (HAdd.hAdd (nI k)) (show Int32.ofInt (-1) = (-1 : Int32) by decide)) (by decide) rfl dX0_lastOn_36 ?_
    refine r_goto (tgt := 10) hX rfl dX0_lastOn_39 ?_
    refine r_lv [0, 2, 3] (lv2 := [(2, .int (nI k + (-1))), (0, .ref (z_b G + 11)), (1, .ref sg)]) rfl ?_
    exact ih ((if_neg (by rw [← hpq]; exact c31)).symm.trans ((zm_lastF_s hqk).symm.trans hr))
  · skip
    refine r_aload_n hX rfl 0 rfl dX0_lastOn_34 ?_
    exact r_aret hX rfl (Or.inl ⟨_, rfl⟩) hq (Or.inr ⟨_, rfl⟩) (by have q := hp (some k) (((zm_lastF_s hqk).trans (if_pos (hpq.symm.trans c31))).symm.trans hr); simp only [Option.bind_some, hp1, Option.map_some] at q; exact q) dX0_lastOn_35

set_option maxRecDepth 20000 in
set_option maxHeartbeats 4000000 in
theorem f_last_end {X : zX} {G : zG} {h : zH} {top : Nat} {Post : Option Value → zH → Nat → Prop} (be : zB) (sg : Nat) (r : Option Nat) (hr : none = r) (hp : ∀ r2, r2 = r → Post (some (va_rf (r2.bind (fun k => ((b_pool be)[k]?).map (fun p => p.1))))) h top) (hX : z_ok X cX0_lastOn 4 RX0 (some (.object "GantryHall$Passage")) "lastOn" 4 G) (hq : z_mq X (Post)) : z_Z X h top 10 [(2, .int (-1)), (0, .ref (z_b G + 11)), (1, .ref sg)] [] := by
  refine r_iload_n hX rfl 0 rfl dX0_lastOn_10 ?_
  refine r_if_lt (tgt := 42) hX dX0_lastOn_11 rfl (fun _ => ?_) (fun c => False.elim (absurd c (by decide)))
  refine r_null hX dX0_lastOn_42 ?_
  exact r_aret hX rfl (Or.inl ⟨_, rfl⟩) hq (Or.inl rfl) (hp none hr) dX0_lastOn_43

theorem f_last {X : zX} {G : zG} {h : zH} {top : Nat} {Post : Option Value → zH → Nat → Prop} (s : zS) (be0 be : zB) (Q : List zQ) (J : z_JI G s be0 be Q h top) (sg : Nat) (r : Option Nat) (hp : ∀ r2, r2 = r → Post (some (va_rf (r2.bind (fun k => ((b_pool be)[k]?).map (fun p => p.1))))) h top) (hX : z_ok X cX0_lastOn 4 RX0 (some (.object "GantryHall$Passage")) "lastOn" 4 G) (hq : z_mq X Post) : ∀ k : Nat, k ≤ Q.length → zm_lastF Q sg k = r → z_Z X h top 10 [(2, .int (nI k + (-1))), (0, .ref (z_b G + 11)), (1, .ref sg)] [] := by
  intro k
  induction k with
  | zero =>
    intro hk hp2
    rw [show nI 0 + (-1) = (-1 : Int32) by decide]
    exact f_last_end be sg r hp2 hp hX hq
  | succ k ih =>
    intro hk hp2
    rw [pk_m1]
    exact f_last_step s be0 be Q J sg k r (by omega) hp2 hp (ih (by omega)) hX hq
set_option maxRecDepth 20000 in
set_option maxHeartbeats 4000000 in
theorem c_X0_lastOn (l : Launch) (G : zG) (h : zH) (top : Nat) (s : zS) (be0 be : zB) (Q : List zQ) (J : z_JI G s be0 be Q h top) (sg : Nat) : z_Ct l yX0_lastOn cX0_lastOn 4 (some (.object "GantryHall$Passage")) 4 G [.ref (z_b G + 11), .ref sg] h top (z_R (some (va_rf ((zm_last Q sg).bind (fun k => ((b_pool be)[k]?).map (fun p => p.1))))) h top) := by
  refine z_of (own := RX0) (nm := "lastOn") (by decide) rfl rfl (by decide) (Nat.le_of_ble_eq_true rfl) (fun X hX hq => ?_)
  replace hX : z_ok X cX0_lastOn 4 RX0 (some (.object "GantryHall$Passage")) "lastOn" 4 G := hX
  show z_Z X h top 0 [(0, .ref (z_b G + 11)), (1, .ref sg)] []
  have H := J.1
  have hbk := H.bk
  have hl5 := H.l5
  rw [J.jlen] at hl5
  have hl51 := hl5.1
  refine r_aload_n hX rfl 0 rfl dX0_lastOn_0 ?_
  refine r_getf hX fl_X0_18 hbk rfl dX0_lastOn_1 ?_
  refine r_callVR (As := []) (rest := []) (rv := some (.int (nI Q.length))) (st1 := [.int (nI Q.length)]) hX cs_X0_27 (by decide) (fun l => z_size hl5 l) hl51 rfl rfl rfl rfl (Nat.le_of_ble_eq_true rfl) dX0_lastOn_4 ?_
  refine r_iconst (v := 1) hX (by decide) dX0_lastOn_7 ?_
  refine r_isub hX dX0_lastOn_8 ?_
  refine r_istore_n (lv' := [(2, .int ((nI Q.length) - 1)), (0, .ref (z_b G + 11)), (1, .ref sg)]) hX rfl (by decide) rfl dX0_lastOn_9 ?_
  refine r_lv [0, 1, 2] (lv2 := [(2, .int (nI Q.length + (-1))), (0, .ref (z_b G + 11)), (1, .ref sg)]) (by rw [Int32.sub_eq_add_neg]; rfl) ?_
  exact f_last s be0 be Q J sg (zm_last Q sg) (fun r2 e => ⟨by rw [e], rfl, rfl⟩) hX hq Q.length (Nat.le_refl _) rfl

theorem c_last_none (l : Launch) (G : zG) (h : zH) (top : Nat) (s : zS) (be0 be : zB) (Q : List zQ) (J : z_JI G s be0 be Q h top) (sg : Nat) (hl : zm_last Q sg = none) : z_Ct l yX0_lastOn cX0_lastOn 4 (some (.object "GantryHall$Passage")) 4 G [.ref (z_b G + 11), .ref sg] h top (z_R (some .null) h top) := by
  have q := c_X0_lastOn l G h top s be0 be Q J sg
  rw [hl] at q
  exact q
theorem c_last_some (l : Launch) (G : zG) (h : zH) (top : Nat) (s : zS) (be0 be : zB) (Q : List zQ) (J : z_JI G s be0 be Q h top) (sg : Nat) {k : Nat} {p : zPas} (hl : zm_last Q sg = some k) (hpk : (b_pool be)[k]? = some p) : z_Ct l yX0_lastOn cX0_lastOn 4 (some (.object "GantryHall$Passage")) 4 G [.ref (z_b G + 11), .ref sg] h top (z_R (some (.ref p.1)) h top) := by
  have q := c_X0_lastOn l G h top s be0 be Q J sg
  rw [hl, Option.bind_some, hpk] at q
  exact q
set_option maxRecDepth 20000 in
set_option maxHeartbeats 4000000 in
theorem f_jn81 {X : zX} {G : zG} {h : zH} {top : Nat} {Post : Option Value → zH → Nat → Prop} (s : zS) (be0 be : zB) (Q : List zQ) (i k : Nat) (q : zQ) (p : zPas) (y : zSgt) (J : z_JI G s be0 be Q h top) (hqk : Q[k]? = some q) (hp1 : (b_pool be)[k]? = some p) (hp2 : zm_q p = q) (hy : y ∈ s_sgts s) (ih : ∀ (h : zH) (top : Nat) (be : zB), z_JI G s be0 be (Q.set k (zm_jn q y)) h top → z_Z X h top 9 [(1, .int (nI (i + 1))), (0, .ref (z_b G + 11))] []) (hX : z_ok X cX0_joinPicked 4 RX0 none "joinPicked" 9 G) (hq : z_mq X (Post)) : z_Z X h top 81 [(3, .ref p.1), (2, .ref y.1), (1, .int (nI i)), (0, .ref (z_b G + 11))] [] := by
  have H := J.1
  have hps := H.pas hp1
  obtain ⟨iy, hiy⟩ := List.getElem?_of_mem hy
  have hys := H.sgt hiy
  refine r_aload_n hX rfl 0 rfl dX0_joinPicked_81 ?_
  refine r_aload_n hX rfl 1 rfl dX0_joinPicked_82 ?_
  refine r_callVR (As := [.ref y.1]) (rest := []) (rv := none) (st1 := []) hX cs_X0_98 (by decide) (fun l => c_X2_join l G h top p.1 y p.2.1 p.2.2.1 p.2.2.2.1 p.2.2.2.2.1 p.2.2.2.2.2.1 p.2.2.2.2.2.2 hps hys) hps rfl rfl rfl rfl (Nat.le_of_ble_eq_true rfl) dX0_joinPicked_83 ?_
  have H2 := H.setPas (p2 := (p.1, p.2.1, p.2.2.1, p.2.2.2.1 + 1, zm_doubt (p.2.2.2.1 + 1) y.2.2.2.1, p.2.2.2.2.2.1, p.2.2.2.2.2.2)) hp1 rfl (H.2.2.2.1.2 p (List.mem_of_getElem? hp1))
  refine r_iinc (q := 2) (lv' := [(1, .int ((nI i) + 1)), (3, .ref p.1), (2, .ref y.1), (0, .ref (z_b G + 11))]) hX rfl rfl (by decide) rfl dX0_joinPicked_86 ?_
  refine r_goto (tgt := 9) hX rfl dX0_joinPicked_89 ?_
  refine r_lv [0, 3] (lv2 := [(1, .int (nI i + 1)), (0, .ref (z_b G + 11))]) rfl ?_
  rw [nI_1]
  have hk : k < Q.length := (List.getElem?_eq_some_iff.mp hqk).1
  refine ih _ _ _ ⟨H2, ?_, ?_, ?_, J.2.2.2.2.1, J.2.2.2.2.2.1, J.2.2.2.2.2.2.1, J.2.2.2.2.2.2.2⟩
  · rw [List.length_set]; exact J.2.1
  · rw [List.length_set]
    show b_jn be = (((b_pool be).set k _).take Q.length).map _
    rw [J.2.2.1, List.take_set]
    refine Eq.symm (z_map_set (x := p) ?_ ?_)
    · rw [List.getElem?_take_of_lt hk]; exact hp1
    · rfl
  · rw [List.length_set]
    show (((b_pool be).set k _).take Q.length).map zm_q = _
    rw [List.take_set, List.map_set, J.2.2.2.1]
    congr 1
    rw [← hp2]
    rfl

set_option maxRecDepth 20000 in
set_option maxHeartbeats 4000000 in
theorem f_jn59 {X : zX} {G : zG} {h : zH} {top : Nat} {Post : Option Value → zH → Nat → Prop} (s : zS) (be0 be : zB) (Q : List zQ) (i : Nat) (y : zSgt) (J : z_JI G s be0 be Q h top) (hQ : Q.length < 60) (hy : y ∈ s_sgts s) (ih : ∀ (h : zH) (top : Nat) (be : zB), z_JI G s be0 be ((Q ++ [(y.2.1.2, y.2.2.1, 0, 0)]).set Q.length (zm_jn (y.2.1.2, y.2.2.1, 0, 0) y)) h top → z_Z X h top 9 [(1, .int (nI (i + 1))), (0, .ref (z_b G + 11))] []) (hX : z_ok X cX0_joinPicked 4 RX0 none "joinPicked" 9 G) (hq : z_mq X (Post)) : z_Z X h top 59 [(2, .ref y.1), (1, .int (nI i)), (0, .ref (z_b G + 11))] [] := by
  have H := J.1
  have hbk := H.bk
  obtain ⟨iy, hiy⟩ := List.getElem?_of_mem hy
  have hys := H.sgt hiy
  refine r_aload_n hX rfl 2 rfl dX0_joinPicked_59 ?_
  refine r_aload_n hX rfl 0 rfl dX0_joinPicked_60 ?_
  refine r_getf hX fl_X0_77 hys rfl dX0_joinPicked_61 ?_
  refine r_aload_n hX rfl 0 rfl dX0_joinPicked_64 ?_
  refine r_getf hX fl_X0_85 hys rfl dX0_joinPicked_65 ?_
  refine r_callV (As := [.ref y.2.1.2, .int y.2.2.1]) (rest := []) hX cs_X0_91 (by decide) (fun l => c_begin l G h top s be Q.length y.2.1.2 y.2.2.1 J.1 J.2.1 (J.1.2.2.2.1.1 y hy).2 J.len (by omega)) hbk rfl rfl rfl (Nat.le_of_ble_eq_true rfl) dX0_joinPicked_68 (fun r1 h1 top1 hp1 => ?_)
  obtain ⟨be2, a, H2, rfl, q1, q2, q3, q4, q5, q6, q7, q8⟩ := hp1
  have hbk2 := H2.bk
  have hl5 := H2.l5
  have hl51 := hl5.1
  refine r_astore_n (lv' := [(3, .ref a), (2, .ref y.1), (1, .int (nI i)), (0, .ref (z_b G + 11))]) hX rfl (by decide) rfl dX0_joinPicked_71 ?_
  have hjo : ∀ (i : Nat), i < (b_jn be).length → ∀ (u : Nat), (b_jn be)[i]? = some u → ∃ p9 : zPas, (b_pool be2)[i]? = some p9 ∧ p9.1 = u := by
    intro i hi u hu
    rw [J.jlen] at hi
    have e1 := List.getElem?_eq_getElem hi
    obtain ⟨p9, w1, w2, w3⟩ := J.at e1
    rw [hu] at w3
    cases w3
    exact ⟨p9, by rw [q3 i hi]; exact w1, rfl⟩
  refine r_aload_n hX rfl 3 rfl dX0_joinPicked_72 ?_
  refine r_getf hX fl_X0_18 hbk2 rfl dX0_joinPicked_73 ?_
  refine r_aload_n hX rfl 0 rfl dX0_joinPicked_76 ?_
  refine r_callV (As := [.ref a]) (rest := []) hX cs_X0_95 (by decide) (fun l => c_add1 l G h1 top1 (z_b G + 13) a (b_ls be2 5).2.1 (b_jn be2).length (b_ls be2 5).2.2 (b_ls be2 5).1 (fun q : Nat => (b_jn be2)[q]?) (Nat.le_trans H2.hall.1 (Nat.le_of_lt H2.hall.2.1)) hl5 (fun i hi u hu => by obtain ⟨p9, w1, w2⟩ := hjo i (by rw [q7] at hi; exact hi) u (by rw [q7] at hu; exact hu); rw [← w2]; exact H2.ob_pas w1) (by rw [q7, J.jlen]; omega) (H2.ob_pas q2) (fun _ => by have := H2.2.2.1.room; omega)) hl51 rfl rfl rfl (Nat.le_of_ble_eq_true rfl) dX0_joinPicked_77 (fun r2 h2 top2 hp2 => ?_)
  obtain ⟨rfl, l5, H3⟩ := H2.addB 5 (Or.inr (Or.inl rfl)) hp2 (Nat.le_refl _) (show (b_jn be2).length ≤ 120 by rw [q7, J.jlen]; omega)
  refine r_pop hX rfl dX0_joinPicked_80 ?_
  refine r_lv [0, 1, 2, 3] (lv2 := [(3, .ref a), (2, .ref y.1), (1, .int (nI i)), (0, .ref (z_b G + 11))]) rfl ?_
  have hQl : (Q ++ [(y.2.1.2, y.2.2.1, 0, 0)]).length = Q.length + 1 := by rw [List.length_append, List.length_singleton]
  have hlp : Q.length < (b_pool be2).length := (List.getElem?_eq_some_iff.mp q2).1
  have htk : (b_pool be2).take Q.length = (b_pool be).take Q.length := by
    apply List.ext_getElem?
    intro n
    rcases Nat.lt_or_ge n Q.length with v | v
    · rw [List.getElem?_take_of_lt v, List.getElem?_take_of_lt v, q3 n v]
    · rw [List.getElem?_eq_none (by rw [List.length_take]; omega), List.getElem?_eq_none (by rw [List.length_take]; omega)]
  have htk1 : (b_pool be2).take (Q.length + 1) = (b_pool be).take Q.length ++ [(a, y.2.1.2, y.2.2.1, 0, 0, 0, 0)] := by rw [List.take_add_one, q2, htk]; rfl
  refine f_jn81 s be0 _ (Q ++ [(y.2.1.2, y.2.2.1, 0, 0)]) i Q.length (y.2.1.2, y.2.2.1, 0, 0) (a, y.2.1.2, y.2.2.1, 0, 0, 0, 0) y ⟨H3, ?_, ?_, ?_, q6.trans J.2.2.2.2.1, q8.trans J.2.2.2.2.2.1, q4.trans J.2.2.2.2.2.2.1, q5.trans J.2.2.2.2.2.2.2⟩ (by rw [List.getElem?_append_right (Nat.le_refl _), Nat.sub_self]; rfl) q2 rfl hy ih hX hq
  · rw [hQl]; exact q1
  · rw [hQl]
    show (b_jn be2).insertIdx (b_jn be2).length a = ((b_pool be2).take (Q.length + 1)).map _
    rw [List.insertIdx_length_self, htk1, List.map_append, q7, J.2.2.1]
    rfl
  · rw [hQl]
    show ((b_pool be2).take (Q.length + 1)).map zm_q = _
    rw [htk1, List.map_append, J.2.2.2.1]
    rfl

theorem zm_js_none {Q : List zQ} {y : zSgt} (hl : zm_last Q y.2.1.2 = none) : zm_joinStep Q y = (Q ++ [(y.2.1.2, y.2.2.1, 0, 0)]).set Q.length (zm_jn (y.2.1.2, y.2.2.1, 0, 0) y) := by
  unfold zm_joinStep
  rw [hl]
theorem zm_js_new {Q : List zQ} {y : zSgt} {k : Nat} {q : zQ} (hl : zm_last Q y.2.1.2 = some k) (hq : Q[k]? = some q) (hm : 15 < y.2.2.1 - q.2.1) : zm_joinStep Q y = (Q ++ [(y.2.1.2, y.2.2.1, 0, 0)]).set Q.length (zm_jn (y.2.1.2, y.2.2.1, 0, 0) y) := by
  unfold zm_joinStep
  rw [hl]
  show (match Q[k]? with
    | none => Q
    | some q => if 15 < y.2.2.1 - q.2.1 then _ else _) = _
  rw [hq]
  exact if_pos hm
theorem zm_js_old {Q : List zQ} {y : zSgt} {k : Nat} {q : zQ} (hl : zm_last Q y.2.1.2 = some k) (hq : Q[k]? = some q) (hm : ¬ 15 < y.2.2.1 - q.2.1) : zm_joinStep Q y = Q.set k (zm_jn q y) := by
  unfold zm_joinStep
  rw [hl]
  show (match Q[k]? with
    | none => Q
    | some q => if 15 < y.2.2.1 - q.2.1 then _ else _) = _
  rw [hq]
  exact if_neg hm
set_option maxRecDepth 20000 in
set_option maxHeartbeats 4000000 in
theorem f_jnN {X : zX} {G : zG} {h : zH} {top : Nat} {Post : Option Value → zH → Nat → Prop} (s : zS) (be0 be : zB) (Q : List zQ) (pkl : List zSgt) (hpk0 : b_pk be0 = pkl.map (fun x => x.1)) (hpm : ∀ z ∈ pkl, z ∈ s_sgts s) (hpn : pkl.length ≤ 60) (i : Nat) (y : zSgt) (hyi : pkl[i]? = some y) (J : z_JI G s be0 be Q h top) (hQ : Q.length ≤ i) (hl : zm_last Q y.2.1.2 = none) (ih : ∀ (h : zH) (top : Nat) (be : zB), z_JI G s be0 be (zm_joinStep Q y) h top → z_Z X h top 9 [(1, .int (nI (i + 1))), (0, .ref (z_b G + 11))] []) (hX : z_ok X cX0_joinPicked 4 RX0 none "joinPicked" 9 G) (hq : z_mq X (Post)) : z_Z X h top 9 [(1, .int (nI i)), (0, .ref (z_b G + 11))] [] := by
  have H := J.1
  have hbk := H.bk
  have hl4 := H.l4
  have elen : (b_pk be).length = pkl.length := by rw [J.2.2.2.2.1, hpk0, List.length_map]
  rw [elen] at hl4
  have hl41 := hl4.1
  have hlt : i < pkl.length := (List.getElem?_eq_some_iff.mp hyi).1
  have hy := hpm y (List.mem_of_getElem? hyi)
  obtain ⟨iy, hiy⟩ := List.getElem?_of_mem hy
  have hys := H.sgt hiy
  have hgi : (b_pk be)[i]? = some y.1 := by rw [J.2.2.2.2.1, hpk0]; exact z_mapget hyi
  refine r_iload_n hX rfl 0 rfl dX0_joinPicked_9 ?_
  refine r_aload_n hX rfl 1 rfl dX0_joinPicked_10 ?_
  refine r_getf hX fl_X0_12 hbk rfl dX0_joinPicked_11 ?_
  refine r_callVR (As := []) (rest := [.int (nI i)]) (rv := some (.int (nI pkl.length))) (st1 := [.int (nI pkl.length), .int (nI i)]) hX cs_X0_27 (by decide) (fun l => z_size hl4 l) hl41 rfl rfl rfl rfl (Nat.le_of_ble_eq_true rfl) dX0_joinPicked_14 ?_
  refine r_icmp_ge (tgt := 92) hX dX0_joinPicked_17 rfl (fun c => False.elim (absurd c (nI_ge hlt (by omega)))) (fun _ => ?_)
  refine r_aload_n hX rfl 1 rfl dX0_joinPicked_20 ?_
  refine r_getf hX fl_X0_12 hbk rfl dX0_joinPicked_21 ?_
  refine r_iload_n hX rfl 0 rfl dX0_joinPicked_24 ?_
  refine r_callVR (As := [.int (nI i)]) (rest := []) (rv := some (.ref y.1)) (st1 := [.ref y.1]) hX cs_X0_55 (by decide) (fun l => z_get hl4 hlt hgi l) hl41 rfl rfl rfl rfl (Nat.le_of_ble_eq_true rfl) dX0_joinPicked_25 ?_
  refine r_cast (ci := 5) hX rfl hys cl_X0_59 dX0_joinPicked_28 ?_
  refine r_astore_n (lv' := [(2, .ref y.1), (1, .int (nI i)), (0, .ref (z_b G + 11))]) hX rfl (by decide) rfl dX0_joinPicked_31 ?_
  refine r_aload_n hX rfl 2 rfl dX0_joinPicked_32 ?_
  refine r_aload_n hX rfl 0 rfl dX0_joinPicked_33 ?_
  refine r_getf hX fl_X0_77 hys rfl dX0_joinPicked_34 ?_
  refine r_callVR (As := [.ref y.2.1.2]) (rest := []) (rv := some (.null)) (st1 := [.null]) hX cs_X0_81 (by decide) (fun l => c_last_none l G h top s be0 be Q J y.2.1.2 hl) hbk rfl rfl rfl rfl (Nat.le_of_ble_eq_true rfl) dX0_joinPicked_37 ?_
  refine r_astore_nN (lv' := [(3, .null), (2, .ref y.1), (1, .int (nI i)), (0, .ref (z_b G + 11))]) hX rfl (by decide) rfl dX0_joinPicked_40 ?_
  refine r_aload_nN hX rfl 0 rfl dX0_joinPicked_41 ?_
  refine r_ifnullN (tgt := 59) hX rfl dX0_joinPicked_42 ?_
  refine r_lv [1, 2, 3] (lv2 := [(2, .ref y.1), (1, .int (nI i)), (0, .ref (z_b G + 11))]) rfl ?_
  exact f_jn59 s be0 be Q i y J (by omega) hy (fun h9 t9 b9 J9 => ih h9 t9 b9 (by rw [zm_js_none hl]; exact J9)) hX hq

set_option maxRecDepth 20000 in
set_option maxHeartbeats 4000000 in
theorem f_jnS {X : zX} {G : zG} {h : zH} {top : Nat} {Post : Option Value → zH → Nat → Prop} (s : zS) (be0 be : zB) (Q : List zQ) (pkl : List zSgt) (hpk0 : b_pk be0 = pkl.map (fun x => x.1)) (hpm : ∀ z ∈ pkl, z ∈ s_sgts s) (hpn : pkl.length ≤ 60) (i : Nat) (y : zSgt) (hyi : pkl[i]? = some y) (J : z_JI G s be0 be Q h top) (hQ : Q.length ≤ i) (k : Nat) (hl : zm_last Q y.2.1.2 = some k) (ih : ∀ (h : zH) (top : Nat) (be : zB), z_JI G s be0 be (zm_joinStep Q y) h top → z_Z X h top 9 [(1, .int (nI (i + 1))), (0, .ref (z_b G + 11))] []) (hX : z_ok X cX0_joinPicked 4 RX0 none "joinPicked" 9 G) (hq : z_mq X (Post)) : z_Z X h top 9 [(1, .int (nI i)), (0, .ref (z_b G + 11))] [] := by
  have H := J.1
  have hbk := H.bk
  have hl4 := H.l4
  have elen : (b_pk be).length = pkl.length := by rw [J.2.2.2.2.1, hpk0, List.length_map]
  rw [elen] at hl4
  have hl41 := hl4.1
  have hlt : i < pkl.length := (List.getElem?_eq_some_iff.mp hyi).1
  have hy := hpm y (List.mem_of_getElem? hyi)
  obtain ⟨iy, hiy⟩ := List.getElem?_of_mem hy
  have hys := H.sgt hiy
  have hgi : (b_pk be)[i]? = some y.1 := by rw [J.2.2.2.2.1, hpk0]; exact z_mapget hyi
  obtain ⟨q, hqk, hqs⟩ := zm_last_lt hl
  obtain ⟨p, hp1, hp2, hp3⟩ := J.at hqk
  have hps := H.pas hp1
  have hpm2 : p.2.2.1 = q.2.1 := by rw [← hp2]; rfl
  refine r_iload_n hX rfl 0 rfl dX0_joinPicked_9 ?_
  refine r_aload_n hX rfl 1 rfl dX0_joinPicked_10 ?_
  refine r_getf hX fl_X0_12 hbk rfl dX0_joinPicked_11 ?_
  refine r_callVR (As := []) (rest := [.int (nI i)]) (rv := some (.int (nI pkl.length))) (st1 := [.int (nI pkl.length), .int (nI i)]) hX cs_X0_27 (by decide) (fun l => z_size hl4 l) hl41 rfl rfl rfl rfl (Nat.le_of_ble_eq_true rfl) dX0_joinPicked_14 ?_
  refine r_icmp_ge (tgt := 92) hX dX0_joinPicked_17 rfl (fun c => False.elim (absurd c (nI_ge hlt (by omega)))) (fun _ => ?_)
  refine r_aload_n hX rfl 1 rfl dX0_joinPicked_20 ?_
  refine r_getf hX fl_X0_12 hbk rfl dX0_joinPicked_21 ?_
  refine r_iload_n hX rfl 0 rfl dX0_joinPicked_24 ?_
  refine r_callVR (As := [.int (nI i)]) (rest := []) (rv := some (.ref y.1)) (st1 := [.ref y.1]) hX cs_X0_55 (by decide) (fun l => z_get hl4 hlt hgi l) hl41 rfl rfl rfl rfl (Nat.le_of_ble_eq_true rfl) dX0_joinPicked_25 ?_
  refine r_cast (ci := 5) hX rfl hys cl_X0_59 dX0_joinPicked_28 ?_
  refine r_astore_n (lv' := [(2, .ref y.1), (1, .int (nI i)), (0, .ref (z_b G + 11))]) hX rfl (by decide) rfl dX0_joinPicked_31 ?_
  refine r_aload_n hX rfl 2 rfl dX0_joinPicked_32 ?_
  refine r_aload_n hX rfl 0 rfl dX0_joinPicked_33 ?_
  refine r_getf hX fl_X0_77 hys rfl dX0_joinPicked_34 ?_
  refine r_callVR (As := [.ref y.2.1.2]) (rest := []) (rv := some (.ref p.1)) (st1 := [.ref p.1]) hX cs_X0_81 (by decide) (fun l => c_last_some l G h top s be0 be Q J y.2.1.2 hl hp1) hbk rfl rfl rfl rfl (Nat.le_of_ble_eq_true rfl) dX0_joinPicked_37 ?_
  refine r_astore_n (lv' := [(3, .ref p.1), (2, .ref y.1), (1, .int (nI i)), (0, .ref (z_b G + 11))]) hX rfl (by decide) rfl dX0_joinPicked_40 ?_
  refine r_aload_n hX rfl 0 rfl dX0_joinPicked_41 ?_
  refine r_ifnull hX dX0_joinPicked_42 ?_
  refine r_aload_n hX rfl 1 rfl dX0_joinPicked_45 ?_
  refine r_getf hX fl_X0_85 hys rfl dX0_joinPicked_46 ?_
  refine r_aload_n hX rfl 0 rfl dX0_joinPicked_49 ?_
  refine r_getf hX fl_X0_88 hps rfl dX0_joinPicked_50 ?_
  refine r_isub hX dX0_joinPicked_53 ?_
  refine r_bipush (v := 15) hX (by decide) dX0_joinPicked_54 ?_
  refine r_icmp_le (tgt := 81) hX dX0_joinPicked_56 rfl (fun c56 => ?_) (fun c56 => ?_)
  · skip
    refine r_lv [0, 1, 2, 3] (lv2 := [(3, .ref p.1), (2, .ref y.1), (1, .int (nI i)), (0, .ref (z_b G + 11))]) rfl ?_
    exact f_jn81 s be0 be Q i k q p y J hqk hp1 hp2 hy (fun h9 t9 b9 J9 => ih h9 t9 b9 (by rw [zm_js_old hl hqk (by rw [← hpm2]; exact Int32.not_lt.mpr c56)]; exact J9)) hX hq
  · skip
    refine r_lv [1, 2, 3] (lv2 := [(2, .ref y.1), (1, .int (nI i)), (0, .ref (z_b G + 11))]) rfl ?_
    exact f_jn59 s be0 be Q i y J (by omega) hy (fun h9 t9 b9 J9 => ih h9 t9 b9 (by rw [zm_js_new hl hqk (by rw [← hpm2]; exact Int32.not_le.mp c56)]; exact J9)) hX hq

set_option maxRecDepth 20000 in
set_option maxHeartbeats 4000000 in
theorem f_jnE {X : zX} {G : zG} {h : zH} {top : Nat} {Post : Option Value → zH → Nat → Prop} (s : zS) (be0 be : zB) (Q : List zQ) (pkl : List zSgt) (hpk0 : b_pk be0 = pkl.map (fun x => x.1)) (i : Nat) (J : z_JI G s be0 be Q h top) (hge : pkl.length ≤ i) (hi : i ≤ 60) (hp : Post none h top) (hX : z_ok X cX0_joinPicked 4 RX0 none "joinPicked" 9 G) (hq : z_mq X (Post)) : z_Z X h top 9 [(1, .int (nI i)), (0, .ref (z_b G + 11))] [] := by
  have H := J.1
  have hbk := H.bk
  have hl4 := H.l4
  have elen : (b_pk be).length = pkl.length := by rw [J.2.2.2.2.1, hpk0, List.length_map]
  rw [elen] at hl4
  have hl41 := hl4.1
  refine r_iload_n hX rfl 0 rfl dX0_joinPicked_9 ?_
  refine r_aload_n hX rfl 1 rfl dX0_joinPicked_10 ?_
  refine r_getf hX fl_X0_12 hbk rfl dX0_joinPicked_11 ?_
  refine r_callVR (As := []) (rest := [.int (nI i)]) (rv := some (.int (nI pkl.length))) (st1 := [.int (nI pkl.length), .int (nI i)]) hX cs_X0_27 (by decide) (fun l => z_size hl4 l) hl41 rfl rfl rfl rfl (Nat.le_of_ble_eq_true rfl) dX0_joinPicked_14 ?_
  refine r_icmp_ge (tgt := 92) hX dX0_joinPicked_17 rfl (fun _ => ?_) (fun c => False.elim (c (nI_le hge (by omega))))
  exact r_vret hX hq hp dX0_joinPicked_92

theorem f_jn {X : zX} {G : zG} {Post : Option Value → zH → Nat → Prop} (s : zS) (be0 : zB) (pkl : List zSgt) (hpk0 : b_pk be0 = pkl.map (fun x => x.1)) (hpm : ∀ z ∈ pkl, z ∈ s_sgts s) (hpn : pkl.length ≤ 60) (hX : z_ok X cX0_joinPicked 4 RX0 none "joinPicked" 9 G) (hq : z_mq X Post) (hp : ∀ (h : zH) (top : Nat) (be : zB), z_JI G s be0 be (zm_join pkl) h top → Post none h top) : ∀ (k i : Nat) (h : zH) (top : Nat) (be : zB) (Q : List zQ), pkl.length - i < k → i ≤ pkl.length → z_JI G s be0 be Q h top → Q = (pkl.take i).foldl zm_joinStep [] → Q.length ≤ i → z_Z X h top 9 [(1, .int (nI i)), (0, .ref (z_b G + 11))] [] := by
  intro k
  induction k with
  | zero => intros; omega
  | succ k ih =>
    intro i h top be Q hk hi J hQe hQl
    rcases Nat.lt_or_ge i pkl.length with hlt | hge
    · have hyi := List.getElem?_eq_getElem hlt
      have hnext : ∀ (h : zH) (top : Nat) (be : zB), z_JI G s be0 be (zm_joinStep Q pkl[i]) h top → z_Z X h top 9 [(1, .int (nI (i + 1))), (0, .ref (z_b G + 11))] [] := fun h9 t9 b9 J9 => ih (i + 1) h9 t9 b9 _ (by omega) (by omega) J9 (by rw [zm_take _ _ _ hyi, ← hQe]) (Nat.le_trans (zm_joinStep_len _ _) (by omega))
      cases hl : zm_last Q pkl[i].2.1.2 with
      | none => exact f_jnN s be0 be Q pkl hpk0 hpm hpn i _ hyi J hQl hl hnext hX hq
      | some m => exact f_jnS s be0 be Q pkl hpk0 hpm hpn i _ hyi J hQl m hl hnext hX hq
    · refine f_jnE s be0 be Q pkl hpk0 i J hge (by omega) (hp h top be ?_) hX hq
      rw [hQe, List.take_of_length_le hge] at J
      exact J
set_option maxRecDepth 20000 in
set_option maxHeartbeats 4000000 in
theorem c_X0_joinPicked (l : Launch) (G : zG) (h : zH) (top : Nat) (s : zS) (be : zB) (pkl : List zSgt) (H : z_St G s be h top) (hpu : b_pu be = nI 0) (hpk : b_pk be = pkl.map (fun x => x.1)) (hpm : ∀ z ∈ pkl, z ∈ s_sgts s) (hpn : pkl.length ≤ 60) : z_Ct l yX0_joinPicked cX0_joinPicked 4 none 9 G [.ref (z_b G + 11)] h top (fun r h' top' => r = none ∧ ∃ be2, z_JI G s be be2 (zm_join pkl) h' top') := by
  refine z_of (own := RX0) (nm := "joinPicked") (by decide) rfl rfl (by decide) (Nat.le_of_ble_eq_true rfl) (fun X hX hq => ?_)
  replace hX : z_ok X cX0_joinPicked 4 RX0 none "joinPicked" 9 G := hX
  show z_Z X h top 0 [(0, .ref (z_b G + 11))] []
  have hbk := H.bk
  have hl51 := H.l5.1
  refine r_aload_n hX rfl 0 rfl dX0_joinPicked_0 ?_
  refine r_getf hX fl_X0_18 hbk rfl dX0_joinPicked_1 ?_
  refine r_callV (As := []) (rest := []) hX cs_X0_42 (by decide) (fun l => c_Jx4a65c_clear_da8c8 l G h top (z_b G + 13) (b_ls be 5).2.1 (b_jn be).length (b_ls be 5).2.2 (b_ls be 5).1 (fun q : Nat => (b_jn be)[q]?) H.l5 (by have := H.2.2.2.2; omega)) hl51 rfl rfl rfl (Nat.le_of_ble_eq_true rfl) dX0_joinPicked_4 (fun r1 h1 top1 hp1 => ?_)
  obtain ⟨rfl, rfl, m5, f5, hA5, hf5⟩ := hp1
  obtain ⟨l5, H2⟩ := H.clrB 5 (Or.inr (Or.inl rfl)) hA5 hf5
  refine r_iconst (v := 0) hX (by decide) dX0_joinPicked_7 ?_
  refine r_istore_n (lv' := [(1, .int 0), (0, .ref (z_b G + 11))]) hX rfl (by decide) rfl dX0_joinPicked_8 ?_
  rw [← nI_0]
  refine r_lv [0, 1] (lv2 := [(1, .int (nI 0)), (0, .ref (z_b G + 11))]) rfl ?_
  exact f_jn s be pkl hpk hpm hpn hX hq (fun h9 t9 b9 J9 => ⟨rfl, b9, J9⟩) (pkl.length + 1) 0 h1 top1 _ [] (by omega) (by omega) ⟨H2, hpu, rfl, rfl, rfl, rfl, rfl, rfl⟩ rfl (Nat.le_refl _)

