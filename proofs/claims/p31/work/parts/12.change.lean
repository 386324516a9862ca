/-! changes of the state -/
section CH
variable {G : zG} {s : zS} {be : zB} {h : zH} {top : Nat}
/-- the contents behind an add, as a list -/
theorem z_padd_els {a e cap i x : Nat} {els els2 : List Nat} {rv r : Option Value} {h2 : zH} {top2 : Nat} (hp : z_PAdd G h top a e els.length cap (fun q : Nat => els[q]?) i x rv r h2 top2) (hi : i ≤ els.length) (h2e : els2 = els.insertIdx i x) : r = rv ∧ ∃ (m' : Int32) (e' cap' : Nat), z_AL G h2 top2 a m' e' els2.length cap' (fun q : Nat => els2[q]?) ∧ (∀ q, q < top → q ≠ a → q ≠ e → h2 q = h q) ∧ ((els.length < cap ∧ e' = e ∧ cap' = cap ∧ top2 = top) ∨ (els.length = cap ∧ e' = top ∧ cap' = z_gr cap ∧ top2 = top + 1)) := by
  obtain ⟨h1, m', e', cap', f', g1, g2, g3, g4, g5, g6⟩ := hp
  have hlen : els2.length = els.length + 1 := by rw [h2e, List.length_insertIdx_of_le_length hi]
  have hf : f' = fun q : Nat => els2[q]? := by
    funext q
    rw [h2e, List.getElem?_insertIdx]
    rcases Nat.lt_trichotomy q i with w | w | w
    · rw [if_pos w, g2 q w]
    · rw [w, if_neg (Nat.lt_irrefl _), if_pos rfl, if_pos hi, g3]
    · rw [if_neg (by omega), if_neg (by omega)]
      rcases Nat.lt_or_ge q (els.length + 1) with v | v
      · have := g4 (q - 1) (by omega) (by omega)
        rw [show q - 1 + 1 = q by omega] at this
        exact this
      · rw [g1.2.2.2.1 q v, List.getElem?_eq_none (by omega)]
  refine ⟨h1, m', e', cap', by rw [hlen, ← hf]; exact g1, g5, ?_⟩
  rcases g6 with w | ⟨w1, w2, w3, w4⟩
  · exact Or.inl w
  · exact Or.inr ⟨w1, w2, by rw [w3, w1], w4⟩
theorem z_gsum_upd {be2 : zB} {j : Nat} (hj : j < 8) (hls : ∀ k, k ≠ j → b_ls be2 k = b_ls be k) : z_gsum be2 + z_gi (b_ls be j).2.2 = z_gsum be + z_gi (b_ls be2 j).2.2 := by
  unfold z_gsum
  rcases (show j = 0 ∨ j = 1 ∨ j = 2 ∨ j = 3 ∨ j = 4 ∨ j = 5 ∨ j = 6 ∨ j = 7 by omega) with rfl | rfl | rfl | rfl | rfl | rfl | rfl | rfl
  all_goals
    first
    | (rw [hls 1 (by decide), hls 2 (by decide), hls 3 (by decide), hls 4 (by decide), hls 5 (by decide), hls 6 (by decide), hls 7 (by decide)]; omega)
    | (rw [hls 0 (by decide), hls 2 (by decide), hls 3 (by decide), hls 4 (by decide), hls 5 (by decide), hls 6 (by decide), hls 7 (by decide)]; omega)
    | (rw [hls 0 (by decide), hls 1 (by decide), hls 3 (by decide), hls 4 (by decide), hls 5 (by decide), hls 6 (by decide), hls 7 (by decide)]; omega)
    | (rw [hls 0 (by decide), hls 1 (by decide), hls 2 (by decide), hls 4 (by decide), hls 5 (by decide), hls 6 (by decide), hls 7 (by decide)]; omega)
    | (rw [hls 0 (by decide), hls 1 (by decide), hls 2 (by decide), hls 3 (by decide), hls 5 (by decide), hls 6 (by decide), hls 7 (by decide)]; omega)
    | (rw [hls 0 (by decide), hls 1 (by decide), hls 2 (by decide), hls 3 (by decide), hls 4 (by decide), hls 6 (by decide), hls 7 (by decide)]; omega)
    | (rw [hls 0 (by decide), hls 1 (by decide), hls 2 (by decide), hls 3 (by decide), hls 4 (by decide), hls 5 (by decide), hls 7 (by decide)]; omega)
    | (rw [hls 0 (by decide), hls 1 (by decide), hls 2 (by decide), hls 3 (by decide), hls 4 (by decide), hls 5 (by decide), hls 6 (by decide)]; omega)
/-- a list has changed in one of the two ways, and with it the objects of P have come -/
theorem z_St.chg {s2 : zS} {be2 : zB} {h2 : zH} {top2 : Nat} (t1 : Nat) (ht1 : top ≤ t1) (H : z_St G s be h top) (j : Nat) (hj : j < 8) (P : Nat → Nat → Prop) (hP : ∀ k i, P k i → 3 ≤ k)
    (hl : z_AL G h2 top2 (z_la (z_b G) j) (b_ls be2 j).1 (b_ls be2 j).2.1 (z_els s2 be2 j).length (b_ls be2 j).2.2 (fun i : Nat => (z_els s2 be2 j)[i]?))
    (hf : ∀ q, q < top → q ≠ z_la (z_b G) j → q ≠ (b_ls be j).2.1 → h2 q = h q)
    (hc : ((b_ls be2 j).2.1 = (b_ls be j).2.1 ∧ (b_ls be2 j).2.2 = (b_ls be j).2.2 ∧ top2 = t1) ∨ ((b_ls be j).2.2 ≤ 120 ∧ (b_ls be2 j).2.1 = t1 ∧ (b_ls be2 j).2.2 = z_gr (b_ls be j).2.2 ∧ top2 = t1 + 1))
    (hls : ∀ k, k ≠ j → b_ls be2 k = b_ls be k) (hels : ∀ k, k ≠ j → k < 8 → z_els s2 be2 k = z_els s be k)
    (h1 : ∀ k i, ¬ P k i → ¬ (k = 1 ∧ i = j) → ¬ (k = 2 ∧ i = j) → z_ct G s2 be2 k i = z_ct G s be k i)
    (hn : ∀ k i a e, P k i → z_ct G s2 be2 k i = some (a, e) → z_at G h2 top2 a e ∧ (∀ k' i' e', z_ct G s be k' i' = some (a, e') → False) ∧ a ≠ (b_ls be2 j).2.1)
    (hn2 : ∀ k i k' i' a e e', P k i → P k' i' → z_ct G s2 be2 k i = some (a, e) → z_ct G s2 be2 k' i' = some (a, e') → k = k' ∧ i = i')
    (hacc : t1 ≤ z_b G + 17 + 3 * (s_segs s2).length + (s_vehs s2).length + (s_tars s2).length + (s_sgts s2).length + (b_pool be2).length + z_gsum be) (hbd : (s_segs s2).length ≤ 8 ∧ (s_vehs s2).length ≤ 3 ∧ (s_tars s2).length ≤ 5 ∧ (s_sgts s2).length ≤ 60 ∧ (b_pool be2).length ≤ 120)
    (hv : z_val s2 be2) : z_St G s2 be2 h2 top2 := by
  obtain ⟨R, hL, hA, hV, htE⟩ := H
  have hgs := z_gsum_upd (be := be) (be2 := be2) hj hls
  refine ⟨R.lst hL j hj P hP (by omega) hl (hc.elim (fun w => Or.inl w.1) (fun w => Or.inr (by rw [w.2.1]; exact ht1))) htE hf h1 hn hn2, fun k hk => ?_, ⟨fun k hk => ?_, ?_, hbd⟩, hv, htE⟩
  · by_cases q : k = j
    · subst q
      refine ⟨hl.2.1, hl.2.2.1, fun z => ?_⟩
      rcases hl.2.2.2.2 with w | w
      · exact w.2
      · omega
    · rw [hls k q, hels k q hk]
      exact hL k hk
  · by_cases q : k = j
    · subst q
      rcases hc with w | w
      · rw [w.2.1]; exact hA.1 k hj
      · rw [w.2.2.1]; exact (z_gr_caps (hA.1 k hj) w.1).1
    · rw [hls k q]; exact hA.1 k hk
  · rcases hc with w | w
    · rw [w.2.1] at hgs
      omega
    · rw [w.2.2.1, (z_gr_caps (hA.1 j hj) w.1).2] at hgs
      omega
/-- the book's own three lists -/
def z_setL (be : zB) (j : Nat) (els : List Nat) (l : Int32 × Nat × Nat) : zB := (be.1, be.2.1, be.2.2.1, (if j = 4 then els else b_pk be, if j = 5 then els else b_jn be, if j = 6 then els else b_rw be), va_up (b_ls be) j l)
theorem z_setL_els (j : Nat) (hj : j = 4 ∨ j = 5 ∨ j = 6) (els : List Nat) (l : Int32 × Nat × Nat) : z_els s (z_setL be j els l) j = els ∧ (∀ k, k ≠ j → k < 8 → z_els s (z_setL be j els l) k = z_els s be k) ∧ b_ls (z_setL be j els l) j = l ∧ (∀ k, k ≠ j → b_ls (z_setL be j els l) k = b_ls be k) ∧ ∀ k i, ¬ (k = 1 ∧ i = j) → ¬ (k = 2 ∧ i = j) → z_ct G s (z_setL be j els l) k i = z_ct G s be k i := by
  have hk : ∀ k, k ≠ j → k < 8 → z_els s (z_setL be j els l) k = z_els s be k := by
    intro k hk hk8
    rcases (show k = 0 ∨ k = 1 ∨ k = 2 ∨ k = 3 ∨ k = 4 ∨ k = 5 ∨ k = 6 ∨ k = 7 by omega) with rfl | rfl | rfl | rfl | rfl | rfl | rfl | rfl <;> first | rfl | (show (if _ then _ else _) = _; rw [if_neg (fun z => hk z.symm)]; rfl)
  have hl : ∀ k, k ≠ j → b_ls (z_setL be j els l) k = b_ls be k := fun k hk => by
    show va_up (b_ls be) j l k = _
    simp [va_up, hk]
  refine ⟨by rcases hj with rfl | rfl | rfl <;> rfl, hk, by show va_up (b_ls be) j l j = l; simp [va_up], hl, fun k i h1 h2 => ?_⟩
  match k with
  | 0 =>
    match i with
    | 0 => rfl
    | 1 => rfl
    | 2 => rfl
    | 3 => rfl
    | 4 => rfl
    | 5 => rfl
    | 6 => rfl
    | 7 => rfl
    | 8 => rfl
    | i + 9 => rfl
  | 1 =>
    rw [z_ct1, z_ct1]
    by_cases q : i < 8
    · rw [if_pos q, if_pos q, hl i (fun z => h1 ⟨rfl, z⟩), hk i (fun z => h1 ⟨rfl, z⟩) q]
    · rw [if_neg q, if_neg q]
  | 2 =>
    rw [z_ct2, z_ct2, hl i (fun z => h2 ⟨rfl, z⟩)]
    by_cases q : i < 8 ∧ 0 < (b_ls be i).2.2
    · rw [if_pos q, if_pos q, hk i (fun z => h2 ⟨rfl, z⟩) q.1]
    · rw [if_neg q, if_neg q]
  | 3 => rfl
  | 4 => rfl
  | 5 => rfl
  | 6 => rfl
  | 7 => rfl
  | k + 8 => rw [z_ct8 _ _ _ _ _ (by omega), z_ct8 _ _ _ _ _ (by omega)]
theorem z_St.addB (H : z_St G s be h top) (j : Nat) (hj : j = 4 ∨ j = 5 ∨ j = 6) {i x : Nat} {rv r : Option Value} {h2 : zH} {top2 : Nat} (hp : z_PAdd G h top (z_la (z_b G) j) (b_ls be j).2.1 (z_els s be j).length (b_ls be j).2.2 (fun q : Nat => (z_els s be j)[q]?) i x rv r h2 top2) (hi : i ≤ (z_els s be j).length) (hlen : (z_els s be j).length ≤ 120) : r = rv ∧ ∃ l, z_St G s (z_setL be j ((z_els s be j).insertIdx i x) l) h2 top2 := by
  obtain ⟨h1, m', e', cap', g1, g2, g3⟩ := z_padd_els hp hi rfl
  have hj8 : j < 8 := by omega
  obtain ⟨q1, q2, q3, q4, q5⟩ := z_setL_els (G := G) (s := s) (be := be) j hj ((z_els s be j).insertIdx i x) (m', e', cap')
  refine ⟨h1, (m', e', cap'), z_St.chg top (Nat.le_refl _) H j hj8 (fun _ _ => False) (fun _ _ z => z.elim) (by rw [q1, q3]; exact g1) g2 ?_ q4 q2 (fun k i _ => q5 k i) (fun _ _ _ _ z => z.elim) (fun _ _ _ _ _ _ _ z => z.elim) H.2.2.1.2.1 H.2.2.1.2.2 H.2.2.2.1⟩
  rw [q3]
  rcases g3 with w | w
  · exact Or.inl ⟨w.2.1, w.2.2.1, w.2.2.2⟩
  · exact Or.inr ⟨by omega, w.2.1, w.2.2.1, w.2.2.2⟩
theorem z_St.clrB (H : z_St G s be h top) (j : Nat) (hj : j = 4 ∨ j = 5 ∨ j = 6) {m' : Int32} {f' : Nat → Option Nat} {h2 : zH} (hA : z_AL G h2 top (z_la (z_b G) j) m' (b_ls be j).2.1 0 (b_ls be j).2.2 f') (hf : ∀ q, q ≠ z_la (z_b G) j → q ≠ (b_ls be j).2.1 → h2 q = h q) : ∃ l, z_St G s (z_setL be j [] l) h2 top := by
  have hj8 : j < 8 := by omega
  obtain ⟨q1, q2, q3, q4, q5⟩ := z_setL_els (G := G) (s := s) (be := be) j hj [] (m', (b_ls be j).2.1, (b_ls be j).2.2)
  have hf' : f' = fun i : Nat => ([] : List Nat)[i]? := by
    funext i
    rw [hA.2.2.2.1 i (Nat.zero_le _)]
    rfl
  rw [hf'] at hA
  refine ⟨(m', (b_ls be j).2.1, (b_ls be j).2.2), z_St.chg top (Nat.le_refl _) H j hj8 (fun _ _ => False) (fun _ _ z => z.elim) (by rw [q1, q3]; exact hA) (fun q _ => hf q) (Or.inl (by rw [q3]; exact ⟨rfl, rfl, rfl⟩)) q4 q2 (fun k i _ => q5 k i) (fun _ _ _ _ z => z.elim) (fun _ _ _ _ _ _ _ z => z.elim) H.2.2.1.2.1 H.2.2.1.2.2 H.2.2.2.1⟩
theorem z_map_set {α : Type} {l : List (Nat × α)} {i : Nat} {x y : Nat × α} (hx : l[i]? = some x) (h : y.1 = x.1) : (l.set i y).map (fun z => z.1) = l.map (fun z => z.1) := by
  apply List.ext_getElem?
  intro k
  rw [List.getElem?_map, List.getElem?_map]
  by_cases q : k = i
  · subst q
    rw [List.getElem?_set_self (List.getElem?_eq_some_iff.mp hx).1, hx]
    simp [h]
  · rw [List.getElem?_set_ne (fun z => q z.symm)]
theorem z_ct_ls {s2 : zS} {be2 : zB} (hels : ∀ j, j < 8 → z_els s2 be2 j = z_els s be j) (hls : b_ls be2 = b_ls be) (k : Nat) (hk : k = 1 ∨ k = 2) (i : Nat) : z_ct G s2 be2 k i = z_ct G s be k i := by
  rcases hk with rfl | rfl
  · rw [z_ct1, z_ct1, hls]
    by_cases q : i < 8
    · rw [if_pos q, if_pos q, hels i q]
    · rw [if_neg q, if_neg q]
  · rw [z_ct2, z_ct2, hls]
    by_cases q : i < 8 ∧ 0 < (b_ls be i).2.2
    · rw [if_pos q, if_pos q, hels i q.1]
    · rw [if_neg q, if_neg q]
/-- one object's content changes -/
theorem z_St.obj {s2 : zS} {be2 : zB} (H : z_St G s be h top) (k i : Nat) {a : Nat} {e e0 : va_E} (hk : z_ct G s be k i = some (a, e0)) (hk2 : z_ct G s2 be2 k i = some (a, e)) (hc : ∀ k' i', ¬ (k' = k ∧ i' = i) → z_ct G s2 be2 k' i' = z_ct G s be k' i') (hels : ∀ j, j < 8 → z_els s2 be2 j = z_els s be j) (hls : b_ls be2 = b_ls be) (hv : z_val s2 be2) : z_St G s2 be2 (va_up h a e) top := by
  obtain ⟨R, hL, hA, hV, htE⟩ := H
  have n0 : (s_segs s2).length = (s_segs s).length := by have q := congrArg List.length (hels 0 (by decide)); simpa [z_els] using q
  have n1 : (s_vehs s2).length = (s_vehs s).length := by have q := congrArg List.length (hels 1 (by decide)); simpa [z_els] using q
  have n2 : (s_sgts s2).length = (s_sgts s).length := by have q := congrArg List.length (hels 2 (by decide)); simpa [z_els] using q
  have n3 : (s_tars s2).length = (s_tars s).length := by have q := congrArg List.length (hels 3 (by decide)); simpa [z_els] using q
  have n7 : (b_pool be2).length = (b_pool be).length := by have q := congrArg List.length (hels 7 (by decide)); simpa [z_els] using q
  refine ⟨R.set k i hk hk2 hc, fun j hj => ?_, ?_, hv, htE⟩
  · rw [hels j hj, hls]
    exact hL j hj
  · have gs : z_gsum be2 = z_gsum be := by unfold z_gsum; rw [hls]
    unfold z_acc at *
    rw [n0, n1, n2, n3, n7, gs, hls]
    exact hA
def z_setPool (be : zB) (pool : List zPas) : zB := (be.1, be.2.1, pool, be.2.2.2)
def z_setBk (be : zB) (pu ct : Int32) : zB := (be.1, (pu, ct), be.2.2)
def z_setRch (be : zB) (f : Nat → Int32) : zB := (f, be.2)
theorem z_St.setPas (H : z_St G s be h top) {i : Nat} {p p2 : zPas} (hp : (b_pool be)[i]? = some p) (ha : p2.1 = p.1) (hs : z_isSeg s p2.2.1) : z_St G s (z_setPool be ((b_pool be).set i p2)) (va_up h p.1 (z_pasC p2)) top := by
  have hi : i < (b_pool be).length := (List.getElem?_eq_some_iff.mp hp).1
  refine H.obj 7 i (e0 := z_pasC p) (by rw [z_ct7, hp]; rfl) ?_ (fun k' i' hne => ?_) (fun j hj => ?_) rfl ⟨H.2.2.2.1.1, fun q hq => ?_⟩
  · rw [z_ct7]
    show (((b_pool be).set i p2)[i]?).map _ = _
    rw [List.getElem?_set_self hi]
    simp [ha]
  · match k' with
    | 0 => match i' with
      | 0 => rfl
      | 1 => rfl
      | 2 => rfl
      | 3 => rfl
      | 4 => rfl
      | 5 => rfl
      | 6 => rfl
      | 7 => rfl
      | 8 => rfl
      | i' + 9 => rfl
    | 1 =>
      rw [z_ct1, z_ct1]
      by_cases q : i' < 8
      · rw [if_pos q, if_pos q]
        have : (z_els s (z_setPool be ((b_pool be).set i p2)) i').length = (z_els s be i').length := by
          rcases (show i' = 0 ∨ i' = 1 ∨ i' = 2 ∨ i' = 3 ∨ i' = 4 ∨ i' = 5 ∨ i' = 6 ∨ i' = 7 by omega) with rfl | rfl | rfl | rfl | rfl | rfl | rfl | rfl <;> first | rfl | (show (((b_pool be).set i p2).map _).length = ((b_pool be).map _).length; simp)
        rw [this]
        rfl
      · rw [if_neg q, if_neg q]
    | 2 =>
      rw [z_ct2, z_ct2]
      by_cases q : i' < 8 ∧ 0 < (b_ls be i').2.2
      · rw [if_pos q, if_pos (show i' < 8 ∧ 0 < (b_ls (z_setPool be ((b_pool be).set i p2)) i').2.2 from q)]
        have : z_els s (z_setPool be ((b_pool be).set i p2)) i' = z_els s be i' := by
          have q1 := q.1
          rcases (show i' = 0 ∨ i' = 1 ∨ i' = 2 ∨ i' = 3 ∨ i' = 4 ∨ i' = 5 ∨ i' = 6 ∨ i' = 7 by omega) with rfl | rfl | rfl | rfl | rfl | rfl | rfl | rfl <;> first | rfl | exact z_map_set hp ha
        rw [this]
        rfl
      · rw [if_neg q, if_neg (show ¬ (i' < 8 ∧ 0 < (b_ls (z_setPool be ((b_pool be).set i p2)) i').2.2) from q)]
    | 3 => rfl
    | 4 => rfl
    | 5 => rfl
    | 6 => rfl
    | 7 =>
      rw [z_ct7, z_ct7]
      show (((b_pool be).set i p2)[i']?).map _ = _
      rw [List.getElem?_set_ne (fun z => hne ⟨rfl, z.symm⟩)]
    | k + 8 => rw [z_ct8 _ _ _ _ _ (by omega), z_ct8 _ _ _ _ _ (by omega)]
  · rcases (show j = 0 ∨ j = 1 ∨ j = 2 ∨ j = 3 ∨ j = 4 ∨ j = 5 ∨ j = 6 ∨ j = 7 by omega) with rfl | rfl | rfl | rfl | rfl | rfl | rfl | rfl <;> first | rfl | exact z_map_set hp ha
  · rcases List.mem_or_eq_of_mem_set hq with w | w
    · exact H.2.2.2.1.2 q w
    · rw [w]; exact hs
theorem z_St.setBk (H : z_St G s be h top) (pu ct : Int32) : z_St G s (z_setBk be pu ct) (va_up h (z_b G + 11) (z_bkC (z_b G) (z_setBk be pu ct))) top := by
  refine H.obj 0 3 (e0 := z_bkC (z_b G) be) rfl rfl (fun k' i' hne => ?_) (fun j hj => ?_) rfl H.2.2.2.1
  · match k' with
    | 0 => match i' with
      | 0 => rfl
      | 1 => rfl
      | 2 => rfl
      | 3 => exact absurd ⟨rfl, rfl⟩ hne
      | 4 => rfl
      | 5 => rfl
      | 6 => rfl
      | 7 => rfl
      | 8 => rfl
      | i' + 9 => rfl
    | 1 => exact z_ct_ls (fun j hj => by rcases (show j = 0 ∨ j = 1 ∨ j = 2 ∨ j = 3 ∨ j = 4 ∨ j = 5 ∨ j = 6 ∨ j = 7 by omega) with rfl | rfl | rfl | rfl | rfl | rfl | rfl | rfl <;> rfl) rfl 1 (Or.inl rfl) i'
    | 2 => exact z_ct_ls (fun j hj => by rcases (show j = 0 ∨ j = 1 ∨ j = 2 ∨ j = 3 ∨ j = 4 ∨ j = 5 ∨ j = 6 ∨ j = 7 by omega) with rfl | rfl | rfl | rfl | rfl | rfl | rfl | rfl <;> rfl) rfl 2 (Or.inr rfl) i'
    | 3 => rfl
    | 4 => rfl
    | 5 => rfl
    | 6 => rfl
    | 7 => rfl
    | k + 8 => rw [z_ct8 _ _ _ _ _ (by omega), z_ct8 _ _ _ _ _ (by omega)]
  · rcases (show j = 0 ∨ j = 1 ∨ j = 2 ∨ j = 3 ∨ j = 4 ∨ j = 5 ∨ j = 6 ∨ j = 7 by omega) with rfl | rfl | rfl | rfl | rfl | rfl | rfl | rfl <;> rfl
/-- an object more, at the end of its list -/
theorem z_St.addO {s2 : zS} (F : Int32 × Nat × Nat → zB) (t1 : Nat) (H : z_St G s be h top) (j k0 n x : Nat) (hj : j < 8) (hk0 : 3 ≤ k0) {e0 : va_E} {h1 h2 : zH} {top2 : Nat} {rv r : Option Value} (hx : top ≤ x) (hat : z_at G h1 t1 x e0) (hne : ∀ u, e0 ≠ .inl u) (hcl : ∀ fs, e0 ≠ .inr (0, fs)) (hfr : ∀ q, q < top → h1 q = h q)
    (hp : z_PAdd G h1 t1 (z_la (z_b G) j) (b_ls be j).2.1 (z_els s be j).length (b_ls be j).2.2 (fun q : Nat => (z_els s be j)[q]?) (z_els s be j).length x rv r h2 top2) (hlen : (z_els s be j).length ≤ 120)
    (hF : ∀ l, b_ls (F l) j = l ∧ (∀ k, k ≠ j → b_ls (F l) k = b_ls be k) ∧ z_els s2 (F l) j = z_els s be j ++ [x] ∧ (∀ k, k ≠ j → k < 8 → z_els s2 (F l) k = z_els s be k) ∧ z_ct G s2 (F l) k0 n = some (x, e0) ∧ (∀ k i, ¬ (k = k0 ∧ i = n) → ¬ (k = 1 ∧ i = j) → ¬ (k = 2 ∧ i = j) → z_ct G s2 (F l) k i = z_ct G s be k i) ∧ z_val s2 (F l) ∧ t1 ≤ z_b G + 17 + 3 * (s_segs s2).length + (s_vehs s2).length + (s_tars s2).length + (s_sgts s2).length + (b_pool (F l)).length + z_gsum be ∧ ((s_segs s2).length ≤ 8 ∧ (s_vehs s2).length ≤ 3 ∧ (s_tars s2).length ≤ 5 ∧ (s_sgts s2).length ≤ 60 ∧ (b_pool (F l)).length ≤ 120)) : r = rv ∧ ∃ l, z_St G s2 (F l) h2 top2 := by
  obtain ⟨hr, m', e', cap', g1, g2, g3⟩ := z_padd_els hp (Nat.le_refl _) rfl
  rw [List.insertIdx_length_self] at g1
  obtain ⟨q1, q2, q3, q4, q5, q6, q7, q8, q9⟩ := hF (m', e', cap')
  have hxt : x < t1 := hat.2.1
  have la8 : z_la (z_b G) j < top := (H.ls j hj).1.2.1
  have hab : top ≤ t1 := by omega
  have hx2 : x ≠ (b_ls be j).2.1 := by
    rcases (H.ls j hj).2.2.2.2 with w | w
    · intro z
      have e1 : x = z_tE G := z.trans w.2
      have := hat.1
      rw [e1] at this
      exact H.2.2.2.2 this
    · have := w.2.2.1
      omega
  refine ⟨hr, (m', e', cap'), z_St.chg t1 hab H j hj (fun k i => k = k0 ∧ i = n) (fun k i z => by rw [z.1]; exact hk0) (by rw [q3, q1]; exact g1) (fun q w1 w2 w3 => by rw [g2 q (by omega) w2 w3]; exact hfr q w1) ?_ q2 q4 q6 (fun k i a e z w => ?_) (fun k i k' i' a e e' z z' _ _ => ⟨z.1.trans z'.1.symm, z.2.trans z'.2.symm⟩) q8 q9 q7⟩
  · rw [q1]
    rcases g3 with w | w
    · exact Or.inl ⟨w.2.1, w.2.2.1, w.2.2.2⟩
    · exact Or.inr ⟨by omega, w.2.1, w.2.2.1, w.2.2.2⟩
  · obtain ⟨rfl, rfl⟩ := z
    rw [q5] at w
    cases w
    refine ⟨⟨hat.1, ?_, ?_⟩, fun k' i' e' w => ?_, ?_⟩
    · rcases g3 with v | v <;> omega
    · rw [g2 x hxt (by omega) hx2]
      exact hat.2.2
    · have := (H.1.1 _ _ _ _ w).2.1
      omega
    · rw [q1]
      rcases g3 with v | v
      · rw [show (m', e', cap').2.1 = (b_ls be j).2.1 from v.2.1]
        exact hx2
      · rw [show (m', e', cap').2.1 = t1 from v.2.1]
        omega
end CH
