/-! what is added -/
theorem z_at.fr {G : zG} {h h1 : zH} {top t1 a : Nat} {e : va_E} (ha : z_at G h top a e) (hf : ∀ q, q < top → h1 q = h q) (ht : top ≤ t1) : z_at G h1 t1 a e := ⟨ha.1, Nat.lt_of_lt_of_le ha.2.1 ht, (hf a ha.2.1).trans ha.2.2⟩
theorem z_AL.fr {G : zG} {h h1 : zH} {top t1 a : Nat} {m : Int32} {e n cap : Nat} {f : Nat → Option Nat} (hL : z_AL G h top a m e n cap f) (hf : ∀ q, q < top → h1 q = h q) (ht : top ≤ t1) : z_AL G h1 t1 a m e n cap f := by
  obtain ⟨h1, h2, h3, h4, h5⟩ := hL
  refine ⟨h1.fr hf ht, h2, h3, h4, ?_⟩
  rcases h5 with h5 | ⟨h5, he⟩
  · exact Or.inl h5
  · exact Or.inr ⟨h5, he.fr hf ht⟩
theorem z_ob.fr {G : zG} {h h1 : zH} {top t1 a : Nat} (ha : z_ob G h top a) (hf : ∀ q, q < top → h1 q = h q) (ht : top ≤ t1) : z_ob G h1 t1 a := by
  obtain ⟨ci, fs, r, h2, h3, h4⟩ := ha
  exact ⟨ci, fs, r, h2.fr hf ht, h3, h4⟩
def z_setLs (be : zB) (j : Nat) (l : Int32 × Nat × Nat) : zB := (be.1, be.2.1, b_pool be, be.2.2.2.1, va_up (b_ls be) j l)
def zs_segs (s : zS) (l : List zSeg) : zS := (s.1, s.2.1, l, s_vehs s, s_tars s, s_sgts s)
def zs_tars (s : zS) (l : List zTar) : zS := (s.1, s.2.1, s_segs s, s_vehs s, l, s_sgts s)
theorem z_isSeg.app {s : zS} {a : Nat} {l : List zSeg} (h : z_isSeg s a) : z_isSeg (zs_segs s (s_segs s ++ l)) a := by
  obtain ⟨i, x, h1, h2⟩ := h
  exact ⟨i, x, by show (s_segs s ++ l)[i]? = _; rw [List.getElem?_append_left (List.getElem?_eq_some_iff.mp h1).1]; exact h1, h2⟩
theorem z_isVeh.app {s : zS} {a : Nat} {l : List zVeh} (h : z_isVeh s a) : z_isVeh (zs_vehs s (s_vehs s ++ l)) a := by
  obtain ⟨i, x, h1, h2⟩ := h
  exact ⟨i, x, by show (s_vehs s ++ l)[i]? = _; rw [List.getElem?_append_left (List.getElem?_eq_some_iff.mp h1).1]; exact h1, h2⟩
theorem z_St.addSeg {G : zG} {s : zS} {be : zB} {h : zH} {top : Nat} (H : z_St G s be h top) {p : zSeg} (hp1 : p.1 = top) (hlen : (s_segs s).length < 8) {h1 : zH} {t1 : Nat} (ht1 : t1 = top + 3) (hat : z_at G h1 t1 top (z_segC (s_segs s).length p)) (hfr : ∀ q, q < top → h1 q = h q) {h2 : zH} {top2 : Nat} {rv r : Option Value} (hp : z_PAdd G h1 t1 (z_b G + 1) (b_ls be 0).2.1 (s_segs s).length (b_ls be 0).2.2 (fun q : Nat => ((s_segs s).map (fun x => x.1))[q]?) (s_segs s).length top rv r h2 top2) : r = rv ∧ ∃ l, z_St G (zs_segs s (s_segs s ++ [p])) (z_setLs be 0 l) h2 top2 := by
  have e7 : (z_els s be 0).length = (s_segs s).length := List.length_map _
  refine z_St.addO (s2 := zs_segs s (s_segs s ++ [p])) (z_setLs be 0) t1 H 0 3 (s_segs s).length top (by decide) (by decide) (e0 := z_segC (s_segs s).length p) (h1 := h1) (Nat.le_refl _) hat (fun u z => by cases z) (fun fs z => by cases z) hfr (by rw [e7]; exact hp) (by omega) (fun l => ⟨by show va_up (b_ls be) 0 l 0 = l; simp [va_up], fun k hk => by show va_up (b_ls be) 0 l k = _; simp [va_up, hk], ?_, ?_, ?_, ?_, ?_, ?_, ?_⟩)
  · show (s_segs s ++ [p]).map _ = (s_segs s).map _ ++ _
    rw [List.map_append, ← hp1]
    rfl
  · intro k hk hk8
    rcases (show k = 0 ∨ k = 1 ∨ k = 2 ∨ k = 3 ∨ k = 4 ∨ k = 5 ∨ k = 6 ∨ k = 7 by omega) with rfl | rfl | rfl | rfl | rfl | rfl | rfl | rfl <;> first | rfl | exact absurd rfl hk
  · rw [z_ct3]
    show ((s_segs s ++ [p])[(s_segs s).length]?).map _ = _
    rw [List.getElem?_append_right (Nat.le_refl _), Nat.sub_self]
    simp [hp1]
  · intro k i h1 h2 h3
    match k with
    | 0 => match i with
      | 0 => rfl
      | 1 => rfl
      | 2 => rfl
      | 3 => rfl
      | 4 => rfl
      | 5 => rfl
      | 6 => rfl
      | 7 => rfl
      | 8 => rfl
      | i + 9 => rfl
    | 1 =>
      rw [z_ct1, z_ct1]
      by_cases q : i < 8
      · have hi : i ≠ 0 := fun z => h2 ⟨rfl, z⟩
        have e1 : b_ls (z_setLs be 0 l) i = b_ls be i := by show va_up (b_ls be) 0 l i = _; simp [va_up, hi]
        have e2 : z_els (zs_segs s (s_segs s ++ [p])) (z_setLs be 0 l) i = z_els s be i := by
          rcases (show i = 0 ∨ i = 1 ∨ i = 2 ∨ i = 3 ∨ i = 4 ∨ i = 5 ∨ i = 6 ∨ i = 7 by omega) with rfl | rfl | rfl | rfl | rfl | rfl | rfl | rfl <;> first | rfl | exact absurd rfl hi
        rw [if_pos q, if_pos q, e1, e2]
      · rw [if_neg q, if_neg q]
    | 2 =>
      have hi : i ≠ 0 := fun z => h3 ⟨rfl, z⟩
      have e1 : b_ls (z_setLs be 0 l) i = b_ls be i := by show va_up (b_ls be) 0 l i = _; simp [va_up, hi]
      rw [z_ct2, z_ct2, e1]
      by_cases q : i < 8 ∧ 0 < (b_ls be i).2.2
      · have e2 : z_els (zs_segs s (s_segs s ++ [p])) (z_setLs be 0 l) i = z_els s be i := by
          have q1 := q.1
          rcases (show i = 0 ∨ i = 1 ∨ i = 2 ∨ i = 3 ∨ i = 4 ∨ i = 5 ∨ i = 6 ∨ i = 7 by omega) with rfl | rfl | rfl | rfl | rfl | rfl | rfl | rfl <;> first | rfl | exact absurd rfl hi
        rw [if_pos q, if_pos q, e2]
      · rw [if_neg q, if_neg q]
    | 3 =>
      rw [z_ct3, z_ct3]
      show ((s_segs s ++ [p])[i]?).map _ = _
      rcases Nat.lt_or_ge i (s_segs s).length with q | q
      · rw [List.getElem?_append_left q]
      · rw [List.getElem?_append_right q, List.getElem?_eq_none (l := s_segs s) q, List.getElem?_eq_none (by have : i ≠ (s_segs s).length := fun z => h1 ⟨rfl, z⟩; simp; omega)]
    | 4 => rfl
    | 5 => rfl
    | 6 => rfl
    | 7 => rfl
    | k + 8 => rw [z_ct8 _ _ _ _ _ (by omega), z_ct8 _ _ _ _ _ (by omega)]
  · exact ⟨fun y hy => ⟨(H.2.2.2.1.1 y hy).1, (H.2.2.2.1.1 y hy).2.app⟩, fun q hq => (H.2.2.2.1.2 q hq).app⟩
  · have := H.2.2.1.2.1
    have hl9 : (s_segs s ++ [p]).length = (s_segs s).length + 1 := by rw [List.length_append, List.length_singleton]
    show t1 ≤ z_b G + 17 + 3 * (s_segs s ++ [p]).length + (s_vehs s).length + (s_tars s).length + (s_sgts s).length + (b_pool be).length + _
    rw [hl9]
    omega
  · have := H.2.2.1.2.2
    have hl9 : (s_segs s ++ [p]).length = (s_segs s).length + 1 := by rw [List.length_append, List.length_singleton]
    refine ⟨?_, ?_, ?_, ?_, this.2.2.2.2⟩
    · show (s_segs s ++ [p]).length ≤ 8
      omega
    · show (s_vehs s).length ≤ 3
      omega
    · show (s_tars s).length ≤ 5
      omega
    · show (s_sgts s).length ≤ 60
      omega

theorem z_St.addVeh {G : zG} {s : zS} {be : zB} {h : zH} {top : Nat} (H : z_St G s be h top) {p : zVeh} (hp1 : p.1 = top) (hlen : (s_vehs s).length < 3) {h1 : zH} {t1 : Nat} (ht1 : t1 = top + 1) (hat : z_at G h1 t1 top (z_vehC (s_vehs s).length p)) (hfr : ∀ q, q < top → h1 q = h q) {h2 : zH} {top2 : Nat} {rv r : Option Value} (hp : z_PAdd G h1 t1 (z_b G + 2) (b_ls be 1).2.1 (s_vehs s).length (b_ls be 1).2.2 (fun q : Nat => ((s_vehs s).map (fun x => x.1))[q]?) (s_vehs s).length top rv r h2 top2) : r = rv ∧ ∃ l, z_St G (zs_vehs s (s_vehs s ++ [p])) (z_setLs be 1 l) h2 top2 := by
  have e7 : (z_els s be 1).length = (s_vehs s).length := List.length_map _
  refine z_St.addO (s2 := zs_vehs s (s_vehs s ++ [p])) (z_setLs be 1) t1 H 1 4 (s_vehs s).length top (by decide) (by decide) (e0 := z_vehC (s_vehs s).length p) (h1 := h1) (Nat.le_refl _) hat (fun u z => by cases z) (fun fs z => by cases z) hfr (by rw [e7]; exact hp) (by omega) (fun l => ⟨by show va_up (b_ls be) 1 l 1 = l; simp [va_up], fun k hk => by show va_up (b_ls be) 1 l k = _; simp [va_up, hk], ?_, ?_, ?_, ?_, ?_, ?_, ?_⟩)
  · show (s_vehs s ++ [p]).map _ = (s_vehs s).map _ ++ _
    rw [List.map_append, ← hp1]
    rfl
  · intro k hk hk8
    rcases (show k = 0 ∨ k = 1 ∨ k = 2 ∨ k = 3 ∨ k = 4 ∨ k = 5 ∨ k = 6 ∨ k = 7 by omega) with rfl | rfl | rfl | rfl | rfl | rfl | rfl | rfl <;> first | rfl | exact absurd rfl hk
  · rw [z_ct4]
    show ((s_vehs s ++ [p])[(s_vehs s).length]?).map _ = _
    rw [List.getElem?_append_right (Nat.le_refl _), Nat.sub_self]
    simp [hp1]
  · intro k i h1 h2 h3
    match k with
    | 0 => match i with
      | 0 => rfl
      | 1 => rfl
      | 2 => rfl
      | 3 => rfl
      | 4 => rfl
      | 5 => rfl
      | 6 => rfl
      | 7 => rfl
      | 8 => rfl
      | i + 9 => rfl
    | 1 =>
      rw [z_ct1, z_ct1]
      by_cases q : i < 8
      · have hi : i ≠ 1 := fun z => h2 ⟨rfl, z⟩
        have e1 : b_ls (z_setLs be 1 l) i = b_ls be i := by show va_up (b_ls be) 1 l i = _; simp [va_up, hi]
        have e2 : z_els (zs_vehs s (s_vehs s ++ [p])) (z_setLs be 1 l) i = z_els s be i := by
          rcases (show i = 0 ∨ i = 1 ∨ i = 2 ∨ i = 3 ∨ i = 4 ∨ i = 5 ∨ i = 6 ∨ i = 7 by omega) with rfl | rfl | rfl | rfl | rfl | rfl | rfl | rfl <;> first | rfl | exact absurd rfl hi
        rw [if_pos q, if_pos q, e1, e2]
      · rw [if_neg q, if_neg q]
    | 2 =>
      have hi : i ≠ 1 := fun z => h3 ⟨rfl, z⟩
      have e1 : b_ls (z_setLs be 1 l) i = b_ls be i := by show va_up (b_ls be) 1 l i = _; simp [va_up, hi]
      rw [z_ct2, z_ct2, e1]
      by_cases q : i < 8 ∧ 0 < (b_ls be i).2.2
      · have e2 : z_els (zs_vehs s (s_vehs s ++ [p])) (z_setLs be 1 l) i = z_els s be i := by
          have q1 := q.1
          rcases (show i = 0 ∨ i = 1 ∨ i = 2 ∨ i = 3 ∨ i = 4 ∨ i = 5 ∨ i = 6 ∨ i = 7 by omega) with rfl | rfl | rfl | rfl | rfl | rfl | rfl | rfl <;> first | rfl | exact absurd rfl hi
        rw [if_pos q, if_pos q, e2]
      · rw [if_neg q, if_neg q]
    | 3 => rfl
    | 4 =>
      rw [z_ct4, z_ct4]
      show ((s_vehs s ++ [p])[i]?).map _ = _
      rcases Nat.lt_or_ge i (s_vehs s).length with q | q
      · rw [List.getElem?_append_left q]
      · rw [List.getElem?_append_right q, List.getElem?_eq_none (l := s_vehs s) q, List.getElem?_eq_none (by have : i ≠ (s_vehs s).length := fun z => h1 ⟨rfl, z⟩; simp; omega)]
    | 5 => rfl
    | 6 => rfl
    | 7 => rfl
    | k + 8 => rw [z_ct8 _ _ _ _ _ (by omega), z_ct8 _ _ _ _ _ (by omega)]
  · exact ⟨fun y hy => ⟨(H.2.2.2.1.1 y hy).1.app, (H.2.2.2.1.1 y hy).2⟩, fun q hq => H.2.2.2.1.2 q hq⟩
  · have := H.2.2.1.2.1
    have hl9 : (s_vehs s ++ [p]).length = (s_vehs s).length + 1 := by rw [List.length_append, List.length_singleton]
    show t1 ≤ z_b G + 17 + 3 * (s_segs s).length + (s_vehs s ++ [p]).length + (s_tars s).length + (s_sgts s).length + (b_pool be).length + _
    rw [hl9]
    omega
  · have := H.2.2.1.2.2
    have hl9 : (s_vehs s ++ [p]).length = (s_vehs s).length + 1 := by rw [List.length_append, List.length_singleton]
    refine ⟨?_, ?_, ?_, ?_, this.2.2.2.2⟩
    · show (s_segs s).length ≤ 8
      omega
    · show (s_vehs s ++ [p]).length ≤ 3
      omega
    · show (s_tars s).length ≤ 5
      omega
    · show (s_sgts s).length ≤ 60
      omega

theorem z_St.addTar {G : zG} {s : zS} {be : zB} {h : zH} {top : Nat} (H : z_St G s be h top) {p : zTar} (hp1 : p.1 = top) (hlen : (s_tars s).length < 5) {h1 : zH} {t1 : Nat} (ht1 : t1 = top + 1) (hat : z_at G h1 t1 top (z_tarC p)) (hfr : ∀ q, q < top → h1 q = h q) {h2 : zH} {top2 : Nat} {rv r : Option Value} (hp : z_PAdd G h1 t1 (z_b G + 5) (b_ls be 3).2.1 (s_tars s).length (b_ls be 3).2.2 (fun q : Nat => ((s_tars s).map (fun x => x.1))[q]?) (s_tars s).length top rv r h2 top2) : r = rv ∧ ∃ l, z_St G (zs_tars s (s_tars s ++ [p])) (z_setLs be 3 l) h2 top2 := by
  have e7 : (z_els s be 3).length = (s_tars s).length := List.length_map _
  refine z_St.addO (s2 := zs_tars s (s_tars s ++ [p])) (z_setLs be 3) t1 H 3 5 (s_tars s).length top (by decide) (by decide) (e0 := z_tarC p) (h1 := h1) (Nat.le_refl _) hat (fun u z => by cases z) (fun fs z => by cases z) hfr (by rw [e7]; exact hp) (by omega) (fun l => ⟨by show va_up (b_ls be) 3 l 3 = l; simp [va_up], fun k hk => by show va_up (b_ls be) 3 l k = _; simp [va_up, hk], ?_, ?_, ?_, ?_, ?_, ?_, ?_⟩)
  · show (s_tars s ++ [p]).map _ = (s_tars s).map _ ++ _
    rw [List.map_append, ← hp1]
    rfl
  · intro k hk hk8
    rcases (show k = 0 ∨ k = 1 ∨ k = 2 ∨ k = 3 ∨ k = 4 ∨ k = 5 ∨ k = 6 ∨ k = 7 by omega) with rfl | rfl | rfl | rfl | rfl | rfl | rfl | rfl <;> first | rfl | exact absurd rfl hk
  · rw [z_ct5]
    show ((s_tars s ++ [p])[(s_tars s).length]?).map _ = _
    rw [List.getElem?_append_right (Nat.le_refl _), Nat.sub_self]
    simp [hp1]
  · intro k i h1 h2 h3
    match k with
    | 0 => match i with
      | 0 => rfl
      | 1 => rfl
      | 2 => rfl
      | 3 => rfl
      | 4 => rfl
      | 5 => rfl
      | 6 => rfl
      | 7 => rfl
      | 8 => rfl
      | i + 9 => rfl
    | 1 =>
      rw [z_ct1, z_ct1]
      by_cases q : i < 8
      · have hi : i ≠ 3 := fun z => h2 ⟨rfl, z⟩
        have e1 : b_ls (z_setLs be 3 l) i = b_ls be i := by show va_up (b_ls be) 3 l i = _; simp [va_up, hi]
        have e2 : z_els (zs_tars s (s_tars s ++ [p])) (z_setLs be 3 l) i = z_els s be i := by
          rcases (show i = 0 ∨ i = 1 ∨ i = 2 ∨ i = 3 ∨ i = 4 ∨ i = 5 ∨ i = 6 ∨ i = 7 by omega) with rfl | rfl | rfl | rfl | rfl | rfl | rfl | rfl <;> first | rfl | exact absurd rfl hi
        rw [if_pos q, if_pos q, e1, e2]
      · rw [if_neg q, if_neg q]
    | 2 =>
      have hi : i ≠ 3 := fun z => h3 ⟨rfl, z⟩
      have e1 : b_ls (z_setLs be 3 l) i = b_ls be i := by show va_up (b_ls be) 3 l i = _; simp [va_up, hi]
      rw [z_ct2, z_ct2, e1]
      by_cases q : i < 8 ∧ 0 < (b_ls be i).2.2
      · have e2 : z_els (zs_tars s (s_tars s ++ [p])) (z_setLs be 3 l) i = z_els s be i := by
          have q1 := q.1
          rcases (show i = 0 ∨ i = 1 ∨ i = 2 ∨ i = 3 ∨ i = 4 ∨ i = 5 ∨ i = 6 ∨ i = 7 by omega) with rfl | rfl | rfl | rfl | rfl | rfl | rfl | rfl <;> first | rfl | exact absurd rfl hi
        rw [if_pos q, if_pos q, e2]
      · rw [if_neg q, if_neg q]
    | 3 => rfl
    | 4 => rfl
    | 5 =>
      rw [z_ct5, z_ct5]
      show ((s_tars s ++ [p])[i]?).map _ = _
      rcases Nat.lt_or_ge i (s_tars s).length with q | q
      · rw [List.getElem?_append_left q]
      · rw [List.getElem?_append_right q, List.getElem?_eq_none (l := s_tars s) q, List.getElem?_eq_none (by have : i ≠ (s_tars s).length := fun z => h1 ⟨rfl, z⟩; simp; omega)]
    | 6 => rfl
    | 7 => rfl
    | k + 8 => rw [z_ct8 _ _ _ _ _ (by omega), z_ct8 _ _ _ _ _ (by omega)]
  · exact ⟨H.2.2.2.1.1, H.2.2.2.1.2⟩
  · have := H.2.2.1.2.1
    have hl9 : (s_tars s ++ [p]).length = (s_tars s).length + 1 := by rw [List.length_append, List.length_singleton]
    show t1 ≤ z_b G + 17 + 3 * (s_segs s).length + (s_vehs s).length + (s_tars s ++ [p]).length + (s_sgts s).length + (b_pool be).length + _
    rw [hl9]
    omega
  · have := H.2.2.1.2.2
    have hl9 : (s_tars s ++ [p]).length = (s_tars s).length + 1 := by rw [List.length_append, List.length_singleton]
    refine ⟨?_, ?_, ?_, ?_, this.2.2.2.2⟩
    · show (s_segs s).length ≤ 8
      omega
    · show (s_vehs s).length ≤ 3
      omega
    · show (s_tars s ++ [p]).length ≤ 5
      omega
    · show (s_sgts s).length ≤ 60
      omega

theorem z_St.addSgt {G : zG} {s : zS} {be : zB} {h : zH} {top : Nat} (H : z_St G s be h top) {p : zSgt} (hp1 : p.1 = top) (hpv : z_isVeh s p.2.1.1) (hps : z_isSeg s p.2.1.2) (hlen : (s_sgts s).length < 60) {h1 : zH} {t1 : Nat} (ht1 : t1 = top + 1) (hat : z_at G h1 t1 top (z_sgtC p)) (hfr : ∀ q, q < top → h1 q = h q) {h2 : zH} {top2 : Nat} {rv r : Option Value} (hp : z_PAdd G h1 t1 (z_b G + 3) (b_ls be 2).2.1 (s_sgts s).length (b_ls be 2).2.2 (fun q : Nat => ((s_sgts s).map (fun x => x.1))[q]?) (s_sgts s).length top rv r h2 top2) : r = rv ∧ ∃ l, z_St G (zs_sgts s (s_sgts s ++ [p])) (z_setLs be 2 l) h2 top2 := by
  have e7 : (z_els s be 2).length = (s_sgts s).length := List.length_map _
  refine z_St.addO (s2 := zs_sgts s (s_sgts s ++ [p])) (z_setLs be 2) t1 H 2 6 (s_sgts s).length top (by decide) (by decide) (e0 := z_sgtC p) (h1 := h1) (Nat.le_refl _) hat (fun u z => by cases z) (fun fs z => by cases z) hfr (by rw [e7]; exact hp) (by omega) (fun l => ⟨by show va_up (b_ls be) 2 l 2 = l; simp [va_up], fun k hk => by show va_up (b_ls be) 2 l k = _; simp [va_up, hk], ?_, ?_, ?_, ?_, ?_, ?_, ?_⟩)
  · show (s_sgts s ++ [p]).map _ = (s_sgts s).map _ ++ _
    rw [List.map_append, ← hp1]
    rfl
  · intro k hk hk8
    rcases (show k = 0 ∨ k = 1 ∨ k = 2 ∨ k = 3 ∨ k = 4 ∨ k = 5 ∨ k = 6 ∨ k = 7 by omega) with rfl | rfl | rfl | rfl | rfl | rfl | rfl | rfl <;> first | rfl | exact absurd rfl hk
  · rw [z_ct6]
    show ((s_sgts s ++ [p])[(s_sgts s).length]?).map _ = _
    rw [List.getElem?_append_right (Nat.le_refl _), Nat.sub_self]
    simp [hp1]
  · intro k i h1 h2 h3
    match k with
    | 0 => match i with
      | 0 => rfl
      | 1 => rfl
      | 2 => rfl
      | 3 => rfl
      | 4 => rfl
      | 5 => rfl
      | 6 => rfl
      | 7 => rfl
      | 8 => rfl
      | i + 9 => rfl
    | 1 =>
      rw [z_ct1, z_ct1]
      by_cases q : i < 8
      · have hi : i ≠ 2 := fun z => h2 ⟨rfl, z⟩
        have e1 : b_ls (z_setLs be 2 l) i = b_ls be i := by show va_up (b_ls be) 2 l i = _; simp [va_up, hi]
        have e2 : z_els (zs_sgts s (s_sgts s ++ [p])) (z_setLs be 2 l) i = z_els s be i := by
          rcases (show i = 0 ∨ i = 1 ∨ i = 2 ∨ i = 3 ∨ i = 4 ∨ i = 5 ∨ i = 6 ∨ i = 7 by omega) with rfl | rfl | rfl | rfl | rfl | rfl | rfl | rfl <;> first | rfl | exact absurd rfl hi
        rw [if_pos q, if_pos q, e1, e2]
      · rw [if_neg q, if_neg q]
    | 2 =>
      have hi : i ≠ 2 := fun z => h3 ⟨rfl, z⟩
      have e1 : b_ls (z_setLs be 2 l) i = b_ls be i := by show va_up (b_ls be) 2 l i = _; simp [va_up, hi]
      rw [z_ct2, z_ct2, e1]
      by_cases q : i < 8 ∧ 0 < (b_ls be i).2.2
      · have e2 : z_els (zs_sgts s (s_sgts s ++ [p])) (z_setLs be 2 l) i = z_els s be i := by
          have q1 := q.1
          rcases (show i = 0 ∨ i = 1 ∨ i = 2 ∨ i = 3 ∨ i = 4 ∨ i = 5 ∨ i = 6 ∨ i = 7 by omega) with rfl | rfl | rfl | rfl | rfl | rfl | rfl | rfl <;> first | rfl | exact absurd rfl hi
        rw [if_pos q, if_pos q, e2]
      · rw [if_neg q, if_neg q]
    | 3 => rfl
    | 4 => rfl
    | 5 => rfl
    | 6 =>
      rw [z_ct6, z_ct6]
      show ((s_sgts s ++ [p])[i]?).map _ = _
      rcases Nat.lt_or_ge i (s_sgts s).length with q | q
      · rw [List.getElem?_append_left q]
      · rw [List.getElem?_append_right q, List.getElem?_eq_none (l := s_sgts s) q, List.getElem?_eq_none (by have : i ≠ (s_sgts s).length := fun z => h1 ⟨rfl, z⟩; simp; omega)]
    | 7 => rfl
    | k + 8 => rw [z_ct8 _ _ _ _ _ (by omega), z_ct8 _ _ _ _ _ (by omega)]
  · refine ⟨fun y hy => ?_, fun q hq => H.2.2.2.1.2 q hq⟩
    rcases List.mem_append.mp hy with w | w
    · exact H.2.2.2.1.1 y w
    · rw [List.mem_singleton.mp w]; exact ⟨hpv, hps⟩
  · have := H.2.2.1.2.1
    have hl9 : (s_sgts s ++ [p]).length = (s_sgts s).length + 1 := by rw [List.length_append, List.length_singleton]
    show t1 ≤ z_b G + 17 + 3 * (s_segs s).length + (s_vehs s).length + (s_tars s).length + (s_sgts s ++ [p]).length + (b_pool be).length + _
    rw [hl9]
    omega
  · have := H.2.2.1.2.2
    have hl9 : (s_sgts s ++ [p]).length = (s_sgts s).length + 1 := by rw [List.length_append, List.length_singleton]
    refine ⟨?_, ?_, ?_, ?_, this.2.2.2.2⟩
    · show (s_segs s).length ≤ 8
      omega
    · show (s_vehs s).length ≤ 3
      omega
    · show (s_tars s).length ≤ 5
      omega
    · show (s_sgts s ++ [p]).length ≤ 60
      omega

set_option maxRecDepth 20000 in
set_option maxHeartbeats 4000000 in
theorem c_X7_init (l : Launch) (G : zG) (h : zH) (top : Nat) (a : Nat) (n r e ac : Int32) (ha : z_at G h top a (.inr (8, [.int 0, .int 0, .int 0, .int 0, .int 0, .int 0, .int 0, .int 0]))) : z_Ct l yX7_init cX7_init 5 none 1 G [.ref a, .int n, .int r, .int e, .int ac] h top (z_R none (va_up h a (.inr (8, [.int n, .int r, .int e, .int ac, .int 0, .int 0, .int 0, .int 0]))) top) := by
  refine z_of (own := RX7) (nm := "<init>") (by decide) rfl rfl (by decide) (Nat.le_of_ble_eq_true rfl) (fun X hX hq => ?_)
  replace hX : z_ok X cX7_init 5 RX7 none "<init>" 1 G := hX
  show z_Z X h top 0 [(0, .ref a), (1, .int n), (2, .int r), (3, .int e), (4, .int ac)] []
  refine r_aload_n hX rfl 0 rfl dX7_init_0 ?_
  refine r_objInit hX oi_X7_3 kw_oi1 kw_oi2 (by decide) dX7_init_1 ?_
  refine r_aload_n hX rfl 0 rfl dX7_init_4 ?_
  refine r_iload_n hX rfl 1 rfl dX7_init_5 ?_
  refine r_putFA (fs2 := [.int n, .int 0, .int 0, .int 0, .int 0, .int 0, .int 0, .int 0]) hX fp_X7_9 ha rfl rfl (Nat.le_of_ble_eq_true rfl) rfl dX7_init_6 ?_
  replace ha : z_at G (va_up h a (.inr (8, [.int n, .int 0, .int 0, .int 0, .int 0, .int 0, .int 0, .int 0]))) top a (.inr (8, [.int n, .int 0, .int 0, .int 0, .int 0, .int 0, .int 0, .int 0])) := z_at.self ha
  refine r_aload_n hX rfl 0 rfl dX7_init_9 ?_
  refine r_iload_n hX rfl 2 rfl dX7_init_10 ?_
  refine r_putFU (fs2 := [.int n, .int r, .int 0, .int 0, .int 0, .int 0, .int 0, .int 0]) hX fp_X7_15 ha rfl rfl (Nat.le_of_ble_eq_true rfl) rfl dX7_init_11 ?_
  replace ha : z_at G (va_up h a (.inr (8, [.int n, .int r, .int 0, .int 0, .int 0, .int 0, .int 0, .int 0]))) top a (.inr (8, [.int n, .int r, .int 0, .int 0, .int 0, .int 0, .int 0, .int 0])) := z_at.uu ha
  refine r_aload_n hX rfl 0 rfl dX7_init_14 ?_
  refine r_iload_n hX rfl 3 rfl dX7_init_15 ?_
  refine r_putFU (fs2 := [.int n, .int r, .int e, .int 0, .int 0, .int 0, .int 0, .int 0]) hX fp_X7_18 ha rfl rfl (Nat.le_of_ble_eq_true rfl) rfl dX7_init_16 ?_
  replace ha : z_at G (va_up h a (.inr (8, [.int n, .int r, .int e, .int 0, .int 0, .int 0, .int 0, .int 0]))) top a (.inr (8, [.int n, .int r, .int e, .int 0, .int 0, .int 0, .int 0, .int 0])) := z_at.uu ha
  refine r_aload_n hX rfl 0 rfl dX7_init_19 ?_
  refine r_iload hX 4 rfl dX7_init_20 ?_
  refine r_putFU (fs2 := [.int n, .int r, .int e, .int ac, .int 0, .int 0, .int 0, .int 0]) hX fp_X7_21 ha rfl rfl (Nat.le_of_ble_eq_true rfl) rfl dX7_init_22 ?_
  replace ha : z_at G (va_up h a (.inr (8, [.int n, .int r, .int e, .int ac, .int 0, .int 0, .int 0, .int 0]))) top a (.inr (8, [.int n, .int r, .int e, .int ac, .int 0, .int 0, .int 0, .int 0])) := z_at.uu ha
  exact r_vret hX hq ⟨rfl, rfl, rfl⟩ dX7_init_25

set_option maxRecDepth 20000 in
set_option maxHeartbeats 4000000 in
theorem c_X5_init (l : Launch) (G : zG) (h : zH) (top : Nat) (a : Nat) (n r e ac fd : Int32) (ha : z_at G h top a (.inr (6, [.int 0, .int 0, .int 0, .int 0, .int 0]))) : z_Ct l yX5_init cX5_init 6 none 1 G [.ref a, .int n, .int r, .int e, .int ac, .int fd] h top (z_R none (va_up h a (.inr (6, [.int n, .int r, .int e, .int ac, .int fd]))) top) := by
  refine z_of (own := RX5) (nm := "<init>") (by decide) rfl rfl (by decide) (Nat.le_of_ble_eq_true rfl) (fun X hX hq => ?_)
  replace hX : z_ok X cX5_init 6 RX5 none "<init>" 1 G := hX
  show z_Z X h top 0 [(0, .ref a), (1, .int n), (2, .int r), (3, .int e), (4, .int ac), (5, .int fd)] []
  refine r_aload_n hX rfl 0 rfl dX5_init_0 ?_
  refine r_objInit hX oi_X5_1 kw_oi1 kw_oi2 (by decide) dX5_init_1 ?_
  refine r_aload_n hX rfl 0 rfl dX5_init_4 ?_
  refine r_iload_n hX rfl 1 rfl dX5_init_5 ?_
  refine r_putFA (fs2 := [.int n, .int 0, .int 0, .int 0, .int 0]) hX fp_X5_7 ha rfl rfl (Nat.le_of_ble_eq_true rfl) rfl dX5_init_6 ?_
  replace ha : z_at G (va_up h a (.inr (6, [.int n, .int 0, .int 0, .int 0, .int 0]))) top a (.inr (6, [.int n, .int 0, .int 0, .int 0, .int 0])) := z_at.self ha
  refine r_aload_n hX rfl 0 rfl dX5_init_9 ?_
  refine r_iload_n hX rfl 2 rfl dX5_init_10 ?_
  refine r_putFU (fs2 := [.int n, .int r, .int 0, .int 0, .int 0]) hX fp_X5_13 ha rfl rfl (Nat.le_of_ble_eq_true rfl) rfl dX5_init_11 ?_
  replace ha : z_at G (va_up h a (.inr (6, [.int n, .int r, .int 0, .int 0, .int 0]))) top a (.inr (6, [.int n, .int r, .int 0, .int 0, .int 0])) := z_at.uu ha
  refine r_aload_n hX rfl 0 rfl dX5_init_14 ?_
  refine r_iload_n hX rfl 3 rfl dX5_init_15 ?_
  refine r_putFU (fs2 := [.int n, .int r, .int e, .int 0, .int 0]) hX fp_X5_16 ha rfl rfl (Nat.le_of_ble_eq_true rfl) rfl dX5_init_16 ?_
  replace ha : z_at G (va_up h a (.inr (6, [.int n, .int r, .int e, .int 0, .int 0]))) top a (.inr (6, [.int n, .int r, .int e, .int 0, .int 0])) := z_at.uu ha
  refine r_aload_n hX rfl 0 rfl dX5_init_19 ?_
  refine r_iload hX 4 rfl dX5_init_20 ?_
  refine r_putFU (fs2 := [.int n, .int r, .int e, .int ac, .int 0]) hX fp_X5_19 ha rfl rfl (Nat.le_of_ble_eq_true rfl) rfl dX5_init_22 ?_
  replace ha : z_at G (va_up h a (.inr (6, [.int n, .int r, .int e, .int ac, .int 0]))) top a (.inr (6, [.int n, .int r, .int e, .int ac, .int 0])) := z_at.uu ha
  refine r_aload_n hX rfl 0 rfl dX5_init_25 ?_
  refine r_iload hX 5 rfl dX5_init_26 ?_
  refine r_putFU (fs2 := [.int n, .int r, .int e, .int ac, .int fd]) hX fp_X5_22 ha rfl rfl (Nat.le_of_ble_eq_true rfl) rfl dX5_init_28 ?_
  replace ha : z_at G (va_up h a (.inr (6, [.int n, .int r, .int e, .int ac, .int fd]))) top a (.inr (6, [.int n, .int r, .int e, .int ac, .int fd])) := z_at.uu ha
  exact r_vret hX hq ⟨rfl, rfl, rfl⟩ dX5_init_31

set_option maxRecDepth 20000 in
set_option maxHeartbeats 4000000 in
theorem c_X4_init (l : Launch) (G : zG) (h : zH) (top : Nat) (a u v : Nat) (m c : Int32) (ha : z_at G h top a (.inr (5, [.null, .null, .int 0, .int 0, .int 0]))) : z_Ct l yX4_init cX4_init 5 none 1 G [.ref a, .ref u, .ref v, .int m, .int c] h top (z_R none (va_up h a (.inr (5, [.ref u, .ref v, .int m, .int c, .int 0]))) top) := by
  refine z_of (own := RX4) (nm := "<init>") (by decide) rfl rfl (by decide) (Nat.le_of_ble_eq_true rfl) (fun X hX hq => ?_)
  replace hX : z_ok X cX4_init 5 RX4 none "<init>" 1 G := hX
  show z_Z X h top 0 [(0, .ref a), (1, .ref u), (2, .ref v), (3, .int m), (4, .int c)] []
  refine r_aload_n hX rfl 0 rfl dX4_init_0 ?_
  refine r_objInit hX oi_X4_3 kw_oi1 kw_oi2 (by decide) dX4_init_1 ?_
  refine r_aload_n hX rfl 0 rfl dX4_init_4 ?_
  refine r_aload_n hX rfl 1 rfl dX4_init_5 ?_
  refine r_put (fs2 := [.ref u, .null, .int 0, .int 0, .int 0]) hX fp_X4_9 ha rfl rfl (Nat.le_of_ble_eq_true rfl) rfl dX4_init_6 ?_
  replace ha : z_at G (va_up h a (.inr (5, [.ref u, .null, .int 0, .int 0, .int 0]))) top a (.inr (5, [.ref u, .null, .int 0, .int 0, .int 0])) := z_at.self ha
  refine r_aload_n hX rfl 0 rfl dX4_init_9 ?_
  refine r_aload_n hX rfl 2 rfl dX4_init_10 ?_
  refine r_putFU (fs2 := [.ref u, .ref v, .int 0, .int 0, .int 0]) hX fp_X4_15 ha rfl rfl (Nat.le_of_ble_eq_true rfl) rfl dX4_init_11 ?_
  replace ha : z_at G (va_up h a (.inr (5, [.ref u, .ref v, .int 0, .int 0, .int 0]))) top a (.inr (5, [.ref u, .ref v, .int 0, .int 0, .int 0])) := z_at.uu ha
  refine r_aload_n hX rfl 0 rfl dX4_init_14 ?_
  refine r_iload_n hX rfl 3 rfl dX4_init_15 ?_
  refine r_putFU (fs2 := [.ref u, .ref v, .int m, .int 0, .int 0]) hX fp_X4_19 ha rfl rfl (Nat.le_of_ble_eq_true rfl) rfl dX4_init_16 ?_
  replace ha : z_at G (va_up h a (.inr (5, [.ref u, .ref v, .int m, .int 0, .int 0]))) top a (.inr (5, [.ref u, .ref v, .int m, .int 0, .int 0])) := z_at.uu ha
  refine r_aload_n hX rfl 0 rfl dX4_init_19 ?_
  refine r_iload hX 4 rfl dX4_init_20 ?_
  refine r_putFU (fs2 := [.ref u, .ref v, .int m, .int c, .int 0]) hX fp_X4_23 ha rfl rfl (Nat.le_of_ble_eq_true rfl) rfl dX4_init_22 ?_
  replace ha : z_at G (va_up h a (.inr (5, [.ref u, .ref v, .int m, .int c, .int 0]))) top a (.inr (5, [.ref u, .ref v, .int m, .int c, .int 0])) := z_at.uu ha
  exact r_vret hX hq ⟨rfl, rfl, rfl⟩ dX4_init_25

set_option maxRecDepth 20000 in
set_option maxHeartbeats 4000000 in
theorem c_X3_init (l : Launch) (G : zG) (h : zH) (top : Nat) (a : Nat) (n f t len o : Int32) (hbt : z_b G ≤ top) (hroom : top + 2 ≤ z_b G + 320) (ha : z_at G h top a (.inr (4, [.int 0, .int 0, .int 0, .int 0, .int 0, .null, .null, .int 0]))) : z_Ct l yX3_init cX3_init 6 none 1 G [.ref a, .int n, .int f, .int t, .int len, .int o] h top (fun r h' top' => r = none ∧ top' = top + 2 ∧ z_at G h' (top + 2) a (.inr (4, [.int n, .int f, .int t, .int len, .int o, .ref top, .ref (top + 1), .int 0])) ∧ ∀ q, q < top → q ≠ a → h' q = h q) := by
  refine z_of (own := RX3) (nm := "<init>") (by decide) rfl rfl (by decide) (Nat.le_of_ble_eq_true rfl) (fun X hX hq => ?_)
  replace hX : z_ok X cX3_init 6 RX3 none "<init>" 1 G := hX
  show z_Z X h top 0 [(0, .ref a), (1, .int n), (2, .int f), (3, .int t), (4, .int len), (5, .int o)] []
  refine r_aload_n hX rfl 0 rfl dX3_init_0 ?_
  refine r_objInit hX oi_X3_3 kw_oi1 kw_oi2 (by decide) dX3_init_1 ?_
  refine r_aload_n hX rfl 0 rfl dX3_init_4 ?_
  refine r_bipush (v := 8) hX (by decide) dX3_init_5 ?_
  refine r_newi (N := 8) hX kw_ai (by decide) (by decide) (by decide) (by omega) dX3_init_7 ?_
  replace ha := ha.new (e2 := (.inl (z_aI G, 8, .inl (fun _ => 0))))
  have hN7 : z_at G (va_up h top (.inl (z_aI G, 8, .inl (fun _ => 0)))) (top + 1) top (.inl (z_aI G, 8, .inl (fun _ => 0))) := z_at.fresh (by omega)
  refine r_putFA (fs2 := [.int 0, .int 0, .int 0, .int 0, .int 0, .ref top, .null, .int 0]) hX fp_X3_9 ha rfl rfl (Nat.le_of_ble_eq_true rfl) rfl dX3_init_9 ?_
  replace hN7 := hN7.up (e3 := (.inr (4, [.int 0, .int 0, .int 0, .int 0, .int 0, .ref top, .null, .int 0]))) ha (by intro z; cases z)
  replace ha : z_at G (va_up (va_up h top (.inl (z_aI G, 8, .inl (fun _ => 0)))) a (.inr (4, [.int 0, .int 0, .int 0, .int 0, .int 0, .ref top, .null, .int 0]))) (top + 1) a (.inr (4, [.int 0, .int 0, .int 0, .int 0, .int 0, .ref top, .null, .int 0])) := z_at.self ha
  refine r_aload_n hX rfl 0 rfl dX3_init_12 ?_
  refine r_bipush (v := 8) hX (by decide) dX3_init_13 ?_
  refine r_newi (N := 8) hX kw_ai (by decide) (by decide) (by decide) (by omega) dX3_init_15 ?_
  replace ha := ha.new (e2 := (.inl (z_aI G, 8, .inl (fun _ => 0))))
  replace hN7 := hN7.new (e2 := (.inl (z_aI G, 8, .inl (fun _ => 0))))
  have hN15 : z_at G (va_up (va_up (va_up h top (.inl (z_aI G, 8, .inl (fun _ => 0)))) a (.inr (4, [.int 0, .int 0, .int 0, .int 0, .int 0, .ref top, .null, .int 0]))) (top + 1) (.inl (z_aI G, 8, .inl (fun _ => 0)))) ((top + 1) + 1) (top + 1) (.inl (z_aI G, 8, .inl (fun _ => 0))) := z_at.fresh (by omega)
  refine r_putFA (fs2 := [.int 0, .int 0, .int 0, .int 0, .int 0, .ref top, .ref (top + 1), .int 0]) hX fp_X3_15 ha rfl rfl (Nat.le_of_ble_eq_true rfl) rfl dX3_init_17 ?_
  replace hN7 := hN7.up (e3 := (.inr (4, [.int 0, .int 0, .int 0, .int 0, .int 0, .ref top, .ref (top + 1), .int 0]))) ha (by intro z; cases z)
  replace hN15 := hN15.up (e3 := (.inr (4, [.int 0, .int 0, .int 0, .int 0, .int 0, .ref top, .ref (top + 1), .int 0]))) ha (by intro z; cases z)
  replace ha : z_at G (va_up (va_up (va_up (va_up h top (.inl (z_aI G, 8, .inl (fun _ => 0)))) a (.inr (4, [.int 0, .int 0, .int 0, .int 0, .int 0, .ref top, .null, .int 0]))) (top + 1) (.inl (z_aI G, 8, .inl (fun _ => 0)))) a (.inr (4, [.int 0, .int 0, .int 0, .int 0, .int 0, .ref top, .ref (top + 1), .int 0]))) ((top + 1) + 1) a (.inr (4, [.int 0, .int 0, .int 0, .int 0, .int 0, .ref top, .ref (top + 1), .int 0])) := z_at.self ha
  refine r_aload_n hX rfl 0 rfl dX3_init_20 ?_
  refine r_iload_n hX rfl 1 rfl dX3_init_21 ?_
  refine r_putFU (fs2 := [.int n, .int 0, .int 0, .int 0, .int 0, .ref top, .ref (top + 1), .int 0]) hX fp_X3_18 ha rfl rfl (Nat.le_of_ble_eq_true rfl) rfl dX3_init_22 ?_
  try replace hN7 := z_at.u2 (e3 := (.inr (4, [.int n, .int 0, .int 0, .int 0, .int 0, .ref top, .ref (top + 1), .int 0]))) hN7 ha (by intro z; cases z)
  try replace hN15 := z_at.u2 (e3 := (.inr (4, [.int n, .int 0, .int 0, .int 0, .int 0, .ref top, .ref (top + 1), .int 0]))) hN15 ha (by intro z; cases z)
  replace ha : z_at G (va_up (va_up (va_up (va_up h top (.inl (z_aI G, 8, .inl (fun _ => 0)))) a (.inr (4, [.int 0, .int 0, .int 0, .int 0, .int 0, .ref top, .null, .int 0]))) (top + 1) (.inl (z_aI G, 8, .inl (fun _ => 0)))) a (.inr (4, [.int n, .int 0, .int 0, .int 0, .int 0, .ref top, .ref (top + 1), .int 0]))) ((top + 1) + 1) a (.inr (4, [.int n, .int 0, .int 0, .int 0, .int 0, .ref top, .ref (top + 1), .int 0])) := z_at.uu ha
  refine r_aload_n hX rfl 0 rfl dX3_init_25 ?_
  refine r_iload_n hX rfl 2 rfl dX3_init_26 ?_
  refine r_putFU (fs2 := [.int n, .int f, .int 0, .int 0, .int 0, .ref top, .ref (top + 1), .int 0]) hX fp_X3_22 ha rfl rfl (Nat.le_of_ble_eq_true rfl) rfl dX3_init_27 ?_
  try replace hN7 := z_at.u2 (e3 := (.inr (4, [.int n, .int f, .int 0, .int 0, .int 0, .ref top, .ref (top + 1), .int 0]))) hN7 ha (by intro z; cases z)
  try replace hN15 := z_at.u2 (e3 := (.inr (4, [.int n, .int f, .int 0, .int 0, .int 0, .ref top, .ref (top + 1), .int 0]))) hN15 ha (by intro z; cases z)
  replace ha : z_at G (va_up (va_up (va_up (va_up h top (.inl (z_aI G, 8, .inl (fun _ => 0)))) a (.inr (4, [.int 0, .int 0, .int 0, .int 0, .int 0, .ref top, .null, .int 0]))) (top + 1) (.inl (z_aI G, 8, .inl (fun _ => 0)))) a (.inr (4, [.int n, .int f, .int 0, .int 0, .int 0, .ref top, .ref (top + 1), .int 0]))) ((top + 1) + 1) a (.inr (4, [.int n, .int f, .int 0, .int 0, .int 0, .ref top, .ref (top + 1), .int 0])) := z_at.uu ha
  refine r_aload_n hX rfl 0 rfl dX3_init_30 ?_
  refine r_iload_n hX rfl 3 rfl dX3_init_31 ?_
  refine r_putFU (fs2 := [.int n, .int f, .int t, .int 0, .int 0, .ref top, .ref (top + 1), .int 0]) hX fp_X3_25 ha rfl rfl (Nat.le_of_ble_eq_true rfl) rfl dX3_init_32 ?_
  try replace hN7 := z_at.u2 (e3 := (.inr (4, [.int n, .int f, .int t, .int 0, .int 0, .ref top, .ref (top + 1), .int 0]))) hN7 ha (by intro z; cases z)
  try replace hN15 := z_at.u2 (e3 := (.inr (4, [.int n, .int f, .int t, .int 0, .int 0, .ref top, .ref (top + 1), .int 0]))) hN15 ha (by intro z; cases z)
  replace ha : z_at G (va_up (va_up (va_up (va_up h top (.inl (z_aI G, 8, .inl (fun _ => 0)))) a (.inr (4, [.int 0, .int 0, .int 0, .int 0, .int 0, .ref top, .null, .int 0]))) (top + 1) (.inl (z_aI G, 8, .inl (fun _ => 0)))) a (.inr (4, [.int n, .int f, .int t, .int 0, .int 0, .ref top, .ref (top + 1), .int 0]))) ((top + 1) + 1) a (.inr (4, [.int n, .int f, .int t, .int 0, .int 0, .ref top, .ref (top + 1), .int 0])) := z_at.uu ha
  refine r_aload_n hX rfl 0 rfl dX3_init_35 ?_
  refine r_iload hX 4 rfl dX3_init_36 ?_
  refine r_putFU (fs2 := [.int n, .int f, .int t, .int len, .int 0, .ref top, .ref (top + 1), .int 0]) hX fp_X3_28 ha rfl rfl (Nat.le_of_ble_eq_true rfl) rfl dX3_init_38 ?_
  try replace hN7 := z_at.u2 (e3 := (.inr (4, [.int n, .int f, .int t, .int len, .int 0, .ref top, .ref (top + 1), .int 0]))) hN7 ha (by intro z; cases z)
  try replace hN15 := z_at.u2 (e3 := (.inr (4, [.int n, .int f, .int t, .int len, .int 0, .ref top, .ref (top + 1), .int 0]))) hN15 ha (by intro z; cases z)
  replace ha : z_at G (va_up (va_up (va_up (va_up h top (.inl (z_aI G, 8, .inl (fun _ => 0)))) a (.inr (4, [.int 0, .int 0, .int 0, .int 0, .int 0, .ref top, .null, .int 0]))) (top + 1) (.inl (z_aI G, 8, .inl (fun _ => 0)))) a (.inr (4, [.int n, .int f, .int t, .int len, .int 0, .ref top, .ref (top + 1), .int 0]))) ((top + 1) + 1) a (.inr (4, [.int n, .int f, .int t, .int len, .int 0, .ref top, .ref (top + 1), .int 0])) := z_at.uu ha
  refine r_aload_n hX rfl 0 rfl dX3_init_41 ?_
  refine r_iload hX 5 rfl dX3_init_42 ?_
  refine r_putFU (fs2 := [.int n, .int f, .int t, .int len, .int o, .ref top, .ref (top + 1), .int 0]) hX fp_X3_31 ha rfl rfl (Nat.le_of_ble_eq_true rfl) rfl dX3_init_44 ?_
  try replace hN7 := z_at.u2 (e3 := (.inr (4, [.int n, .int f, .int t, .int len, .int o, .ref top, .ref (top + 1), .int 0]))) hN7 ha (by intro z; cases z)
  try replace hN15 := z_at.u2 (e3 := (.inr (4, [.int n, .int f, .int t, .int len, .int o, .ref top, .ref (top + 1), .int 0]))) hN15 ha (by intro z; cases z)
  replace ha : z_at G (va_up (va_up (va_up (va_up h top (.inl (z_aI G, 8, .inl (fun _ => 0)))) a (.inr (4, [.int 0, .int 0, .int 0, .int 0, .int 0, .ref top, .null, .int 0]))) (top + 1) (.inl (z_aI G, 8, .inl (fun _ => 0)))) a (.inr (4, [.int n, .int f, .int t, .int len, .int o, .ref top, .ref (top + 1), .int 0]))) ((top + 1) + 1) a (.inr (4, [.int n, .int f, .int t, .int len, .int o, .ref top, .ref (top + 1), .int 0])) := z_at.uu ha
  exact r_vret hX hq ⟨rfl, rfl, ha, fun q h1 h2 => by simp [va_up, h2, show q ≠ top by omega, show q ≠ top + 1 by omega]⟩ dX3_init_47

set_option maxRecDepth 20000 in
set_option maxHeartbeats 4000000 in
theorem c_X8_vehicle (l : Launch) (G : zG) (h : zH) (top : Nat) (s : zS) (be : zB) (H : z_St G s be h top) (r e ac : Int32) (hr : zf_isIn r 0 2 = true) (he : zf_isIn e 0 3 = true) (hac : zf_isIn ac 0 2 = true) (hlen : (s_vehs s).length < 3) : z_Ct l yX8_vehicle cX8_vehicle 5 (some .int) 8 G [.ref (z_b G), .int r, .int e, .int ac] h top (fun r9 h' top' => r9 = some (.int (nI (s_vehs s).length)) ∧ ∃ (a : Nat) (be2 : zB), z_St G (zs_vehs s (s_vehs s ++ [(a, (r, e, ac), (0, 0, 0, 0))])) be2 h' top') := by
  refine z_of (own := RX8) (nm := "vehicle") (by decide) rfl rfl (by decide) (Nat.le_of_ble_eq_true rfl) (fun X hX hq => ?_)
  replace hX : z_ok X cX8_vehicle 5 RX8 (some .int) "vehicle" 8 G := hX
  show z_Z X h top 0 [(0, .ref (z_b G)), (1, .int r), (2, .int e), (3, .int ac)] []
  have hha := H.hall
  have hbd := H.2.2.1.2.2
  have hl1 := H.l1
  have hl11 := hl1.1
  have hbt : z_b G ≤ top := Nat.le_trans H.hall.1 (Nat.le_of_lt H.hall.2.1)
  have hrm := H.2.2.1.room
  refine r_iload_n hX rfl 1 rfl dX8_vehicle_0 ?_
  refine r_iconst (v := 0) hX (by decide) dX8_vehicle_1 ?_
  refine r_iconst (v := 2) hX (by decide) dX8_vehicle_2 ?_
  refine r_callSR (As := [.int r, .int 0, .int 2]) (rest := []) (rv := some (.int 1)) (st1 := [.int 1]) hX cs_X8_62 (by decide) (fun l => c_isIn_1 l G h top hr) rfl rfl rfl (Nat.le_of_ble_eq_true rfl) dX8_vehicle_3 ?_
  refine r_if_eq (tgt := 31) hX dX8_vehicle_6 rfl (fun c => False.elim (absurd c (by decide))) (fun _ => ?_)
  refine r_iload_n hX rfl 2 rfl dX8_vehicle_9 ?_
  refine r_iconst (v := 0) hX (by decide) dX8_vehicle_10 ?_
  refine r_iconst (v := 3) hX (by decide) dX8_vehicle_11 ?_
  refine r_callSR (As := [.int e, .int 0, .int 3]) (rest := []) (rv := some (.int 1)) (st1 := [.int 1]) hX cs_X8_62 (by decide) (fun l => c_isIn_1 l G h top he) rfl rfl rfl (Nat.le_of_ble_eq_true rfl) dX8_vehicle_12 ?_
  refine r_if_eq (tgt := 31) hX dX8_vehicle_15 rfl (fun c => False.elim (absurd c (by decide))) (fun _ => ?_)
  refine r_iload_n hX rfl 3 rfl dX8_vehicle_18 ?_
  refine r_iconst (v := 0) hX (by decide) dX8_vehicle_19 ?_
  refine r_iconst (v := 2) hX (by decide) dX8_vehicle_20 ?_
  refine r_callSR (As := [.int ac, .int 0, .int 2]) (rest := []) (rv := some (.int 1)) (st1 := [.int 1]) hX cs_X8_62 (by decide) (fun l => c_isIn_1 l G h top hac) rfl rfl rfl (Nat.le_of_ble_eq_true rfl) dX8_vehicle_21 ?_
  refine r_if_eq (tgt := 31) hX dX8_vehicle_24 rfl (fun c => False.elim (absurd c (by decide))) (fun _ => ?_)
  refine r_iconst (v := 1) hX (by decide) dX8_vehicle_27 ?_
  refine r_goto (tgt := 32) hX rfl dX8_vehicle_28 ?_
  refine r_callSR (As := [.int 1]) (rest := []) (rv := none) (st1 := []) hX cs_X8_66 (by decide) (fun l => c_X8_needArgument l G h top) rfl rfl rfl (Nat.le_of_ble_eq_true rfl) dX8_vehicle_32 ?_
  refine r_aload_n hX rfl 0 rfl dX8_vehicle_35 ?_
  refine r_getf hX fl_X8_16 hha rfl dX8_vehicle_36 ?_
  refine r_callVR (As := []) (rest := []) (rv := some (.int (nI (s_vehs s).length))) (st1 := [.int (nI (s_vehs s).length)]) hX cs_X8_69 (by decide) (fun l => z_size hl1 l) hl11 rfl rfl rfl rfl (Nat.le_of_ble_eq_true rfl) dX8_vehicle_39 ?_
  refine r_bipush (v := 8) hX (by decide) dX8_vehicle_42 ?_
  refine r_icmp_ge (tgt := 51) hX dX8_vehicle_44 rfl (fun c => False.elim (absurd (show nI 8 ≤ nI (s_vehs s).length from c) (nI_ge (by omega) (by omega)))) (fun _ => ?_)
  refine r_iconst (v := 1) hX (by decide) dX8_vehicle_47 ?_
  refine r_goto (tgt := 52) hX rfl dX8_vehicle_48 ?_
  refine r_callSR (As := [.int 1]) (rest := []) (rv := none) (st1 := []) hX cs_X8_73 (by decide) (fun l => c_X8_needState l G h top) rfl rfl rfl (Nat.le_of_ble_eq_true rfl) dX8_vehicle_52 ?_
  refine r_aload_n hX rfl 0 rfl dX8_vehicle_55 ?_
  refine r_getf hX fl_X8_16 hha rfl dX8_vehicle_56 ?_
  refine r_callVR (As := []) (rest := []) (rv := some (.int (nI (s_vehs s).length))) (st1 := [.int (nI (s_vehs s).length)]) hX cs_X8_69 (by decide) (fun l => z_size hl1 l) hl11 rfl rfl rfl rfl (Nat.le_of_ble_eq_true rfl) dX8_vehicle_59 ?_
  refine r_istore (lv' := [(4, .int (nI (s_vehs s).length)), (0, .ref (z_b G)), (1, .int r), (2, .int e), (3, .int ac)]) hX (by decide) rfl dX8_vehicle_62 ?_
  refine r_aload_n hX rfl 1 rfl dX8_vehicle_64 ?_
  refine r_getf hX fl_X8_16 hha rfl dX8_vehicle_65 ?_
  refine r_new hX nw_X8_121 (by omega) dX8_vehicle_68 ?_
  replace hha := hha.new (e2 := (.inr (8, [.int 0, .int 0, .int 0, .int 0, .int 0, .int 0, .int 0, .int 0])))
  replace hl11 := hl11.new (e2 := (.inr (8, [.int 0, .int 0, .int 0, .int 0, .int 0, .int 0, .int 0, .int 0])))
  have hN68 : z_at G (va_up h top (.inr (8, [.int 0, .int 0, .int 0, .int 0, .int 0, .int 0, .int 0, .int 0]))) (top + 1) top (.inr (8, [.int 0, .int 0, .int 0, .int 0, .int 0, .int 0, .int 0, .int 0])) := z_at.fresh hbt
  refine r_dup hX rfl dX8_vehicle_71 ?_
  refine r_iload hX 0 rfl dX8_vehicle_72 ?_
  refine r_iload_n hX rfl 2 rfl dX8_vehicle_74 ?_
  refine r_iload_n hX rfl 3 rfl dX8_vehicle_75 ?_
  refine r_iload_n hX rfl 4 rfl dX8_vehicle_76 ?_
  refine r_callIR (As := [.int (nI (s_vehs s).length), .int r, .int e, .int ac]) (rest := [.ref top, .ref (z_b G + 2)]) (rv := none) (st1 := [.ref top, .ref (z_b G + 2)]) hX cs_X8_123 (by decide) (fun l => c_X7_init l G (va_up h top (.inr (8, [.int 0, .int 0, .int 0, .int 0, .int 0, .int 0, .int 0, .int 0]))) (top + 1) top (nI (s_vehs s).length) r e ac hN68) rfl rfl rfl (Nat.le_of_ble_eq_true rfl) dX8_vehicle_77 ?_
  rw [bx_uu]
  have hfr : ∀ q, q < top → (va_up h top (.inr (8, [.int (nI (s_vehs s).length), .int r, .int e, .int ac, .int 0, .int 0, .int 0, .int 0]))) q = h q := fun q hq => by simp [va_up, show q ≠ top by omega]
  have hat : z_at G (va_up h top (.inr (8, [.int (nI (s_vehs s).length), .int r, .int e, .int ac, .int 0, .int 0, .int 0, .int 0]))) (top + 1) top (.inr (8, [.int (nI (s_vehs s).length), .int r, .int e, .int ac, .int 0, .int 0, .int 0, .int 0])) := z_at.fresh hbt
  have hAA : z_AL G (va_up h top (.inr (8, [.int (nI (s_vehs s).length), .int r, .int e, .int ac, .int 0, .int 0, .int 0, .int 0]))) (top + 1) (z_b G + 2) (b_ls be 1).1 (b_ls be 1).2.1 (s_vehs s).length (b_ls be 1).2.2 (fun i : Nat => ((s_vehs s).map (fun x => x.1))[i]?) := H.l1.fr hfr (by omega)
  have hAA1 := hAA.1
  refine r_callV (As := [.ref top]) (rest := []) hX cs_X8_81 (by decide) (fun l => c_add1 l G (va_up h top (.inr (8, [.int (nI (s_vehs s).length), .int r, .int e, .int ac, .int 0, .int 0, .int 0, .int 0]))) (top + 1) (z_b G + 2) top (b_ls be 1).2.1 (s_vehs s).length (b_ls be 1).2.2 (b_ls be 1).1 (fun i : Nat => ((s_vehs s).map (fun x => x.1))[i]?) (by omega) hAA (fun i hi y hy => by obtain ⟨q, hq2⟩ : ∃ q, (s_vehs s)[i]? = some q := ⟨_, List.getElem?_eq_getElem hi⟩; rw [z_mapget hq2] at hy; cases hy; exact (H.ob_veh hq2).fr hfr (by omega)) (by omega) (z_ob_of hat rfl kw_ob8) (fun _ => by omega)) hAA1 rfl rfl rfl (Nat.le_of_ble_eq_true rfl) dX8_vehicle_80 (fun r1 h1 top1 hp1 => ?_)
  obtain ⟨rfl, l9, H2⟩ := H.addVeh (p := (top, (r, e, ac), (0, 0, 0, 0))) rfl (by omega) (t1 := top + 1) rfl hat hfr hp1
  refine r_pop hX rfl dX8_vehicle_83 ?_
  refine r_iload hX 0 rfl dX8_vehicle_84 ?_
  exact r_iret hX hq ⟨rfl, top, _, H2⟩ dX8_vehicle_86

set_option maxRecDepth 20000 in
set_option maxHeartbeats 4000000 in
theorem c_X8_segment (l : Launch) (G : zG) (h : zH) (top : Nat) (s : zS) (be : zB) (H : z_St G s be h top) (f t o : Nat) (len : Int32) (hf : f < 8) (ht : t < 8) (ho : o < 4) (hne : f ≠ t) (hlen : zf_isIn len 1 60 = true) (hl8 : (s_segs s).length < 8) : z_Ct l yX8_segment cX8_segment 6 (some .int) 8 G [.ref (z_b G), .int (nI f), .int (nI t), .int len, .int (nI o)] h top (fun r9 h' top' => r9 = some (.int (nI (s_segs s).length)) ∧ ∃ (a : Nat) (be2 : zB), z_St G (zs_segs s (s_segs s ++ [(a, nI f, nI t, len, nI o)])) be2 h' top') := by
  refine z_of (own := RX8) (nm := "segment") (by decide) rfl rfl (by decide) (Nat.le_of_ble_eq_true rfl) (fun X hX hq => ?_)
  replace hX : z_ok X cX8_segment 6 RX8 (some .int) "segment" 8 G := hX
  show z_Z X h top 0 [(0, .ref (z_b G)), (1, .int (nI f)), (2, .int (nI t)), (3, .int len), (4, .int (nI o))] []
  have hha := H.hall
  have hbd := H.2.2.1.2.2
  have hl0 := H.l0
  have hl01 := hl0.1
  have hbt : z_b G ≤ top := Nat.le_trans H.hall.1 (Nat.le_of_lt H.hall.2.1)
  have hrm := H.2.2.1.room
  refine r_iload_n hX rfl 1 rfl dX8_segment_0 ?_
  refine r_callSR (As := [.int (nI f)]) (rest := []) (rv := some (.int 1)) (st1 := [.int 1]) hX cs_X8_51 (by decide) (fun l => c_isKnot_1 l G h top hf) rfl rfl rfl (Nat.le_of_ble_eq_true rfl) dX8_segment_1 ?_
  refine r_if_eq (tgt := 26) hX dX8_segment_4 rfl (fun c => False.elim (absurd c (by decide))) (fun _ => ?_)
  refine r_iload_n hX rfl 2 rfl dX8_segment_7 ?_
  refine r_callSR (As := [.int (nI t)]) (rest := []) (rv := some (.int 1)) (st1 := [.int 1]) hX cs_X8_51 (by decide) (fun l => c_isKnot_1 l G h top ht) rfl rfl rfl (Nat.le_of_ble_eq_true rfl) dX8_segment_8 ?_
  refine r_if_eq (tgt := 26) hX dX8_segment_11 rfl (fun c => False.elim (absurd c (by decide))) (fun _ => ?_)
  refine r_iload hX 4 rfl dX8_segment_14 ?_
  refine r_callSR (As := [.int (nI o)]) (rest := []) (rv := some (.int 1)) (st1 := [.int 1]) hX cs_X8_55 (by decide) (fun l => c_isOwner_1 l G h top ho) rfl rfl rfl (Nat.le_of_ble_eq_true rfl) dX8_segment_16 ?_
  refine r_if_eq (tgt := 26) hX dX8_segment_19 rfl (fun c => False.elim (absurd c (by decide))) (fun _ => ?_)
  refine r_iconst (v := 1) hX (by decide) dX8_segment_22 ?_
  refine r_goto (tgt := 27) hX rfl dX8_segment_23 ?_
  refine r_callSR (As := [.int 1]) (rest := []) (rv := none) (st1 := []) hX cs_X8_58 (by decide) (fun l => c_X8_needIndex l G h top) rfl rfl rfl (Nat.le_of_ble_eq_true rfl) dX8_segment_27 ?_
  refine r_iload_n hX rfl 1 rfl dX8_segment_30 ?_
  refine r_iload_n hX rfl 2 rfl dX8_segment_31 ?_
  refine r_icmp_eq (tgt := 49) hX dX8_segment_32 rfl (fun c => False.elim (hne ((nI_eq (by omega) (by omega)).mp c))) (fun _ => ?_)
  refine r_iload_n hX rfl 3 rfl dX8_segment_35 ?_
  refine r_iconst (v := 1) hX (by decide) dX8_segment_36 ?_
  refine r_bipush (v := 60) hX (by decide) dX8_segment_37 ?_
  refine r_callSR (As := [.int len, .int 1, .int 60]) (rest := []) (rv := some (.int 1)) (st1 := [.int 1]) hX cs_X8_62 (by decide) (fun l => c_isIn_1 l G h top hlen) rfl rfl rfl (Nat.le_of_ble_eq_true rfl) dX8_segment_39 ?_
  refine r_if_eq (tgt := 49) hX dX8_segment_42 rfl (fun c => False.elim (absurd c (by decide))) (fun _ => ?_)
  refine r_iconst (v := 1) hX (by decide) dX8_segment_45 ?_
  refine r_goto (tgt := 50) hX rfl dX8_segment_46 ?_
  refine r_callSR (As := [.int 1]) (rest := []) (rv := none) (st1 := []) hX cs_X8_66 (by decide) (fun l => c_X8_needArgument l G h top) rfl rfl rfl (Nat.le_of_ble_eq_true rfl) dX8_segment_50 ?_
  refine r_aload_n hX rfl 0 rfl dX8_segment_53 ?_
  refine r_getf hX fl_X8_10 hha rfl dX8_segment_54 ?_
  refine r_callVR (As := []) (rest := []) (rv := some (.int (nI (s_segs s).length))) (st1 := [.int (nI (s_segs s).length)]) hX cs_X8_69 (by decide) (fun l => z_size hl0 l) hl01 rfl rfl rfl rfl (Nat.le_of_ble_eq_true rfl) dX8_segment_57 ?_
  refine r_bipush (v := 12) hX (by decide) dX8_segment_60 ?_
  refine r_icmp_ge (tgt := 69) hX dX8_segment_62 rfl (fun c => False.elim (absurd (show nI 12 ≤ nI (s_segs s).length from c) (nI_ge (by omega) (by omega)))) (fun _ => ?_)
  refine r_iconst (v := 1) hX (by decide) dX8_segment_65 ?_
  refine r_goto (tgt := 70) hX rfl dX8_segment_66 ?_
  refine r_callSR (As := [.int 1]) (rest := []) (rv := none) (st1 := []) hX cs_X8_73 (by decide) (fun l => c_X8_needState l G h top) rfl rfl rfl (Nat.le_of_ble_eq_true rfl) dX8_segment_70 ?_
  refine r_aload_n hX rfl 0 rfl dX8_segment_73 ?_
  refine r_getf hX fl_X8_10 hha rfl dX8_segment_74 ?_
  refine r_callVR (As := []) (rest := []) (rv := some (.int (nI (s_segs s).length))) (st1 := [.int (nI (s_segs s).length)]) hX cs_X8_69 (by decide) (fun l => z_size hl0 l) hl01 rfl rfl rfl rfl (Nat.le_of_ble_eq_true rfl) dX8_segment_77 ?_
  refine r_istore (lv' := [(5, .int (nI (s_segs s).length)), (0, .ref (z_b G)), (1, .int (nI f)), (2, .int (nI t)), (3, .int len), (4, .int (nI o))]) hX (by decide) rfl dX8_segment_80 ?_
  refine r_aload_n hX rfl 1 rfl dX8_segment_82 ?_
  refine r_getf hX fl_X8_10 hha rfl dX8_segment_83 ?_
  refine r_new hX nw_X8_76 (by omega) dX8_segment_86 ?_
  replace hha := hha.new (e2 := (.inr (4, [.int 0, .int 0, .int 0, .int 0, .int 0, .null, .null, .int 0])))
  replace hl01 := hl01.new (e2 := (.inr (4, [.int 0, .int 0, .int 0, .int 0, .int 0, .null, .null, .int 0])))
  have hN86 : z_at G (va_up h top (.inr (4, [.int 0, .int 0, .int 0, .int 0, .int 0, .null, .null, .int 0]))) (top + 1) top (.inr (4, [.int 0, .int 0, .int 0, .int 0, .int 0, .null, .null, .int 0])) := z_at.fresh hbt
  refine r_dup hX rfl dX8_segment_89 ?_
  refine r_iload hX 0 rfl dX8_segment_90 ?_
  refine r_iload_n hX rfl 2 rfl dX8_segment_92 ?_
  refine r_iload_n hX rfl 3 rfl dX8_segment_93 ?_
  refine r_iload_n hX rfl 4 rfl dX8_segment_94 ?_
  refine r_iload hX 5 rfl dX8_segment_95 ?_
  refine r_callI (As := [.int (nI (s_segs s).length), .int (nI f), .int (nI t), .int len, .int (nI o)]) (rest := [.ref top, .ref (z_b G + 1)]) hX cs_X8_78 (by decide) (fun l => c_X3_init l G (va_up h top (.inr (4, [.int 0, .int 0, .int 0, .int 0, .int 0, .null, .null, .int 0]))) (top + 1) top (nI (s_segs s).length) (nI f) (nI t) len (nI o) (by omega) (by omega) hN86) rfl rfl (Nat.le_of_ble_eq_true rfl) dX8_segment_97 (fun r1 h1 top1 hp1 => ?_)
  obtain ⟨rfl, rfl, hat, hfr0⟩ := hp1
  have hfr : ∀ q, q < top → h1 q = h q := fun q hq => by rw [hfr0 q (by omega) (by omega)]; simp [va_up, show q ≠ top by omega]
  have hAA : z_AL G h1 (top + 1 + 2) (z_b G + 1) (b_ls be 0).1 (b_ls be 0).2.1 (s_segs s).length (b_ls be 0).2.2 (fun i : Nat => ((s_segs s).map (fun x => x.1))[i]?) := H.l0.fr hfr (by omega)
  have hAA1 := hAA.1
  refine r_callV (As := [.ref top]) (rest := []) hX cs_X8_81 (by decide) (fun l => c_add1 l G h1 (top + 1 + 2) (z_b G + 1) top (b_ls be 0).2.1 (s_segs s).length (b_ls be 0).2.2 (b_ls be 0).1 (fun i : Nat => ((s_segs s).map (fun x => x.1))[i]?) (by omega) hAA (fun i hi y hy => by obtain ⟨q, hq2⟩ : ∃ q, (s_segs s)[i]? = some q := ⟨_, List.getElem?_eq_getElem hi⟩; rw [z_mapget hq2] at hy; cases hy; exact (H.ob_seg hq2).fr hfr (by omega)) (by omega) (z_ob_of hat rfl kw_ob4) (fun _ => by omega)) hAA1 rfl rfl rfl (Nat.le_of_ble_eq_true rfl) dX8_segment_100 (fun r2 h2 top2 hp2 => ?_)
  obtain ⟨rfl, l9, H2⟩ := H.addSeg (p := (top, nI f, nI t, len, nI o)) rfl (by omega) (t1 := top + 1 + 2) rfl hat hfr hp2
  refine r_pop hX rfl dX8_segment_103 ?_
  refine r_iload hX 0 rfl dX8_segment_104 ?_
  exact r_iret hX hq ⟨rfl, top, _, H2⟩ dX8_segment_106

set_option maxRecDepth 20000 in
set_option maxHeartbeats 4000000 in
theorem c_X6_addTariff (l : Launch) (G : zG) (h : zH) (top : Nat) (s : zS) (be : zB) (h0 : zH) (top0 : Nat) (H : z_St G s be h0 top0) (p : zTar) (hp1 : p.1 = top0) (hl5 : (s_tars s).length < 5) (ht0 : top = top0 + 1) (hat0 : z_at G h top top0 (z_tarC p)) (hfr : ∀ q, q < top0 → h q = h0 q) : z_Ct l yX6_addTariff cX6_addTariff 2 none 8 G [.ref (z_b G + 4), .ref p.1] h top (fun r9 h' top' => r9 = none ∧ ∃ be2 : zB, z_St G (zs_tars s (s_tars s ++ [p])) be2 h' top') := by
  refine z_of (own := RX6) (nm := "addTariff") (by decide) rfl rfl (by decide) (Nat.le_of_ble_eq_true rfl) (fun X hX hq => ?_)
  replace hX : z_ok X cX6_addTariff 2 RX6 none "addTariff" 8 G := hX
  show z_Z X h top 0 [(0, .ref (z_b G + 4)), (1, .ref p.1)] []
  subst ht0
  have htf := H.tfs.fr hfr (Nat.le_succ top0)
  have hbd := H.2.2.1.2.2
  have hrm := H.2.2.1.room
  have hbt : z_b G ≤ top0 := Nat.le_trans H.hall.1 (Nat.le_of_lt H.hall.2.1)
  have hAA : z_AL G h (top0 + 1) (z_b G + 5) (b_ls be 3).1 (b_ls be 3).2.1 (s_tars s).length (b_ls be 3).2.2 (fun i : Nat => ((s_tars s).map (fun x => x.1))[i]?) := H.l3.fr hfr (by omega)
  have hAA1 := hAA.1
  have hat : z_at G h (top0 + 1) p.1 (z_tarC p) := by rw [hp1]; exact hat0
  refine r_aload_n hX rfl 0 rfl dX6_addTariff_0 ?_
  refine r_getf hX fl_X6_12 htf rfl dX6_addTariff_1 ?_
  refine r_aload_n hX rfl 1 rfl dX6_addTariff_4 ?_
  refine r_callV (As := [.ref p.1]) (rest := []) hX cs_X6_26 (by decide) (fun l => c_add1 l G h (top0 + 1) (z_b G + 5) p.1 (b_ls be 3).2.1 (s_tars s).length (b_ls be 3).2.2 (b_ls be 3).1 (fun i : Nat => ((s_tars s).map (fun x => x.1))[i]?) (by omega) hAA (fun i hi y hy => by obtain ⟨q, hq2⟩ : ∃ q, (s_tars s)[i]? = some q := ⟨_, List.getElem?_eq_getElem hi⟩; rw [z_mapget hq2] at hy; cases hy; exact (H.ob_tar hq2).fr hfr (by omega)) (by omega) (z_ob_of hat rfl kw_ob6) (fun _ => by omega)) hAA1 rfl rfl rfl (Nat.le_of_ble_eq_true rfl) dX6_addTariff_5 (fun r2 h2 top2 hp2 => ?_)
  obtain ⟨rfl, l9, H2⟩ := H.addTar (p := p) hp1 hl5 rfl hat0 hfr (by rw [hp1] at hp2; exact hp2)
  refine r_pop hX rfl dX6_addTariff_8 ?_
  exact r_vret hX hq ⟨rfl, _, H2⟩ dX6_addTariff_9

set_option maxRecDepth 20000 in
set_option maxHeartbeats 4000000 in
theorem c_X8_tariff (l : Launch) (G : zG) (h : zH) (top : Nat) (s : zS) (be : zB) (H : z_St G s be h top) (o : Nat) (r st pk d : Int32) (ho : o < 4) (hr : zf_isIn r 1 30 = true) (hst : zf_isIn st 0 9 = true) (hpk : zf_isIn pk 0 100 = true) (hd1 : s_now s / 1440 < d) (hd2 : d ≤ 50) (hl5 : (s_tars s).length < 5) : z_Ct l yX8_tariff cX8_tariff 6 (some .int) 9 G [.ref (z_b G), .int (nI o), .int r, .int st, .int pk, .int d] h top (fun r9 h' top' => (∃ v : Int32, r9 = some (.int v)) ∧ ∃ (a : Nat) (be2 : zB), z_St G (zs_tars s (s_tars s ++ [(a, nI o, r, st, pk, d)])) be2 h' top') := by
  refine z_of (own := RX8) (nm := "tariff") (by decide) rfl rfl (by decide) (Nat.le_of_ble_eq_true rfl) (fun X hX hq => ?_)
  replace hX : z_ok X cX8_tariff 6 RX8 (some .int) "tariff" 9 G := hX
  show z_Z X h top 0 [(0, .ref (z_b G)), (1, .int (nI o)), (2, .int r), (3, .int st), (4, .int pk), (5, .int d)] []
  have hha := H.hall
  have hbd := H.2.2.1.2.2
  have htf := H.tfs
  have hbt : z_b G ≤ top := Nat.le_trans H.hall.1 (Nat.le_of_lt H.hall.2.1)
  have hrm := H.2.2.1.room
  refine r_iload_n hX rfl 1 rfl dX8_tariff_0 ?_
  refine r_callSR (As := [.int (nI o)]) (rest := []) (rv := some (.int 1)) (st1 := [.int 1]) hX cs_X8_55 (by decide) (fun l => c_isOwner_1 l G h top ho) rfl rfl rfl (Nat.le_of_ble_eq_true rfl) dX8_tariff_1 ?_
  refine r_callSR (As := [.int 1]) (rest := []) (rv := none) (st1 := []) hX cs_X8_58 (by decide) (fun l => c_X8_needIndex l G h top) rfl rfl rfl (Nat.le_of_ble_eq_true rfl) dX8_tariff_4 ?_
  refine r_iload_n hX rfl 2 rfl dX8_tariff_7 ?_
  refine r_iconst (v := 1) hX (by decide) dX8_tariff_8 ?_
  refine r_bipush (v := 30) hX (by decide) dX8_tariff_9 ?_
  refine r_callSR (As := [.int r, .int 1, .int 30]) (rest := []) (rv := some (.int 1)) (st1 := [.int 1]) hX cs_X8_62 (by decide) (fun l => c_isIn_1 l G h top hr) rfl rfl rfl (Nat.le_of_ble_eq_true rfl) dX8_tariff_11 ?_
  refine r_if_eq (tgt := 51) hX dX8_tariff_14 rfl (fun c => False.elim (absurd c (by decide))) (fun _ => ?_)
  refine r_iload_n hX rfl 3 rfl dX8_tariff_17 ?_
  refine r_iconst (v := 0) hX (by decide) dX8_tariff_18 ?_
  refine r_bipush (v := 9) hX (by decide) dX8_tariff_19 ?_
  refine r_callSR (As := [.int st, .int 0, .int 9]) (rest := []) (rv := some (.int 1)) (st1 := [.int 1]) hX cs_X8_62 (by decide) (fun l => c_isIn_1 l G h top hst) rfl rfl rfl (Nat.le_of_ble_eq_true rfl) dX8_tariff_21 ?_
  refine r_if_eq (tgt := 51) hX dX8_tariff_24 rfl (fun c => False.elim (absurd c (by decide))) (fun _ => ?_)
  refine r_iload hX 4 rfl dX8_tariff_27 ?_
  refine r_iconst (v := 0) hX (by decide) dX8_tariff_29 ?_
  refine r_bipush (v := 100) hX (by decide) dX8_tariff_30 ?_
  refine r_callSR (As := [.int pk, .int 0, .int 100]) (rest := []) (rv := some (.int 1)) (st1 := [.int 1]) hX cs_X8_62 (by decide) (fun l => c_isIn_1 l G h top hpk) rfl rfl rfl (Nat.le_of_ble_eq_true rfl) dX8_tariff_32 ?_
  refine r_if_eq (tgt := 51) hX dX8_tariff_35 rfl (fun c => False.elim (absurd c (by decide))) (fun _ => ?_)
  refine r_aload_n hX rfl 0 rfl dX8_tariff_38 ?_
  refine r_iload hX 5 rfl dX8_tariff_39 ?_
  refine r_callVR (As := [.int d]) (rest := []) (rv := some (.int 1)) (st1 := [.int 1]) hX cs_X8_100 (by decide) (fun l => c_X8_isDayToTell l G h top s be H d hd1 hd2) hha rfl rfl rfl rfl (Nat.le_of_ble_eq_true rfl) dX8_tariff_41 ?_
  refine r_if_eq (tgt := 51) hX dX8_tariff_44 rfl (fun c => False.elim (absurd c (by decide))) (fun _ => ?_)
  refine r_iconst (v := 1) hX (by decide) dX8_tariff_47 ?_
  refine r_goto (tgt := 52) hX rfl dX8_tariff_48 ?_
  refine r_callSR (As := [.int 1]) (rest := []) (rv := none) (st1 := []) hX cs_X8_66 (by decide) (fun l => c_X8_needArgument l G h top) rfl rfl rfl (Nat.le_of_ble_eq_true rfl) dX8_tariff_52 ?_
  refine r_aload_n hX rfl 0 rfl dX8_tariff_55 ?_
  refine r_getf hX fl_X8_25 hha rfl dX8_tariff_56 ?_
  refine r_callVR (As := []) (rest := []) (rv := some (.int (nI (s_tars s).length))) (st1 := [.int (nI (s_tars s).length)]) hX cs_X8_103 (by decide) (fun l => c_X6_size l G h top s be H) htf rfl rfl rfl rfl (Nat.le_of_ble_eq_true rfl) dX8_tariff_59 ?_
  refine r_bipush (v := 16) hX (by decide) dX8_tariff_62 ?_
  refine r_icmp_ge (tgt := 71) hX dX8_tariff_64 rfl (fun c => False.elim (absurd (show nI 16 ≤ nI (s_tars s).length from c) (nI_ge (by omega) (by omega)))) (fun _ => ?_)
  refine r_iconst (v := 1) hX (by decide) dX8_tariff_67 ?_
  refine r_goto (tgt := 72) hX rfl dX8_tariff_68 ?_
  refine r_callSR (As := [.int 1]) (rest := []) (rv := none) (st1 := []) hX cs_X8_73 (by decide) (fun l => c_X8_needState l G h top) rfl rfl rfl (Nat.le_of_ble_eq_true rfl) dX8_tariff_72 ?_
  refine r_aload_n hX rfl 0 rfl dX8_tariff_75 ?_
  refine r_getf hX fl_X8_25 hha rfl dX8_tariff_76 ?_
  refine r_new hX nw_X8_104 (by omega) dX8_tariff_79 ?_
  replace hha := hha.new (e2 := (.inr (6, [.int 0, .int 0, .int 0, .int 0, .int 0])))
  replace htf := htf.new (e2 := (.inr (6, [.int 0, .int 0, .int 0, .int 0, .int 0])))
  have hN79 : z_at G (va_up h top (.inr (6, [.int 0, .int 0, .int 0, .int 0, .int 0]))) (top + 1) top (.inr (6, [.int 0, .int 0, .int 0, .int 0, .int 0])) := z_at.fresh hbt
  refine r_dup hX rfl dX8_tariff_82 ?_
  refine r_iload_n hX rfl 1 rfl dX8_tariff_83 ?_
  refine r_iload_n hX rfl 2 rfl dX8_tariff_84 ?_
  refine r_iload_n hX rfl 3 rfl dX8_tariff_85 ?_
  refine r_iload hX 4 rfl dX8_tariff_86 ?_
  refine r_iload hX 5 rfl dX8_tariff_88 ?_
  refine r_callIR (As := [.int (nI o), .int r, .int st, .int pk, .int d]) (rest := [.ref top, .ref (z_b G + 4)]) (rv := none) (st1 := [.ref top, .ref (z_b G + 4)]) hX cs_X8_106 (by decide) (fun l => c_X5_init l G (va_up h top (.inr (6, [.int 0, .int 0, .int 0, .int 0, .int 0]))) (top + 1) top (nI o) r st pk d hN79) rfl rfl rfl (Nat.le_of_ble_eq_true rfl) dX8_tariff_90 ?_
  rw [bx_uu]
  have hfr : ∀ q, q < top → (va_up h top (.inr (6, [.int (nI o), .int r, .int st, .int pk, .int d]))) q = h q := fun q hq => by simp [va_up, show q ≠ top by omega]
  have hat : z_at G (va_up h top (.inr (6, [.int (nI o), .int r, .int st, .int pk, .int d]))) (top + 1) top (.inr (6, [.int (nI o), .int r, .int st, .int pk, .int d])) := z_at.fresh hbt
  have htf := H.tfs.fr hfr (Nat.le_succ top)
  have hha := H.hall.fr hfr (Nat.le_succ top)
  refine r_callV (As := [.ref top]) (rest := []) hX cs_X8_107 (by decide) (fun l => c_X6_addTariff l G (va_up h top (.inr (6, [.int (nI o), .int r, .int st, .int pk, .int d]))) (top + 1) s be h top H (top, nI o, r, st, pk, d) rfl hl5 rfl hat hfr) htf rfl rfl rfl (Nat.le_of_ble_eq_true rfl) dX8_tariff_93 (fun r1 h1 top1 hp1 => ?_)
  obtain ⟨rfl, be2, H2⟩ := hp1
  have hha2 := H2.hall
  have htf2 := H2.tfs
  refine r_aload_n hX rfl 0 rfl dX8_tariff_96 ?_
  refine r_getf hX fl_X8_25 hha2 rfl dX8_tariff_97 ?_
  refine r_callVR (As := []) (rest := []) (rv := some (.int (nI (s_tars (zs_tars s (s_tars s ++ [(top, nI o, r, st, pk, d)]))).length))) (st1 := [.int (nI (s_tars (zs_tars s (s_tars s ++ [(top, nI o, r, st, pk, d)]))).length)]) hX cs_X8_103 (by decide) (fun l => c_X6_size l G h1 top1 _ _ H2) htf2 rfl rfl rfl rfl (Nat.le_of_ble_eq_true rfl) dX8_tariff_100 ?_
  exact r_iret hX hq ⟨⟨_, rfl⟩, top, be2, H2⟩ dX8_tariff_103

