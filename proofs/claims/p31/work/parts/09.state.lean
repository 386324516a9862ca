/-! the state of a hall -/
/-- address, from, to, length, owner -/
abbrev zSeg : Type := Nat × Int32 × Int32 × Int32 × Int32
/-- address, (class, emission, account), (balance, exemptions, taken, fines) -/
abbrev zVeh : Type := Nat × (Int32 × Int32 × Int32) × (Int32 × Int32 × Int32 × Int32)
/-- address, owner, rate, step, peak, first day -/
abbrev zTar : Type := Nat × Int32 × Int32 × Int32 × Int32 × Int32
/-- address, (the vehicle's address, the segment's), minute, source, erased -/
abbrev zSgt : Type := Nat × (Nat × Nat) × Int32 × Int32 × Int32
/-- address, the segment's address, minute, sightings, doubtful, reason, due -/
abbrev zPas : Type := Nat × Nat × Int32 × Int32 × Int32 × Int32 × Int32
/-- (shuts, now, cap, listed, alarms, catches, erased), (coins, caps, paid, hall, taken, given back), (segments, vehicles, tariffs, sightings) -/
abbrev zS : Type := (Int32 × Int32 × Int32 × Int32 × Int32 × Int32 × Int32) × ((Nat → Int32) × (Nat → Int32) × (Nat → Int32) × Int32 × Int32 × Int32) × (List zSeg × List zVeh × List zTar × List zSgt)
abbrev s_shuts (s : zS) : Int32 := s.1.1
abbrev s_now (s : zS) : Int32 := s.1.2.1
abbrev s_cap (s : zS) : Int32 := s.1.2.2.1
abbrev s_listed (s : zS) : Int32 := s.1.2.2.2.1
abbrev s_alarms (s : zS) : Int32 := s.1.2.2.2.2.1
abbrev s_catches (s : zS) : Int32 := s.1.2.2.2.2.2.1
abbrev s_erased (s : zS) : Int32 := s.1.2.2.2.2.2.2
abbrev s_coins (s : zS) : Nat → Int32 := s.2.1.1
abbrev s_caps (s : zS) : Nat → Int32 := s.2.1.2.1
abbrev s_paid (s : zS) : Nat → Int32 := s.2.1.2.2.1
abbrev s_hall (s : zS) : Int32 := s.2.1.2.2.2.1
abbrev s_taken (s : zS) : Int32 := s.2.1.2.2.2.2.1
abbrev s_gb (s : zS) : Int32 := s.2.1.2.2.2.2.2
abbrev s_segs (s : zS) : List zSeg := s.2.2.1
abbrev s_vehs (s : zS) : List zVeh := s.2.2.2.1
abbrev s_tars (s : zS) : List zTar := s.2.2.2.2.1
abbrev s_sgts (s : zS) : List zSgt := s.2.2.2.2.2
/-- reach, (pool used, certain), pool, (picked, joined, rows: addresses), the lists' (modCount, array, places) -/
abbrev zB : Type := (Nat → Int32) × (Int32 × Int32) × List zPas × (List Nat × List Nat × List Nat) × (Nat → Int32 × Nat × Nat)
abbrev b_rch (b : zB) : Nat → Int32 := b.1
abbrev b_pu (b : zB) : Int32 := b.2.1.1
abbrev b_ct (b : zB) : Int32 := b.2.1.2
abbrev b_pool (b : zB) : List zPas := b.2.2.1
abbrev b_pk (b : zB) : List Nat := b.2.2.2.1.1
abbrev b_jn (b : zB) : List Nat := b.2.2.2.1.2.1
abbrev b_rw (b : zB) : List Nat := b.2.2.2.1.2.2
abbrev b_ls (b : zB) : Nat → Int32 × Nat × Nat := b.2.2.2.2
def z_els (s : zS) (b : zB) : Nat → List Nat
  | 0 => (s_segs s).map (fun x => x.1)
  | 1 => (s_vehs s).map (fun x => x.1)
  | 2 => (s_sgts s).map (fun x => x.1)
  | 3 => (s_tars s).map (fun x => x.1)
  | 4 => b_pk b
  | 5 => b_jn b
  | 6 => b_rw b
  | _ => (b_pool b).map (fun x => x.1)
def z_la (b : Nat) : Nat → Nat
  | 0 => b + 1
  | 1 => b + 2
  | 2 => b + 3
  | 3 => b + 5
  | 4 => b + 12
  | 5 => b + 13
  | 6 => b + 14
  | _ => b + 15
abbrev z_segC (i : Nat) (x : zSeg) : va_E := .inr (4, [.int (nI i), .int x.2.1, .int x.2.2.1, .int x.2.2.2.1, .int x.2.2.2.2, .ref (x.1 + 1), .ref (x.1 + 2), .int 0])
abbrev z_vehC (i : Nat) (x : zVeh) : va_E := .inr (8, [.int (nI i), .int x.2.1.1, .int x.2.1.2.1, .int x.2.1.2.2, .int x.2.2.1, .int x.2.2.2.1, .int x.2.2.2.2.1, .int x.2.2.2.2.2])
abbrev z_tarC (x : zTar) : va_E := .inr (6, [.int x.2.1, .int x.2.2.1, .int x.2.2.2.1, .int x.2.2.2.2.1, .int x.2.2.2.2.2])
abbrev z_sgtC (x : zSgt) : va_E := .inr (5, [.ref x.2.1.1, .ref x.2.1.2, .int x.2.2.1, .int x.2.2.2.1, .int x.2.2.2.2])
abbrev z_pasC (x : zPas) : va_E := .inr (3, [.ref x.2.1, .int x.2.2.1, .int x.2.2.2.1, .int x.2.2.2.2.1, .int x.2.2.2.2.2.1, .int x.2.2.2.2.2.2])
abbrev z_hallC (b : Nat) (s : zS) : va_E := .inr (9, [.ref (b + 1), .ref (b + 2), .ref (b + 3), .ref (b + 4), .ref (b + 7), .ref (b + 11), .ref (b + 16), .int (s_shuts s), .int (s_now s), .int (s_cap s), .int (s_listed s), .int (s_alarms s), .int (s_catches s), .int (s_erased s)])
abbrev z_tfsC (b : Nat) : va_E := .inr (7, [.ref (b + 5), .ref (b + 6), .int 0])
abbrev z_lgC (b : Nat) (s : zS) : va_E := .inr (2, [.ref (b + 8), .ref (b + 9), .ref (b + 10), .int (s_hall s), .int (s_taken s), .int (s_gb s)])
abbrev z_bkC (b : Nat) (be : zB) : va_E := .inr (1, [.ref (b + 12), .ref (b + 13), .ref (b + 14), .ref (b + 15), .int (b_pu be), .int (b_ct be)])
/-- what stands where: kind, place -> address and content -/
def z_ct (G : zG) (s : zS) (be : zB) : Nat → Nat → Option (Nat × va_E)
  | 0, 0 => some (z_b G, z_hallC (z_b G) s)
  | 0, 1 => some (z_b G + 4, z_tfsC (z_b G))
  | 0, 2 => some (z_b G + 7, z_lgC (z_b G) s)
  | 0, 3 => some (z_b G + 11, z_bkC (z_b G) be)
  | 0, 4 => some (z_b G + 8, .inl (z_aI G, 4, .inl (s_coins s)))
  | 0, 5 => some (z_b G + 9, .inl (z_aI G, 41, .inl (s_caps s)))
  | 0, 6 => some (z_b G + 10, .inl (z_aI G, 1312, .inl (s_paid s)))
  | 0, 7 => some (z_b G + 16, .inl (z_aI G, 8, .inl (b_rch be)))
  | 0, 8 => some (z_b G + 6, .inl (z_aZ G, 51, .inl (fun _ => 0)))
  | 1, j => if j < 8 then some (z_la (z_b G) j, .inr (0, [.int (b_ls be j).1, .ref (b_ls be j).2.1, .int (nI (z_els s be j).length)])) else none
  | 2, j => if j < 8 ∧ 0 < (b_ls be j).2.2 then some ((b_ls be j).2.1, z_refs G (b_ls be j).2.2 (fun i => (z_els s be j)[i]?)) else none
  | 3, i => ((s_segs s)[i]?).map (fun x => (x.1, z_segC i x))
  | 4, i => ((s_vehs s)[i]?).map (fun x => (x.1, z_vehC i x))
  | 5, i => ((s_tars s)[i]?).map (fun x => (x.1, z_tarC x))
  | 6, i => ((s_sgts s)[i]?).map (fun x => (x.1, z_sgtC x))
  | 7, i => ((b_pool be)[i]?).map (fun x => (x.1, z_pasC x))
  | _, _ => none
theorem z_ct1 (G : zG) (s : zS) (be : zB) (j : Nat) : z_ct G s be 1 j = if j < 8 then some (z_la (z_b G) j, .inr (0, [.int (b_ls be j).1, .ref (b_ls be j).2.1, .int (nI (z_els s be j).length)])) else none := rfl
theorem z_ct2 (G : zG) (s : zS) (be : zB) (j : Nat) : z_ct G s be 2 j = if j < 8 ∧ 0 < (b_ls be j).2.2 then some ((b_ls be j).2.1, z_refs G (b_ls be j).2.2 (fun i => (z_els s be j)[i]?)) else none := rfl
theorem z_ct3 (G : zG) (s : zS) (be : zB) (i : Nat) : z_ct G s be 3 i = ((s_segs s)[i]?).map (fun x => (x.1, z_segC i x)) := rfl
theorem z_ct4 (G : zG) (s : zS) (be : zB) (i : Nat) : z_ct G s be 4 i = ((s_vehs s)[i]?).map (fun x => (x.1, z_vehC i x)) := rfl
theorem z_ct5 (G : zG) (s : zS) (be : zB) (i : Nat) : z_ct G s be 5 i = ((s_tars s)[i]?).map (fun x => (x.1, z_tarC x)) := rfl
theorem z_ct6 (G : zG) (s : zS) (be : zB) (i : Nat) : z_ct G s be 6 i = ((s_sgts s)[i]?).map (fun x => (x.1, z_sgtC x)) := rfl
theorem z_ct7 (G : zG) (s : zS) (be : zB) (i : Nat) : z_ct G s be 7 i = ((b_pool be)[i]?).map (fun x => (x.1, z_pasC x)) := rfl
theorem z_ct8 (G : zG) (s : zS) (be : zB) (k i : Nat) (h : 8 ≤ k) : z_ct G s be k i = none := by
  match k, h with
  | k + 8, _ => rfl
abbrev zCT : Type := Nat → Nat → Option (Nat × va_E)
/-- the heap holds it, each at an address of its own -/
def z_Rp (G : zG) (ct : zCT) (h : zH) (top : Nat) : Prop := (∀ k i a e, ct k i = some (a, e) → z_at G h top a e) ∧ ∀ k i k' i' a e e', ct k i = some (a, e) → ct k' i' = some (a, e') → k = k' ∧ i = i'
theorem z_Rp.gen {G : zG} {ct ct2 : zCT} {h h2 : zH} {top top2 : Nat} (H : z_Rp G ct h top) (P : Nat → Nat → Prop) (ht : top ≤ top2)
    (h1 : ∀ k i, ¬ P k i → ct2 k i = ct k i) (h2at : ∀ k i a e, P k i → ct2 k i = some (a, e) → z_at G h2 top2 a e)
    (h3 : ∀ k i a e, P k i → ct2 k i = some (a, e) → ∀ k' i' e', ¬ P k' i' → ct k' i' = some (a, e') → False)
    (h4 : ∀ k i k' i' a e e', P k i → P k' i' → ct2 k i = some (a, e) → ct2 k' i' = some (a, e') → k = k' ∧ i = i')
    (h5 : ∀ k i a e, ¬ P k i → ct k i = some (a, e) → h2 a = h a) : z_Rp G ct2 h2 top2 := by
  refine ⟨fun k i a e hk => ?_, fun k i k' i' a e e' hk hk' => ?_⟩
  · by_cases p : P k i
    · exact h2at k i a e p hk
    · rw [h1 k i p] at hk
      obtain ⟨g1, g2, g3⟩ := H.1 k i a e hk
      exact ⟨g1, by omega, by rw [h5 k i a e p hk, g3]⟩
  · by_cases p : P k i <;> by_cases p' : P k' i'
    · exact h4 k i k' i' a e e' p p' hk hk'
    · rw [h1 k' i' p'] at hk'
      exact (h3 k i a e p hk k' i' e' p' hk').elim
    · rw [h1 k i p] at hk
      exact (h3 k' i' a e' p' hk' k i e p hk).elim
    · rw [h1 k i p] at hk
      rw [h1 k' i' p'] at hk'
      exact H.2 k i k' i' a e e' hk hk'
/-- one content changes -/
theorem z_Rp.set {G : zG} {ct ct2 : zCT} {h : zH} {top a : Nat} {e e0 : va_E} (H : z_Rp G ct h top) (k i : Nat) (hk : ct k i = some (a, e0)) (hk2 : ct2 k i = some (a, e)) (hc : ∀ k' i', ¬ (k' = k ∧ i' = i) → ct2 k' i' = ct k' i') : z_Rp G ct2 (va_up h a e) top := by
  refine H.gen (fun k' i' => k' = k ∧ i' = i) (Nat.le_refl _) hc (fun k' i' a' e' p hp => ?_) (fun k' i' a' e' p hp k2 i2 e2 p2 hp2 => ?_) (fun k' i' k2 i2 a' e' e2 p p2 hp hp2 => ⟨by rw [p.1, p2.1], by rw [p.2, p2.2]⟩) (fun k' i' a' e' p hp => ?_)
  · obtain ⟨rfl, rfl⟩ := p
    rw [hk2] at hp
    cases hp
    exact z_at.self (H.1 _ _ _ _ hk)
  · obtain ⟨rfl, rfl⟩ := p
    rw [hk2] at hp
    cases hp
    exact p2 (H.2 _ _ _ _ _ _ _ hp2 hk)
  · have : a' ≠ a := fun q => by
      subst q
      exact p (H.2 _ _ _ _ _ _ _ hp hk)
    simp [va_up, this]

/-- list conditions: what the contents say beside the cells -/
def z_okL (G : zG) (s : zS) (be : zB) : Prop := ∀ j, j < 8 → (z_els s be j).length ≤ (b_ls be j).2.2 ∧ (b_ls be j).2.2 ≤ 225 ∧ ((b_ls be j).2.2 = 0 → (b_ls be j).2.1 = z_tE G)
theorem z_Rp.list {G : zG} {s : zS} {be : zB} {h : zH} {top : Nat} (H : z_Rp G (z_ct G s be) h top) (hL : z_okL G s be) (j : Nat) (hj : j < 8) : z_AL G h top (z_la (z_b G) j) (b_ls be j).1 (b_ls be j).2.1 (z_els s be j).length (b_ls be j).2.2 (fun i => (z_els s be j)[i]?) := by
  obtain ⟨g1, g2, g3⟩ := hL j hj
  refine ⟨H.1 1 j _ _ (by rw [z_ct1, if_pos hj]), g1, g2, fun i hi => List.getElem?_eq_none hi, ?_⟩
  rcases Nat.eq_zero_or_pos (b_ls be j).2.2 with q | q
  · exact Or.inl ⟨q, g3 q⟩
  · exact Or.inr ⟨q, H.1 2 j _ _ (by rw [z_ct2, if_pos ⟨hj, q⟩])⟩
/-- a list changes, and with it perhaps one object more comes to stand -/
theorem z_Rp.lst {G : zG} {s s2 : zS} {be be2 : zB} {h h2 : zH} {top top2 : Nat} (H : z_Rp G (z_ct G s be) h top) (hL : z_okL G s be) (j : Nat) (hj : j < 8) (P : Nat → Nat → Prop) (hP : ∀ k i, P k i → 3 ≤ k)
    (ht : top ≤ top2) (hl : z_AL G h2 top2 (z_la (z_b G) j) (b_ls be2 j).1 (b_ls be2 j).2.1 (z_els s2 be2 j).length (b_ls be2 j).2.2 (fun i => (z_els s2 be2 j)[i]?))
    (he : (b_ls be2 j).2.1 = (b_ls be j).2.1 ∨ top ≤ (b_ls be2 j).2.1) (htE : ¬ z_b G ≤ z_tE G)
    (hf : ∀ q, q < top → q ≠ z_la (z_b G) j → q ≠ (b_ls be j).2.1 → h2 q = h q)
    (h1 : ∀ k i, ¬ P k i → ¬ (k = 1 ∧ i = j) → ¬ (k = 2 ∧ i = j) → z_ct G s2 be2 k i = z_ct G s be k i)
    (hn : ∀ k i a e, P k i → z_ct G s2 be2 k i = some (a, e) → z_at G h2 top2 a e ∧ (∀ k' i' e', z_ct G s be k' i' = some (a, e') → False) ∧ a ≠ (b_ls be2 j).2.1)
    (hn2 : ∀ k i k' i' a e e', P k i → P k' i' → z_ct G s2 be2 k i = some (a, e) → z_ct G s2 be2 k' i' = some (a, e') → k = k' ∧ i = i') : z_Rp G (z_ct G s2 be2) h2 top2 := by
  have c1 : ∀ (s : zS) (be : zB), z_ct G s be 1 j = some (z_la (z_b G) j, .inr (0, [.int (b_ls be j).1, .ref (b_ls be j).2.1, .int (nI (z_els s be j).length)])) := fun s be => by rw [z_ct1, if_pos hj]
  have c2 : ∀ (s : zS) (be : zB) a e, z_ct G s be 2 j = some (a, e) → a = (b_ls be j).2.1 ∧ 0 < (b_ls be j).2.2 ∧ e = z_refs G (b_ls be j).2.2 (fun i => (z_els s be j)[i]?) := fun s be a e q => by
    rw [z_ct2] at q
    by_cases z : j < 8 ∧ 0 < (b_ls be j).2.2
    · rw [if_pos z] at q
      cases q
      exact ⟨rfl, z.2, rfl⟩
    · rw [if_neg z] at q
      cases q
  have hla := (hl.1)
  have hla0 := H.1 _ _ _ _ (c1 s be)
  have hne : ∀ e, z_at G h2 top2 (b_ls be2 j).2.1 e → (b_ls be j).2.2 = 0 → top ≤ (b_ls be2 j).2.1 := fun e q z => by
    rcases he with w | w
    · have := q.1
      rw [w, (hL j hj).2.2 z] at this
      exact absurd this htE
    · exact w
  have old : ∀ k i e, z_ct G s be k i = some ((b_ls be2 j).2.1, e) → 0 < (b_ls be2 j).2.2 → (k = 2 ∧ i = j) := fun k i e q hpos => by
    have hq := H.1 _ _ _ _ q
    rcases hl.2.2.2.2 with ⟨z, _⟩ | ⟨_, z⟩
    · omega
    · rcases Nat.eq_zero_or_pos (b_ls be j).2.2 with w | w
      · have := hne _ z w
        have := hq.2.1
        omega
      · rcases he with v | v
        · rw [v] at q
          exact H.2 _ _ _ _ _ _ _ q (show z_ct G s be 2 j = some ((b_ls be j).2.1, _) by rw [z_ct2, if_pos ⟨hj, w⟩])
        · have := hq.2.1
          omega
  refine H.gen (fun k i => P k i ∨ (k = 1 ∧ i = j) ∨ (k = 2 ∧ i = j)) ht (fun k i p => h1 k i (fun z => p (Or.inl z)) (fun z => p (Or.inr (Or.inl z))) (fun z => p (Or.inr (Or.inr z)))) (fun k i a e p q => ?_) (fun k i a e p q k' i' e' p' q' => ?_) (fun k i k' i' a e e' p p' q q' => ?_) (fun k i a e p q => ?_)
  · rcases p with p | ⟨rfl, rfl⟩ | ⟨rfl, rfl⟩
    · exact (hn k i a e p q).1
    · rw [c1] at q
      cases q
      exact hla
    · obtain ⟨rfl, z1, rfl⟩ := c2 _ _ _ _ q
      rcases hl.2.2.2.2 with ⟨z, _⟩ | ⟨_, z⟩
      · omega
      · exact z
  · rcases p with p | ⟨rfl, rfl⟩ | ⟨rfl, rfl⟩
    · exact (hn k i a e p q).2.1 k' i' e' q'
    · rw [c1] at q
      cases q
      exact p' (Or.inr (Or.inl (H.2 _ _ _ _ _ _ _ q' (c1 s be))))
    · obtain ⟨rfl, z1, rfl⟩ := c2 _ _ _ _ q
      exact p' (Or.inr (Or.inr (old _ _ _ q' z1)))
  · have la2 : ∀ e, z_ct G s2 be2 2 j = some (z_la (z_b G) j, e) → False := fun e q => by
      obtain ⟨g1, g2, g3⟩ := c2 _ _ _ _ q
      rcases hl.2.2.2.2 with ⟨z, _⟩ | ⟨_, z⟩
      · omega
      · rw [← g1] at z
        have := hl.1.2.2.symm.trans z.2.2
        cases this
    rcases p with p | ⟨rfl, rfl⟩ | ⟨rfl, rfl⟩ <;> rcases p' with p' | ⟨rfl, rfl⟩ | ⟨rfl, rfl⟩
    · exact hn2 k i k' i' a e e' p p' q q'
    · rw [c1] at q'
      cases q'
      exact ((hn _ _ _ _ p q).2.1 _ _ _ (c1 s be)).elim
    · obtain ⟨rfl, z1, rfl⟩ := c2 _ _ _ _ q'
      exact ((hn _ _ _ _ p q).2.2 rfl).elim
    · rw [c1] at q
      cases q
      exact ((hn _ _ _ _ p' q').2.1 _ _ _ (c1 s be)).elim
    · exact ⟨rfl, rfl⟩
    · rw [c1] at q
      cases q
      exact (la2 _ q').elim
    · obtain ⟨rfl, z1, rfl⟩ := c2 _ _ _ _ q
      exact ((hn _ _ _ _ p' q').2.2 rfl).elim
    · rw [c1] at q'
      cases q'
      exact (la2 _ q).elim
    · exact ⟨rfl, rfl⟩
  · have hq := H.1 _ _ _ _ q
    refine hf a hq.2.1 (fun z => ?_) (fun z => ?_)
    · subst z
      exact p (Or.inr (Or.inl (H.2 _ _ _ _ _ _ _ q (c1 s be))))
    · subst z
      rcases Nat.eq_zero_or_pos (b_ls be j).2.2 with w | w
      · have := hq.1
        rw [(hL j hj).2.2 w] at this
        exact htE this
      · exact p (Or.inr (Or.inr (H.2 _ _ _ _ _ _ _ q (show z_ct G s be 2 j = some ((b_ls be j).2.1, _) by rw [z_ct2, if_pos ⟨hj, w⟩]))))
