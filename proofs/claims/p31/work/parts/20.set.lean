/-! setters -/
section ST
variable {G : zG} {s : zS} {be : zB} {h : zH} {top : Nat}
abbrev zI7 : Type := Int32 × Int32 × Int32 × Int32 × Int32 × Int32 × Int32
abbrev zL6 : Type := (Nat → Int32) × (Nat → Int32) × (Nat → Int32) × Int32 × Int32 × Int32
theorem z_St.set0 (H : z_St G s be h top) (i7 : zI7) (l6 : zL6) (f : Nat → Int32) (i0 : Nat) {a : Nat} {e e0 : va_E} (hk : z_ct G s be 0 i0 = some (a, e0)) (hk2 : z_ct G (i7, l6, s.2.2) (f, be.2) 0 i0 = some (a, e)) (hc : ∀ i, i ≠ i0 → z_ct G (i7, l6, s.2.2) (f, be.2) 0 i = z_ct G s be 0 i) : z_St G (i7, l6, s.2.2) (f, be.2) (va_up h a e) top := by
  refine H.obj 0 i0 (e0 := e0) hk hk2 (fun k' i' hne => ?_) (fun j hj => ?_) rfl H.2.2.2.1
  · match k' with
    | 0 => exact hc i' (fun z => hne ⟨rfl, z⟩)
    | 1 => exact z_ct_ls (fun j hj => by rcases (show j = 0 ∨ j = 1 ∨ j = 2 ∨ j = 3 ∨ j = 4 ∨ j = 5 ∨ j = 6 ∨ j = 7 by omega) with rfl | rfl | rfl | rfl | rfl | rfl | rfl | rfl <;> rfl) rfl 1 (Or.inl rfl) i'
    | 2 => exact z_ct_ls (fun j hj => by rcases (show j = 0 ∨ j = 1 ∨ j = 2 ∨ j = 3 ∨ j = 4 ∨ j = 5 ∨ j = 6 ∨ j = 7 by omega) with rfl | rfl | rfl | rfl | rfl | rfl | rfl | rfl <;> rfl) rfl 2 (Or.inr rfl) i'
    | 3 => rfl
    | 4 => rfl
    | 5 => rfl
    | 6 => rfl
    | 7 => rfl
    | k + 8 => rw [z_ct8 _ _ _ _ _ (by omega), z_ct8 _ _ _ _ _ (by omega)]
  · rcases (show j = 0 ∨ j = 1 ∨ j = 2 ∨ j = 3 ∨ j = 4 ∨ j = 5 ∨ j = 6 ∨ j = 7 by omega) with rfl | rfl | rfl | rfl | rfl | rfl | rfl | rfl <;> rfl
theorem z_St.setHall (H : z_St G s be h top) (i7 : zI7) : z_St G (i7, s.2) be (va_up h (z_b G) (z_hallC (z_b G) (i7, s.2))) top := by
  refine H.set0 i7 s.2.1 be.1 0 rfl rfl (fun i hi => ?_)
  match i with
  | 0 => exact absurd rfl hi
  | 1 => rfl
  | 2 => rfl
  | 3 => rfl
  | 4 => rfl
  | 5 => rfl
  | 6 => rfl
  | 7 => rfl
  | 8 => rfl
  | i + 9 => rfl
theorem z_St.setLg (H : z_St G s be h top) (a b c : Int32) : z_St G (s.1, (s_coins s, s_caps s, s_paid s, a, b, c), s.2.2) be (va_up h (z_b G + 7) (.inr (2, [.ref (z_b G + 8), .ref (z_b G + 9), .ref (z_b G + 10), .int a, .int b, .int c]))) top := by
  refine H.set0 s.1 (s_coins s, s_caps s, s_paid s, a, b, c) be.1 2 rfl rfl (fun i hi => ?_)
  match i with
  | 0 => rfl
  | 1 => rfl
  | 2 => exact absurd rfl hi
  | 3 => rfl
  | 4 => rfl
  | 5 => rfl
  | 6 => rfl
  | 7 => rfl
  | 8 => rfl
  | i + 9 => rfl
theorem z_St.setCoins (H : z_St G s be h top) (f : Nat → Int32) : z_St G (s.1, (f, s_caps s, s_paid s, s_hall s, s_taken s, s_gb s), s.2.2) be (va_up h (z_b G + 8) (.inl (z_aI G, 4, .inl f))) top := by
  refine H.set0 s.1 (f, s_caps s, s_paid s, s_hall s, s_taken s, s_gb s) be.1 4 rfl rfl (fun i hi => ?_)
  match i with
  | 0 => rfl
  | 1 => rfl
  | 2 => rfl
  | 3 => rfl
  | 4 => exact absurd rfl hi
  | 5 => rfl
  | 6 => rfl
  | 7 => rfl
  | 8 => rfl
  | i + 9 => rfl
theorem z_St.setCaps (H : z_St G s be h top) (f : Nat → Int32) : z_St G (s.1, (s_coins s, f, s_paid s, s_hall s, s_taken s, s_gb s), s.2.2) be (va_up h (z_b G + 9) (.inl (z_aI G, 41, .inl f))) top := by
  refine H.set0 s.1 (s_coins s, f, s_paid s, s_hall s, s_taken s, s_gb s) be.1 5 rfl rfl (fun i hi => ?_)
  match i with
  | 0 => rfl
  | 1 => rfl
  | 2 => rfl
  | 3 => rfl
  | 4 => rfl
  | 5 => exact absurd rfl hi
  | 6 => rfl
  | 7 => rfl
  | 8 => rfl
  | i + 9 => rfl
theorem z_St.setPaid (H : z_St G s be h top) (f : Nat → Int32) : z_St G (s.1, (s_coins s, s_caps s, f, s_hall s, s_taken s, s_gb s), s.2.2) be (va_up h (z_b G + 10) (.inl (z_aI G, 1312, .inl f))) top := by
  refine H.set0 s.1 (s_coins s, s_caps s, f, s_hall s, s_taken s, s_gb s) be.1 6 rfl rfl (fun i hi => ?_)
  match i with
  | 0 => rfl
  | 1 => rfl
  | 2 => rfl
  | 3 => rfl
  | 4 => rfl
  | 5 => rfl
  | 6 => exact absurd rfl hi
  | 7 => rfl
  | 8 => rfl
  | i + 9 => rfl
theorem z_St.setRch (H : z_St G s be h top) (f : Nat → Int32) : z_St G s (f, be.2) (va_up h (z_b G + 16) (.inl (z_aI G, 8, .inl f))) top := by
  refine H.set0 s.1 s.2.1 f 7 rfl rfl (fun i hi => ?_)
  match i with
  | 0 => rfl
  | 1 => rfl
  | 2 => rfl
  | 3 => rfl
  | 4 => rfl
  | 5 => rfl
  | 6 => rfl
  | 7 => exact absurd rfl hi
  | 8 => rfl
  | i + 9 => rfl
def zs_vehs (s : zS) (l : List zVeh) : zS := (s.1, s.2.1, s_segs s, l, s_tars s, s_sgts s)
theorem z_St.setVeh (H : z_St G s be h top) {i : Nat} {p p2 : zVeh} (hp : (s_vehs s)[i]? = some p) (ha : p2.1 = p.1) : z_St G (zs_vehs s ((s_vehs s).set i p2)) be (va_up h p.1 (z_vehC i p2)) top := by
  have hi : i < (s_vehs s).length := (List.getElem?_eq_some_iff.mp hp).1
  refine H.obj 4 i (e0 := z_vehC i p) (by rw [z_ct4, hp]; rfl) ?_ (fun k' i' hne => ?_) (fun j hj => ?_) rfl ?_
  · rw [z_ct4]
    show (((s_vehs s).set i p2)[i]?).map _ = _
    rw [List.getElem?_set_self hi]
    simp [ha]
  · match k' with
    | 0 => match i' with
      | 0 => rfl
      | 1 => rfl
      | 2 => rfl
      | 3 => rfl
      | 4 => rfl
      | 5 => rfl
      | 6 => rfl
      | 7 => rfl
      | 8 => rfl
      | i' + 9 => rfl
    | 1 => exact z_ct_ls (fun j hj => by rcases (show j = 0 ∨ j = 1 ∨ j = 2 ∨ j = 3 ∨ j = 4 ∨ j = 5 ∨ j = 6 ∨ j = 7 by omega) with rfl | rfl | rfl | rfl | rfl | rfl | rfl | rfl <;> first | rfl | exact z_map_set hp ha) rfl 1 (Or.inl rfl) i'
    | 2 => exact z_ct_ls (fun j hj => by rcases (show j = 0 ∨ j = 1 ∨ j = 2 ∨ j = 3 ∨ j = 4 ∨ j = 5 ∨ j = 6 ∨ j = 7 by omega) with rfl | rfl | rfl | rfl | rfl | rfl | rfl | rfl <;> first | rfl | exact z_map_set hp ha) rfl 2 (Or.inr rfl) i'
    | 3 => rfl
    | 4 =>
      rw [z_ct4, z_ct4]
      show (((s_vehs s).set i p2)[i']?).map _ = _
      rw [List.getElem?_set_ne (fun z => hne ⟨rfl, z.symm⟩)]
    | 5 => rfl
    | 6 => rfl
    | 7 => rfl
    | k + 8 => rw [z_ct8 _ _ _ _ _ (by omega), z_ct8 _ _ _ _ _ (by omega)]
  · rcases (show j = 0 ∨ j = 1 ∨ j = 2 ∨ j = 3 ∨ j = 4 ∨ j = 5 ∨ j = 6 ∨ j = 7 by omega) with rfl | rfl | rfl | rfl | rfl | rfl | rfl | rfl <;> first | rfl | exact z_map_set hp ha
  · refine ⟨fun y hy => ⟨?_, (H.2.2.2.1.1 y hy).2⟩, H.2.2.2.1.2⟩
    obtain ⟨n, v, h1, h2⟩ := (H.2.2.2.1.1 y hy).1
    by_cases e : i = n
    · subst e
      rw [hp] at h1
      cases h1
      exact ⟨i, p2, List.getElem?_set_self hi, ha.trans h2⟩
    · exact ⟨n, v, by show ((s_vehs s).set i p2)[n]? = _; rw [List.getElem?_set_ne e]; exact h1, h2⟩
def zs_sgts (s : zS) (l : List zSgt) : zS := (s.1, s.2.1, s_segs s, s_vehs s, s_tars s, l)
theorem z_St.setSgt (H : z_St G s be h top) {i : Nat} {p p2 : zSgt} (hp : (s_sgts s)[i]? = some p) (ha : p2.1 = p.1) (hs : p2.2.1 = p.2.1) : z_St G (zs_sgts s ((s_sgts s).set i p2)) be (va_up h p.1 (z_sgtC p2)) top := by
  have hi : i < (s_sgts s).length := (List.getElem?_eq_some_iff.mp hp).1
  refine H.obj 6 i (e0 := z_sgtC p) (by rw [z_ct6, hp]; rfl) ?_ (fun k' i' hne => ?_) (fun j hj => ?_) rfl ?_
  · rw [z_ct6]
    show (((s_sgts s).set i p2)[i]?).map _ = _
    rw [List.getElem?_set_self hi]
    simp [ha]
  · match k' with
    | 0 => match i' with
      | 0 => rfl
      | 1 => rfl
      | 2 => rfl
      | 3 => rfl
      | 4 => rfl
      | 5 => rfl
      | 6 => rfl
      | 7 => rfl
      | 8 => rfl
      | i' + 9 => rfl
    | 1 => exact z_ct_ls (fun j hj => by rcases (show j = 0 ∨ j = 1 ∨ j = 2 ∨ j = 3 ∨ j = 4 ∨ j = 5 ∨ j = 6 ∨ j = 7 by omega) with rfl | rfl | rfl | rfl | rfl | rfl | rfl | rfl <;> first | rfl | exact z_map_set hp ha) rfl 1 (Or.inl rfl) i'
    | 2 => exact z_ct_ls (fun j hj => by rcases (show j = 0 ∨ j = 1 ∨ j = 2 ∨ j = 3 ∨ j = 4 ∨ j = 5 ∨ j = 6 ∨ j = 7 by omega) with rfl | rfl | rfl | rfl | rfl | rfl | rfl | rfl <;> first | rfl | exact z_map_set hp ha) rfl 2 (Or.inr rfl) i'
    | 3 => rfl
    | 4 => rfl
    | 5 => rfl
    | 6 =>
      rw [z_ct6, z_ct6]
      show (((s_sgts s).set i p2)[i']?).map _ = _
      rw [List.getElem?_set_ne (fun z => hne ⟨rfl, z.symm⟩)]
    | 7 => rfl
    | k + 8 => rw [z_ct8 _ _ _ _ _ (by omega), z_ct8 _ _ _ _ _ (by omega)]
  · rcases (show j = 0 ∨ j = 1 ∨ j = 2 ∨ j = 3 ∨ j = 4 ∨ j = 5 ∨ j = 6 ∨ j = 7 by omega) with rfl | rfl | rfl | rfl | rfl | rfl | rfl | rfl <;> first | rfl | exact z_map_set hp ha
  · refine ⟨fun y hy => ?_, H.2.2.2.1.2⟩
    rcases List.mem_or_eq_of_mem_set hy with w | w
    · exact H.2.2.2.1.1 y w
    · rw [w, hs]; exact H.2.2.2.1.1 p (List.mem_of_getElem? hp)
end ST
