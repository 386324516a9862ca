/-! ArrayList: adding, clearing -/
/-- behind an add at place i of n -/
def z_PAdd (G : zG) (h : zH) (top a e n cap : Nat) (f : Nat → Option Nat) (i x : Nat) (rv : Option Value) : Option Value → zH → Nat → Prop := fun r h' top' =>
  r = rv ∧ ∃ (m' : Int32) (e' cap' : Nat) (f' : Nat → Option Nat), z_AL G h' top' a m' e' (n + 1) cap' f' ∧ (∀ j, j < i → f' j = f j) ∧ f' i = some x ∧ (∀ j, i ≤ j → j < n → f' (j + 1) = f j) ∧ (∀ q, q < top → q ≠ a → q ≠ e → h' q = h q) ∧ ((n < cap ∧ e' = e ∧ cap' = cap ∧ top' = top) ∨ (n = cap ∧ e' = top ∧ cap' = z_gr n ∧ top' = top + 1))
theorem z_gr_lt {n : Nat} (h : n ≤ 150) : n < z_gr n ∧ z_gr n ≤ 225 := by
  unfold z_gr
  split
  · omega
  · split <;> omega
theorem z_AL.ne {G : zG} {h : zH} {top a : Nat} {m : Int32} {e n cap : Nat} {f : Nat → Option Nat} (hL : z_AL G h top a m e n cap f) : 0 < cap → a ≠ e := by
  intro h0 q
  obtain ⟨h1, -, -, -, h5 | h5⟩ := hL
  · omega
  · subst q
    have := h1.2.2.symm.trans h5.2.2.2
    cases this

set_option maxRecDepth 20000 in
set_option maxHeartbeats 4000000 in
theorem f_add_tail {X : zX} {G : zG} {h : zH} {top : Nat} {Post : Option Value → zH → Nat → Prop} (a x e n cap : Nat) (m : Int32) (f : Nat → Option Nat) (ha0 : z_at G h top a (.inr (0, [.int m, .ref e, .int (nI n)]))) (he0 : z_at G h top e (z_refs G cap f)) (hlt : n < cap) (hc : cap ≤ 225) (hob : z_ob G h top x) (hp : Post none (va_up (va_up h e (z_refs G cap (va_up f n (some x)))) a (.inr (0, [.int m, .ref e, .int (nI (n + 1))]))) top) (hX : z_ok X cJx4a65c_add_72be8 4 RJx4a65c none "add" 6 G) (hq : z_mq X (Post)) : z_Z X h top 11 [(0, .ref a), (1, .ref x), (2, .ref e), (3, .int (nI n))] [] := by
  have ha := ha0
  have he := he0
  unfold z_refs at he
  refine r_aload_n hX rfl 2 rfl dJx4a65c_add_72be8_11 ?_
  refine r_iload_n hX rfl 3 rfl dJx4a65c_add_72be8_12 ?_
  refine r_aload_n hX rfl 1 rfl dJx4a65c_add_72be8_13 ?_
  refine r_aast hX he hob (vp_in_nI hlt (by omega)) dJx4a65c_add_72be8_14 ?_
  replace ha := ha.up (e3 := (.inl (z_aO G, cap, .inr (.inr (.inr (.inr (va_up f ((nI n) : Int32).toNatClampNeg (some x)))))))) he (by intro z; cases z)
  replace he : z_at G (va_up h e (.inl (z_aO G, cap, .inr (.inr (.inr (.inr (va_up f ((nI n) : Int32).toNatClampNeg (some x)))))))) top e (.inl (z_aO G, cap, .inr (.inr (.inr (.inr (va_up f ((nI n) : Int32).toNatClampNeg (some x))))))) := z_at.self he
  rw [nI_clamp (show n < 2 ^ 31 by omega)] at he ha ⊢
  refine r_aload_n hX rfl 0 rfl dJx4a65c_add_72be8_15 ?_
  refine r_iload_n hX rfl 3 rfl dJx4a65c_add_72be8_16 ?_
  refine r_iconst (v := 1) hX (by decide) dJx4a65c_add_72be8_17 ?_
  refine r_iadd hX dJx4a65c_add_72be8_18 ?_
  rw [nI_1]
  refine r_put (fs2 := [.int m, .ref e, .int (nI (n + 1))]) hX fp_Jx4a65c_48 ha rfl rfl (Nat.le_of_ble_eq_true rfl) rfl dJx4a65c_add_72be8_19 ?_
  replace he := he.up (e3 := (.inr (0, [.int m, .ref e, .int (nI (n + 1))]))) ha (by intro z; cases z)
  replace ha : z_at G (va_up (va_up h e (.inl (z_aO G, cap, .inr (.inr (.inr (.inr (va_up f n (some x)))))))) a (.inr (0, [.int m, .ref e, .int (nI (n + 1))]))) top a (.inr (0, [.int m, .ref e, .int (nI (n + 1))])) := z_at.self ha
  exact r_vret hX hq hp dJx4a65c_add_72be8_22

theorem z_padd_no {G : zG} {h : zH} {top a : Nat} {m : Int32} {e n cap x : Nat} {f : Nat → Option Nat} {rv : Option Value} (hL : z_AL G h top a m e n cap f) (hlt : n < cap) : z_PAdd G h top a e n cap f n x rv rv (va_up (va_up h e (z_refs G cap (va_up f n (some x)))) a (.inr (0, [.int m, .ref e, .int (nI (n + 1))]))) top := by
  have hne := hL.ne (by omega)
  obtain ⟨h1, h2, h3, h4, h5⟩ := hL
  rcases h5 with h5 | ⟨h5, he⟩
  · omega
  refine ⟨rfl, m, e, cap, va_up f n (some x), ⟨⟨h1.1, h1.2.1, by simp [va_up]⟩, by omega, h3, fun i hi => ?_, Or.inr ⟨h5, he.1, he.2.1, ?_⟩⟩, fun j hj => ?_, by simp [va_up], fun j g1 g2 => by omega, fun q g1 g2 g3 => by simp [va_up, g2, g3], Or.inl ⟨hlt, rfl, rfl, rfl⟩⟩
  · simp [va_up, show i ≠ n by omega, h4 i (by omega)]
  · simp [va_up, Ne.symm hne]
  · simp [va_up, show j ≠ n by omega]
theorem z_padd_gr {G : zG} {h : zH} {top a : Nat} {m : Int32} {e n x : Nat} {f g : Nat → Option Nat} {rv : Option Value} (hL : z_AL G h top a m e n n f) (hbt : z_b G ≤ top) (hn : n ≤ 150) (hg1 : ∀ i, i < n → g i = f i) (hg2 : ∀ i, n ≤ i → g i = none) : z_PAdd G h top a e n n f n x rv rv (va_up (va_up (va_up (va_up h top (z_refs G (z_gr n) g)) a (.inr (0, [.int m, .ref top, .int (nI n)]))) top (z_refs G (z_gr n) (va_up g n (some x)))) a (.inr (0, [.int m, .ref top, .int (nI (n + 1))]))) (top + 1) := by
  have hlt := z_gr_lt hn
  obtain ⟨h1, h2, h3, h4, h5⟩ := hL
  have hat : a ≠ top := by have := h1.2.1; omega
  refine ⟨rfl, m, top, z_gr n, va_up g n (some x), ⟨⟨h1.1, by have := h1.2.1; omega, by simp [va_up]⟩, by omega, by omega, fun i hi => ?_, Or.inr ⟨by omega, hbt, by omega, ?_⟩⟩, fun j hj => ?_, by simp [va_up], fun j g1 g2 => by omega, fun q g1 g2 g3 => by simp [va_up, g2, show q ≠ top by omega], Or.inr ⟨rfl, rfl, rfl, rfl⟩⟩
  · simp [va_up, show i ≠ n by omega, hg2 i (by omega)]
  · simp [va_up, Ne.symm hat]
  · simp [va_up, show j ≠ n by omega, hg1 j (by omega)]

set_option maxRecDepth 20000 in
set_option maxHeartbeats 4000000 in
theorem c_add3_no (l : Launch) (G : zG) (h : zH) (top : Nat) (a x e n cap : Nat) (m : Int32) (f : Nat → Option Nat) (Post : Option Value → zH → Nat → Prop) (ha : z_at G h top a (.inr (0, [.int m, .ref e, .int (nI n)]))) (he0 : z_at G h top e (z_refs G cap f)) (hlt : n < cap) (hc : cap ≤ 225) (hob : z_ob G h top x) (hp : Post none (va_up (va_up h e (z_refs G cap (va_up f n (some x)))) a (.inr (0, [.int m, .ref e, .int (nI (n + 1))]))) top) : z_Ct l yJx4a65c_add_72be8 cJx4a65c_add_72be8 4 none 6 G [.ref a, .ref x, .ref e, .int (nI n)] h top (Post) := by
  refine z_of (own := RJx4a65c) (nm := "add") (by decide) rfl rfl (by decide) (Nat.le_of_ble_eq_true rfl) (fun X hX hq => ?_)
  replace hX : z_ok X cJx4a65c_add_72be8 4 RJx4a65c none "add" 6 G := hX
  show z_Z X h top 0 [(0, .ref a), (1, .ref x), (2, .ref e), (3, .int (nI n))] []
  have he := he0
  unfold z_refs at he
  refine r_iload_n hX rfl 3 rfl dJx4a65c_add_72be8_0 ?_
  refine r_aload_n hX rfl 2 rfl dJx4a65c_add_72be8_1 ?_
  refine r_alenO (v := (nI cap)) hX he rfl dJx4a65c_add_72be8_2 ?_
  refine r_icmp_ne (tgt := 11) hX dJx4a65c_add_72be8_3 rfl (fun _ => ?_) (fun c => False.elim (absurd ((nI_eq (by omega) (by omega)).mp c) (by omega)))
  exact f_add_tail a x e n cap m f ha he0 hlt hc hob hp hX hq

set_option maxRecDepth 20000 in
set_option maxHeartbeats 4000000 in
theorem c_add3_gr (l : Launch) (G : zG) (h : zH) (top : Nat) (a x e n : Nat) (m : Int32) (f : Nat → Option Nat) (Post : Option Value → zH → Nat → Prop) (hbt : z_b G ≤ top) (hL : z_AL G h top a m e n n f) (he0 : z_at G h top e (z_refs G n f)) (hel : ∀ i, i < n → ∀ y, f i = some y → z_ob G h top y) (hn : n ≤ 150) (hob : z_ob G h top x) (hroom : top + 1 ≤ z_b G + 320) (hp : ∀ g : Nat → Option Nat, (∀ i, i < n → g i = f i) → (∀ i, n ≤ i → g i = none) → Post none (va_up (va_up (va_up (va_up h top (z_refs G (z_gr n) g)) a (.inr (0, [.int m, .ref top, .int (nI n)]))) top (z_refs G (z_gr n) (va_up g n (some x)))) a (.inr (0, [.int m, .ref top, .int (nI (n + 1))]))) (top + 1)) : z_Ct l yJx4a65c_add_72be8 cJx4a65c_add_72be8 4 none 6 G [.ref a, .ref x, .ref e, .int (nI n)] h top (Post) := by
  refine z_of (own := RJx4a65c) (nm := "add") (by decide) rfl rfl (by decide) (Nat.le_of_ble_eq_true rfl) (fun X hX hq => ?_)
  replace hX : z_ok X cJx4a65c_add_72be8 4 RJx4a65c none "add" 6 G := hX
  show z_Z X h top 0 [(0, .ref a), (1, .ref x), (2, .ref e), (3, .int (nI n))] []
  have ha := hL.1
  have he := he0
  unfold z_refs at he
  refine r_iload_n hX rfl 3 rfl dJx4a65c_add_72be8_0 ?_
  refine r_aload_n hX rfl 2 rfl dJx4a65c_add_72be8_1 ?_
  refine r_alenO (v := (nI n)) hX he rfl dJx4a65c_add_72be8_2 ?_
  refine r_icmp_ne (tgt := 11) hX dJx4a65c_add_72be8_3 rfl (fun c => False.elim (c rfl)) (fun _ => ?_)
  refine r_aload_n hX rfl 0 rfl dJx4a65c_add_72be8_6 ?_
  refine r_callV (As := []) (rest := []) hX cs_Jx4a65c_129 (by decide) (fun l => c_Jx4a65c_grow_d5877 l G h top a e n m f hbt hL hel hn hroom) ha rfl rfl rfl (Nat.le_of_ble_eq_true rfl) dJx4a65c_add_72be8_7 (fun r1 h1 top1 hp1 => ?_)
  obtain ⟨rfl, rfl, g, hg1, hg2, rfl⟩ := hp1
  have hlt := z_gr_lt hn
  have hat : a ≠ top := by have := ha.2.1; omega
  have hnew : z_at G (va_up h top (z_refs G (z_gr n) g)) (top + 1) top (z_refs G (z_gr n) g) := z_at.fresh hbt
  have hnew2 := hnew.ne (a2 := a) (e2 := .inr (0, [.int m, .ref top, .int (nI n)])) (Ne.symm hat)
  have ha2 : z_at G (va_up (va_up h top (z_refs G (z_gr n) g)) a (.inr (0, [.int m, .ref top, .int (nI n)]))) (top + 1) a (.inr (0, [.int m, .ref top, .int (nI n)])) := z_at.self (ha.new (e2 := z_refs G (z_gr n) g))
  have hob2 : z_ob G (va_up (va_up h top (z_refs G (z_gr n) g)) a (.inr (0, [.int m, .ref top, .int (nI n)]))) (top + 1) x := (z_ob.new hob).up (hob.ne ha)
  refine r_astore_n (lv' := [(2, .ref top), (0, .ref a), (1, .ref x), (3, .int (nI n))]) hX rfl (by decide) rfl dJx4a65c_add_72be8_10 ?_
  refine r_lv [1, 2, 0, 3] (lv2 := [(0, .ref a), (1, .ref x), (2, .ref top), (3, .int (nI n))]) rfl ?_
  exact f_add_tail a x top n (z_gr n) m g ha2 hnew2 hlt.1 hlt.2 hob2 (hp g hg1 hg2) hX hq

set_option maxRecDepth 20000 in
set_option maxHeartbeats 4000000 in
theorem c_add3_gr0 (l : Launch) (G : zG) (h : zH) (top : Nat) (a x n : Nat) (m : Int32) (f : Nat → Option Nat) (Post : Option Value → zH → Nat → Prop) (hbt : z_b G ≤ top) (hL : z_AL G h top a m (z_tE G) n n f) (h0 : n = 0) (hel : ∀ i, i < n → ∀ y, f i = some y → z_ob G h top y) (hn : n ≤ 150) (hob : z_ob G h top x) (hroom : top + 1 ≤ z_b G + 320) (hp : ∀ g : Nat → Option Nat, (∀ i, i < n → g i = f i) → (∀ i, n ≤ i → g i = none) → Post none (va_up (va_up (va_up (va_up h top (z_refs G (z_gr n) g)) a (.inr (0, [.int m, .ref top, .int (nI n)]))) top (z_refs G (z_gr n) (va_up g n (some x)))) a (.inr (0, [.int m, .ref top, .int (nI (n + 1))]))) (top + 1)) : z_Ct l yJx4a65c_add_72be8 cJx4a65c_add_72be8 4 none 6 G [.ref a, .ref x, .ref (z_tE G), .int (nI n)] h top (Post) := by
  refine z_of (own := RJx4a65c) (nm := "add") (by decide) rfl rfl (by decide) (Nat.le_of_ble_eq_true rfl) (fun X hX hq => ?_)
  replace hX : z_ok X cJx4a65c_add_72be8 4 RJx4a65c none "add" 6 G := hX
  show z_Z X h top 0 [(0, .ref a), (1, .ref x), (2, .ref (z_tE G)), (3, .int (nI n))] []
  have ha := hL.1
  refine r_iload_n hX rfl 3 rfl dJx4a65c_add_72be8_0 ?_
  refine r_aload_n hX rfl 2 rfl dJx4a65c_add_72be8_1 ?_
  refine r_alenE hX dJx4a65c_add_72be8_2 ?_
  refine r_icmp_ne (tgt := 11) hX dJx4a65c_add_72be8_3 rfl (fun c => False.elim (c (by rw [h0]; exact nI_0))) (fun _ => ?_)
  refine r_aload_n hX rfl 0 rfl dJx4a65c_add_72be8_6 ?_
  refine r_callV (As := []) (rest := []) hX cs_Jx4a65c_129 (by decide) (fun l => c_Jx4a65c_grow_d5877 l G h top a (z_tE G) n m f hbt hL hel hn hroom) ha rfl rfl rfl (Nat.le_of_ble_eq_true rfl) dJx4a65c_add_72be8_7 (fun r1 h1 top1 hp1 => ?_)
  obtain ⟨rfl, rfl, g, hg1, hg2, rfl⟩ := hp1
  have hlt := z_gr_lt hn
  have hat : a ≠ top := by have := ha.2.1; omega
  have hnew : z_at G (va_up h top (z_refs G (z_gr n) g)) (top + 1) top (z_refs G (z_gr n) g) := z_at.fresh hbt
  have hnew2 := hnew.ne (a2 := a) (e2 := .inr (0, [.int m, .ref top, .int (nI n)])) (Ne.symm hat)
  have ha2 : z_at G (va_up (va_up h top (z_refs G (z_gr n) g)) a (.inr (0, [.int m, .ref top, .int (nI n)]))) (top + 1) a (.inr (0, [.int m, .ref top, .int (nI n)])) := z_at.self (ha.new (e2 := z_refs G (z_gr n) g))
  have hob2 : z_ob G (va_up (va_up h top (z_refs G (z_gr n) g)) a (.inr (0, [.int m, .ref top, .int (nI n)]))) (top + 1) x := (z_ob.new hob).up (hob.ne ha)
  refine r_astore_n (lv' := [(2, .ref top), (0, .ref a), (1, .ref x), (3, .int (nI n))]) hX rfl (by decide) rfl dJx4a65c_add_72be8_10 ?_
  refine r_lv [1, 2, 0, 3] (lv2 := [(0, .ref a), (1, .ref x), (2, .ref top), (3, .int (nI n))]) rfl ?_
  exact f_add_tail a x top n (z_gr n) m g ha2 hnew2 hlt.1 hlt.2 hob2 (hp g hg1 hg2) hX hq

/-- add(E, Object[], int), any list -/
theorem c_add3 (l : Launch) (G : zG) (h : zH) (top a x e n cap : Nat) (m : Int32) (f : Nat → Option Nat) (hbt : z_b G ≤ top) (hL : z_AL G h top a m e n cap f) (hel : ∀ i, i < n → ∀ y, f i = some y → z_ob G h top y) (hn : n ≤ 150) (hob : z_ob G h top x) (hroom : n = cap → top + 1 ≤ z_b G + 320) : z_Ct l yJx4a65c_add_72be8 cJx4a65c_add_72be8 4 none 6 G [.ref a, .ref x, .ref e, .int (nI n)] h top (z_PAdd G h top a e n cap f n x none) := by
  rcases Nat.lt_or_ge n cap with hlt | hge
  · rcases hL.2.2.2.2 with h5 | ⟨h5, he⟩
    · omega
    · exact c_add3_no l G h top a x e n cap m f _ hL.1 he hlt hL.2.2.1 hob (z_padd_no hL hlt)
  · obtain rfl : n = cap := by have := hL.2.1; omega
    rcases hL.2.2.2.2 with ⟨h5, h6⟩ | ⟨h5, he⟩
    · subst h6
      exact c_add3_gr0 l G h top a x n m f _ hbt hL h5 hel hn hob (hroom rfl) (fun g hg1 hg2 => z_padd_gr hL hbt hn hg1 hg2)
    · exact c_add3_gr l G h top a x e n m f _ hbt hL he hel hn hob (hroom rfl) (fun g hg1 hg2 => z_padd_gr hL hbt hn hg1 hg2)

theorem z_AL.mod {G : zG} {h : zH} {top a : Nat} {m m2 : Int32} {e n cap : Nat} {f : Nat → Option Nat} (hL : z_AL G h top a m e n cap f) : z_AL G (va_up h a (.inr (0, [.int m2, .ref e, .int (nI n)]))) top a m2 e n cap f := by
  have hne := hL.ne
  obtain ⟨h1, h2, h3, h4, h5⟩ := hL
  refine ⟨z_at.self h1, h2, h3, h4, ?_⟩
  rcases h5 with h5 | ⟨h5, he⟩
  · exact Or.inl h5
  · exact Or.inr ⟨h5, he.ne (Ne.symm (hne h5))⟩
theorem z_padd_up {G : zG} {h h' : zH} {top top' a e n cap i x : Nat} {f : Nat → Option Nat} {v : va_E} {rv r : Option Value} (hp : z_PAdd G (va_up h a v) top a e n cap f i x rv r h' top') : z_PAdd G h top a e n cap f i x rv r h' top' := by
  obtain ⟨h1, m', e', cap', f', g1, g2, g3, g4, g5, g6⟩ := hp
  exact ⟨h1, m', e', cap', f', g1, g2, g3, g4, fun q q1 q2 q3 => by rw [g5 q q1 q2 q3]; simp [va_up, q2], g6⟩
set_option maxRecDepth 20000 in
set_option maxHeartbeats 4000000 in
theorem c_add1 (l : Launch) (G : zG) (h : zH) (top : Nat) (a x e n cap : Nat) (m : Int32) (f : Nat → Option Nat) (hbt : z_b G ≤ top) (hL : z_AL G h top a m e n cap f) (hel : ∀ i, i < n → ∀ y, f i = some y → z_ob G h top y) (hn : n ≤ 150) (hob : z_ob G h top x) (hroom : n = cap → top + 1 ≤ z_b G + 320) : z_Ct l yJx4a65c_add_9ea2d cJx4a65c_add_9ea2d 2 (some .boolean) 7 G [.ref a, .ref x] h top (z_PAdd G h top a e n cap f n x (some (.int 1))) := by
  refine z_of (own := RJx4a65c) (nm := "add") (by decide) rfl rfl (by decide) (Nat.le_of_ble_eq_true rfl) (fun X hX hq => ?_)
  replace hX : z_ok X cJx4a65c_add_9ea2d 2 RJx4a65c (some .boolean) "add" 7 G := hX
  show z_Z X h top 0 [(0, .ref a), (1, .ref x)] []
  have ha := hL.1
  refine r_aload_n hX rfl 0 rfl dJx4a65c_add_9ea2d_0 ?_
  refine r_dup hX rfl dJx4a65c_add_9ea2d_1 ?_
  refine r_getf hX fl_Jx4a65c_63 ha rfl dJx4a65c_add_9ea2d_2 ?_
  refine r_iconst (v := 1) hX (by decide) dJx4a65c_add_9ea2d_5 ?_
  refine r_iadd hX dJx4a65c_add_9ea2d_6 ?_
  refine r_put (fs2 := [.int (m + 1), .ref e, .int (nI n)]) hX fp_Jx4a65c_63 ha rfl rfl (Nat.le_of_ble_eq_true rfl) rfl dJx4a65c_add_9ea2d_7 ?_
  replace ha : z_at G (va_up h a (.inr (0, [.int (m + 1), .ref e, .int (nI n)]))) top a (.inr (0, [.int (m + 1), .ref e, .int (nI n)])) := z_at.self ha
  refine r_aload_n hX rfl 0 rfl dJx4a65c_add_9ea2d_10 ?_
  refine r_aload_n hX rfl 1 rfl dJx4a65c_add_9ea2d_11 ?_
  refine r_aload_n hX rfl 0 rfl dJx4a65c_add_9ea2d_12 ?_
  refine r_getf hX fl_Jx4a65c_9 ha rfl dJx4a65c_add_9ea2d_13 ?_
  refine r_aload_n hX rfl 0 rfl dJx4a65c_add_9ea2d_16 ?_
  refine r_getf hX fl_Jx4a65c_48 ha rfl dJx4a65c_add_9ea2d_17 ?_
  refine r_callV (As := [.ref x, .ref e, .int (nI n)]) (rest := []) hX cs_Jx4a65c_131 (by decide) (fun l => c_add3 l G (va_up h a (.inr (0, [.int (m + 1), .ref e, .int (nI n)]))) top a x e n cap (m + 1) f hbt (hL.mod) (fun i h1 y h2 => (hel i h1 y h2).up ((hel i h1 y h2).ne hL.1)) hn (hob.up (hob.ne hL.1)) hroom) ha rfl rfl rfl (Nat.le_of_ble_eq_true rfl) dJx4a65c_add_9ea2d_20 (fun r1 h1 top1 hp1 => ?_)
  have hp2 := z_padd_up hp1
  obtain rfl : r1 = none := hp1.1
  refine r_iconst (v := 1) hX (by decide) dJx4a65c_add_9ea2d_23 ?_
  exact r_zret hX hq (by decide) ⟨rfl, hp2.2⟩ dJx4a65c_add_9ea2d_24

