/-! ArrayList: growing -/
def z_refs (G : zG) (cap : Nat) (f : Nat → Option Nat) : va_E := .inl (z_aO G, cap, .inr (.inr (.inr (.inr f))))
/-- a list: n elements f 0 .. f (n - 1) in an array e of cap places -/
def z_AL (G : zG) (h : zH) (top a : Nat) (m : Int32) (e n cap : Nat) (f : Nat → Option Nat) : Prop :=
  z_at G h top a (.inr (0, [.int m, .ref e, .int (nI n)])) ∧ n ≤ cap ∧ cap ≤ 225 ∧ (∀ i, n ≤ i → f i = none) ∧ ((cap = 0 ∧ e = z_tE G) ∨ (0 < cap ∧ z_at G h top e (z_refs G cap f)))
def z_gr (c : Nat) : Nat := if c = 0 then 10 else c + (if 1 < c / 2 then c / 2 else 1)
theorem z_ob.ne {G : zG} {h : zH} {top y a : Nat} {fs : List Value} (hy : z_ob G h top y) (ha : z_at G h top a (.inr (0, fs))) : y ≠ a := by
  obtain ⟨ci, gs, r, h1, h2, h3⟩ := hy
  intro e
  subst e
  have e1 := h1.2.2.symm.trans ha.2.2
  cases e1
  cases h2
  exact absurd h3 (by decide +kernel)
theorem z_ob.neO {G : zG} {h : zH} {top y e : Nat} {x : ClassId × vp_A} (hy : z_ob G h top y) (ha : z_at G h top e (.inl x)) : y ≠ e := by
  obtain ⟨ci, gs, r, h1, h2, h3⟩ := hy
  intro q
  subst q
  have e1 := h1.2.2.symm.trans ha.2.2
  cases e1
theorem z_ob.keep {G : zG} {h h' : zH} {top top' y : Nat} (hy : z_ob G h top y) (e : h' y = h y) (ht : top ≤ top') : z_ob G h' top' y := by
  obtain ⟨ci, gs, r, ⟨g1, g2, g3⟩, h2, h3⟩ := hy
  exact ⟨ci, gs, r, ⟨g1, by omega, by rw [e, g3]⟩, h2, h3⟩
theorem z_ob.up {G : zG} {h : zH} {top y a : Nat} {v : va_E} (hy : z_ob G h top y) (hne : y ≠ a) : z_ob G (va_up h a v) top y := hy.keep (by simp [va_up, hne]) (Nat.le_refl _)
theorem z_ob.new {G : zG} {h : zH} {top y : Nat} {v : va_E} (hy : z_ob G h top y) : z_ob G (va_up h top v) (top + 1) y := by
  have : y < top := by obtain ⟨ci, gs, r, ⟨g1, g2, g3⟩, h2, h3⟩ := hy; exact g2
  exact hy.keep (by simp [va_up, show y ≠ top by omega]) (Nat.le_succ _)
theorem z_nlt0 {n : Nat} (h : n < 2 ^ 31) : ¬ nI n < 0 := nI_pos h
theorem z_gr_pos {n : Nat} (h : 0 < n) : z_gr n = n + (if 1 < n / 2 then n / 2 else 1) := by
  unfold z_gr
  rw [if_neg (show ¬ n = 0 by omega)]
theorem z_mxg {n : Nat} (h : n ≤ 1000) : (if nI 1 < nI (n / 2) then nI (n / 2) else nI 1) = nI (if 1 < n / 2 then n / 2 else 1) := by
  by_cases q : 1 < n / 2
  · rw [if_pos q, if_pos ((nI_ltI (by omega) (by omega)).mpr q)]
  · rw [if_neg q, if_neg (fun z => q ((nI_ltI (by omega) (by omega)).mp z))]
theorem zi_cl0 : (0 : Int32).toNatClampNeg = 0 := by decide

set_option maxRecDepth 20000 in
set_option maxHeartbeats 4000000 in
theorem c_J8_newLength_cabcc (l : Launch) (G : zG) (h : zH) (top : Nat) (o g : Nat) (mg pg : Int32) (ho : 0 < o) (ho2 : o ≤ 1000) (hg : g ≤ 1000) (hmx : (if mg < pg then pg else mg) = nI g) : z_Ct l yJ8_newLength_cabcc cJ8_newLength_cabcc 4 (some .int) 2 G [.int (nI o), .int mg, .int pg] h top (z_R (some (.int (nI (o + g)))) h top) := by
  refine z_of (own := RJ8) (nm := "newLength") (by decide) rfl rfl (by decide) (Nat.le_of_ble_eq_true rfl) (fun X hX hq => ?_)
  replace hX : z_ok X cJ8_newLength_cabcc 4 RJ8 (some .int) "newLength" 2 G := hX
  show z_Z X h top 0 [(0, .int (nI o)), (1, .int mg), (2, .int pg)] []
  refine r_iload_n hX rfl 0 rfl dJ8_newLength_cabcc_0 ?_
  refine r_iload_n hX rfl 1 rfl dJ8_newLength_cabcc_1 ?_
  refine r_iload_n hX rfl 2 rfl dJ8_newLength_cabcc_2 ?_
  refine r_max hX kw_max_J8_194 kw_m2max kw_m3 kw_m4max (Nat.le_of_ble_eq_true rfl) dJ8_newLength_cabcc_3 ?_
  rw [hmx]
  refine r_iadd hX dJ8_newLength_cabcc_6 ?_
  rw [nI_add o g]
  refine r_istore_n (lv' := [(3, .int (nI (o + g))), (0, .int (nI o)), (1, .int mg), (2, .int pg)]) hX rfl (by decide) rfl dJ8_newLength_cabcc_7 ?_
  refine r_iconst (v := 0) hX (by decide) dJ8_newLength_cabcc_8 ?_
  refine r_iload_n hX rfl 0 rfl dJ8_newLength_cabcc_9 ?_
  refine r_icmp_ge (tgt := 21) hX dJ8_newLength_cabcc_10 rfl (fun c => False.elim (absurd c (by rw [← nI_0]; exact nI_ge (by omega) (by omega)))) (fun _ => ?_)
  refine r_iload_n hX rfl 0 rfl dJ8_newLength_cabcc_13 ?_
  refine r_ldc hX kc_J8_200 dJ8_newLength_cabcc_14 ?_
  refine r_icmp_gt (tgt := 21) hX dJ8_newLength_cabcc_16 rfl (fun c => False.elim (absurd c (by rw [show (2147483639 : Int32) = nI 2147483639 by decide]; exact nI_nlt (by omega) (by omega)))) (fun _ => ?_)
  refine r_iload_n hX rfl 0 rfl dJ8_newLength_cabcc_19 ?_
  exact r_iret hX hq ⟨rfl, rfl, rfl⟩ dJ8_newLength_cabcc_20

set_option maxRecDepth 20000 in
set_option maxHeartbeats 4000000 in
theorem c_J7_copyOf_6403c (l : Launch) (G : zG) (h : zH) (top : Nat) (e0 cap N : Nat) (f : Nat → Option Nat) (hbt : z_b G ≤ top) (he : z_at G h top e0 (z_refs G cap f)) (hel : ∀ i, i < cap → ∀ y, f i = some y → z_ob G h top y) (hN : cap ≤ N) (hN2 : N ≤ 1000) (hroom : top + 1 ≤ z_b G + 320) : z_Ct l yJ7_copyOf_6403c cJ7_copyOf_6403c 4 (some (.array (.object "java/lang/Object"))) 2 G [.ref e0, .int (nI N), .ref (z_mO G)] h top (fun r h' top' => r = some (.ref top) ∧ top' = top + 1 ∧ ∃ g, (∀ i, i < cap → g i = f i) ∧ (∀ i, cap ≤ i → g i = none) ∧ h' = va_up h top (z_refs G N g)) := by
  refine z_of (own := RJ7) (nm := "copyOf") (by decide) rfl rfl (by decide) (Nat.le_of_ble_eq_true rfl) (fun X hX hq => ?_)
  replace hX : z_ok X cJ7_copyOf_6403c 4 RJ7 (some (.array (.object "java/lang/Object"))) "copyOf" 2 G := hX
  show z_Z X h top 0 [(0, .ref e0), (1, .int (nI N)), (2, .ref (z_mO G))] []
  have he9 := he
  unfold z_refs at he
  refine r_aload_n hX rfl 2 rfl dJ7_copyOf_6403c_0 ?_
  refine r_ldcM hX cl_J7_110 dJ7_copyOf_6403c_1 ?_
  refine r_acmp_ne (tgt := 13) hX dJ7_copyOf_6403c_3 rfl (fun c => False.elim (c rfl)) (fun _ => ?_)
  refine r_iload_n hX rfl 1 rfl dJ7_copyOf_6403c_6 ?_
  refine r_anew (N := N) hX kw_an_J7_2 (nI_clamp (by omega)) (z_nlt0 (by omega)) (by omega) (by omega) dJ7_copyOf_6403c_7 ?_
  replace he := he.new (e2 := (.inl (z_aO G, N, .inr (.inr (.inr (.inr (fun _ => none)))))))
  have hN7 : z_at G (va_up h top (.inl (z_aO G, N, .inr (.inr (.inr (.inr (fun _ => none))))))) (top + 1) top (.inl (z_aO G, N, .inr (.inr (.inr (.inr (fun _ => none)))))) := z_at.fresh hbt
  refine r_goto (tgt := 24) hX rfl dJ7_copyOf_6403c_10 ?_
  refine r_astore_n (lv' := [(3, .ref top), (0, .ref e0), (1, .int (nI N)), (2, .ref (z_mO G))]) hX rfl (by decide) rfl dJ7_copyOf_6403c_24 ?_
  refine r_aload_n hX rfl 1 rfl dJ7_copyOf_6403c_25 ?_
  refine r_iconst (v := 0) hX (by decide) dJ7_copyOf_6403c_26 ?_
  refine r_aload_n hX rfl 0 rfl dJ7_copyOf_6403c_27 ?_
  refine r_iconst (v := 0) hX (by decide) dJ7_copyOf_6403c_28 ?_
  refine r_aload_n hX rfl 1 rfl dJ7_copyOf_6403c_29 ?_
  refine r_alenO (v := (nI cap)) hX he rfl dJ7_copyOf_6403c_30 ?_
  refine r_iload_n hX rfl 2 rfl dJ7_copyOf_6403c_31 ?_
  refine r_min hX kw_min_J7_304 kw_m2min kw_m3 kw_m4min (Nat.le_of_ble_eq_true rfl) dJ7_copyOf_6403c_32 ?_
  rw [show (if nI N < nI cap then nI N else nI cap) = nI cap from if_neg (nI_nlt (by omega) (by omega))]
  refine r_copy (sp := 0) (dp := 0) (n := (nI cap)) hX he hN7 (by decide) (by decide) (z_nlt0 (by omega)) (by rw [nI_clamp (by omega), zi_cl0]; omega) (by rw [nI_clamp (by omega), zi_cl0]; omega) (fun i hi y hy => (hel i (by rw [nI_clamp (by omega)] at hi; omega) y (by rw [zi_cl0, Nat.zero_add] at hy; exact hy)).new) kw_ac_J7_150 kw_ac2 kw_ac3 kw_ac4 (by decide +kernel) dJ7_copyOf_6403c_35 ?_
  replace he := he.ne (a2 := top) (e2 := (.inl (z_aO G, N, .inr (.inr (.inr (.inr (va_cpy f (fun _ => none) (0 : Int32).toNatClampNeg (0 : Int32).toNatClampNeg ((nI cap) : Int32).toNatClampNeg))))))) (by have := he9.2.1; omega)
  replace hN7 : z_at G (va_up (va_up h top (.inl (z_aO G, N, .inr (.inr (.inr (.inr (fun _ => none))))))) top (.inl (z_aO G, N, .inr (.inr (.inr (.inr (va_cpy f (fun _ => none) (0 : Int32).toNatClampNeg (0 : Int32).toNatClampNeg ((nI cap) : Int32).toNatClampNeg))))))) (top + 1) top (.inl (z_aO G, N, .inr (.inr (.inr (.inr (va_cpy f (fun _ => none) (0 : Int32).toNatClampNeg (0 : Int32).toNatClampNeg ((nI cap) : Int32).toNatClampNeg)))))) := z_at.self hN7
  refine r_aload_n hX rfl 0 rfl dJ7_copyOf_6403c_38 ?_
  exact r_aret hX rfl (Or.inr ⟨_, rfl⟩) hq (Or.inr ⟨_, rfl⟩) ⟨rfl, rfl, (va_cpy f (fun _ => none) (0 : Int32).toNatClampNeg (0 : Int32).toNatClampNeg ((nI cap) : Int32).toNatClampNeg), fun i hi => by rw [zi_cl0, nI_clamp (by omega), pk_cpy_in (by omega) (by omega)]; simp, fun i hi => by rw [zi_cl0, nI_clamp (by omega), pk_cpy_out (by omega)], by rw [bx_uu]; rfl⟩ dJ7_copyOf_6403c_39

set_option maxRecDepth 20000 in
set_option maxHeartbeats 4000000 in
theorem c_J7_copyOf_1904c (l : Launch) (G : zG) (h : zH) (top : Nat) (e0 cap N : Nat) (f : Nat → Option Nat) (hbt : z_b G ≤ top) (he0 : z_at G h top e0 (z_refs G cap f)) (hel : ∀ i, i < cap → ∀ y, f i = some y → z_ob G h top y) (hN : cap ≤ N) (hN2 : N ≤ 1000) (hroom : top + 1 ≤ z_b G + 320) : z_Ct l yJ7_copyOf_1904c cJ7_copyOf_1904c 2 (some (.array (.object "java/lang/Object"))) 3 G [.ref e0, .int (nI N)] h top (fun r h' top' => r = some (.ref top) ∧ top' = top + 1 ∧ ∃ g, (∀ i, i < cap → g i = f i) ∧ (∀ i, cap ≤ i → g i = none) ∧ h' = va_up h top (z_refs G N g)) := by
  refine z_of (own := RJ7) (nm := "copyOf") (by decide) rfl rfl (by decide) (Nat.le_of_ble_eq_true rfl) (fun X hX hq => ?_)
  replace hX : z_ok X cJ7_copyOf_1904c 2 RJ7 (some (.array (.object "java/lang/Object"))) "copyOf" 3 G := hX
  show z_Z X h top 0 [(0, .ref e0), (1, .int (nI N))] []
  have he := he0
  unfold z_refs at he
  refine r_aload_n hX rfl 0 rfl dJ7_copyOf_1904c_0 ?_
  refine r_iload_n hX rfl 1 rfl dJ7_copyOf_1904c_1 ?_
  refine r_aload_n hX rfl 0 rfl dJ7_copyOf_1904c_2 ?_
  refine r_getC hX he kw_gc1 kw_gc2 kw_gc3 kw_gc4 kw_gc5 (Nat.le_of_ble_eq_true rfl) dJ7_copyOf_1904c_3 ?_
  refine r_callS (As := [.ref e0, .int (nI N), .ref (z_mO G)]) (rest := []) hX cs_J7_300 (by decide) (fun l => c_J7_copyOf_6403c l G h top e0 cap N f hbt he0 hel hN hN2 hroom) rfl rfl (Nat.le_of_ble_eq_true rfl) dJ7_copyOf_1904c_6 (fun r1 h1 top1 hp1 => ?_)
  obtain ⟨rfl, hp1⟩ := hp1
  exact r_aret hX rfl (Or.inr ⟨_, rfl⟩) hq (Or.inr ⟨_, rfl⟩) ⟨rfl, hp1⟩ dJ7_copyOf_1904c_9

set_option maxRecDepth 20000 in
set_option maxHeartbeats 4000000 in
theorem c_grow_0 (l : Launch) (G : zG) (h : zH) (top : Nat) (a : Nat) (m : Int32) (f : Nat → Option Nat) (hbt : z_b G ≤ top) (ha : z_at G h top a (.inr (0, [.int m, .ref (z_tE G), .int (nI 0)]))) (hroom : top + 1 ≤ z_b G + 320) : z_Ct l yJx4a65c_grow_92f84 cJx4a65c_grow_92f84 4 (some (.array (.object "java/lang/Object"))) 4 G [.ref a, .int 1] h top (fun r h' top' => r = some (.ref top) ∧ top' = top + 1 ∧ ∃ g, (∀ i, i < 0 → g i = f i) ∧ (∀ i, 0 ≤ i → g i = none) ∧ h' = va_up (va_up h top (z_refs G (z_gr 0) g)) a (.inr (0, [.int m, .ref top, .int (nI 0)]))) := by
  refine z_of (own := RJx4a65c) (nm := "grow") (by decide) rfl rfl (by decide) (Nat.le_of_ble_eq_true rfl) (fun X hX hq => ?_)
  replace hX : z_ok X cJx4a65c_grow_92f84 4 RJx4a65c (some (.array (.object "java/lang/Object"))) "grow" 4 G := hX
  show z_Z X h top 0 [(0, .ref a), (1, .int 1)] []
  refine r_aload_n hX rfl 0 rfl dJx4a65c_grow_92f84_0 ?_
  refine r_getf hX fl_Jx4a65c_9 ha rfl dJx4a65c_grow_92f84_1 ?_
  refine r_alenE hX dJx4a65c_grow_92f84_4 ?_
  refine r_istore_n (lv' := [(2, .int 0), (0, .ref a), (1, .int 1)]) hX rfl (by decide) rfl dJx4a65c_grow_92f84_5 ?_
  refine r_iload_n hX rfl 0 rfl dJx4a65c_grow_92f84_6 ?_
  refine r_if_gt (tgt := 20) hX dJx4a65c_grow_92f84_7 rfl (fun c => False.elim (absurd c (by decide))) (fun _ => ?_)
  refine r_aload_n hX rfl 1 rfl dJx4a65c_grow_92f84_10 ?_
  refine r_getf hX fl_Jx4a65c_9 ha rfl dJx4a65c_grow_92f84_11 ?_
  refine r_getsE hX kw_getsE_39 dJx4a65c_grow_92f84_14 ?_
  refine r_acmp_eq (tgt := 45) hX dJx4a65c_grow_92f84_17 rfl (fun _ => ?_) (fun c => False.elim (c rfl))
  refine r_aload_n hX rfl 1 rfl dJx4a65c_grow_92f84_45 ?_
  refine r_bipush (v := 10) hX (by decide) dJx4a65c_grow_92f84_46 ?_
  refine r_iload_n hX rfl 2 rfl dJx4a65c_grow_92f84_48 ?_
  refine r_max hX kw_max_Jx4a65c_79 kw_m2max kw_m3 kw_m4max (Nat.le_of_ble_eq_true rfl) dJx4a65c_grow_92f84_49 ?_
  rw [show (if (10 : Int32) < 1 then (1 : Int32) else 10) = nI 10 by decide]
  refine r_anew (N := 10) hX kw_an_Jx4a65c_7 (nI_clamp (by omega)) (z_nlt0 (by omega)) (by omega) (by omega) dJx4a65c_grow_92f84_52 ?_
  replace ha := ha.new (e2 := (.inl (z_aO G, 10, .inr (.inr (.inr (.inr (fun _ => none)))))))
  have hN52 : z_at G (va_up h top (.inl (z_aO G, 10, .inr (.inr (.inr (.inr (fun _ => none))))))) (top + 1) top (.inl (z_aO G, 10, .inr (.inr (.inr (.inr (fun _ => none)))))) := z_at.fresh hbt
  refine r_dup_x1 hX rfl rfl dJx4a65c_grow_92f84_55 ?_
  refine r_put (fs2 := [.int m, .ref top, .int (nI 0)]) hX fp_Jx4a65c_9 ha rfl rfl (Nat.le_of_ble_eq_true rfl) rfl dJx4a65c_grow_92f84_56 ?_
  replace hN52 := hN52.up (e3 := (.inr (0, [.int m, .ref top, .int (nI 0)]))) ha (by intro z; cases z)
  replace ha : z_at G (va_up (va_up h top (.inl (z_aO G, 10, .inr (.inr (.inr (.inr (fun _ => none))))))) a (.inr (0, [.int m, .ref top, .int (nI 0)]))) (top + 1) a (.inr (0, [.int m, .ref top, .int (nI 0)])) := z_at.self ha
  exact r_aret hX rfl (Or.inr ⟨_, rfl⟩) hq (Or.inr ⟨_, rfl⟩) ⟨rfl, rfl, fun _ => none, fun i hi => by omega, fun i hi => rfl, rfl⟩ dJx4a65c_grow_92f84_59

set_option maxRecDepth 20000 in
set_option maxHeartbeats 4000000 in
theorem c_grow_1 (l : Launch) (G : zG) (h : zH) (top : Nat) (a e n : Nat) (m : Int32) (f : Nat → Option Nat) (hbt : z_b G ≤ top) (ha : z_at G h top a (.inr (0, [.int m, .ref e, .int (nI n)]))) (he0 : z_at G h top e (z_refs G n f)) (hel : ∀ i, i < n → ∀ y, f i = some y → z_ob G h top y) (hn0 : 0 < n) (hn : n ≤ 150) (hroom : top + 1 ≤ z_b G + 320) : z_Ct l yJx4a65c_grow_92f84 cJx4a65c_grow_92f84 4 (some (.array (.object "java/lang/Object"))) 4 G [.ref a, .int (nI (n + 1))] h top (fun r h' top' => r = some (.ref top) ∧ top' = top + 1 ∧ ∃ g, (∀ i, i < n → g i = f i) ∧ (∀ i, n ≤ i → g i = none) ∧ h' = va_up (va_up h top (z_refs G (z_gr n) g)) a (.inr (0, [.int m, .ref top, .int (nI n)]))) := by
  refine z_of (own := RJx4a65c) (nm := "grow") (by decide) rfl rfl (by decide) (Nat.le_of_ble_eq_true rfl) (fun X hX hq => ?_)
  replace hX : z_ok X cJx4a65c_grow_92f84 4 RJx4a65c (some (.array (.object "java/lang/Object"))) "grow" 4 G := hX
  show z_Z X h top 0 [(0, .ref a), (1, .int (nI (n + 1)))] []
  have he := he0
  unfold z_refs at he
  refine r_aload_n hX rfl 0 rfl dJx4a65c_grow_92f84_0 ?_
  refine r_getf hX fl_Jx4a65c_9 ha rfl dJx4a65c_grow_92f84_1 ?_
  refine r_alenO (v := (nI n)) hX he rfl dJx4a65c_grow_92f84_4 ?_
  refine r_istore_n (lv' := [(2, .int (nI n)), (0, .ref a), (1, .int (nI (n + 1)))]) hX rfl (by decide) rfl dJx4a65c_grow_92f84_5 ?_
  refine r_iload_n hX rfl 0 rfl dJx4a65c_grow_92f84_6 ?_
  refine r_if_gt (tgt := 20) hX dJx4a65c_grow_92f84_7 rfl (fun _ => ?_) (fun c => False.elim (absurd (show (0 : Int32) < nI n by rw [← nI_0]; exact nI_lt (by omega) (by omega)) c))
  refine r_iload_n hX rfl 0 rfl dJx4a65c_grow_92f84_20 ?_
  refine r_iload_n hX rfl 2 rfl dJx4a65c_grow_92f84_21 ?_
  refine r_iload_n hX rfl 0 rfl dJx4a65c_grow_92f84_22 ?_
  refine r_isub hX dJx4a65c_grow_92f84_23 ?_
  refine r_iload_n hX rfl 0 rfl dJx4a65c_grow_92f84_24 ?_
  refine r_iconst (v := 1) hX (by decide) dJx4a65c_grow_92f84_25 ?_
  refine r_ishr hX dJx4a65c_grow_92f84_26 ?_
  rw [show nI n >>> ((1 : Int32) &&& 31) = nI (n / 2) from by have k := pk_shrN (n := n) (by omega) ((1 : Int32) &&& 31) 1 (by decide); rw [Nat.pow_one] at k; exact k, pk_sub (a := n + 1) (b := n) (by omega), Nat.add_sub_cancel_left]
  refine r_callSR (As := [.int (nI n), .int (nI 1), .int (nI (n / 2))]) (rest := []) (rv := some (.int (nI (n + (if 1 < n / 2 then n / 2 else 1))))) (st1 := [.int (nI (n + (if 1 < n / 2 then n / 2 else 1)))]) hX cs_Jx4a65c_73 (by decide) (fun l => c_J8_newLength_cabcc l G h top n (if 1 < n / 2 then n / 2 else 1) (nI 1) (nI (n / 2)) (by omega) (by omega) (by split <;> omega) (z_mxg (by omega))) rfl rfl rfl (Nat.le_of_ble_eq_true rfl) dJx4a65c_grow_92f84_27 ?_
  refine r_istore_n (lv' := [(3, .int (nI (n + (if 1 < n / 2 then n / 2 else 1)))), (2, .int (nI n)), (0, .ref a), (1, .int (nI (n + 1)))]) hX rfl (by decide) rfl dJx4a65c_grow_92f84_30 ?_
  refine r_aload_n hX rfl 2 rfl dJx4a65c_grow_92f84_31 ?_
  refine r_aload_n hX rfl 2 rfl dJx4a65c_grow_92f84_32 ?_
  refine r_getf hX fl_Jx4a65c_9 ha rfl dJx4a65c_grow_92f84_33 ?_
  refine r_iload_n hX rfl 0 rfl dJx4a65c_grow_92f84_36 ?_
  refine r_callS (As := [.ref e, .int (nI (n + (if 1 < n / 2 then n / 2 else 1)))]) (rest := [.ref a]) hX cs_Jx4a65c_66 (by decide) (fun l => c_J7_copyOf_1904c l G h top e n (n + (if 1 < n / 2 then n / 2 else 1)) f hbt he0 hel (by omega) (by split <;> omega) hroom) rfl rfl (Nat.le_of_ble_eq_true rfl) dJx4a65c_grow_92f84_37 (fun r1 h1 top1 hp1 => ?_)
  obtain ⟨rfl, rfl, g, hg1, hg2, rfl⟩ := hp1
  replace ha : z_at G (va_up h top (z_refs G (z_gr n) g)) (top + 1) a (.inr (0, [.int m, .ref e, .int (nI n)])) := by rw [z_gr_pos hn0]; exact ha.new
  rw [← z_gr_pos hn0]
  refine r_dup_x1 hX rfl rfl dJx4a65c_grow_92f84_40 ?_
  refine r_put (fs2 := [.int m, .ref top, .int (nI n)]) hX fp_Jx4a65c_9 ha rfl rfl (Nat.le_of_ble_eq_true rfl) rfl dJx4a65c_grow_92f84_41 ?_
  replace ha : z_at G (va_up (va_up h top (z_refs G (z_gr n) g)) a (.inr (0, [.int m, .ref top, .int (nI n)]))) (top + 1) a (.inr (0, [.int m, .ref top, .int (nI n)])) := z_at.self ha
  exact r_aret hX rfl (Or.inr ⟨_, rfl⟩) hq (Or.inr ⟨_, rfl⟩) ⟨rfl, rfl, g, hg1, hg2, rfl⟩ dJx4a65c_grow_92f84_44

set_option maxRecDepth 20000 in
set_option maxHeartbeats 4000000 in
theorem c_Jx4a65c_grow_d5877 (l : Launch) (G : zG) (h : zH) (top : Nat) (a e n : Nat) (m : Int32) (f : Nat → Option Nat) (hbt : z_b G ≤ top) (hL : z_AL G h top a m e n n f) (hel : ∀ i, i < n → ∀ y, f i = some y → z_ob G h top y) (hn : n ≤ 150) (hroom : top + 1 ≤ z_b G + 320) : z_Ct l yJx4a65c_grow_d5877 cJx4a65c_grow_d5877 1 (some (.array (.object "java/lang/Object"))) 5 G [.ref a] h top (fun r h' top' => r = some (.ref top) ∧ top' = top + 1 ∧ ∃ g, (∀ i, i < n → g i = f i) ∧ (∀ i, n ≤ i → g i = none) ∧ h' = va_up (va_up h top (z_refs G (z_gr n) g)) a (.inr (0, [.int m, .ref top, .int (nI n)]))) := by
  refine z_of (own := RJx4a65c) (nm := "grow") (by decide) rfl rfl (by decide) (Nat.le_of_ble_eq_true rfl) (fun X hX hq => ?_)
  replace hX : z_ok X cJx4a65c_grow_d5877 1 RJx4a65c (some (.array (.object "java/lang/Object"))) "grow" 5 G := hX
  show z_Z X h top 0 [(0, .ref a)] []
  have ha := hL.1
  have hgrow : ∀ l : Launch, z_Ct l yJx4a65c_grow_92f84 cJx4a65c_grow_92f84 4 (some (.array (.object "java/lang/Object"))) 4 G [.ref a, .int (nI (n + 1))] h top (fun r h' top' => r = some (.ref top) ∧ top' = top + 1 ∧ ∃ g, (∀ i, i < n → g i = f i) ∧ (∀ i, n ≤ i → g i = none) ∧ h' = va_up (va_up h top (z_refs G (z_gr n) g)) a (.inr (0, [.int m, .ref top, .int (nI n)]))) := by
    intro l
    rcases hL.2.2.2.2 with ⟨h0, he⟩ | ⟨h0, he⟩
    · subst h0 he
      exact c_grow_0 l G h top a m f hbt ha hroom
    · exact c_grow_1 l G h top a e n m f hbt ha he hel h0 hn hroom
  refine r_aload_n hX rfl 0 rfl dJx4a65c_grow_d5877_0 ?_
  refine r_aload_n hX rfl 0 rfl dJx4a65c_grow_d5877_1 ?_
  refine r_getf hX fl_Jx4a65c_48 ha rfl dJx4a65c_grow_d5877_2 ?_
  refine r_iconst (v := 1) hX (by decide) dJx4a65c_grow_d5877_5 ?_
  refine r_iadd hX dJx4a65c_grow_d5877_6 ?_
  rw [nI_1]
  refine r_callV (As := [.int (nI (n + 1))]) (rest := []) hX cs_Jx4a65c_69 (by decide) (fun l => hgrow l) ha rfl rfl rfl (Nat.le_of_ble_eq_true rfl) dJx4a65c_grow_d5877_7 (fun r1 h1 top1 hp1 => ?_)
  obtain ⟨rfl, hp1⟩ := hp1
  exact r_aret hX rfl (Or.inr ⟨_, rfl⟩) hq (Or.inr ⟨_, rfl⟩) ⟨rfl, hp1⟩ dJx4a65c_grow_d5877_10

