/-! prices and bills, as numbers -/
theorem nI_mul (a b : Nat) : nI a * nI b = nI (a * b) := (Int32.ofNat_mul a b).symm
theorem nI_divN {a b : Nat} (h : a < 2 ^ 31) (hb : 0 < b) (hb2 : b < 2 ^ 31) : nI a / nI b = nI (a / b) := by
  apply Int32.toInt_inj.mp
  have h2 : a / b < 2 ^ 31 := Nat.lt_of_le_of_lt (Nat.div_le_self a b) h
  rw [Int32.toInt_div_of_ne_left _ _ (by intro z; have := congrArg Int32.toInt z; rw [nI_toInt h] at this; rw [show Int32.minValue.toInt = -2147483648 by decide] at this; omega), nI_toInt h, nI_toInt hb2, nI_toInt h2, Int.tdiv_eq_ediv_of_nonneg (by omega)]
  exact (Int.natCast_ediv a b).symm
theorem nI_sub {a b : Nat} (h : b ≤ a) : nI a - nI b = nI (a - b) := by
  obtain ⟨k, rfl⟩ : ∃ k, a = b + k := ⟨a - b, by omega⟩
  rw [Nat.add_sub_cancel_left, Nat.add_comm, ← nI_add]
  exact Int32.add_sub_cancel _ _
/-- the settings of a hall -/
def zg_cfg (s : zS) : Prop := (∀ x ∈ s_segs s, zk8 x.2.1 ∧ zk8 x.2.2.1 ∧ (∃ o : Nat, o < 4 ∧ x.2.2.2.2 = nI o) ∧ ∃ a : Nat, a ≤ 60 ∧ x.2.2.2.1 = nI a) ∧ (∀ v ∈ s_vehs s, (∃ a : Nat, a ≤ 2 ∧ v.2.1.1 = nI a) ∧ ∃ a : Nat, a ≤ 3 ∧ v.2.1.2.1 = nI a) ∧ ∀ t ∈ s_tars s, ∃ a b c : Nat, (a ≤ 30 ∧ b ≤ 9 ∧ c ≤ 100) ∧ t.2.2.1 = nI a ∧ t.2.2.2.1 = nI b ∧ t.2.2.2.2.1 = nI c
theorem zg_cfg.kn {s : zS} (h : zg_cfg s) : zg_kn s := fun i x hx => ⟨(h.1 x (List.mem_of_getElem? hx)).1, (h.1 x (List.mem_of_getElem? hx)).2.1⟩
theorem zg_cfg.sg {s : zS} (h : zg_cfg s) (a : Nat) : (∃ o : Nat, o < 4 ∧ (zm_sg (s_segs s) a).2.2.2.2 = nI o) ∧ ∃ a2 : Nat, a2 ≤ 60 ∧ (zm_sg (s_segs s) a).2.2.2.1 = nI a2 := by
  unfold zm_sg
  cases hq : (s_segs s)[zm_num (s_segs s) a]? with
  | none => exact ⟨⟨0, by decide, nI_0.symm⟩, 0, by decide, nI_0.symm⟩
  | some x => exact (h.1 x (List.mem_of_getElem? hq)).2.2
theorem zp_price1 {a b c d e f : Nat} (ha : a ≤ 60) (hb : b ≤ 30) (hc : c ≤ 9) (hd : d ≤ 2) (he : e ≤ 3) (hf : f ≤ 100) (m : Int32) : ∃ p : Nat, p ≤ 7488 ∧ zm_price1 (nI a) (nI b) (nI c) (nI f) (nI d) (nI e) m = nI p := by
  have h1 : c * d ≤ 9 * 2 := Nat.mul_le_mul hc hd
  have h2 : a * (b + c * d) ≤ 60 * 48 := Nat.mul_le_mul ha (by omega)
  have h3 : a * (b + c * d) * (10 + e) ≤ 2880 * 13 := Nat.mul_le_mul h2 (by omega)
  have hP : a * (b + c * d) * (10 + e) / 10 ≤ 3744 := by omega
  have e1 : nI a * (nI b + nI c * nI d) * (10 + nI e) / 10 = nI (a * (b + c * d) * (10 + e) / 10) := by
    rw [nI_mul, nI_add, nI_mul, show (10 : Int32) = nI 10 from rfl, nI_add, nI_mul, nI_divN (by omega) (by decide) (by decide)]
  unfold zm_price1
  rw [e1]
  generalize a * (b + c * d) * (10 + e) / 10 = P at hP
  have h4 : P * f ≤ 3744 * 100 := Nat.mul_le_mul hP hf
  by_cases q : zm_peak m = true
  · refine ⟨P + P * f / 100, by omega, ?_⟩
    rw [if_pos q, nI_mul, show (100 : Int32) = nI 100 from rfl, nI_divN (by omega) (by decide) (by decide), nI_add]
  · exact ⟨P, by omega, if_neg q⟩
theorem zm_inF_in {tars : List zTar} {owner day : Int32} {t : zTar} : ∀ k : Nat, zm_inF tars owner day k = some t → t ∈ tars := by
  intro k
  induction k with
  | zero => intro z; cases z
  | succ k ih =>
    intro z
    cases hq : tars[k]? with
    | none => simp only [zm_inF, hq] at z; cases z
    | some u =>
      rw [zm_inF_s hq] at z
      by_cases e : u.2.1 = owner ∧ u.2.2.2.2.2 ≤ day
      · rw [if_pos e] at z; cases z; exact List.mem_of_getElem? hq
      · rw [if_neg e] at z; exact ih z
theorem zp_price {s : zS} (h : zg_cfg s) (owner m : Int32) {a d e : Nat} (ha : a ≤ 60) (hd : d ≤ 2) (he : e ≤ 3) : ∃ p : Nat, p ≤ 7488 ∧ zm_price (s_tars s) owner (nI a) (nI d) (nI e) m = nI p := by
  unfold zm_price
  cases hq : zm_inForce (s_tars s) owner (m / 1440) with
  | none => exact ⟨0, by decide, nI_0.symm⟩
  | some t =>
    obtain ⟨b, c, f, ⟨hb, hc, hf⟩, e1, e2, e3⟩ := h.2.2 t (zm_inF_in _ hq)
    dsimp only
    rw [e1, e2, e3]
    exact zp_price1 ha hb hc hd he hf m
theorem zp_toll {s : zS} (h : zg_cfg s) {x : zSeg} (hx : x ∈ s_segs s) {v : zVeh} (hv : v ∈ s_vehs s) (m : Int32) : ∃ p : Nat, p ≤ 7488 ∧ zm_toll (s_tars s) x v m = nI p := by
  obtain ⟨-, -, -, a, ha, ea⟩ := h.1 x hx
  obtain ⟨⟨d, hd, ed⟩, e, he, ee⟩ := h.2.1 v hv
  unfold zm_toll
  split
  · exact ⟨0, by decide, nI_0.symm⟩
  · rw [ea, ed, ee]
    exact zp_price h _ m ha hd he
theorem zp_qprice {s : zS} (h : zg_cfg s) {v : zVeh} (hv : v ∈ s_vehs s) {d : Nat} (hd : d ≤ 2) (q : zQ) : ∃ p : Nat, p ≤ 7488 ∧ zm_qprice s v (nI d) q = nI p := by
  obtain ⟨-, a, ha, ea⟩ := h.sg q.1
  obtain ⟨-, e, he, ee⟩ := h.2.1 v hv
  unfold zm_qprice
  rw [ea, ee]
  exact zp_price h _ q.2.1 ha hd he
/-- one more passage: the sum stays within the cap -/
theorem zp_step {s : zS} (h : zg_cfg s) {v : zVeh} (hv : v ∈ s_vehs s) {d : Nat} (hd : d ≤ 2) {b c : Nat} (hb : b ≤ c) (hc : c ≤ 999) (q : zQ) : ∃ u : Nat, b + u ≤ c ∧ zm_qdue s v (nI d) (nI c - nI b) q = nI u := by
  obtain ⟨p, hp, ep⟩ := zp_qprice h hv hd q
  unfold zm_qdue zm_qreason zm_due zm_reason
  rw [ep, nI_sub hb]
  by_cases h1 : q.2.2.2 = 0
  · rw [if_pos h1]
    by_cases h2 : zf_hasBit v.2.2.2.1 (zm_sg (s_segs s) q.1).2.2.2.2 = true
    · rw [if_pos h2]
      exact ⟨0, by omega, by rw [if_neg (by decide), if_neg (by decide)]; exact nI_0.symm⟩
    · rw [if_neg h2]
      by_cases h3 : nI p ≤ nI (c - b)
      · rw [if_pos h3]
        have := (nI_leI (by omega) (by omega)).mp h3
        exact ⟨p, by omega, rfl⟩
      · rw [if_neg h3]
        exact ⟨c - b, by omega, rfl⟩
  · rw [if_neg h1]
    exact ⟨0, by omega, by rw [if_neg (by decide), if_neg (by decide)]; exact nI_0.symm⟩
theorem zp_fold {s : zS} (h : zg_cfg s) {v : zVeh} (hv : v ∈ s_vehs s) {d : Nat} (hd : d ≤ 2) {c : Nat} (hc : c ≤ 999) : ∀ (rows : List zQ) (b : Nat) (l : List (Int32 × Int32)), b ≤ c → ∃ b2 : Nat, b2 ≤ c ∧ (rows.foldl (zm_chStep s v (nI d) (nI c)) (nI b, l)).1 = nI b2 := by
  intro rows
  induction rows with
  | nil => intro b l hb; exact ⟨b, hb, rfl⟩
  | cons q qs ih =>
    intro b l hb
    obtain ⟨u, hu, eu⟩ := zp_step h hv hd hb hc q
    rw [List.foldl_cons]
    have e : zm_chStep s v (nI d) (nI c) (nI b, l) q = (nI (b + u), l ++ [(zm_qreason s v (nI d) (nI c - nI b) q, zm_qdue s v (nI d) (nI c - nI b) q)]) := by
      show (nI b + zm_qdue s v (nI d) (nI c - nI b) q, _) = _
      rw [eu, nI_add]
    rw [e]
    exact ih _ _ hu
/-- a bill is no more than its cap -/
theorem zp_bill {s : zS} (h : zg_cfg s) {v : zVeh} (hv : v ∈ s_vehs s) {c : Nat} (hc : c ≤ 999) (rows : List zQ) : ∃ b : Nat, b ≤ c ∧ (zm_charge s v v.2.1.1 (nI c) rows).1 = nI b := by
  obtain ⟨⟨d, hd, ed⟩, -⟩ := h.2.1 v hv
  rw [ed]
  obtain ⟨b, hb, e⟩ := zp_fold h hv hd hc rows 0 [] (Nat.zero_le _)
  rw [nI_0] at e
  exact ⟨b, hb, e⟩
def zm_sumN (f : Nat → Int32) : Nat → Int32
  | 0 => 0
  | k + 1 => zm_sumN f k + f k
theorem zm_sumN_congr {f g : Nat → Int32} : ∀ n : Nat, (∀ i, i < n → f i = g i) → zm_sumN f n = zm_sumN g n := by
  intro n
  induction n with
  | zero => intro _; rfl
  | succ n ih => intro h; show zm_sumN f n + f n = zm_sumN g n + g n; rw [ih (fun i hi => h i (by omega)), h n (by omega)]
def zm_vs (l : List (Int32 × Int32)) : Int32 := zm_sumN (fun i => ((l[i]?).getD (0, 0)).2) l.length
theorem zm_vs_app (l : List (Int32 × Int32)) (x : Int32 × Int32) : zm_vs (l ++ [x]) = zm_vs l + x.2 := by
  unfold zm_vs
  rw [List.length_append, List.length_singleton]
  show zm_sumN _ l.length + (((l ++ [x])[l.length]?).getD (0, 0)).2 = _
  rw [List.getElem?_append_right (Nat.le_refl _), Nat.sub_self]
  congr 1
  exact zm_sumN_congr _ (fun i hi => by rw [List.getElem?_append_left hi])
/-- a bill is the sum of what is due -/
theorem zp_vs (s : zS) (v : zVeh) (rank cap : Int32) : ∀ (rows : List zQ) (acc : Int32 × List (Int32 × Int32)), zm_vs acc.2 = acc.1 → zm_vs (rows.foldl (zm_chStep s v rank cap) acc).2 = (rows.foldl (zm_chStep s v rank cap) acc).1 := by
  intro rows
  induction rows with
  | nil => intro acc h; exact h
  | cons q qs ih =>
    intro acc h
    rw [List.foldl_cons]
    refine ih _ ?_
    show zm_vs (acc.2 ++ [_]) = acc.1 + _
    rw [zm_vs_app, h]
theorem zp_due (s : zS) (v : zVeh) (rank cap : Int32) (rows : List zQ) : zm_sumN (fun i => zm_factAt s rows (zm_charge s v rank cap rows).2 i (nI 4)) rows.length = (zm_charge s v rank cap rows).1 := by
  have h := zp_vs s v rank cap rows (0, []) rfl
  have e : ∀ i, zm_factAt s rows (zm_charge s v rank cap rows).2 i (nI 4) = (((zm_charge s v rank cap rows).2[i]?).getD (0, 0)).2 := fun i => by
    unfold zm_factAt zm_fact
    rw [if_neg (by decide +kernel), if_neg (by decide +kernel), if_neg (by decide +kernel), if_neg (by decide +kernel)]
  have h2 : zm_vs (zm_charge s v rank cap rows).2 = (zm_charge s v rank cap rows).1 := h
  rw [← h2]
  unfold zm_vs
  rw [zm_charge_len]
  exact zm_sumN_congr _ (fun i _ => e i)
/-- journeys are no more than passages -/
theorem zp_jc (s : zS) : ∀ (rows : List zQ) (acc : Option zQ × Int32) (n : Nat), acc.2 = nI n → ∃ k : Nat, k ≤ n + rows.length ∧ (rows.foldl (zm_jrStep s) acc).2 = nI k := by
  intro rows
  induction rows with
  | nil => intro acc n h; exact ⟨n, Nat.le_refl _, h⟩
  | cons q qs ih =>
    intro acc n h
    rw [List.foldl_cons]
    by_cases e : zm_jnew s acc.1 q = true
    · obtain ⟨k, hk, ek⟩ := ih (zm_jrStep s acc q) (n + 1) (by show (if zm_jnew s acc.1 q = true then acc.2 + 1 else acc.2) = _; rw [if_pos e, h, nI_1])
      exact ⟨k, by rw [List.length_cons]; omega, ek⟩
    · obtain ⟨k, hk, ek⟩ := ih (zm_jrStep s acc q) n (by show (if zm_jnew s acc.1 q = true then acc.2 + 1 else acc.2) = _; rw [if_neg e, h])
      exact ⟨k, by rw [List.length_cons]; omega, ek⟩
theorem zp_journeys (s : zS) (c : Nat) (rows : List zQ) : ∃ k : Nat, k ≤ rows.length ∧ zm_jcount s c rows = nI k := by
  obtain ⟨k, hk, ek⟩ := zp_jc s (rows.take c) (none, 0) 0 nI_0.symm
  rw [List.length_take] at hk
  exact ⟨k, by omega, ek⟩
