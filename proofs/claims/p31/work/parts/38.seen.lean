/-! sightings in passages -/
def zm_qs : List zQ → Int32
  | [] => 0
  | q :: l => q.2.2.1 + zm_qs l
theorem zm_qs_app : ∀ (l m : List zQ), zm_qs (l ++ m) = zm_qs l + zm_qs m := by
  intro l m
  induction l with
  | nil => show zm_qs m = 0 + zm_qs m; grind
  | cons q qs ih => show q.2.2.1 + zm_qs (qs ++ m) = q.2.2.1 + zm_qs qs + zm_qs m; rw [ih]; grind
theorem zm_qs_set {q q2 : zQ} : ∀ {l : List zQ} {i : Nat}, l[i]? = some q → zm_qs (l.set i q2) = zm_qs l + (q2.2.2.1 - q.2.2.1) := by
  intro l
  induction l with
  | nil => intro i h; cases h
  | cons u us ih =>
    intro i h
    cases i with
    | zero =>
      cases h
      show q2.2.2.1 + zm_qs us = q.2.2.1 + zm_qs us + (q2.2.2.1 - q.2.2.1)
      grind
    | succ i =>
      show u.2.2.1 + zm_qs (us.set i q2) = u.2.2.1 + zm_qs us + (q2.2.2.1 - q.2.2.1)
      rw [ih h]
      grind
theorem zm_qs_new (Q : List zQ) (y : zSgt) : zm_qs ((Q ++ [(y.2.1.2, y.2.2.1, 0, 0)]).set Q.length (zm_jn (y.2.1.2, y.2.2.1, 0, 0) y)) = zm_qs Q + 1 := by
  rw [zm_qs_set (q := (y.2.1.2, y.2.2.1, 0, 0)) (by rw [List.getElem?_append_right (Nat.le_refl _), Nat.sub_self]; rfl), zm_qs_app]
  show zm_qs Q + (0 + 0) + ((0 + 1) - 0) = _
  grind
theorem zm_qs_step (Q : List zQ) (y : zSgt) : zm_qs (zm_joinStep Q y) = zm_qs Q + 1 := by
  unfold zm_joinStep
  split
  · exact zm_qs_new Q y
  · rename_i k hk
    obtain ⟨q, hq, -⟩ := zm_last_lt hk
    rw [hq]
    dsimp only
    split
    · exact zm_qs_new Q y
    · rw [zm_qs_set hq]
      show zm_qs Q + (q.2.2.1 + 1 - q.2.2.1) = _
      grind
theorem zm_qs_join : ∀ (pk : List zSgt) (Q : List zQ), zm_qs (pk.foldl zm_joinStep Q) = zm_qs Q + nI pk.length := by
  intro pk
  induction pk with
  | nil => intro Q; show zm_qs Q = zm_qs Q + nI 0; rw [nI_0]; grind
  | cons y ys ih => intro Q; rw [List.foldl_cons, ih, zm_qs_step, List.length_cons, ← nI_1]; grind
theorem zm_qs_sure (segs : List zSeg) : ∀ (Q : List zQ) (acc : Option zQ × List zQ), zm_qs (Q.foldl (zm_sureStep segs) acc).2 = zm_qs acc.2 + zm_qs (Q.filter (fun q => decide (q.2.2.2 = 0))) := by
  intro Q
  induction Q with
  | nil => intro acc; show zm_qs acc.2 = zm_qs acc.2 + 0; grind
  | cons q qs ih =>
    intro acc
    rw [List.foldl_cons, ih]
    unfold zm_sureStep
    by_cases e : q.2.2.2 = 0
    · rw [if_pos e, List.filter_cons_of_pos (by simp [e])]
      show zm_qs (acc.2 ++ _ ++ [q]) + _ = _ + (q.2.2.1 + _)
      rw [zm_qs_app, zm_qs_app]
      obtain ⟨o, R⟩ := acc
      cases o with
      | none =>
        show zm_qs R + 0 + (q.2.2.1 + 0) + _ = zm_qs R + _
        grind
      | some a =>
        show zm_qs R + zm_qs (zm_inf segs a q).toList + (q.2.2.1 + 0) + _ = zm_qs R + _
        have hz : zm_qs (zm_inf segs a q).toList = 0 := by
          cases hi : zm_inf segs a q with
          | none => rfl
          | some r =>
            have := zm_inf_2 hi
            show r.2.2.1 + 0 = 0
            rw [this]
            rfl
        rw [hz]
        grind
    · rw [if_neg e, List.filter_cons_of_neg (by simp [e])]
theorem zm_qs_two : ∀ (Q : List zQ), zm_qs (Q.filter (fun q => decide (q.2.2.2 = 0))) + zm_qs (zm_dbt Q) = zm_qs Q := by
  intro Q
  unfold zm_dbt
  induction Q with
  | nil => show (0 : Int32) + 0 = 0; rfl
  | cons q qs ih =>
    by_cases e : q.2.2.2 = 0
    · rw [List.filter_cons_of_pos (by simp [e]), List.filter_cons_of_neg (by simp [e])]
      show q.2.2.1 + _ + _ = q.2.2.1 + zm_qs qs
      rw [← ih]
      grind
    · rw [List.filter_cons_of_neg (by simp [e]), List.filter_cons_of_pos (by simp [e])]
      show _ + (q.2.2.1 + _) = q.2.2.1 + zm_qs qs
      rw [← ih]
      grind
theorem zm_pick_cnt (segs : List zSeg) (va : Nat) (day : Int32) : ∀ (l acc : List zSgt), (l.foldl (zm_pickStep segs va day) acc).length = acc.length + l.countP (fun y => zm_isOf y va day) := by
  intro l
  induction l with
  | nil => intro acc; rfl
  | cons y ys ih =>
    intro acc
    rw [List.foldl_cons, ih]
    unfold zm_pickStep
    by_cases e : zm_isOf y va day = true
    · rw [if_pos e, List.length_insertIdx_of_le_length (zm_place_le segs y acc), List.countP_cons_of_pos (by exact e)]
      omega
    · rw [if_neg e, List.countP_cons_of_neg (by exact e)]
def zm_cnt (s : zS) (va : Nat) (day : Int32) : Nat := (s_sgts s).countP (fun y => zm_isOf y va day)
theorem zp_seen (s : zS) (va : Nat) (day : Int32) : zm_qs (zm_day s va day) = nI (zm_cnt s va day) := by
  unfold zm_day zm_gath zm_sure
  rw [zm_qs_app, zm_qs_sure]
  have h1 := zm_qs_two (zm_Q s va day)
  have h2 := zm_qs_join (zm_pick (s_segs s) (s_sgts s) va day) []
  have h3 := zm_pick_cnt (s_segs s) va day (s_sgts s) []
  have h4 : zm_qs (zm_Q s va day) = 0 + nI (zm_pick (s_segs s) (s_sgts s) va day).length := h2
  rw [show (zm_pick (s_segs s) (s_sgts s) va day).length = zm_cnt s va day by unfold zm_pick; rw [h3]; exact Nat.zero_add _] at h4
  show (0 : Int32) + _ + _ = _
  grind
theorem zm_qs_sum : ∀ (rows : List zQ), zm_sumN (fun i => ((rows[i]?).getD (0, 0, 0, 0)).2.2.1) rows.length = zm_qs rows := by
  intro rows
  induction rows with
  | nil => rfl
  | cons q qs ih =>
    rw [List.length_cons, zm_sumN_0]
    show q.2.2.1 + zm_sumN (fun i => ((qs[i]?).getD (0, 0, 0, 0)).2.2.1) qs.length = q.2.2.1 + zm_qs qs
    rw [ih]
theorem zp_told (s : zS) (va : Nat) (day : Int32) (vals : List (Int32 × Int32)) : zm_sumN (fun i => zm_factAt s (zm_day s va day) vals i (nI 2)) (zm_day s va day).length = nI (zm_cnt s va day) := by
  rw [← zp_seen, ← zm_qs_sum]
  refine zm_sumN_congr _ (fun i _ => ?_)
  unfold zm_factAt zm_fact
  rw [if_neg (by decide +kernel), if_neg (by decide +kernel), if_pos (by decide +kernel)]
theorem zp_count3 {p0 p1 p2 : zSgt → Bool} (h01 : ∀ y, p0 y = true → p1 y = true → False) (h02 : ∀ y, p0 y = true → p2 y = true → False) (h12 : ∀ y, p1 y = true → p2 y = true → False) : ∀ l : List zSgt, l.countP p0 + l.countP p1 + l.countP p2 ≤ l.length := by
  intro l
  induction l with
  | nil => simp
  | cons y ys ih =>
    rw [List.length_cons, List.countP_cons, List.countP_cons, List.countP_cons]
    have a := h01 y; have b := h02 y; have c := h12 y
    cases e0 : p0 y <;> cases e1 : p1 y <;> cases e2 : p2 y <;> simp_all <;> omega
theorem zp_cnt3 (s : zS) {a b c : Nat} (h1 : a ≠ b) (h2 : a ≠ c) (h3 : b ≠ c) (day : Int32) : zm_cnt s a day + zm_cnt s b day + zm_cnt s c day ≤ (s_sgts s).length := by
  have key : ∀ {u w : Nat} (y : zSgt), u ≠ w → zm_isOf y u day = true → zm_isOf y w day = true → False := by
    intro u w y hne q1 q2
    unfold zm_isOf at q1 q2
    rw [Bool.and_eq_true, decide_eq_true_eq] at q1 q2
    exact hne (q1.1.symm.trans q2.1)
  exact zp_count3 (fun y => key y h1) (fun y => key y h2) (fun y => key y h3) (s_sgts s)
theorem z_St.vinj {G : zG} {s : zS} {be : zB} {h : zH} {top : Nat} (H : z_St G s be h top) {i j : Nat} {u v : zVeh} (hu : (s_vehs s)[i]? = some u) (hv : (s_vehs s)[j]? = some v) (e : u.1 = v.1) : i = j := by
  have q1 : z_ct G s be 4 i = some (u.1, z_vehC i u) := by rw [z_ct4, hu]; rfl
  have q2 : z_ct G s be 4 j = some (u.1, z_vehC j v) := by rw [z_ct4, hv, e]; rfl
  exact (H.1.2 _ _ _ _ _ _ _ q1 q2).2
/-! ways -/
def zw_ok (B : Nat) (f : Nat → Int32) : Prop := ∀ j, j < 8 → f j = -1 ∨ ∃ a : Nat, a ≤ B ∧ f j = nI a
theorem zw_ok.mono {B C : Nat} {f : Nat → Int32} (h : zw_ok B f) (hBC : B ≤ C) : zw_ok C f := fun j hj => (h j hj).elim Or.inl (fun ⟨a, h1, h2⟩ => Or.inr ⟨a, by omega, h2⟩)
theorem zw_step {s : zS} (h : zg_cfg s) {v : zVeh} (hv : v ∈ s_vehs s) {x : zSeg} (hx : x ∈ s_segs s) {B : Nat} {f : Nat → Int32} {c : Int32} (hf : zw_ok B f) : zw_ok (B + 7488) (zm_exS s v (f, c) x).1 := by
  unfold zm_exS
  dsimp only
  split
  · exact hf.mono (by omega)
  · rename_i h1
    split
    · intro j hj
      simp only [upd]
      split
      · obtain ⟨p, hp, ep⟩ := zp_toll h hx hv (s_now s)
        rcases hf _ (h.1 x hx).1.lt with w | ⟨a, ha, ea⟩
        · exact absurd w h1
        · exact Or.inr ⟨a + p, by omega, by rw [ea, ep, nI_add]⟩
      · exact hf.mono (by omega) j hj
    · exact hf.mono (by omega)
theorem zw_ext {s : zS} (h : zg_cfg s) {v : zVeh} (hv : v ∈ s_vehs s) : ∀ (l : List zSeg), (∀ x ∈ l, x ∈ s_segs s) → ∀ (B : Nat) (acc : (Nat → Int32) × Int32), zw_ok B acc.1 → zw_ok (B + 7488 * l.length) (l.foldl (zm_exS s v) acc).1 := by
  intro l
  induction l with
  | nil => intro _ B acc hf; exact hf
  | cons x xs ih =>
    intro hm B acc hf
    rw [List.foldl_cons, List.length_cons]
    exact (ih (fun y hy => hm y (List.mem_cons_of_mem _ hy)) (B + 7488) _ (zw_step (c := acc.2) h hv (hm x (List.mem_cons_self ..)) hf)).mono (by omega)
theorem zw_chp {s : zS} (h : zg_cfg s) {v : zVeh} (hv : v ∈ s_vehs s) (h8 : (s_segs s).length ≤ 8) : ∀ (k B : Nat) (acc : (Nat → Int32) × Int32), zw_ok B acc.1 → zw_ok (B + 59904 * k) (zm_chp s v k acc) := by
  intro k
  induction k with
  | zero => intro B acc hf; exact hf
  | succ k ih =>
    intro B acc hf
    by_cases e : acc.2 = 0
    · rw [zm_chp_0 _ _ _ _ e]
      exact hf.mono (by omega)
    · rw [zm_chp_s _ _ _ _ e]
      exact (ih (B + 7488 * (s_segs s).length) _ (zw_ext h hv (s_segs s) (fun x hx => hx) B (acc.1, 0) hf)).mono (by omega)
theorem zp_cheap {s : zS} (h : zg_cfg s) {v : zVeh} (hv : v ∈ s_vehs s) (h8 : (s_segs s).length ≤ 8) {a b : Nat} (hb : b < 8) : ¬ zm_cheap s v a b < -1 := by
  have hw := zw_chp h hv h8 8 0 (upd (fun _ => -1) (nI a).toNatClampNeg 0, 1) (fun j hj => by
    simp only [upd]
    split
    · exact Or.inr ⟨0, Nat.le_refl _, nI_0.symm⟩
    · exact Or.inl rfl)
  unfold zm_cheap
  rcases hw (nI b).toNatClampNeg (by rw [nI_clamp (by omega)]; exact hb) with w | ⟨q, hq, eq⟩
  · rw [w]; decide
  · rw [eq]
    rw [Int32.lt_iff_toInt_lt, nI_toInt (by omega)]
    rw [show (-1 : Int32).toInt = -1 by decide]
    omega
