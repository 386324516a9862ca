/-! ArrayList: clearing, inserting; Arrays.fill -/
set_option maxRecDepth 20000 in
set_option maxHeartbeats 4000000 in
theorem f_clear_step {X : zX} {G : zG} {h : zH} {top : Nat} {Post : Option Value → zH → Nat → Prop} (a e n cap k i : Nat) (h0 : zH) (f : Nat → Option Nat) (hn : n ≤ cap) (hc : cap ≤ 225) (hi : i ≤ n) (hk : n - i < k + 1) (he : 0 < cap → z_at G h top e (z_refs G cap f)) (hf1 : ∀ j, n ≤ j → f j = none) (hf2 : ∀ j, j < i → f j = none) (hfr : ∀ q, q ≠ e → h q = h0 q) (ih : ∀ (i : Nat) (h : zH) (f : Nat → Option Nat), n - i < k → i ≤ n → (0 < cap → z_at G h top e (z_refs G cap f)) → (∀ j, n ≤ j → f j = none) → (∀ j, j < i → f j = none) → (∀ q, q ≠ e → h q = h0 q) → z_Z X h top 27 [(3, .int (nI i)), (2, .int (nI n)), (1, .ref e), (0, .ref a)] []) (hp : ∀ (h' : zH) (f' : Nat → Option Nat), (0 < cap → z_at G h' top e (z_refs G cap f')) → (∀ j, f' j = none) → (∀ q, q ≠ e → h' q = h0 q) → Post none h' top) (hX : z_ok X cJx4a65c_clear_da8c8 4 RJx4a65c none "clear" 1 G) (hq : z_mq X (Post)) : z_Z X h top 27 [(3, .int (nI i)), (2, .int (nI n)), (1, .ref e), (0, .ref a)] [] := by
  refine r_iload_n hX rfl 0 rfl dJx4a65c_clear_da8c8_27 ?_
  refine r_iload_n hX rfl 1 rfl dJx4a65c_clear_da8c8_28 ?_
  refine r_icmp_ge (tgt := 42) hX dJx4a65c_clear_da8c8_29 rfl (fun c29 => ?_) (fun c29 => ?_)
  · skip
    exact r_vret hX hq (hp h f (fun hc => he hc) (fun j => (Nat.lt_or_ge j n).elim (fun q => hf2 j (Nat.lt_of_lt_of_le q ((nI_leI (by omega) (by omega)).mp c29))) (hf1 j)) hfr) dJx4a65c_clear_da8c8_42
  · skip
    have hlt : i < n := by
      rcases Nat.lt_or_ge i n with q | q
      · exact q
      · exact absurd (nI_le q (by omega)) c29
    have he9 := he (by omega)
    have he := he9
    unfold z_refs at he
    refine r_aload_n hX rfl 2 rfl dJx4a65c_clear_da8c8_32 ?_
    refine r_iload_n hX rfl 0 rfl dJx4a65c_clear_da8c8_33 ?_
    refine r_null hX dJx4a65c_clear_da8c8_34 ?_
    refine r_aastN hX he (vp_in_nI (show i < cap by omega) (by omega)) dJx4a65c_clear_da8c8_35 ?_
    replace he : z_at G (va_up h e (.inl (z_aO G, cap, .inr (.inr (.inr (.inr (va_up f ((nI i) : Int32).toNatClampNeg none))))))) top e (.inl (z_aO G, cap, .inr (.inr (.inr (.inr (va_up f ((nI i) : Int32).toNatClampNeg none)))))) := z_at.self he
    refine r_iinc (q := 0) (lv' := [(3, .int ((nI i) + 1)), (2, .int (nI n)), (1, .ref e), (0, .ref a)]) hX rfl rfl (by decide) rfl dJx4a65c_clear_da8c8_36 ?_
    refine r_goto (tgt := 27) hX rfl dJx4a65c_clear_da8c8_39 ?_
    rw [nI_1, nI_clamp (show i < 2 ^ 31 by omega)]
    exact ih (i + 1) _ (va_up f i none) (by omega) (by omega) (fun _ => ⟨he9.1, he9.2.1, by simp [va_up, z_refs]⟩) (fun j hj => by by_cases q : j = i <;> simp [va_up, q, hf1 j hj]) (fun j hj => by by_cases q : j = i <;> simp [va_up, q]; exact hf2 j (by omega)) (fun q hq => by simp [va_up, hq, hfr q hq])

theorem f_clear_loop {X : zX} {G : zG} {top : Nat} {Post : Option Value → zH → Nat → Prop} (a e n cap : Nat) (h0 : zH) (hn : n ≤ cap) (hc : cap ≤ 225) (hX : z_ok X cJx4a65c_clear_da8c8 4 RJx4a65c none "clear" 1 G) (hq : z_mq X Post) (hp : ∀ (h' : zH) (f' : Nat → Option Nat), (0 < cap → z_at G h' top e (z_refs G cap f')) → (∀ j, f' j = none) → (∀ q, q ≠ e → h' q = h0 q) → Post none h' top) : ∀ (k i : Nat) (h : zH) (f : Nat → Option Nat), n - i < k → i ≤ n → (0 < cap → z_at G h top e (z_refs G cap f)) → (∀ j, n ≤ j → f j = none) → (∀ j, j < i → f j = none) → (∀ q, q ≠ e → h q = h0 q) → z_Z X h top 27 [(3, .int (nI i)), (2, .int (nI n)), (1, .ref e), (0, .ref a)] [] := by
  intro k
  induction k with
  | zero => intro i h f hk; omega
  | succ k ih => intro i h f hk hi he hf1 hf2 hfr; exact f_clear_step a e n cap k i h0 f hn hc hi hk he hf1 hf2 hfr ih hp hX hq
set_option maxRecDepth 20000 in
set_option maxHeartbeats 4000000 in
theorem c_Jx4a65c_clear_da8c8 (l : Launch) (G : zG) (h : zH) (top : Nat) (a e n cap : Nat) (m : Int32) (f : Nat → Option Nat) (hL : z_AL G h top a m e n cap f) (hte : a ≠ z_tE G) : z_Ct l yJx4a65c_clear_da8c8 cJx4a65c_clear_da8c8 4 none 1 G [.ref a] h top (fun r h' top' => r = none ∧ top' = top ∧ ∃ (m' : Int32) (f' : Nat → Option Nat), z_AL G h' top a m' e 0 cap f' ∧ ∀ q, q ≠ a → q ≠ e → h' q = h q) := by
  refine z_of (own := RJx4a65c) (nm := "clear") (by decide) rfl rfl (by decide) (Nat.le_of_ble_eq_true rfl) (fun X hX hq => ?_)
  replace hX : z_ok X cJx4a65c_clear_da8c8 4 RJx4a65c none "clear" 1 G := hX
  show z_Z X h top 0 [(0, .ref a)] []
  have ha0 := hL.1
  have ha := hL.1
  refine r_aload_n hX rfl 0 rfl dJx4a65c_clear_da8c8_0 ?_
  refine r_dup hX rfl dJx4a65c_clear_da8c8_1 ?_
  refine r_getf hX fl_Jx4a65c_63 ha rfl dJx4a65c_clear_da8c8_2 ?_
  refine r_iconst (v := 1) hX (by decide) dJx4a65c_clear_da8c8_5 ?_
  refine r_iadd hX dJx4a65c_clear_da8c8_6 ?_
  refine r_put (fs2 := [.int (m + 1), .ref e, .int (nI n)]) hX fp_Jx4a65c_63 ha rfl rfl (Nat.le_of_ble_eq_true rfl) rfl dJx4a65c_clear_da8c8_7 ?_
  replace ha : z_at G (va_up h a (.inr (0, [.int (m + 1), .ref e, .int (nI n)]))) top a (.inr (0, [.int (m + 1), .ref e, .int (nI n)])) := z_at.self ha
  refine r_aload_n hX rfl 0 rfl dJx4a65c_clear_da8c8_10 ?_
  refine r_getf hX fl_Jx4a65c_9 ha rfl dJx4a65c_clear_da8c8_11 ?_
  refine r_astore_n (lv' := [(1, .ref e), (0, .ref a)]) hX rfl (by decide) rfl dJx4a65c_clear_da8c8_14 ?_
  refine r_aload_n hX rfl 1 rfl dJx4a65c_clear_da8c8_15 ?_
  refine r_getf hX fl_Jx4a65c_48 ha rfl dJx4a65c_clear_da8c8_16 ?_
  refine r_istore_n (lv' := [(2, .int (nI n)), (1, .ref e), (0, .ref a)]) hX rfl (by decide) rfl dJx4a65c_clear_da8c8_19 ?_
  refine r_aload_n hX rfl 2 rfl dJx4a65c_clear_da8c8_20 ?_
  refine r_iconst (v := 0) hX (by decide) dJx4a65c_clear_da8c8_21 ?_
  refine r_dup_x1 hX rfl rfl dJx4a65c_clear_da8c8_22 ?_
  refine r_putU (fs2 := [.int (m + 1), .ref e, .int 0]) hX fp_Jx4a65c_48 ha rfl rfl (Nat.le_of_ble_eq_true rfl) rfl dJx4a65c_clear_da8c8_23 ?_
  replace ha : z_at G (va_up h a (.inr (0, [.int (m + 1), .ref e, .int 0]))) top a (.inr (0, [.int (m + 1), .ref e, .int 0])) := z_at.uu ha
  refine r_istore_n (lv' := [(3, .int 0), (2, .int (nI n)), (1, .ref e), (0, .ref a)]) hX rfl (by decide) rfl dJx4a65c_clear_da8c8_26 ?_
  have hL2 := hL.mod (m2 := m + 1)
  have ha2 : a ≠ e ∨ cap = 0 := by
    rcases Nat.eq_zero_or_pos cap with q | q
    · exact Or.inr q
    · exact Or.inl (hL.ne q)
  have key : z_Z X (va_up h a (.inr (0, [.int (m + 1), .ref e, .int 0]))) top 27 [(3, .int (nI 0)), (2, .int (nI n)), (1, .ref e), (0, .ref a)] [] := by
    refine f_clear_loop a e n cap (va_up h a (.inr (0, [.int (m + 1), .ref e, .int 0]))) hL.2.1 hL.2.2.1 hX hq (fun h' f' g1 g2 g3 => ?_) (n + 1) 0 _ f (by omega) (by omega) (fun hc0 => ?_) hL.2.2.2.1 (fun j hj => by omega) (fun q hq => rfl)
    · refine ⟨rfl, rfl, m + 1, f', ⟨⟨ha0.1, ha0.2.1, ?_⟩, Nat.zero_le _, hL.2.2.1, fun j _ => g2 j, ?_⟩, fun q q1 q2 => by rw [g3 q q2]; simp [va_up, q1]⟩
      · rcases ha2 with q | q
        · rw [g3 a q]; simp [va_up, nI_0]
        · rcases hL.2.2.2.2 with ⟨_, z⟩ | ⟨z, _⟩
          · rw [g3 a (by rw [z]; exact hte)]; simp [va_up, nI_0]
          · omega
      · rcases hL.2.2.2.2 with z | ⟨z, _⟩
        · exact Or.inl z
        · exact Or.inr ⟨z, g1 z⟩
    · rcases hL.2.2.2.2 with ⟨z, _⟩ | ⟨z, he⟩
      · omega
      · exact he.ne (Ne.symm (hL.ne hc0))
  rw [nI_0] at key
  refine r_lv [0, 1, 2, 3] rfl ?_
  exact key

set_option maxRecDepth 20000 in
set_option maxHeartbeats 4000000 in
theorem f_fill_step {X : zX} {G : zG} {h : zH} {top : Nat} {Post : Option Value → zH → Nat → Prop} (a n k i : Nat) (v : Int32) (h0 : zH) (f : Nat → Int32) (hn : n ≤ 1000) (hi : i ≤ n) (hk : n - i < k + 1) (ha0 : z_at G h top a (.inl (z_aI G, n, .inl f))) (hf : ∀ j, j < i → f j = v) (hfr : ∀ q, q ≠ a → h q = h0 q) (ih : ∀ (i : Nat) (h : zH) (f : Nat → Int32), n - i < k → i ≤ n → z_at G h top a (.inl (z_aI G, n, .inl f)) → (∀ j, j < i → f j = v) → (∀ q, q ≠ a → h q = h0 q) → z_Z X h top 5 [(2, .int (nI i)), (3, .int (nI n)), (0, .ref a), (1, .int v)] []) (hp : ∀ (h' : zH) (f' : Nat → Int32), z_at G h' top a (.inl (z_aI G, n, .inl f')) → (∀ j, j < n → f' j = v) → (∀ q, q ≠ a → h' q = h0 q) → Post none h' top) (hX : z_ok X cJ7_fill_53178 4 RJ7 none "fill" 1 G) (hq : z_mq X (Post)) : z_Z X h top 5 [(2, .int (nI i)), (3, .int (nI n)), (0, .ref a), (1, .int v)] [] := by
  have ha := ha0
  refine r_iload_n hX rfl 0 rfl dJ7_fill_53178_5 ?_
  refine r_iload_n hX rfl 1 rfl dJ7_fill_53178_6 ?_
  refine r_icmp_ge (tgt := 20) hX dJ7_fill_53178_7 rfl (fun c7 => ?_) (fun c7 => ?_)
  · skip
    exact r_vret hX hq (hp h f ha0 (fun j hj => hf j (Nat.lt_of_lt_of_le hj ((nI_leI (by omega) (by omega)).mp c7))) hfr) dJ7_fill_53178_20
  · skip
    have hlt : i < n := by
      rcases Nat.lt_or_ge i n with q | q
      · exact q
      · exact absurd (nI_le q (by omega)) c7
    refine r_aload_n hX rfl 2 rfl dJ7_fill_53178_10 ?_
    refine r_iload_n hX rfl 0 rfl dJ7_fill_53178_11 ?_
    refine r_iload_n hX rfl 3 rfl dJ7_fill_53178_12 ?_
    refine r_iast hX ha (vp_in_nI hlt (by omega)) dJ7_fill_53178_13 ?_
    replace ha : z_at G (va_up h a (.inl (z_aI G, n, .inl (upd f ((nI i) : Int32).toNatClampNeg v)))) top a (.inl (z_aI G, n, .inl (upd f ((nI i) : Int32).toNatClampNeg v))) := z_at.self ha
    refine r_iinc (q := 0) (lv' := [(2, .int ((nI i) + 1)), (3, .int (nI n)), (0, .ref a), (1, .int v)]) hX rfl rfl (by decide) rfl dJ7_fill_53178_14 ?_
    refine r_goto (tgt := 5) hX rfl dJ7_fill_53178_17 ?_
    rw [nI_1, nI_clamp (show i < 2 ^ 31 by omega)]
    exact ih (i + 1) _ (upd f i v) (by omega) (by omega) ⟨ha0.1, ha0.2.1, by simp [va_up]⟩ (fun j hj => by by_cases q : j = i <;> simp [upd, q]; exact hf j (by omega)) (fun q hq => by simp [va_up, hq, hfr q hq])

theorem f_fill_loop {X : zX} {G : zG} {top : Nat} {Post : Option Value → zH → Nat → Prop} (a n : Nat) (v : Int32) (h0 : zH) (hn : n ≤ 1000) (hX : z_ok X cJ7_fill_53178 4 RJ7 none "fill" 1 G) (hq : z_mq X Post) (hp : ∀ (h' : zH) (f' : Nat → Int32), z_at G h' top a (.inl (z_aI G, n, .inl f')) → (∀ j, j < n → f' j = v) → (∀ q, q ≠ a → h' q = h0 q) → Post none h' top) : ∀ (k i : Nat) (h : zH) (f : Nat → Int32), n - i < k → i ≤ n → z_at G h top a (.inl (z_aI G, n, .inl f)) → (∀ j, j < i → f j = v) → (∀ q, q ≠ a → h q = h0 q) → z_Z X h top 5 [(2, .int (nI i)), (3, .int (nI n)), (0, .ref a), (1, .int v)] [] := by
  intro k
  induction k with
  | zero => intro i h f hk; omega
  | succ k ih => intro i h f hk hi ha hf hfr; exact f_fill_step a n k i v h0 f hn hi hk ha hf hfr ih hp hX hq
set_option maxRecDepth 20000 in
set_option maxHeartbeats 4000000 in
theorem c_J7_fill_53178 (l : Launch) (G : zG) (h : zH) (top : Nat) (a n : Nat) (v : Int32) (f : Nat → Int32) (hn : n ≤ 1000) (ha : z_at G h top a (.inl (z_aI G, n, .inl f))) : z_Ct l yJ7_fill_53178 cJ7_fill_53178 4 none 1 G [.ref a, .int v] h top (fun r h' top' => r = none ∧ top' = top ∧ ∃ f' : Nat → Int32, z_at G h' top a (.inl (z_aI G, n, .inl f')) ∧ (∀ j, j < n → f' j = v) ∧ ∀ q, q ≠ a → h' q = h q) := by
  refine z_of (own := RJ7) (nm := "fill") (by decide) rfl rfl (by decide) (Nat.le_of_ble_eq_true rfl) (fun X hX hq => ?_)
  replace hX : z_ok X cJ7_fill_53178 4 RJ7 none "fill" 1 G := hX
  show z_Z X h top 0 [(0, .ref a), (1, .int v)] []
  refine r_iconst (v := 0) hX (by decide) dJ7_fill_53178_0 ?_
  refine r_istore_n (lv' := [(2, .int 0), (0, .ref a), (1, .int v)]) hX rfl (by decide) rfl dJ7_fill_53178_1 ?_
  refine r_aload_n hX rfl 1 rfl dJ7_fill_53178_2 ?_
  refine r_alenI (v := (nI n)) hX ha rfl dJ7_fill_53178_3 ?_
  refine r_istore_n (lv' := [(3, .int (nI n)), (2, .int 0), (0, .ref a), (1, .int v)]) hX rfl (by decide) rfl dJ7_fill_53178_4 ?_
  refine r_lv [1, 0, 2, 3] (lv2 := [(2, .int (nI 0)), (3, .int (nI n)), (0, .ref a), (1, .int v)]) (by rw [nI_0]; rfl) ?_
  exact f_fill_loop a n v h hn hX hq (fun h' f' g1 g2 g3 => ⟨rfl, rfl, f', g1, g2, g3⟩) (n + 1) 0 h f (by omega) (by omega) ha (fun j hj => by omega) (fun q _ => rfl)

set_option maxRecDepth 20000 in
set_option maxHeartbeats 4000000 in
theorem c_Jx4a65c_rangeCheckForAdd_d00df (l : Launch) (G : zG) (h : zH) (top : Nat) (a e i n : Nat) (m : Int32) (hi : i ≤ n) (hn : n ≤ 1000) (ha : z_at G h top a (.inr (0, [.int m, .ref e, .int (nI n)]))) : z_Ct l yJx4a65c_rangeCheckForAdd_d00df cJx4a65c_rangeCheckForAdd_d00df 2 none 1 G [.ref a, .int (nI i)] h top (z_R none h top) := by
  refine z_of (own := RJx4a65c) (nm := "rangeCheckForAdd") (by decide) rfl rfl (by decide) (Nat.le_of_ble_eq_true rfl) (fun X hX hq => ?_)
  replace hX : z_ok X cJx4a65c_rangeCheckForAdd_d00df 2 RJx4a65c none "rangeCheckForAdd" 1 G := hX
  show z_Z X h top 0 [(0, .ref a), (1, .int (nI i))] []
  refine r_iload_n hX rfl 1 rfl dJx4a65c_rangeCheckForAdd_d00df_0 ?_
  refine r_aload_n hX rfl 0 rfl dJx4a65c_rangeCheckForAdd_d00df_1 ?_
  refine r_getf hX fl_Jx4a65c_48 ha rfl dJx4a65c_rangeCheckForAdd_d00df_2 ?_
  refine r_icmp_gt (tgt := 12) hX dJx4a65c_rangeCheckForAdd_d00df_5 rfl (fun c => False.elim (absurd c (nI_nlt hi (by omega)))) (fun _ => ?_)
  refine r_iload_n hX rfl 1 rfl dJx4a65c_rangeCheckForAdd_d00df_8 ?_
  refine r_if_ge (tgt := 25) hX dJx4a65c_rangeCheckForAdd_d00df_9 rfl (fun _ => ?_) (fun c => False.elim (absurd (nI_pos' (show i < 2 ^ 31 by omega)) c))
  exact r_vret hX hq ⟨rfl, rfl, rfl⟩ dJx4a65c_rangeCheckForAdd_d00df_25

theorem z_cpyI {f : Nat → Option Nat} {n i x : Nat} (hi : i ≤ n) (hf : ∀ j, n ≤ j → f j = none) : (∀ j, j < i → (va_up (va_cpy f f i (i + 1) (n - i)) i (some x)) j = f j) ∧ (va_up (va_cpy f f i (i + 1) (n - i)) i (some x)) i = some x ∧ (∀ j, i ≤ j → j < n → (va_up (va_cpy f f i (i + 1) (n - i)) i (some x)) (j + 1) = f j) ∧ (∀ j, n + 1 ≤ j → (va_up (va_cpy f f i (i + 1) (n - i)) i (some x)) j = none) := by
  refine ⟨fun j hj => ?_, by simp [va_up], fun j h1 h2 => ?_, fun j hj => ?_⟩
  · simp only [va_up, if_neg (show ¬ j = i by omega)]
    exact pk_cpy_out (by omega)
  · simp only [va_up, if_neg (show ¬ j + 1 = i by omega)]
    rw [pk_cpy_in (by omega) (by omega)]
    congr 1
    omega
  · simp only [va_up, if_neg (show ¬ j = i by omega)]
    rw [pk_cpy_out (by omega)]
    exact hf j (by omega)
theorem z_pins_no {G : zG} {h : zH} {top a : Nat} {m m2 : Int32} {e n cap x i : Nat} {f : Nat → Option Nat} {rv : Option Value} (hL : z_AL G h top a m e n cap f) (hlt : n < cap) (hi : i ≤ n) : z_PAdd G h top a e n cap f i x rv rv (va_up (va_up (va_up h a (.inr (0, [.int m2, .ref e, .int (nI n)]))) e (z_refs G cap (va_up (va_cpy f f i (i + 1) (n - i)) i (some x)))) a (.inr (0, [.int m2, .ref e, .int (nI (n + 1))]))) top := by
  have hne := hL.ne (by omega)
  obtain ⟨h1, h2, h3, h4, h5⟩ := hL
  rcases h5 with h5 | ⟨h5, he⟩
  · omega
  obtain ⟨k1, k2, k3, k4⟩ := z_cpyI (x := x) hi h4
  refine ⟨rfl, m2, e, cap, _, ⟨⟨h1.1, h1.2.1, by simp [va_up]⟩, by omega, h3, k4, Or.inr ⟨h5, he.1, he.2.1, ?_⟩⟩, k1, k2, k3, fun q g1 g2 g3 => by simp [va_up, g2, g3], Or.inl ⟨hlt, rfl, rfl, rfl⟩⟩
  simp [va_up, Ne.symm hne]
theorem z_pins_gr {G : zG} {h : zH} {top a : Nat} {m m2 : Int32} {e n x i : Nat} {f g : Nat → Option Nat} {rv : Option Value} (hL : z_AL G h top a m e n n f) (hbt : z_b G ≤ top) (hn : n ≤ 150) (hi : i ≤ n) (hg1 : ∀ i, i < n → g i = f i) (hg2 : ∀ i, n ≤ i → g i = none) : z_PAdd G h top a e n n f i x rv rv (va_up (va_up (va_up (va_up (va_up h a (.inr (0, [.int m2, .ref e, .int (nI n)]))) top (z_refs G (z_gr n) g)) a (.inr (0, [.int m2, .ref top, .int (nI n)]))) top (z_refs G (z_gr n) (va_up (va_cpy g g i (i + 1) (n - i)) i (some x)))) a (.inr (0, [.int m2, .ref top, .int (nI (n + 1))]))) (top + 1) := by
  have hlt := z_gr_lt hn
  obtain ⟨h1, h2, h3, h4, h5⟩ := hL
  have hat : a ≠ top := by have := h1.2.1; omega
  obtain ⟨k1, k2, k3, k4⟩ := z_cpyI (x := x) hi hg2
  refine ⟨rfl, m2, top, z_gr n, _, ⟨⟨h1.1, by have := h1.2.1; omega, by simp [va_up]⟩, by omega, by omega, k4, Or.inr ⟨by omega, hbt, by omega, ?_⟩⟩, fun j hj => (k1 j hj).trans (hg1 j (by omega)), k2, fun j q1 q2 => (k3 j q1 q2).trans (hg1 j q2), fun q g1 g2 g3 => by simp [va_up, g2, show q ≠ top by omega], Or.inr ⟨rfl, rfl, rfl, rfl⟩⟩
  simp [va_up, Ne.symm hat]

set_option maxRecDepth 20000 in
set_option maxHeartbeats 4000000 in
theorem f_ins_tail {X : zX} {G : zG} {h : zH} {top : Nat} {Post : Option Value → zH → Nat → Prop} (a x e n cap i : Nat) (m : Int32) (f : Nat → Option Nat) (ha0 : z_at G h top a (.inr (0, [.int m, .ref e, .int (nI n)]))) (he0 : z_at G h top e (z_refs G cap f)) (hi : i ≤ n) (hlt : n < cap) (hc : cap ≤ 225) (hob : z_ob G h top x) (hel : ∀ i, i < n → ∀ y, f i = some y → z_ob G h top y) (hp : Post none (va_up (va_up h e (z_refs G cap (va_up (va_cpy f f i (i + 1) (n - i)) i (some x)))) a (.inr (0, [.int m, .ref e, .int (nI (n + 1))]))) top) (hX : z_ok X cJx4a65c_add_7a177 5 RJx4a65c none "add" 6 G) (hq : z_mq X (Post)) : z_Z X h top 38 [(0, .ref a), (1, .int (nI i)), (2, .ref x), (3, .int (nI n)), (4, .ref e)] [] := by
  have ha := ha0
  have he := he0
  unfold z_refs at he
  have he9 := he
  refine r_aload hX 4 rfl dJx4a65c_add_7a177_38 ?_
  refine r_iload_n hX rfl 1 rfl dJx4a65c_add_7a177_40 ?_
  refine r_aload hX 4 rfl dJx4a65c_add_7a177_41 ?_
  refine r_iload_n hX rfl 1 rfl dJx4a65c_add_7a177_43 ?_
  refine r_iconst (v := 1) hX (by decide) dJx4a65c_add_7a177_44 ?_
  refine r_iadd hX dJx4a65c_add_7a177_45 ?_
  refine r_iload_n hX rfl 3 rfl dJx4a65c_add_7a177_46 ?_
  refine r_iload_n hX rfl 1 rfl dJx4a65c_add_7a177_47 ?_
  refine r_isub hX dJx4a65c_add_7a177_48 ?_
  rw [nI_1, pk_sub hi]
  refine r_copy (sp := (nI i)) (dp := (nI (i + 1))) (n := (nI (n - i))) hX he he (z_nlt0 (by omega)) (z_nlt0 (by omega)) (z_nlt0 (by omega)) (by rw [nI_clamp (by omega), nI_clamp (by omega)]; omega) (by rw [nI_clamp (by omega), nI_clamp (by omega)]; omega) (fun j hj y hy => hel (i + j) (by rw [nI_clamp (by omega)] at hj; omega) y (by rw [nI_clamp (by omega)] at hy; exact hy)) kw_ac_Jx4a65c_112 kw_ac2 kw_ac3 kw_ac4 (by decide +kernel) dJx4a65c_add_7a177_49 ?_
  replace ha := ha.up (e3 := (.inl (z_aO G, cap, .inr (.inr (.inr (.inr (va_cpy f f ((nI i) : Int32).toNatClampNeg ((nI (i + 1)) : Int32).toNatClampNeg ((nI (n - i)) : Int32).toNatClampNeg))))))) he (by intro z; cases z)
  replace he : z_at G (va_up h e (.inl (z_aO G, cap, .inr (.inr (.inr (.inr (va_cpy f f ((nI i) : Int32).toNatClampNeg ((nI (i + 1)) : Int32).toNatClampNeg ((nI (n - i)) : Int32).toNatClampNeg))))))) top e (.inl (z_aO G, cap, .inr (.inr (.inr (.inr (va_cpy f f ((nI i) : Int32).toNatClampNeg ((nI (i + 1)) : Int32).toNatClampNeg ((nI (n - i)) : Int32).toNatClampNeg)))))) := z_at.self he
  rw [nI_clamp (show i < 2 ^ 31 by omega), nI_clamp (show i + 1 < 2 ^ 31 by omega), nI_clamp (show n - i < 2 ^ 31 by omega)] at he ha ⊢
  refine r_aload hX 4 rfl dJx4a65c_add_7a177_52 ?_
  refine r_iload_n hX rfl 1 rfl dJx4a65c_add_7a177_54 ?_
  refine r_aload_n hX rfl 2 rfl dJx4a65c_add_7a177_55 ?_
  refine r_aast hX he (hob.up (hob.neO he9)) (vp_in_nI (show i < cap by omega) (by omega)) dJx4a65c_add_7a177_56 ?_
  replace ha := ha.up (e3 := (.inl (z_aO G, cap, .inr (.inr (.inr (.inr (va_up (va_cpy f f i (i + 1) (n - i)) ((nI i) : Int32).toNatClampNeg (some x)))))))) he (by intro z; cases z)
  replace he : z_at G (va_up (va_up h e (.inl (z_aO G, cap, .inr (.inr (.inr (.inr (va_cpy f f i (i + 1) (n - i)))))))) e (.inl (z_aO G, cap, .inr (.inr (.inr (.inr (va_up (va_cpy f f i (i + 1) (n - i)) ((nI i) : Int32).toNatClampNeg (some x)))))))) top e (.inl (z_aO G, cap, .inr (.inr (.inr (.inr (va_up (va_cpy f f i (i + 1) (n - i)) ((nI i) : Int32).toNatClampNeg (some x))))))) := z_at.self he
  rw [nI_clamp (show i < 2 ^ 31 by omega)] at he ha ⊢
  rw [bx_uu] at he ha ⊢
  refine r_aload_n hX rfl 0 rfl dJx4a65c_add_7a177_57 ?_
  refine r_iload_n hX rfl 3 rfl dJx4a65c_add_7a177_58 ?_
  refine r_iconst (v := 1) hX (by decide) dJx4a65c_add_7a177_59 ?_
  refine r_iadd hX dJx4a65c_add_7a177_60 ?_
  rw [nI_1]
  refine r_put (fs2 := [.int m, .ref e, .int (nI (n + 1))]) hX fp_Jx4a65c_48 ha rfl rfl (Nat.le_of_ble_eq_true rfl) rfl dJx4a65c_add_7a177_61 ?_
  replace he := he.up (e3 := (.inr (0, [.int m, .ref e, .int (nI (n + 1))]))) ha (by intro z; cases z)
  replace ha : z_at G (va_up (va_up h e (.inl (z_aO G, cap, .inr (.inr (.inr (.inr (va_up (va_cpy f f i (i + 1) (n - i)) i (some x)))))))) a (.inr (0, [.int m, .ref e, .int (nI (n + 1))]))) top a (.inr (0, [.int m, .ref e, .int (nI (n + 1))])) := z_at.self ha
  exact r_vret hX hq hp dJx4a65c_add_7a177_64

set_option maxRecDepth 20000 in
set_option maxHeartbeats 4000000 in
theorem c_ins_no (l : Launch) (G : zG) (h : zH) (top : Nat) (a x e n cap i : Nat) (m : Int32) (f : Nat → Option Nat) (Post : Option Value → zH → Nat → Prop) (hbt : z_b G ≤ top) (hi : i ≤ n) (hL : z_AL G h top a m e n cap f) (he0 : z_at G h top e (z_refs G cap f)) (hel : ∀ i, i < n → ∀ y, f i = some y → z_ob G h top y) (hn : n ≤ 150) (hob : z_ob G h top x) (hlt : n < cap) (hp : Post none (va_up (va_up (va_up h a (.inr (0, [.int (m + 1), .ref e, .int (nI n)]))) e (z_refs G cap (va_up (va_cpy f f i (i + 1) (n - i)) i (some x)))) a (.inr (0, [.int (m + 1), .ref e, .int (nI (n + 1))]))) top) : z_Ct l yJx4a65c_add_7a177 cJx4a65c_add_7a177 5 none 6 G [.ref a, .int (nI i), .ref x] h top (Post) := by
  refine z_of (own := RJx4a65c) (nm := "add") (by decide) rfl rfl (by decide) (Nat.le_of_ble_eq_true rfl) (fun X hX hq => ?_)
  replace hX : z_ok X cJx4a65c_add_7a177 5 RJx4a65c none "add" 6 G := hX
  show z_Z X h top 0 [(0, .ref a), (1, .int (nI i)), (2, .ref x)] []
  have ha := hL.1
  have hc225 := hL.2.2.1
  have he := he0
  unfold z_refs at he
  have he0b : z_at G (va_up h a (.inr (0, [.int (m + 1), .ref e, .int (nI n)]))) top e (z_refs G cap f) := he0.up hL.1 (by intro z; cases z)
  refine r_aload_n hX rfl 0 rfl dJx4a65c_add_7a177_0 ?_
  refine r_iload_n hX rfl 1 rfl dJx4a65c_add_7a177_1 ?_
  refine r_callVR (As := [.int (nI i)]) (rest := []) (rv := none) (st1 := []) hX cs_Jx4a65c_135 (by decide) (fun l => c_Jx4a65c_rangeCheckForAdd_d00df l G h top a e i n m hi (by omega) hL.1) ha rfl rfl rfl rfl (Nat.le_of_ble_eq_true rfl) dJx4a65c_add_7a177_2 ?_
  refine r_aload_n hX rfl 0 rfl dJx4a65c_add_7a177_5 ?_
  refine r_dup hX rfl dJx4a65c_add_7a177_6 ?_
  refine r_getf hX fl_Jx4a65c_63 ha rfl dJx4a65c_add_7a177_7 ?_
  refine r_iconst (v := 1) hX (by decide) dJx4a65c_add_7a177_10 ?_
  refine r_iadd hX dJx4a65c_add_7a177_11 ?_
  refine r_put (fs2 := [.int (m + 1), .ref e, .int (nI n)]) hX fp_Jx4a65c_63 ha rfl rfl (Nat.le_of_ble_eq_true rfl) rfl dJx4a65c_add_7a177_12 ?_
  replace he := he.up (e3 := (.inr (0, [.int (m + 1), .ref e, .int (nI n)]))) ha (by intro z; cases z)
  replace ha : z_at G (va_up h a (.inr (0, [.int (m + 1), .ref e, .int (nI n)]))) top a (.inr (0, [.int (m + 1), .ref e, .int (nI n)])) := z_at.self ha
  refine r_aload_n hX rfl 0 rfl dJx4a65c_add_7a177_15 ?_
  refine r_getf hX fl_Jx4a65c_48 ha rfl dJx4a65c_add_7a177_16 ?_
  refine r_dup hX rfl dJx4a65c_add_7a177_19 ?_
  refine r_istore_n (lv' := [(3, .int (nI n)), (0, .ref a), (1, .int (nI i)), (2, .ref x)]) hX rfl (by decide) rfl dJx4a65c_add_7a177_20 ?_
  refine r_aload_n hX rfl 1 rfl dJx4a65c_add_7a177_21 ?_
  refine r_getf hX fl_Jx4a65c_9 ha rfl dJx4a65c_add_7a177_22 ?_
  refine r_dup hX rfl dJx4a65c_add_7a177_25 ?_
  refine r_astore (lv' := [(4, .ref e), (3, .int (nI n)), (0, .ref a), (1, .int (nI i)), (2, .ref x)]) hX (by decide) rfl dJx4a65c_add_7a177_26 ?_
  refine r_alenO (v := (nI cap)) hX he rfl dJx4a65c_add_7a177_28 ?_
  refine r_icmp_ne (tgt := 38) hX dJx4a65c_add_7a177_29 rfl (fun _ => ?_) (fun c => False.elim (absurd ((nI_eq (by omega) (by omega)).mp c) (by omega)))
  refine r_lv [2, 3, 4, 1, 0] (lv2 := [(0, .ref a), (1, .int (nI i)), (2, .ref x), (3, .int (nI n)), (4, .ref e)]) rfl ?_
  exact f_ins_tail a x e n cap i (m + 1) f ha he0b hi hlt hL.2.2.1 (hob.up (hob.ne hL.1)) (fun i h1 y h2 => (hel i h1 y h2).up ((hel i h1 y h2).ne hL.1)) hp hX hq

set_option maxRecDepth 20000 in
set_option maxHeartbeats 4000000 in
theorem c_ins_gr (l : Launch) (G : zG) (h : zH) (top : Nat) (a x e n i : Nat) (m : Int32) (f : Nat → Option Nat) (Post : Option Value → zH → Nat → Prop) (hbt : z_b G ≤ top) (hi : i ≤ n) (hL : z_AL G h top a m e n n f) (he0 : z_at G h top e (z_refs G n f)) (hel : ∀ i, i < n → ∀ y, f i = some y → z_ob G h top y) (hn : n ≤ 150) (hob : z_ob G h top x) (hroom : top + 1 ≤ z_b G + 320) (hp : ∀ g : Nat → Option Nat, (∀ i, i < n → g i = f i) → (∀ i, n ≤ i → g i = none) → Post none (va_up (va_up (va_up (va_up (va_up h a (.inr (0, [.int (m + 1), .ref e, .int (nI n)]))) top (z_refs G (z_gr n) g)) a (.inr (0, [.int (m + 1), .ref top, .int (nI n)]))) top (z_refs G (z_gr n) (va_up (va_cpy g g i (i + 1) (n - i)) i (some x)))) a (.inr (0, [.int (m + 1), .ref top, .int (nI (n + 1))]))) (top + 1)) : z_Ct l yJx4a65c_add_7a177 cJx4a65c_add_7a177 5 none 6 G [.ref a, .int (nI i), .ref x] h top (Post) := by
  refine z_of (own := RJx4a65c) (nm := "add") (by decide) rfl rfl (by decide) (Nat.le_of_ble_eq_true rfl) (fun X hX hq => ?_)
  replace hX : z_ok X cJx4a65c_add_7a177 5 RJx4a65c none "add" 6 G := hX
  show z_Z X h top 0 [(0, .ref a), (1, .int (nI i)), (2, .ref x)] []
  have ha := hL.1
  have hc225 := hL.2.2.1
  have he := he0
  unfold z_refs at he
  have he0b : z_at G (va_up h a (.inr (0, [.int (m + 1), .ref e, .int (nI n)]))) top e (z_refs G n f) := he0.up hL.1 (by intro z; cases z)
  refine r_aload_n hX rfl 0 rfl dJx4a65c_add_7a177_0 ?_
  refine r_iload_n hX rfl 1 rfl dJx4a65c_add_7a177_1 ?_
  refine r_callVR (As := [.int (nI i)]) (rest := []) (rv := none) (st1 := []) hX cs_Jx4a65c_135 (by decide) (fun l => c_Jx4a65c_rangeCheckForAdd_d00df l G h top a e i n m hi (by omega) hL.1) ha rfl rfl rfl rfl (Nat.le_of_ble_eq_true rfl) dJx4a65c_add_7a177_2 ?_
  refine r_aload_n hX rfl 0 rfl dJx4a65c_add_7a177_5 ?_
  refine r_dup hX rfl dJx4a65c_add_7a177_6 ?_
  refine r_getf hX fl_Jx4a65c_63 ha rfl dJx4a65c_add_7a177_7 ?_
  refine r_iconst (v := 1) hX (by decide) dJx4a65c_add_7a177_10 ?_
  refine r_iadd hX dJx4a65c_add_7a177_11 ?_
  refine r_put (fs2 := [.int (m + 1), .ref e, .int (nI n)]) hX fp_Jx4a65c_63 ha rfl rfl (Nat.le_of_ble_eq_true rfl) rfl dJx4a65c_add_7a177_12 ?_
  replace he := he.up (e3 := (.inr (0, [.int (m + 1), .ref e, .int (nI n)]))) ha (by intro z; cases z)
  replace ha : z_at G (va_up h a (.inr (0, [.int (m + 1), .ref e, .int (nI n)]))) top a (.inr (0, [.int (m + 1), .ref e, .int (nI n)])) := z_at.self ha
  refine r_aload_n hX rfl 0 rfl dJx4a65c_add_7a177_15 ?_
  refine r_getf hX fl_Jx4a65c_48 ha rfl dJx4a65c_add_7a177_16 ?_
  refine r_dup hX rfl dJx4a65c_add_7a177_19 ?_
  refine r_istore_n (lv' := [(3, .int (nI n)), (0, .ref a), (1, .int (nI i)), (2, .ref x)]) hX rfl (by decide) rfl dJx4a65c_add_7a177_20 ?_
  refine r_aload_n hX rfl 1 rfl dJx4a65c_add_7a177_21 ?_
  refine r_getf hX fl_Jx4a65c_9 ha rfl dJx4a65c_add_7a177_22 ?_
  refine r_dup hX rfl dJx4a65c_add_7a177_25 ?_
  refine r_astore (lv' := [(4, .ref e), (3, .int (nI n)), (0, .ref a), (1, .int (nI i)), (2, .ref x)]) hX (by decide) rfl dJx4a65c_add_7a177_26 ?_
  refine r_alenO (v := (nI n)) hX he rfl dJx4a65c_add_7a177_28 ?_
  refine r_icmp_ne (tgt := 38) hX dJx4a65c_add_7a177_29 rfl (fun c => False.elim (c rfl)) (fun _ => ?_)
  refine r_aload_n hX rfl 2 rfl dJx4a65c_add_7a177_32 ?_
  refine r_callV (As := []) (rest := []) hX cs_Jx4a65c_129 (by decide) (fun l => c_Jx4a65c_grow_d5877 l G (va_up h a (.inr (0, [.int (m + 1), .ref e, .int (nI n)]))) top a e n (m + 1) f hbt hL.mod (fun i h1 y h2 => (hel i h1 y h2).up ((hel i h1 y h2).ne hL.1)) hn hroom) ha rfl rfl rfl (Nat.le_of_ble_eq_true rfl) dJx4a65c_add_7a177_33 (fun r1 h1 top1 hp1 => ?_)
  obtain ⟨rfl, rfl, g, hg1, hg2, rfl⟩ := hp1
  have hlt := z_gr_lt hn
  have hat : a ≠ top := by have := ha.2.1; omega
  have hnew : z_at G (va_up (va_up h a (.inr (0, [.int (m + 1), .ref e, .int (nI n)]))) top (z_refs G (z_gr n) g)) (top + 1) top (z_refs G (z_gr n) g) := z_at.fresh hbt
  have hnew2 := hnew.ne (a2 := a) (e2 := .inr (0, [.int (m + 1), .ref top, .int (nI n)])) (Ne.symm hat)
  have ha2 : z_at G (va_up (va_up (va_up h a (.inr (0, [.int (m + 1), .ref e, .int (nI n)]))) top (z_refs G (z_gr n) g)) a (.inr (0, [.int (m + 1), .ref top, .int (nI n)]))) (top + 1) a (.inr (0, [.int (m + 1), .ref top, .int (nI n)])) := z_at.self (ha.new (e2 := z_refs G (z_gr n) g))
  have hst : ∀ y, z_ob G h top y → z_ob G (va_up (va_up (va_up h a (.inr (0, [.int (m + 1), .ref e, .int (nI n)]))) top (z_refs G (z_gr n) g)) a (.inr (0, [.int (m + 1), .ref top, .int (nI n)]))) (top + 1) y := fun y hy => (z_ob.new (hy.up (hy.ne hL.1))).up (hy.ne hL.1)
  refine r_astore (lv' := [(4, .ref top), (3, .int (nI n)), (0, .ref a), (1, .int (nI i)), (2, .ref x)]) hX (by decide) rfl dJx4a65c_add_7a177_36 ?_
  refine r_lv [2, 3, 4, 1, 0] (lv2 := [(0, .ref a), (1, .int (nI i)), (2, .ref x), (3, .int (nI n)), (4, .ref top)]) rfl ?_
  exact f_ins_tail a x top n (z_gr n) i (m + 1) g ha2 hnew2 hi hlt.1 hlt.2 (hst x hob) (fun i h1 y h2 => hst y (hel i h1 y (by rw [← hg1 i h1]; exact h2))) (hp g hg1 hg2) hX hq

set_option maxRecDepth 20000 in
set_option maxHeartbeats 4000000 in
theorem c_ins_gr0 (l : Launch) (G : zG) (h : zH) (top : Nat) (a x n i : Nat) (m : Int32) (f : Nat → Option Nat) (Post : Option Value → zH → Nat → Prop) (hbt : z_b G ≤ top) (hi : i ≤ n) (hL : z_AL G h top a m (z_tE G) n n f) (h0 : n = 0) (hel : ∀ i, i < n → ∀ y, f i = some y → z_ob G h top y) (hn : n ≤ 150) (hob : z_ob G h top x) (hroom : top + 1 ≤ z_b G + 320) (hp : ∀ g : Nat → Option Nat, (∀ i, i < n → g i = f i) → (∀ i, n ≤ i → g i = none) → Post none (va_up (va_up (va_up (va_up (va_up h a (.inr (0, [.int (m + 1), .ref (z_tE G), .int (nI n)]))) top (z_refs G (z_gr n) g)) a (.inr (0, [.int (m + 1), .ref top, .int (nI n)]))) top (z_refs G (z_gr n) (va_up (va_cpy g g i (i + 1) (n - i)) i (some x)))) a (.inr (0, [.int (m + 1), .ref top, .int (nI (n + 1))]))) (top + 1)) : z_Ct l yJx4a65c_add_7a177 cJx4a65c_add_7a177 5 none 6 G [.ref a, .int (nI i), .ref x] h top (Post) := by
  refine z_of (own := RJx4a65c) (nm := "add") (by decide) rfl rfl (by decide) (Nat.le_of_ble_eq_true rfl) (fun X hX hq => ?_)
  replace hX : z_ok X cJx4a65c_add_7a177 5 RJx4a65c none "add" 6 G := hX
  show z_Z X h top 0 [(0, .ref a), (1, .int (nI i)), (2, .ref x)] []
  have ha := hL.1
  have hc225 := hL.2.2.1
  refine r_aload_n hX rfl 0 rfl dJx4a65c_add_7a177_0 ?_
  refine r_iload_n hX rfl 1 rfl dJx4a65c_add_7a177_1 ?_
  refine r_callVR (As := [.int (nI i)]) (rest := []) (rv := none) (st1 := []) hX cs_Jx4a65c_135 (by decide) (fun l => c_Jx4a65c_rangeCheckForAdd_d00df l G h top a (z_tE G) i n m hi (by omega) hL.1) ha rfl rfl rfl rfl (Nat.le_of_ble_eq_true rfl) dJx4a65c_add_7a177_2 ?_
  refine r_aload_n hX rfl 0 rfl dJx4a65c_add_7a177_5 ?_
  refine r_dup hX rfl dJx4a65c_add_7a177_6 ?_
  refine r_getf hX fl_Jx4a65c_63 ha rfl dJx4a65c_add_7a177_7 ?_
  refine r_iconst (v := 1) hX (by decide) dJx4a65c_add_7a177_10 ?_
  refine r_iadd hX dJx4a65c_add_7a177_11 ?_
  refine r_put (fs2 := [.int (m + 1), .ref (z_tE G), .int (nI n)]) hX fp_Jx4a65c_63 ha rfl rfl (Nat.le_of_ble_eq_true rfl) rfl dJx4a65c_add_7a177_12 ?_
  replace ha : z_at G (va_up h a (.inr (0, [.int (m + 1), .ref (z_tE G), .int (nI n)]))) top a (.inr (0, [.int (m + 1), .ref (z_tE G), .int (nI n)])) := z_at.self ha
  refine r_aload_n hX rfl 0 rfl dJx4a65c_add_7a177_15 ?_
  refine r_getf hX fl_Jx4a65c_48 ha rfl dJx4a65c_add_7a177_16 ?_
  refine r_dup hX rfl dJx4a65c_add_7a177_19 ?_
  refine r_istore_n (lv' := [(3, .int (nI n)), (0, .ref a), (1, .int (nI i)), (2, .ref x)]) hX rfl (by decide) rfl dJx4a65c_add_7a177_20 ?_
  refine r_aload_n hX rfl 1 rfl dJx4a65c_add_7a177_21 ?_
  refine r_getf hX fl_Jx4a65c_9 ha rfl dJx4a65c_add_7a177_22 ?_
  refine r_dup hX rfl dJx4a65c_add_7a177_25 ?_
  refine r_astore (lv' := [(4, .ref (z_tE G)), (3, .int (nI n)), (0, .ref a), (1, .int (nI i)), (2, .ref x)]) hX (by decide) rfl dJx4a65c_add_7a177_26 ?_
  refine r_alenE hX dJx4a65c_add_7a177_28 ?_
  refine r_icmp_ne (tgt := 38) hX dJx4a65c_add_7a177_29 rfl (fun c => False.elim (c (by rw [h0]; exact nI_0))) (fun _ => ?_)
  refine r_aload_n hX rfl 2 rfl dJx4a65c_add_7a177_32 ?_
  refine r_callV (As := []) (rest := []) hX cs_Jx4a65c_129 (by decide) (fun l => c_Jx4a65c_grow_d5877 l G (va_up h a (.inr (0, [.int (m + 1), .ref (z_tE G), .int (nI n)]))) top a (z_tE G) n (m + 1) f hbt hL.mod (fun i h1 y h2 => (hel i h1 y h2).up ((hel i h1 y h2).ne hL.1)) hn hroom) ha rfl rfl rfl (Nat.le_of_ble_eq_true rfl) dJx4a65c_add_7a177_33 (fun r1 h1 top1 hp1 => ?_)
  obtain ⟨rfl, rfl, g, hg1, hg2, rfl⟩ := hp1
  have hlt := z_gr_lt hn
  have hat : a ≠ top := by have := ha.2.1; omega
  have hnew : z_at G (va_up (va_up h a (.inr (0, [.int (m + 1), .ref (z_tE G), .int (nI n)]))) top (z_refs G (z_gr n) g)) (top + 1) top (z_refs G (z_gr n) g) := z_at.fresh hbt
  have hnew2 := hnew.ne (a2 := a) (e2 := .inr (0, [.int (m + 1), .ref top, .int (nI n)])) (Ne.symm hat)
  have ha2 : z_at G (va_up (va_up (va_up h a (.inr (0, [.int (m + 1), .ref (z_tE G), .int (nI n)]))) top (z_refs G (z_gr n) g)) a (.inr (0, [.int (m + 1), .ref top, .int (nI n)]))) (top + 1) a (.inr (0, [.int (m + 1), .ref top, .int (nI n)])) := z_at.self (ha.new (e2 := z_refs G (z_gr n) g))
  have hst : ∀ y, z_ob G h top y → z_ob G (va_up (va_up (va_up h a (.inr (0, [.int (m + 1), .ref (z_tE G), .int (nI n)]))) top (z_refs G (z_gr n) g)) a (.inr (0, [.int (m + 1), .ref top, .int (nI n)]))) (top + 1) y := fun y hy => (z_ob.new (hy.up (hy.ne hL.1))).up (hy.ne hL.1)
  refine r_astore (lv' := [(4, .ref top), (3, .int (nI n)), (0, .ref a), (1, .int (nI i)), (2, .ref x)]) hX (by decide) rfl dJx4a65c_add_7a177_36 ?_
  refine r_lv [2, 3, 4, 1, 0] (lv2 := [(0, .ref a), (1, .int (nI i)), (2, .ref x), (3, .int (nI n)), (4, .ref top)]) rfl ?_
  exact f_ins_tail a x top n (z_gr n) i (m + 1) g ha2 hnew2 hi hlt.1 hlt.2 (hst x hob) (fun i h1 y h2 => hst y (hel i h1 y (by rw [← hg1 i h1]; exact h2))) (hp g hg1 hg2) hX hq

/-- add(int, E), any list -/
theorem c_ins (l : Launch) (G : zG) (h : zH) (top a x e n cap i : Nat) (m : Int32) (f : Nat → Option Nat) (hbt : z_b G ≤ top) (hi : i ≤ n) (hL : z_AL G h top a m e n cap f) (hel : ∀ i, i < n → ∀ y, f i = some y → z_ob G h top y) (hn : n ≤ 150) (hob : z_ob G h top x) (hroom : n = cap → top + 1 ≤ z_b G + 320) : z_Ct l yJx4a65c_add_7a177 cJx4a65c_add_7a177 5 none 6 G [.ref a, .int (nI i), .ref x] h top (z_PAdd G h top a e n cap f i x none) := by
  rcases Nat.lt_or_ge n cap with hlt | hge
  · rcases hL.2.2.2.2 with h5 | ⟨h5, he⟩
    · omega
    · exact c_ins_no l G h top a x e n cap i m f _ hbt hi hL he hel hn hob hlt (z_pins_no hL hlt hi)
  · obtain rfl : n = cap := by have := hL.2.1; omega
    rcases hL.2.2.2.2 with ⟨h5, h6⟩ | ⟨h5, he⟩
    · subst h6
      exact c_ins_gr0 l G h top a x n i m f _ hbt hi hL h5 hel hn hob (hroom rfl) (fun g hg1 hg2 => z_pins_gr hL hbt hn hi hg1 hg2)
    · exact c_ins_gr l G h top a x e n i m f _ hbt hi hL he hel hn hob (hroom rfl) (fun g hg1 hg2 => z_pins_gr hL hbt hn hi hg1 hg2)

