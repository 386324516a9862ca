/-! the new hall -/
theorem z_at.kp {G : zG} {h h1 : zH} {top t1 a b : Nat} {e : va_E} (ha : z_at G h top b e) (hf : ∀ q, q < top → q ≠ a → h1 q = h q) (hne : b ≠ a) (ht : top ≤ t1) : z_at G h1 t1 b e := ⟨ha.1, Nat.lt_of_lt_of_le ha.2.1 ht, (hf b ha.2.1 hne).trans ha.2.2⟩
set_option maxRecDepth 20000 in
set_option maxHeartbeats 4000000 in
theorem c_X1_init (l : Launch) (G : zG) (h : zH) (top : Nat) (a : Nat) (hbt : z_b G ≤ top) (hroom : top + 3 ≤ z_b G + 320) (hat : a < top) (ha : z_at G h top a (.inr (2, [.null, .null, .null, .int 0, .int 0, .int 0]))) : z_Ct l yX1_init cX1_init 1 none 1 G [.ref a] h top (fun r h' top' => r = none ∧ top' = top + 3 ∧ z_at G h' (top + 3) a (.inr (2, [.ref top, .ref (top + 1), .ref (top + 2), .int 0, .int 0, .int 0])) ∧ z_at G h' (top + 3) top (.inl (z_aI G, 4, .inl (fun _ => 0))) ∧ z_at G h' (top + 3) (top + 1) (.inl (z_aI G, 41, .inl (fun _ => 0))) ∧ z_at G h' (top + 3) (top + 2) (.inl (z_aI G, 1312, .inl (fun _ => 0))) ∧ ∀ q, q < top → q ≠ a → h' q = h q) := by
  refine z_of (own := RX1) (nm := "<init>") (by decide) rfl rfl (by decide) (Nat.le_of_ble_eq_true rfl) (fun X hX hq => ?_)
  replace hX : z_ok X cX1_init 1 RX1 none "<init>" 1 G := hX
  show z_Z X h top 0 [(0, .ref a)] []
  refine r_aload_n hX rfl 0 rfl dX1_init_0 ?_
  refine r_objInit hX oi_X1_3 kw_oi1 kw_oi2 (by decide) dX1_init_1 ?_
  refine r_aload_n hX rfl 0 rfl dX1_init_4 ?_
  refine r_iconst (v := 4) hX (by decide) dX1_init_5 ?_
  refine r_newi (N := 4) hX kw_ai (by decide) (by decide) (by decide) (by omega) dX1_init_6 ?_
  replace ha := ha.new (e2 := (.inl (z_aI G, 4, .inl (fun _ => 0))))
  have hN6 : z_at G (va_up h top (.inl (z_aI G, 4, .inl (fun _ => 0)))) (top + 1) top (.inl (z_aI G, 4, .inl (fun _ => 0))) := z_at.fresh (by omega)
  refine r_putFA (fs2 := [.ref top, .null, .null, .int 0, .int 0, .int 0]) hX fp_X1_9 ha rfl rfl (Nat.le_of_ble_eq_true rfl) rfl dX1_init_8 ?_
  replace hN6 := hN6.up (e3 := (.inr (2, [.ref top, .null, .null, .int 0, .int 0, .int 0]))) ha (by intro z; cases z)
  replace ha : z_at G (va_up (va_up h top (.inl (z_aI G, 4, .inl (fun _ => 0)))) a (.inr (2, [.ref top, .null, .null, .int 0, .int 0, .int 0]))) (top + 1) a (.inr (2, [.ref top, .null, .null, .int 0, .int 0, .int 0])) := z_at.self ha
  refine r_aload_n hX rfl 0 rfl dX1_init_11 ?_
  refine r_bipush (v := 41) hX (by decide) dX1_init_12 ?_
  refine r_newi (N := 41) hX kw_ai (by decide) (by decide) (by decide) (by omega) dX1_init_14 ?_
  replace ha := ha.new (e2 := (.inl (z_aI G, 41, .inl (fun _ => 0))))
  replace hN6 := hN6.new (e2 := (.inl (z_aI G, 41, .inl (fun _ => 0))))
  have hN14 : z_at G (va_up (va_up (va_up h top (.inl (z_aI G, 4, .inl (fun _ => 0)))) a (.inr (2, [.ref top, .null, .null, .int 0, .int 0, .int 0]))) (top + 1) (.inl (z_aI G, 41, .inl (fun _ => 0)))) ((top + 1) + 1) (top + 1) (.inl (z_aI G, 41, .inl (fun _ => 0))) := z_at.fresh (by omega)
  refine r_putFA (fs2 := [.ref top, .ref (top + 1), .null, .int 0, .int 0, .int 0]) hX fp_X1_15 ha rfl rfl (Nat.le_of_ble_eq_true rfl) rfl dX1_init_16 ?_
  replace hN6 := hN6.up (e3 := (.inr (2, [.ref top, .ref (top + 1), .null, .int 0, .int 0, .int 0]))) ha (by intro z; cases z)
  replace hN14 := hN14.up (e3 := (.inr (2, [.ref top, .ref (top + 1), .null, .int 0, .int 0, .int 0]))) ha (by intro z; cases z)
  replace ha : z_at G (va_up (va_up (va_up (va_up h top (.inl (z_aI G, 4, .inl (fun _ => 0)))) a (.inr (2, [.ref top, .null, .null, .int 0, .int 0, .int 0]))) (top + 1) (.inl (z_aI G, 41, .inl (fun _ => 0)))) a (.inr (2, [.ref top, .ref (top + 1), .null, .int 0, .int 0, .int 0]))) ((top + 1) + 1) a (.inr (2, [.ref top, .ref (top + 1), .null, .int 0, .int 0, .int 0])) := z_at.self ha
  refine r_aload_n hX rfl 0 rfl dX1_init_19 ?_
  refine r_sipush (v := 1312) hX (by decide) dX1_init_20 ?_
  refine r_newi (N := 1312) hX kw_ai (by decide) (by decide) (by decide) (by omega) dX1_init_23 ?_
  replace ha := ha.new (e2 := (.inl (z_aI G, 1312, .inl (fun _ => 0))))
  replace hN6 := hN6.new (e2 := (.inl (z_aI G, 1312, .inl (fun _ => 0))))
  replace hN14 := hN14.new (e2 := (.inl (z_aI G, 1312, .inl (fun _ => 0))))
  have hN23 : z_at G (va_up (va_up (va_up (va_up (va_up h top (.inl (z_aI G, 4, .inl (fun _ => 0)))) a (.inr (2, [.ref top, .null, .null, .int 0, .int 0, .int 0]))) (top + 1) (.inl (z_aI G, 41, .inl (fun _ => 0)))) a (.inr (2, [.ref top, .ref (top + 1), .null, .int 0, .int 0, .int 0]))) ((top + 1) + 1) (.inl (z_aI G, 1312, .inl (fun _ => 0)))) (((top + 1) + 1) + 1) ((top + 1) + 1) (.inl (z_aI G, 1312, .inl (fun _ => 0))) := z_at.fresh (by omega)
  refine r_putFA (fs2 := [.ref top, .ref (top + 1), .ref ((top + 1) + 1), .int 0, .int 0, .int 0]) hX fp_X1_18 ha rfl rfl (Nat.le_of_ble_eq_true rfl) rfl dX1_init_25 ?_
  replace hN6 := hN6.up (e3 := (.inr (2, [.ref top, .ref (top + 1), .ref ((top + 1) + 1), .int 0, .int 0, .int 0]))) ha (by intro z; cases z)
  replace hN14 := hN14.up (e3 := (.inr (2, [.ref top, .ref (top + 1), .ref ((top + 1) + 1), .int 0, .int 0, .int 0]))) ha (by intro z; cases z)
  replace hN23 := hN23.up (e3 := (.inr (2, [.ref top, .ref (top + 1), .ref ((top + 1) + 1), .int 0, .int 0, .int 0]))) ha (by intro z; cases z)
  replace ha : z_at G (va_up (va_up (va_up (va_up (va_up (va_up h top (.inl (z_aI G, 4, .inl (fun _ => 0)))) a (.inr (2, [.ref top, .null, .null, .int 0, .int 0, .int 0]))) (top + 1) (.inl (z_aI G, 41, .inl (fun _ => 0)))) a (.inr (2, [.ref top, .ref (top + 1), .null, .int 0, .int 0, .int 0]))) ((top + 1) + 1) (.inl (z_aI G, 1312, .inl (fun _ => 0)))) a (.inr (2, [.ref top, .ref (top + 1), .ref ((top + 1) + 1), .int 0, .int 0, .int 0]))) (((top + 1) + 1) + 1) a (.inr (2, [.ref top, .ref (top + 1), .ref ((top + 1) + 1), .int 0, .int 0, .int 0])) := z_at.self ha
  exact r_vret hX hq ⟨rfl, rfl, ha, hN6, hN14, hN23, (fun q h1 h2 => by simp [va_up, h2, show q ≠ top by omega, show q ≠ top + 1 by omega, show q ≠ top + 1 + 1 by omega])⟩ dX1_init_28

set_option maxRecDepth 20000 in
set_option maxHeartbeats 4000000 in
theorem c_X6_init (l : Launch) (G : zG) (h : zH) (top : Nat) (a : Nat) (hbt : z_b G ≤ top) (hroom : top + 2 ≤ z_b G + 320) (hat : a < top) (ha : z_at G h top a (.inr (7, [.null, .null, .int 0]))) : z_Ct l yX6_init cX6_init 1 none 4 G [.ref a] h top (fun r h' top' => r = none ∧ top' = top + 2 ∧ z_at G h' (top + 2) a (.inr (7, [.ref top, .ref (top + 1), .int 0])) ∧ z_at G h' (top + 2) top (.inr (0, [.int 0, .ref (z_tE G), .int 0])) ∧ z_at G h' (top + 2) (top + 1) (.inl (z_aZ G, 51, .inl (fun _ => 0))) ∧ ∀ q, q < top → q ≠ a → h' q = h q) := by
  refine z_of (own := RX6) (nm := "<init>") (by decide) rfl rfl (by decide) (Nat.le_of_ble_eq_true rfl) (fun X hX hq => ?_)
  replace hX : z_ok X cX6_init 1 RX6 none "<init>" 4 G := hX
  show z_Z X h top 0 [(0, .ref a)] []
  refine r_aload_n hX rfl 0 rfl dX6_init_0 ?_
  refine r_objInit hX oi_X6_3 kw_oi1 kw_oi2 (by decide) dX6_init_1 ?_
  refine r_aload_n hX rfl 0 rfl dX6_init_4 ?_
  refine r_new hX nw_X6_9 (by omega) dX6_init_5 ?_
  replace ha := ha.new (e2 := (.inr (0, [.int 0, .null, .int 0])))
  have hN5 : z_at G (va_up h top (.inr (0, [.int 0, .null, .int 0]))) (top + 1) top (.inr (0, [.int 0, .null, .int 0])) := z_at.fresh (by omega)
  refine r_dup hX rfl dX6_init_8 ?_
  refine r_callIR (As := []) (rest := [.ref top, .ref a]) (rv := none) (st1 := [.ref top, .ref a]) hX cs_X6_11 (by decide) (fun l => c_Jx4a65c_init_da8c8 l G (va_up h top (.inr (0, [.int 0, .null, .int 0]))) (top + 1) top 0 .null (.int 0) hN5) rfl rfl rfl (Nat.le_of_ble_eq_true rfl) dX6_init_9 ?_
  replace ha := ha.up (e3 := (.inr (0, [.int 0, .ref (z_tE G), .int 0]))) hN5 (by intro z; cases z)
  replace hN5 : z_at G (va_up (va_up h top (.inr (0, [.int 0, .null, .int 0]))) top (.inr (0, [.int 0, .ref (z_tE G), .int 0]))) (top + 1) top (.inr (0, [.int 0, .ref (z_tE G), .int 0])) := z_at.self hN5
  refine r_putFA (fs2 := [.ref top, .null, .int 0]) hX fp_X6_12 ha rfl rfl (Nat.le_of_ble_eq_true rfl) rfl dX6_init_12 ?_
  replace hN5 := hN5.up (e3 := (.inr (7, [.ref top, .null, .int 0]))) ha (by intro z; cases z)
  replace ha : z_at G (va_up (va_up (va_up h top (.inr (0, [.int 0, .null, .int 0]))) top (.inr (0, [.int 0, .ref (z_tE G), .int 0]))) a (.inr (7, [.ref top, .null, .int 0]))) (top + 1) a (.inr (7, [.ref top, .null, .int 0])) := z_at.self ha
  refine r_aload_n hX rfl 0 rfl dX6_init_15 ?_
  refine r_bipush (v := 51) hX (by decide) dX6_init_16 ?_
  refine r_newz (N := 51) hX kw_az (by decide) (by decide) (by decide) (by omega) dX6_init_18 ?_
  replace ha := ha.new (e2 := (.inl (z_aZ G, 51, .inl (fun _ => 0))))
  replace hN5 := hN5.new (e2 := (.inl (z_aZ G, 51, .inl (fun _ => 0))))
  have hN18 : z_at G (va_up (va_up (va_up (va_up h top (.inr (0, [.int 0, .null, .int 0]))) top (.inr (0, [.int 0, .ref (z_tE G), .int 0]))) a (.inr (7, [.ref top, .null, .int 0]))) (top + 1) (.inl (z_aZ G, 51, .inl (fun _ => 0)))) ((top + 1) + 1) (top + 1) (.inl (z_aZ G, 51, .inl (fun _ => 0))) := z_at.fresh (by omega)
  refine r_putFA (fs2 := [.ref top, .ref (top + 1), .int 0]) hX fp_X6_18 ha rfl rfl (Nat.le_of_ble_eq_true rfl) rfl dX6_init_20 ?_
  replace hN5 := hN5.up (e3 := (.inr (7, [.ref top, .ref (top + 1), .int 0]))) ha (by intro z; cases z)
  replace hN18 := hN18.up (e3 := (.inr (7, [.ref top, .ref (top + 1), .int 0]))) ha (by intro z; cases z)
  replace ha : z_at G (va_up (va_up (va_up (va_up (va_up h top (.inr (0, [.int 0, .null, .int 0]))) top (.inr (0, [.int 0, .ref (z_tE G), .int 0]))) a (.inr (7, [.ref top, .null, .int 0]))) (top + 1) (.inl (z_aZ G, 51, .inl (fun _ => 0)))) a (.inr (7, [.ref top, .ref (top + 1), .int 0]))) ((top + 1) + 1) a (.inr (7, [.ref top, .ref (top + 1), .int 0])) := z_at.self ha
  exact r_vret hX hq ⟨rfl, rfl, ha, hN5, hN18, (fun q h1 h2 => by simp [va_up, h2, show q ≠ top by omega, show q ≠ top + 1 by omega])⟩ dX6_init_23

set_option maxRecDepth 20000 in
set_option maxHeartbeats 4000000 in
theorem c_X0_init (l : Launch) (G : zG) (h : zH) (top : Nat) (a : Nat) (hbt : z_b G ≤ top) (hroom : top + 4 ≤ z_b G + 320) (hat : a < top) (ha : z_at G h top a (.inr (1, [.null, .null, .null, .null, .int 0, .int 0]))) : z_Ct l yX0_init cX0_init 1 none 4 G [.ref a] h top (fun r h' top' => r = none ∧ top' = top + 4 ∧ z_at G h' (top + 4) a (.inr (1, [.ref top, .ref (top + 1), .ref (top + 2), .ref (top + 3), .int 0, .int 0])) ∧ z_at G h' (top + 4) top (.inr (0, [.int 0, .ref (z_tE G), .int 0])) ∧ z_at G h' (top + 4) (top + 1) (.inr (0, [.int 0, .ref (z_tE G), .int 0])) ∧ z_at G h' (top + 4) (top + 2) (.inr (0, [.int 0, .ref (z_tE G), .int 0])) ∧ z_at G h' (top + 4) (top + 3) (.inr (0, [.int 0, .ref (z_tE G), .int 0])) ∧ ∀ q, q < top → q ≠ a → h' q = h q) := by
  refine z_of (own := RX0) (nm := "<init>") (by decide) rfl rfl (by decide) (Nat.le_of_ble_eq_true rfl) (fun X hX hq => ?_)
  replace hX : z_ok X cX0_init 1 RX0 none "<init>" 4 G := hX
  show z_Z X h top 0 [(0, .ref a)] []
  refine r_aload_n hX rfl 0 rfl dX0_init_0 ?_
  refine r_objInit hX oi_X0_3 kw_oi1 kw_oi2 (by decide) dX0_init_1 ?_
  refine r_aload_n hX rfl 0 rfl dX0_init_4 ?_
  refine r_new hX nw_X0_9 (by omega) dX0_init_5 ?_
  replace ha := ha.new (e2 := (.inr (0, [.int 0, .null, .int 0])))
  have hN5 : z_at G (va_up h top (.inr (0, [.int 0, .null, .int 0]))) (top + 1) top (.inr (0, [.int 0, .null, .int 0])) := z_at.fresh (by omega)
  refine r_dup hX rfl dX0_init_8 ?_
  refine r_callIR (As := []) (rest := [.ref top, .ref a]) (rv := none) (st1 := [.ref top, .ref a]) hX cs_X0_11 (by decide) (fun l => c_Jx4a65c_init_da8c8 l G (va_up h top (.inr (0, [.int 0, .null, .int 0]))) (top + 1) top 0 .null (.int 0) hN5) rfl rfl rfl (Nat.le_of_ble_eq_true rfl) dX0_init_9 ?_
  replace ha := ha.up (e3 := (.inr (0, [.int 0, .ref (z_tE G), .int 0]))) hN5 (by intro z; cases z)
  replace hN5 : z_at G (va_up (va_up h top (.inr (0, [.int 0, .null, .int 0]))) top (.inr (0, [.int 0, .ref (z_tE G), .int 0]))) (top + 1) top (.inr (0, [.int 0, .ref (z_tE G), .int 0])) := z_at.self hN5
  refine r_putFA (fs2 := [.ref top, .null, .null, .null, .int 0, .int 0]) hX fp_X0_12 ha rfl rfl (Nat.le_of_ble_eq_true rfl) rfl dX0_init_12 ?_
  replace hN5 := hN5.up (e3 := (.inr (1, [.ref top, .null, .null, .null, .int 0, .int 0]))) ha (by intro z; cases z)
  replace ha : z_at G (va_up (va_up (va_up h top (.inr (0, [.int 0, .null, .int 0]))) top (.inr (0, [.int 0, .ref (z_tE G), .int 0]))) a (.inr (1, [.ref top, .null, .null, .null, .int 0, .int 0]))) (top + 1) a (.inr (1, [.ref top, .null, .null, .null, .int 0, .int 0])) := z_at.self ha
  refine r_aload_n hX rfl 0 rfl dX0_init_15 ?_
  refine r_new hX nw_X0_9 (by omega) dX0_init_16 ?_
  replace ha := ha.new (e2 := (.inr (0, [.int 0, .null, .int 0])))
  replace hN5 := hN5.new (e2 := (.inr (0, [.int 0, .null, .int 0])))
  have hN16 : z_at G (va_up (va_up (va_up (va_up h top (.inr (0, [.int 0, .null, .int 0]))) top (.inr (0, [.int 0, .ref (z_tE G), .int 0]))) a (.inr (1, [.ref top, .null, .null, .null, .int 0, .int 0]))) (top + 1) (.inr (0, [.int 0, .null, .int 0]))) ((top + 1) + 1) (top + 1) (.inr (0, [.int 0, .null, .int 0])) := z_at.fresh (by omega)
  refine r_dup hX rfl dX0_init_19 ?_
  refine r_callIR (As := []) (rest := [.ref (top + 1), .ref a]) (rv := none) (st1 := [.ref (top + 1), .ref a]) hX cs_X0_11 (by decide) (fun l => c_Jx4a65c_init_da8c8 l G (va_up (va_up (va_up (va_up h top (.inr (0, [.int 0, .null, .int 0]))) top (.inr (0, [.int 0, .ref (z_tE G), .int 0]))) a (.inr (1, [.ref top, .null, .null, .null, .int 0, .int 0]))) (top + 1) (.inr (0, [.int 0, .null, .int 0]))) ((top + 1) + 1) (top + 1) 0 .null (.int 0) hN16) rfl rfl rfl (Nat.le_of_ble_eq_true rfl) dX0_init_20 ?_
  replace ha := ha.up (e3 := (.inr (0, [.int 0, .ref (z_tE G), .int 0]))) hN16 (by intro z; cases z)
  replace hN5 := hN5.up (e3 := (.inr (0, [.int 0, .ref (z_tE G), .int 0]))) hN16 (by intro z; cases z)
  replace hN16 : z_at G (va_up (va_up (va_up (va_up (va_up h top (.inr (0, [.int 0, .null, .int 0]))) top (.inr (0, [.int 0, .ref (z_tE G), .int 0]))) a (.inr (1, [.ref top, .null, .null, .null, .int 0, .int 0]))) (top + 1) (.inr (0, [.int 0, .null, .int 0]))) (top + 1) (.inr (0, [.int 0, .ref (z_tE G), .int 0]))) ((top + 1) + 1) (top + 1) (.inr (0, [.int 0, .ref (z_tE G), .int 0])) := z_at.self hN16
  refine r_putFA (fs2 := [.ref top, .ref (top + 1), .null, .null, .int 0, .int 0]) hX fp_X0_18 ha rfl rfl (Nat.le_of_ble_eq_true rfl) rfl dX0_init_23 ?_
  replace hN5 := hN5.up (e3 := (.inr (1, [.ref top, .ref (top + 1), .null, .null, .int 0, .int 0]))) ha (by intro z; cases z)
  replace hN16 := hN16.up (e3 := (.inr (1, [.ref top, .ref (top + 1), .null, .null, .int 0, .int 0]))) ha (by intro z; cases z)
  replace ha : z_at G (va_up (va_up (va_up (va_up (va_up (va_up h top (.inr (0, [.int 0, .null, .int 0]))) top (.inr (0, [.int 0, .ref (z_tE G), .int 0]))) a (.inr (1, [.ref top, .null, .null, .null, .int 0, .int 0]))) (top + 1) (.inr (0, [.int 0, .null, .int 0]))) (top + 1) (.inr (0, [.int 0, .ref (z_tE G), .int 0]))) a (.inr (1, [.ref top, .ref (top + 1), .null, .null, .int 0, .int 0]))) ((top + 1) + 1) a (.inr (1, [.ref top, .ref (top + 1), .null, .null, .int 0, .int 0])) := z_at.self ha
  refine r_aload_n hX rfl 0 rfl dX0_init_26 ?_
  refine r_new hX nw_X0_9 (by omega) dX0_init_27 ?_
  replace ha := ha.new (e2 := (.inr (0, [.int 0, .null, .int 0])))
  replace hN5 := hN5.new (e2 := (.inr (0, [.int 0, .null, .int 0])))
  replace hN16 := hN16.new (e2 := (.inr (0, [.int 0, .null, .int 0])))
  have hN27 : z_at G (va_up (va_up (va_up (va_up (va_up (va_up (va_up h top (.inr (0, [.int 0, .null, .int 0]))) top (.inr (0, [.int 0, .ref (z_tE G), .int 0]))) a (.inr (1, [.ref top, .null, .null, .null, .int 0, .int 0]))) (top + 1) (.inr (0, [.int 0, .null, .int 0]))) (top + 1) (.inr (0, [.int 0, .ref (z_tE G), .int 0]))) a (.inr (1, [.ref top, .ref (top + 1), .null, .null, .int 0, .int 0]))) ((top + 1) + 1) (.inr (0, [.int 0, .null, .int 0]))) (((top + 1) + 1) + 1) ((top + 1) + 1) (.inr (0, [.int 0, .null, .int 0])) := z_at.fresh (by omega)
  refine r_dup hX rfl dX0_init_30 ?_
  refine r_callIR (As := []) (rest := [.ref ((top + 1) + 1), .ref a]) (rv := none) (st1 := [.ref ((top + 1) + 1), .ref a]) hX cs_X0_11 (by decide) (fun l => c_Jx4a65c_init_da8c8 l G (va_up (va_up (va_up (va_up (va_up (va_up (va_up h top (.inr (0, [.int 0, .null, .int 0]))) top (.inr (0, [.int 0, .ref (z_tE G), .int 0]))) a (.inr (1, [.ref top, .null, .null, .null, .int 0, .int 0]))) (top + 1) (.inr (0, [.int 0, .null, .int 0]))) (top + 1) (.inr (0, [.int 0, .ref (z_tE G), .int 0]))) a (.inr (1, [.ref top, .ref (top + 1), .null, .null, .int 0, .int 0]))) ((top + 1) + 1) (.inr (0, [.int 0, .null, .int 0]))) (((top + 1) + 1) + 1) ((top + 1) + 1) 0 .null (.int 0) hN27) rfl rfl rfl (Nat.le_of_ble_eq_true rfl) dX0_init_31 ?_
  replace ha := ha.up (e3 := (.inr (0, [.int 0, .ref (z_tE G), .int 0]))) hN27 (by intro z; cases z)
  replace hN5 := hN5.up (e3 := (.inr (0, [.int 0, .ref (z_tE G), .int 0]))) hN27 (by intro z; cases z)
  replace hN16 := hN16.up (e3 := (.inr (0, [.int 0, .ref (z_tE G), .int 0]))) hN27 (by intro z; cases z)
  replace hN27 : z_at G (va_up (va_up (va_up (va_up (va_up (va_up (va_up (va_up h top (.inr (0, [.int 0, .null, .int 0]))) top (.inr (0, [.int 0, .ref (z_tE G), .int 0]))) a (.inr (1, [.ref top, .null, .null, .null, .int 0, .int 0]))) (top + 1) (.inr (0, [.int 0, .null, .int 0]))) (top + 1) (.inr (0, [.int 0, .ref (z_tE G), .int 0]))) a (.inr (1, [.ref top, .ref (top + 1), .null, .null, .int 0, .int 0]))) ((top + 1) + 1) (.inr (0, [.int 0, .null, .int 0]))) ((top + 1) + 1) (.inr (0, [.int 0, .ref (z_tE G), .int 0]))) (((top + 1) + 1) + 1) ((top + 1) + 1) (.inr (0, [.int 0, .ref (z_tE G), .int 0])) := z_at.self hN27
  refine r_putFA (fs2 := [.ref top, .ref (top + 1), .ref ((top + 1) + 1), .null, .int 0, .int 0]) hX fp_X0_21 ha rfl rfl (Nat.le_of_ble_eq_true rfl) rfl dX0_init_34 ?_
  replace hN5 := hN5.up (e3 := (.inr (1, [.ref top, .ref (top + 1), .ref ((top + 1) + 1), .null, .int 0, .int 0]))) ha (by intro z; cases z)
  replace hN16 := hN16.up (e3 := (.inr (1, [.ref top, .ref (top + 1), .ref ((top + 1) + 1), .null, .int 0, .int 0]))) ha (by intro z; cases z)
  replace hN27 := hN27.up (e3 := (.inr (1, [.ref top, .ref (top + 1), .ref ((top + 1) + 1), .null, .int 0, .int 0]))) ha (by intro z; cases z)
  replace ha : z_at G (va_up (va_up (va_up (va_up (va_up (va_up (va_up (va_up (va_up h top (.inr (0, [.int 0, .null, .int 0]))) top (.inr (0, [.int 0, .ref (z_tE G), .int 0]))) a (.inr (1, [.ref top, .null, .null, .null, .int 0, .int 0]))) (top + 1) (.inr (0, [.int 0, .null, .int 0]))) (top + 1) (.inr (0, [.int 0, .ref (z_tE G), .int 0]))) a (.inr (1, [.ref top, .ref (top + 1), .null, .null, .int 0, .int 0]))) ((top + 1) + 1) (.inr (0, [.int 0, .null, .int 0]))) ((top + 1) + 1) (.inr (0, [.int 0, .ref (z_tE G), .int 0]))) a (.inr (1, [.ref top, .ref (top + 1), .ref ((top + 1) + 1), .null, .int 0, .int 0]))) (((top + 1) + 1) + 1) a (.inr (1, [.ref top, .ref (top + 1), .ref ((top + 1) + 1), .null, .int 0, .int 0])) := z_at.self ha
  refine r_aload_n hX rfl 0 rfl dX0_init_37 ?_
  refine r_new hX nw_X0_9 (by omega) dX0_init_38 ?_
  replace ha := ha.new (e2 := (.inr (0, [.int 0, .null, .int 0])))
  replace hN5 := hN5.new (e2 := (.inr (0, [.int 0, .null, .int 0])))
  replace hN16 := hN16.new (e2 := (.inr (0, [.int 0, .null, .int 0])))
  replace hN27 := hN27.new (e2 := (.inr (0, [.int 0, .null, .int 0])))
  have hN38 : z_at G (va_up (va_up (va_up (va_up (va_up (va_up (va_up (va_up (va_up (va_up h top (.inr (0, [.int 0, .null, .int 0]))) top (.inr (0, [.int 0, .ref (z_tE G), .int 0]))) a (.inr (1, [.ref top, .null, .null, .null, .int 0, .int 0]))) (top + 1) (.inr (0, [.int 0, .null, .int 0]))) (top + 1) (.inr (0, [.int 0, .ref (z_tE G), .int 0]))) a (.inr (1, [.ref top, .ref (top + 1), .null, .null, .int 0, .int 0]))) ((top + 1) + 1) (.inr (0, [.int 0, .null, .int 0]))) ((top + 1) + 1) (.inr (0, [.int 0, .ref (z_tE G), .int 0]))) a (.inr (1, [.ref top, .ref (top + 1), .ref ((top + 1) + 1), .null, .int 0, .int 0]))) (((top + 1) + 1) + 1) (.inr (0, [.int 0, .null, .int 0]))) ((((top + 1) + 1) + 1) + 1) (((top + 1) + 1) + 1) (.inr (0, [.int 0, .null, .int 0])) := z_at.fresh (by omega)
  refine r_dup hX rfl dX0_init_41 ?_
  refine r_callIR (As := []) (rest := [.ref (((top + 1) + 1) + 1), .ref a]) (rv := none) (st1 := [.ref (((top + 1) + 1) + 1), .ref a]) hX cs_X0_11 (by decide) (fun l => c_Jx4a65c_init_da8c8 l G (va_up (va_up (va_up (va_up (va_up (va_up (va_up (va_up (va_up (va_up h top (.inr (0, [.int 0, .null, .int 0]))) top (.inr (0, [.int 0, .ref (z_tE G), .int 0]))) a (.inr (1, [.ref top, .null, .null, .null, .int 0, .int 0]))) (top + 1) (.inr (0, [.int 0, .null, .int 0]))) (top + 1) (.inr (0, [.int 0, .ref (z_tE G), .int 0]))) a (.inr (1, [.ref top, .ref (top + 1), .null, .null, .int 0, .int 0]))) ((top + 1) + 1) (.inr (0, [.int 0, .null, .int 0]))) ((top + 1) + 1) (.inr (0, [.int 0, .ref (z_tE G), .int 0]))) a (.inr (1, [.ref top, .ref (top + 1), .ref ((top + 1) + 1), .null, .int 0, .int 0]))) (((top + 1) + 1) + 1) (.inr (0, [.int 0, .null, .int 0]))) ((((top + 1) + 1) + 1) + 1) (((top + 1) + 1) + 1) 0 .null (.int 0) hN38) rfl rfl rfl (Nat.le_of_ble_eq_true rfl) dX0_init_42 ?_
  replace ha := ha.up (e3 := (.inr (0, [.int 0, .ref (z_tE G), .int 0]))) hN38 (by intro z; cases z)
  replace hN5 := hN5.up (e3 := (.inr (0, [.int 0, .ref (z_tE G), .int 0]))) hN38 (by intro z; cases z)
  replace hN16 := hN16.up (e3 := (.inr (0, [.int 0, .ref (z_tE G), .int 0]))) hN38 (by intro z; cases z)
  replace hN27 := hN27.up (e3 := (.inr (0, [.int 0, .ref (z_tE G), .int 0]))) hN38 (by intro z; cases z)
  replace hN38 : z_at G (va_up (va_up (va_up (va_up (va_up (va_up (va_up (va_up (va_up (va_up (va_up h top (.inr (0, [.int 0, .null, .int 0]))) top (.inr (0, [.int 0, .ref (z_tE G), .int 0]))) a (.inr (1, [.ref top, .null, .null, .null, .int 0, .int 0]))) (top + 1) (.inr (0, [.int 0, .null, .int 0]))) (top + 1) (.inr (0, [.int 0, .ref (z_tE G), .int 0]))) a (.inr (1, [.ref top, .ref (top + 1), .null, .null, .int 0, .int 0]))) ((top + 1) + 1) (.inr (0, [.int 0, .null, .int 0]))) ((top + 1) + 1) (.inr (0, [.int 0, .ref (z_tE G), .int 0]))) a (.inr (1, [.ref top, .ref (top + 1), .ref ((top + 1) + 1), .null, .int 0, .int 0]))) (((top + 1) + 1) + 1) (.inr (0, [.int 0, .null, .int 0]))) (((top + 1) + 1) + 1) (.inr (0, [.int 0, .ref (z_tE G), .int 0]))) ((((top + 1) + 1) + 1) + 1) (((top + 1) + 1) + 1) (.inr (0, [.int 0, .ref (z_tE G), .int 0])) := z_at.self hN38
  refine r_putFA (fs2 := [.ref top, .ref (top + 1), .ref ((top + 1) + 1), .ref (((top + 1) + 1) + 1), .int 0, .int 0]) hX fp_X0_24 ha rfl rfl (Nat.le_of_ble_eq_true rfl) rfl dX0_init_45 ?_
  replace hN5 := hN5.up (e3 := (.inr (1, [.ref top, .ref (top + 1), .ref ((top + 1) + 1), .ref (((top + 1) + 1) + 1), .int 0, .int 0]))) ha (by intro z; cases z)
  replace hN16 := hN16.up (e3 := (.inr (1, [.ref top, .ref (top + 1), .ref ((top + 1) + 1), .ref (((top + 1) + 1) + 1), .int 0, .int 0]))) ha (by intro z; cases z)
  replace hN27 := hN27.up (e3 := (.inr (1, [.ref top, .ref (top + 1), .ref ((top + 1) + 1), .ref (((top + 1) + 1) + 1), .int 0, .int 0]))) ha (by intro z; cases z)
  replace hN38 := hN38.up (e3 := (.inr (1, [.ref top, .ref (top + 1), .ref ((top + 1) + 1), .ref (((top + 1) + 1) + 1), .int 0, .int 0]))) ha (by intro z; cases z)
  replace ha : z_at G (va_up (va_up (va_up (va_up (va_up (va_up (va_up (va_up (va_up (va_up (va_up (va_up h top (.inr (0, [.int 0, .null, .int 0]))) top (.inr (0, [.int 0, .ref (z_tE G), .int 0]))) a (.inr (1, [.ref top, .null, .null, .null, .int 0, .int 0]))) (top + 1) (.inr (0, [.int 0, .null, .int 0]))) (top + 1) (.inr (0, [.int 0, .ref (z_tE G), .int 0]))) a (.inr (1, [.ref top, .ref (top + 1), .null, .null, .int 0, .int 0]))) ((top + 1) + 1) (.inr (0, [.int 0, .null, .int 0]))) ((top + 1) + 1) (.inr (0, [.int 0, .ref (z_tE G), .int 0]))) a (.inr (1, [.ref top, .ref (top + 1), .ref ((top + 1) + 1), .null, .int 0, .int 0]))) (((top + 1) + 1) + 1) (.inr (0, [.int 0, .null, .int 0]))) (((top + 1) + 1) + 1) (.inr (0, [.int 0, .ref (z_tE G), .int 0]))) a (.inr (1, [.ref top, .ref (top + 1), .ref ((top + 1) + 1), .ref (((top + 1) + 1) + 1), .int 0, .int 0]))) ((((top + 1) + 1) + 1) + 1) a (.inr (1, [.ref top, .ref (top + 1), .ref ((top + 1) + 1), .ref (((top + 1) + 1) + 1), .int 0, .int 0])) := z_at.self ha
  exact r_vret hX hq ⟨rfl, rfl, ha, hN5, hN16, hN27, hN38, (fun q h1 h2 => by simp [va_up, h2, show q ≠ top by omega, show q ≠ top + 1 by omega, show q ≠ top + 1 + 1 by omega, show q ≠ top + 1 + 1 + 1 by omega])⟩ dX0_init_48

def z_s0 : zS := ((0, 0, 300, 0, 0, 0, 0), (fun _ => 0, fun _ => 0, fun _ => 0, 0, 0, 0), ([], [], [], []))
def z_be0 (G : zG) : zB := (fun _ => 0, (0, 0), [], ([], [], []), fun _ => (0, z_tE G, 0))
def z_pk : Nat → Nat × Nat
  | 0 => (0, 0)
  | 1 => (1, 0)
  | 2 => (1, 1)
  | 3 => (1, 2)
  | 4 => (0, 1)
  | 5 => (1, 3)
  | 6 => (0, 8)
  | 7 => (0, 2)
  | 8 => (0, 4)
  | 9 => (0, 5)
  | 10 => (0, 6)
  | 11 => (0, 3)
  | 12 => (1, 4)
  | 13 => (1, 5)
  | 14 => (1, 6)
  | 15 => (1, 7)
  | _ => (0, 7)
abbrev z_l0 (G : zG) : va_E := .inr (0, [.int 0, .ref (z_tE G), .int 0])
def z_c0 (G : zG) : Nat → va_E
  | 0 => z_hallC (z_b G) z_s0
  | 4 => z_tfsC (z_b G)
  | 6 => .inl (z_aZ G, 51, .inl (fun _ => 0))
  | 7 => z_lgC (z_b G) z_s0
  | 8 => .inl (z_aI G, 4, .inl (fun _ => 0))
  | 9 => .inl (z_aI G, 41, .inl (fun _ => 0))
  | 10 => .inl (z_aI G, 1312, .inl (fun _ => 0))
  | 11 => z_bkC (z_b G) (z_be0 G)
  | 16 => .inl (z_aI G, 8, .inl (fun _ => 0))
  | _ => z_l0 G
theorem z_ct_0 {G : zG} {k i a : Nat} {e : va_E} (h : z_ct G z_s0 (z_be0 G) k i = some (a, e)) : ∃ off, off < 17 ∧ a = z_b G + off ∧ z_pk off = (k, i) ∧ e = z_c0 G off := by
  match k with
  | 0 => match i with
    | 0 => cases h; exact ⟨0, by decide, rfl, rfl, rfl⟩
    | 1 => cases h; exact ⟨4, by decide, rfl, rfl, rfl⟩
    | 2 => cases h; exact ⟨7, by decide, rfl, rfl, rfl⟩
    | 3 => cases h; exact ⟨11, by decide, rfl, rfl, rfl⟩
    | 4 => cases h; exact ⟨8, by decide, rfl, rfl, rfl⟩
    | 5 => cases h; exact ⟨9, by decide, rfl, rfl, rfl⟩
    | 6 => cases h; exact ⟨10, by decide, rfl, rfl, rfl⟩
    | 7 => cases h; exact ⟨16, by decide, rfl, rfl, rfl⟩
    | 8 => cases h; exact ⟨6, by decide, rfl, rfl, rfl⟩
    | i + 9 => cases h
  | 1 =>
    rw [z_ct1] at h
    by_cases q : i < 8
    · rw [if_pos q] at h
      have e0 : ∀ j, (z_els z_s0 (z_be0 G) j).length = 0 := fun j => by
        match j with
        | 0 => rfl
        | 1 => rfl
        | 2 => rfl
        | 3 => rfl
        | 4 => rfl
        | 5 => rfl
        | 6 => rfl
        | j + 7 => rfl
      rw [e0, nI_0] at h
      rcases (show i = 0 ∨ i = 1 ∨ i = 2 ∨ i = 3 ∨ i = 4 ∨ i = 5 ∨ i = 6 ∨ i = 7 by omega) with rfl | rfl | rfl | rfl | rfl | rfl | rfl | rfl
      · cases h; exact ⟨1, by decide, rfl, rfl, rfl⟩
      · cases h; exact ⟨2, by decide, rfl, rfl, rfl⟩
      · cases h; exact ⟨3, by decide, rfl, rfl, rfl⟩
      · cases h; exact ⟨5, by decide, rfl, rfl, rfl⟩
      · cases h; exact ⟨12, by decide, rfl, rfl, rfl⟩
      · cases h; exact ⟨13, by decide, rfl, rfl, rfl⟩
      · cases h; exact ⟨14, by decide, rfl, rfl, rfl⟩
      · cases h; exact ⟨15, by decide, rfl, rfl, rfl⟩
    · rw [if_neg q] at h; cases h
  | 2 =>
    rw [z_ct2, if_neg (fun z => Nat.lt_irrefl 0 z.2)] at h
    cases h
  | 3 => cases h
  | 4 => cases h
  | 5 => cases h
  | 6 => cases h
  | 7 => cases h
  | k + 8 => rw [z_ct8 _ _ _ _ _ (by omega)] at h; cases h
theorem z_St_0 {G : zG} {h : zH} {top : Nat} (htE : ¬ z_b G ≤ z_tE G) (ht : top = z_b G + 17) (hc : ∀ off, off < 17 → z_at G h top (z_b G + off) (z_c0 G off)) : z_St G z_s0 (z_be0 G) h top := by
  refine ⟨⟨fun k i a e hk => ?_, fun k i k' i' a e e' hk hk' => ?_⟩, fun j hj => ⟨?_, Nat.zero_le _, fun _ => rfl⟩, ⟨fun j _ => List.mem_cons_self .., ?_, Nat.zero_le _, Nat.zero_le _, Nat.zero_le _, Nat.zero_le _, Nat.zero_le _⟩, ⟨fun y hy => absurd hy List.not_mem_nil, fun y hy => absurd hy List.not_mem_nil⟩, htE⟩
  · obtain ⟨off, h1, rfl, h3, rfl⟩ := z_ct_0 hk
    exact hc off h1
  · obtain ⟨off, h1, h2, h3, -⟩ := z_ct_0 hk
    obtain ⟨off', h1', h2', h3', -⟩ := z_ct_0 hk'
    have : off = off' := by omega
    subst this
    rw [h3] at h3'
    cases h3'
    exact ⟨rfl, rfl⟩
  · match j with
    | 0 => exact Nat.le_refl _
    | 1 => exact Nat.le_refl _
    | 2 => exact Nat.le_refl _
    | 3 => exact Nat.le_refl _
    | 4 => exact Nat.le_refl _
    | 5 => exact Nat.le_refl _
    | 6 => exact Nat.le_refl _
    | j + 7 => exact Nat.le_refl _
  · rw [ht]
    exact Nat.le_add_right _ _
set_option maxRecDepth 20000 in
set_option maxHeartbeats 4000000 in
theorem c_X8_init (l : Launch) (G : zG) (h : zH) (top : Nat) (ha : z_at G h top (z_b G) (.inr (9, [.null, .null, .null, .null, .null, .null, .null, .int 0, .int 0, .int 0, .int 0, .int 0, .int 0, .int 0]))) (htop : top = z_b G + 1) (htE : ¬ z_b G ≤ z_tE G) : z_Ct l yX8_init cX8_init 1 none 5 G [.ref (z_b G)] h top (fun r h' top' => r = none ∧ top' = z_b G + 17 ∧ z_St G z_s0 (z_be0 G) h' top') := by
  subst htop
  refine z_of (own := RX8) (nm := "<init>") (by decide) rfl rfl (by decide) (Nat.le_of_ble_eq_true rfl) (fun X hX hq => ?_)
  replace hX : z_ok X cX8_init 1 RX8 none "<init>" 5 G := hX
  show z_Z X h (z_b G + 1) 0 [(0, .ref (z_b G))] []
  refine r_aload_n hX rfl 0 rfl dX8_init_0 ?_
  refine r_objInit hX oi_X8_1 kw_oi1 kw_oi2 (by decide) dX8_init_1 ?_
  refine r_aload_n hX rfl 0 rfl dX8_init_4 ?_
  refine r_new hX nw_X8_7 (by omega) dX8_init_5 ?_
  replace ha := ha.new (e2 := (.inr (0, [.int 0, .null, .int 0])))
  have hN5 : z_at G (va_up h (z_b G + 1) (.inr (0, [.int 0, .null, .int 0]))) ((z_b G + 1) + 1) (z_b G + 1) (.inr (0, [.int 0, .null, .int 0])) := z_at.fresh (by omega)
  refine r_dup hX rfl dX8_init_8 ?_
  refine r_callIR (As := []) (rest := [.ref (z_b G + 1), .ref (z_b G)]) (rv := none) (st1 := [.ref (z_b G + 1), .ref (z_b G)]) hX cs_X8_9 (by decide) (fun l => c_Jx4a65c_init_da8c8 l G (va_up h (z_b G + 1) (.inr (0, [.int 0, .null, .int 0]))) ((z_b G + 1) + 1) (z_b G + 1) 0 .null (.int 0) hN5) rfl rfl rfl (Nat.le_of_ble_eq_true rfl) dX8_init_9 ?_
  replace ha := ha.up (e3 := (.inr (0, [.int 0, .ref (z_tE G), .int 0]))) hN5 (by intro z; cases z)
  replace hN5 : z_at G (va_up (va_up h (z_b G + 1) (.inr (0, [.int 0, .null, .int 0]))) (z_b G + 1) (.inr (0, [.int 0, .ref (z_tE G), .int 0]))) ((z_b G + 1) + 1) (z_b G + 1) (.inr (0, [.int 0, .ref (z_tE G), .int 0])) := z_at.self hN5
  refine r_putFA (fs2 := [.ref (z_b G + 1), .null, .null, .null, .null, .null, .null, .int 0, .int 0, .int 0, .int 0, .int 0, .int 0, .int 0]) hX fp_X8_10 ha rfl rfl (Nat.le_of_ble_eq_true rfl) rfl dX8_init_12 ?_
  replace hN5 := hN5.up (e3 := (.inr (9, [.ref (z_b G + 1), .null, .null, .null, .null, .null, .null, .int 0, .int 0, .int 0, .int 0, .int 0, .int 0, .int 0]))) ha (by intro z; cases z)
  replace ha : z_at G (va_up (va_up (va_up h (z_b G + 1) (.inr (0, [.int 0, .null, .int 0]))) (z_b G + 1) (.inr (0, [.int 0, .ref (z_tE G), .int 0]))) (z_b G) (.inr (9, [.ref (z_b G + 1), .null, .null, .null, .null, .null, .null, .int 0, .int 0, .int 0, .int 0, .int 0, .int 0, .int 0]))) ((z_b G + 1) + 1) (z_b G) (.inr (9, [.ref (z_b G + 1), .null, .null, .null, .null, .null, .null, .int 0, .int 0, .int 0, .int 0, .int 0, .int 0, .int 0])) := z_at.self ha
  refine r_aload_n hX rfl 0 rfl dX8_init_15 ?_
  refine r_new hX nw_X8_7 (by omega) dX8_init_16 ?_
  replace ha := ha.new (e2 := (.inr (0, [.int 0, .null, .int 0])))
  replace hN5 := hN5.new (e2 := (.inr (0, [.int 0, .null, .int 0])))
  have hN16 : z_at G (va_up (va_up (va_up (va_up h (z_b G + 1) (.inr (0, [.int 0, .null, .int 0]))) (z_b G + 1) (.inr (0, [.int 0, .ref (z_tE G), .int 0]))) (z_b G) (.inr (9, [.ref (z_b G + 1), .null, .null, .null, .null, .null, .null, .int 0, .int 0, .int 0, .int 0, .int 0, .int 0, .int 0]))) ((z_b G + 1) + 1) (.inr (0, [.int 0, .null, .int 0]))) (((z_b G + 1) + 1) + 1) ((z_b G + 1) + 1) (.inr (0, [.int 0, .null, .int 0])) := z_at.fresh (by omega)
  refine r_dup hX rfl dX8_init_19 ?_
  refine r_callIR (As := []) (rest := [.ref ((z_b G + 1) + 1), .ref (z_b G)]) (rv := none) (st1 := [.ref ((z_b G + 1) + 1), .ref (z_b G)]) hX cs_X8_9 (by decide) (fun l => c_Jx4a65c_init_da8c8 l G (va_up (va_up (va_up (va_up h (z_b G + 1) (.inr (0, [.int 0, .null, .int 0]))) (z_b G + 1) (.inr (0, [.int 0, .ref (z_tE G), .int 0]))) (z_b G) (.inr (9, [.ref (z_b G + 1), .null, .null, .null, .null, .null, .null, .int 0, .int 0, .int 0, .int 0, .int 0, .int 0, .int 0]))) ((z_b G + 1) + 1) (.inr (0, [.int 0, .null, .int 0]))) (((z_b G + 1) + 1) + 1) ((z_b G + 1) + 1) 0 .null (.int 0) hN16) rfl rfl rfl (Nat.le_of_ble_eq_true rfl) dX8_init_20 ?_
  replace ha := ha.up (e3 := (.inr (0, [.int 0, .ref (z_tE G), .int 0]))) hN16 (by intro z; cases z)
  replace hN5 := hN5.up (e3 := (.inr (0, [.int 0, .ref (z_tE G), .int 0]))) hN16 (by intro z; cases z)
  replace hN16 : z_at G (va_up (va_up (va_up (va_up (va_up h (z_b G + 1) (.inr (0, [.int 0, .null, .int 0]))) (z_b G + 1) (.inr (0, [.int 0, .ref (z_tE G), .int 0]))) (z_b G) (.inr (9, [.ref (z_b G + 1), .null, .null, .null, .null, .null, .null, .int 0, .int 0, .int 0, .int 0, .int 0, .int 0, .int 0]))) ((z_b G + 1) + 1) (.inr (0, [.int 0, .null, .int 0]))) ((z_b G + 1) + 1) (.inr (0, [.int 0, .ref (z_tE G), .int 0]))) (((z_b G + 1) + 1) + 1) ((z_b G + 1) + 1) (.inr (0, [.int 0, .ref (z_tE G), .int 0])) := z_at.self hN16
  refine r_putFA (fs2 := [.ref (z_b G + 1), .ref ((z_b G + 1) + 1), .null, .null, .null, .null, .null, .int 0, .int 0, .int 0, .int 0, .int 0, .int 0, .int 0]) hX fp_X8_16 ha rfl rfl (Nat.le_of_ble_eq_true rfl) rfl dX8_init_23 ?_
  replace hN5 := hN5.up (e3 := (.inr (9, [.ref (z_b G + 1), .ref ((z_b G + 1) + 1), .null, .null, .null, .null, .null, .int 0, .int 0, .int 0, .int 0, .int 0, .int 0, .int 0]))) ha (by intro z; cases z)
  replace hN16 := hN16.up (e3 := (.inr (9, [.ref (z_b G + 1), .ref ((z_b G + 1) + 1), .null, .null, .null, .null, .null, .int 0, .int 0, .int 0, .int 0, .int 0, .int 0, .int 0]))) ha (by intro z; cases z)
  replace ha : z_at G (va_up (va_up (va_up (va_up (va_up (va_up h (z_b G + 1) (.inr (0, [.int 0, .null, .int 0]))) (z_b G + 1) (.inr (0, [.int 0, .ref (z_tE G), .int 0]))) (z_b G) (.inr (9, [.ref (z_b G + 1), .null, .null, .null, .null, .null, .null, .int 0, .int 0, .int 0, .int 0, .int 0, .int 0, .int 0]))) ((z_b G + 1) + 1) (.inr (0, [.int 0, .null, .int 0]))) ((z_b G + 1) + 1) (.inr (0, [.int 0, .ref (z_tE G), .int 0]))) (z_b G) (.inr (9, [.ref (z_b G + 1), .ref ((z_b G + 1) + 1), .null, .null, .null, .null, .null, .int 0, .int 0, .int 0, .int 0, .int 0, .int 0, .int 0]))) (((z_b G + 1) + 1) + 1) (z_b G) (.inr (9, [.ref (z_b G + 1), .ref ((z_b G + 1) + 1), .null, .null, .null, .null, .null, .int 0, .int 0, .int 0, .int 0, .int 0, .int 0, .int 0])) := z_at.self ha
  refine r_aload_n hX rfl 0 rfl dX8_init_26 ?_
  refine r_new hX nw_X8_7 (by omega) dX8_init_27 ?_
  replace ha := ha.new (e2 := (.inr (0, [.int 0, .null, .int 0])))
  replace hN5 := hN5.new (e2 := (.inr (0, [.int 0, .null, .int 0])))
  replace hN16 := hN16.new (e2 := (.inr (0, [.int 0, .null, .int 0])))
  have hN27 : z_at G (va_up (va_up (va_up (va_up (va_up (va_up (va_up h (z_b G + 1) (.inr (0, [.int 0, .null, .int 0]))) (z_b G + 1) (.inr (0, [.int 0, .ref (z_tE G), .int 0]))) (z_b G) (.inr (9, [.ref (z_b G + 1), .null, .null, .null, .null, .null, .null, .int 0, .int 0, .int 0, .int 0, .int 0, .int 0, .int 0]))) ((z_b G + 1) + 1) (.inr (0, [.int 0, .null, .int 0]))) ((z_b G + 1) + 1) (.inr (0, [.int 0, .ref (z_tE G), .int 0]))) (z_b G) (.inr (9, [.ref (z_b G + 1), .ref ((z_b G + 1) + 1), .null, .null, .null, .null, .null, .int 0, .int 0, .int 0, .int 0, .int 0, .int 0, .int 0]))) (((z_b G + 1) + 1) + 1) (.inr (0, [.int 0, .null, .int 0]))) ((((z_b G + 1) + 1) + 1) + 1) (((z_b G + 1) + 1) + 1) (.inr (0, [.int 0, .null, .int 0])) := z_at.fresh (by omega)
  refine r_dup hX rfl dX8_init_30 ?_
  refine r_callIR (As := []) (rest := [.ref (((z_b G + 1) + 1) + 1), .ref (z_b G)]) (rv := none) (st1 := [.ref (((z_b G + 1) + 1) + 1), .ref (z_b G)]) hX cs_X8_9 (by decide) (fun l => c_Jx4a65c_init_da8c8 l G (va_up (va_up (va_up (va_up (va_up (va_up (va_up h (z_b G + 1) (.inr (0, [.int 0, .null, .int 0]))) (z_b G + 1) (.inr (0, [.int 0, .ref (z_tE G), .int 0]))) (z_b G) (.inr (9, [.ref (z_b G + 1), .null, .null, .null, .null, .null, .null, .int 0, .int 0, .int 0, .int 0, .int 0, .int 0, .int 0]))) ((z_b G + 1) + 1) (.inr (0, [.int 0, .null, .int 0]))) ((z_b G + 1) + 1) (.inr (0, [.int 0, .ref (z_tE G), .int 0]))) (z_b G) (.inr (9, [.ref (z_b G + 1), .ref ((z_b G + 1) + 1), .null, .null, .null, .null, .null, .int 0, .int 0, .int 0, .int 0, .int 0, .int 0, .int 0]))) (((z_b G + 1) + 1) + 1) (.inr (0, [.int 0, .null, .int 0]))) ((((z_b G + 1) + 1) + 1) + 1) (((z_b G + 1) + 1) + 1) 0 .null (.int 0) hN27) rfl rfl rfl (Nat.le_of_ble_eq_true rfl) dX8_init_31 ?_
  replace ha := ha.up (e3 := (.inr (0, [.int 0, .ref (z_tE G), .int 0]))) hN27 (by intro z; cases z)
  replace hN5 := hN5.up (e3 := (.inr (0, [.int 0, .ref (z_tE G), .int 0]))) hN27 (by intro z; cases z)
  replace hN16 := hN16.up (e3 := (.inr (0, [.int 0, .ref (z_tE G), .int 0]))) hN27 (by intro z; cases z)
  replace hN27 : z_at G (va_up (va_up (va_up (va_up (va_up (va_up (va_up (va_up h (z_b G + 1) (.inr (0, [.int 0, .null, .int 0]))) (z_b G + 1) (.inr (0, [.int 0, .ref (z_tE G), .int 0]))) (z_b G) (.inr (9, [.ref (z_b G + 1), .null, .null, .null, .null, .null, .null, .int 0, .int 0, .int 0, .int 0, .int 0, .int 0, .int 0]))) ((z_b G + 1) + 1) (.inr (0, [.int 0, .null, .int 0]))) ((z_b G + 1) + 1) (.inr (0, [.int 0, .ref (z_tE G), .int 0]))) (z_b G) (.inr (9, [.ref (z_b G + 1), .ref ((z_b G + 1) + 1), .null, .null, .null, .null, .null, .int 0, .int 0, .int 0, .int 0, .int 0, .int 0, .int 0]))) (((z_b G + 1) + 1) + 1) (.inr (0, [.int 0, .null, .int 0]))) (((z_b G + 1) + 1) + 1) (.inr (0, [.int 0, .ref (z_tE G), .int 0]))) ((((z_b G + 1) + 1) + 1) + 1) (((z_b G + 1) + 1) + 1) (.inr (0, [.int 0, .ref (z_tE G), .int 0])) := z_at.self hN27
  refine r_putFA (fs2 := [.ref (z_b G + 1), .ref ((z_b G + 1) + 1), .ref (((z_b G + 1) + 1) + 1), .null, .null, .null, .null, .int 0, .int 0, .int 0, .int 0, .int 0, .int 0, .int 0]) hX fp_X8_19 ha rfl rfl (Nat.le_of_ble_eq_true rfl) rfl dX8_init_34 ?_
  replace hN5 := hN5.up (e3 := (.inr (9, [.ref (z_b G + 1), .ref ((z_b G + 1) + 1), .ref (((z_b G + 1) + 1) + 1), .null, .null, .null, .null, .int 0, .int 0, .int 0, .int 0, .int 0, .int 0, .int 0]))) ha (by intro z; cases z)
  replace hN16 := hN16.up (e3 := (.inr (9, [.ref (z_b G + 1), .ref ((z_b G + 1) + 1), .ref (((z_b G + 1) + 1) + 1), .null, .null, .null, .null, .int 0, .int 0, .int 0, .int 0, .int 0, .int 0, .int 0]))) ha (by intro z; cases z)
  replace hN27 := hN27.up (e3 := (.inr (9, [.ref (z_b G + 1), .ref ((z_b G + 1) + 1), .ref (((z_b G + 1) + 1) + 1), .null, .null, .null, .null, .int 0, .int 0, .int 0, .int 0, .int 0, .int 0, .int 0]))) ha (by intro z; cases z)
  replace ha : z_at G (va_up (va_up (va_up (va_up (va_up (va_up (va_up (va_up (va_up h (z_b G + 1) (.inr (0, [.int 0, .null, .int 0]))) (z_b G + 1) (.inr (0, [.int 0, .ref (z_tE G), .int 0]))) (z_b G) (.inr (9, [.ref (z_b G + 1), .null, .null, .null, .null, .null, .null, .int 0, .int 0, .int 0, .int 0, .int 0, .int 0, .int 0]))) ((z_b G + 1) + 1) (.inr (0, [.int 0, .null, .int 0]))) ((z_b G + 1) + 1) (.inr (0, [.int 0, .ref (z_tE G), .int 0]))) (z_b G) (.inr (9, [.ref (z_b G + 1), .ref ((z_b G + 1) + 1), .null, .null, .null, .null, .null, .int 0, .int 0, .int 0, .int 0, .int 0, .int 0, .int 0]))) (((z_b G + 1) + 1) + 1) (.inr (0, [.int 0, .null, .int 0]))) (((z_b G + 1) + 1) + 1) (.inr (0, [.int 0, .ref (z_tE G), .int 0]))) (z_b G) (.inr (9, [.ref (z_b G + 1), .ref ((z_b G + 1) + 1), .ref (((z_b G + 1) + 1) + 1), .null, .null, .null, .null, .int 0, .int 0, .int 0, .int 0, .int 0, .int 0, .int 0]))) ((((z_b G + 1) + 1) + 1) + 1) (z_b G) (.inr (9, [.ref (z_b G + 1), .ref ((z_b G + 1) + 1), .ref (((z_b G + 1) + 1) + 1), .null, .null, .null, .null, .int 0, .int 0, .int 0, .int 0, .int 0, .int 0, .int 0])) := z_at.self ha
  refine r_aload_n hX rfl 0 rfl dX8_init_37 ?_
  refine r_new hX nw_X8_22 (by omega) dX8_init_38 ?_
  replace ha := ha.new (e2 := (.inr (7, [.null, .null, .int 0])))
  replace hN5 := hN5.new (e2 := (.inr (7, [.null, .null, .int 0])))
  replace hN16 := hN16.new (e2 := (.inr (7, [.null, .null, .int 0])))
  replace hN27 := hN27.new (e2 := (.inr (7, [.null, .null, .int 0])))
  have hN38 : z_at G (va_up (va_up (va_up (va_up (va_up (va_up (va_up (va_up (va_up (va_up h (z_b G + 1) (.inr (0, [.int 0, .null, .int 0]))) (z_b G + 1) (.inr (0, [.int 0, .ref (z_tE G), .int 0]))) (z_b G) (.inr (9, [.ref (z_b G + 1), .null, .null, .null, .null, .null, .null, .int 0, .int 0, .int 0, .int 0, .int 0, .int 0, .int 0]))) ((z_b G + 1) + 1) (.inr (0, [.int 0, .null, .int 0]))) ((z_b G + 1) + 1) (.inr (0, [.int 0, .ref (z_tE G), .int 0]))) (z_b G) (.inr (9, [.ref (z_b G + 1), .ref ((z_b G + 1) + 1), .null, .null, .null, .null, .null, .int 0, .int 0, .int 0, .int 0, .int 0, .int 0, .int 0]))) (((z_b G + 1) + 1) + 1) (.inr (0, [.int 0, .null, .int 0]))) (((z_b G + 1) + 1) + 1) (.inr (0, [.int 0, .ref (z_tE G), .int 0]))) (z_b G) (.inr (9, [.ref (z_b G + 1), .ref ((z_b G + 1) + 1), .ref (((z_b G + 1) + 1) + 1), .null, .null, .null, .null, .int 0, .int 0, .int 0, .int 0, .int 0, .int 0, .int 0]))) ((((z_b G + 1) + 1) + 1) + 1) (.inr (7, [.null, .null, .int 0]))) (((((z_b G + 1) + 1) + 1) + 1) + 1) ((((z_b G + 1) + 1) + 1) + 1) (.inr (7, [.null, .null, .int 0])) := z_at.fresh (by omega)
  refine r_dup hX rfl dX8_init_41 ?_
  refine r_callIN (As := []) (rest := [.ref ((((z_b G + 1) + 1) + 1) + 1), .ref (z_b G)]) hX cs_X8_24 (by decide) (fun l => c_X6_init l G (va_up (va_up (va_up (va_up (va_up (va_up (va_up (va_up (va_up (va_up h (z_b G + 1) (.inr (0, [.int 0, .null, .int 0]))) (z_b G + 1) (.inr (0, [.int 0, .ref (z_tE G), .int 0]))) (z_b G) (.inr (9, [.ref (z_b G + 1), .null, .null, .null, .null, .null, .null, .int 0, .int 0, .int 0, .int 0, .int 0, .int 0, .int 0]))) ((z_b G + 1) + 1) (.inr (0, [.int 0, .null, .int 0]))) ((z_b G + 1) + 1) (.inr (0, [.int 0, .ref (z_tE G), .int 0]))) (z_b G) (.inr (9, [.ref (z_b G + 1), .ref ((z_b G + 1) + 1), .null, .null, .null, .null, .null, .int 0, .int 0, .int 0, .int 0, .int 0, .int 0, .int 0]))) (((z_b G + 1) + 1) + 1) (.inr (0, [.int 0, .null, .int 0]))) (((z_b G + 1) + 1) + 1) (.inr (0, [.int 0, .ref (z_tE G), .int 0]))) (z_b G) (.inr (9, [.ref (z_b G + 1), .ref ((z_b G + 1) + 1), .ref (((z_b G + 1) + 1) + 1), .null, .null, .null, .null, .int 0, .int 0, .int 0, .int 0, .int 0, .int 0, .int 0]))) ((((z_b G + 1) + 1) + 1) + 1) (.inr (7, [.null, .null, .int 0]))) (((((z_b G + 1) + 1) + 1) + 1) + 1) ((((z_b G + 1) + 1) + 1) + 1) (by omega) (by omega) (by omega) hN38) rfl rfl (Nat.le_of_ble_eq_true rfl) dX8_init_42 (fun r1 h1 top1 hp1 => ?_)
  obtain ⟨rfl, rfl, hs1, hc1_0, hc1_1, hf1⟩ := hp1
  replace ha := ha.kp hf1 (by omega) (show (((((z_b G + 1) + 1) + 1) + 1) + 1) ≤ (((((z_b G + 1) + 1) + 1) + 1) + 1) + 2 from Nat.le_add_right _ _)
  replace hN5 := hN5.kp hf1 (by omega) (show (((((z_b G + 1) + 1) + 1) + 1) + 1) ≤ (((((z_b G + 1) + 1) + 1) + 1) + 1) + 2 from Nat.le_add_right _ _)
  replace hN16 := hN16.kp hf1 (by omega) (show (((((z_b G + 1) + 1) + 1) + 1) + 1) ≤ (((((z_b G + 1) + 1) + 1) + 1) + 1) + 2 from Nat.le_add_right _ _)
  replace hN27 := hN27.kp hf1 (by omega) (show (((((z_b G + 1) + 1) + 1) + 1) + 1) ≤ (((((z_b G + 1) + 1) + 1) + 1) + 1) + 2 from Nat.le_add_right _ _)
  refine r_putFA (fs2 := [.ref (z_b G + 1), .ref ((z_b G + 1) + 1), .ref (((z_b G + 1) + 1) + 1), .ref ((((z_b G + 1) + 1) + 1) + 1), .null, .null, .null, .int 0, .int 0, .int 0, .int 0, .int 0, .int 0, .int 0]) hX fp_X8_25 ha rfl rfl (Nat.le_of_ble_eq_true rfl) rfl dX8_init_45 ?_
  replace hN5 := hN5.up (e3 := (.inr (9, [.ref (z_b G + 1), .ref ((z_b G + 1) + 1), .ref (((z_b G + 1) + 1) + 1), .ref ((((z_b G + 1) + 1) + 1) + 1), .null, .null, .null, .int 0, .int 0, .int 0, .int 0, .int 0, .int 0, .int 0]))) ha (by intro z; cases z)
  replace hN16 := hN16.up (e3 := (.inr (9, [.ref (z_b G + 1), .ref ((z_b G + 1) + 1), .ref (((z_b G + 1) + 1) + 1), .ref ((((z_b G + 1) + 1) + 1) + 1), .null, .null, .null, .int 0, .int 0, .int 0, .int 0, .int 0, .int 0, .int 0]))) ha (by intro z; cases z)
  replace hN27 := hN27.up (e3 := (.inr (9, [.ref (z_b G + 1), .ref ((z_b G + 1) + 1), .ref (((z_b G + 1) + 1) + 1), .ref ((((z_b G + 1) + 1) + 1) + 1), .null, .null, .null, .int 0, .int 0, .int 0, .int 0, .int 0, .int 0, .int 0]))) ha (by intro z; cases z)
  replace hs1 := hs1.up (e3 := (.inr (9, [.ref (z_b G + 1), .ref ((z_b G + 1) + 1), .ref (((z_b G + 1) + 1) + 1), .ref ((((z_b G + 1) + 1) + 1) + 1), .null, .null, .null, .int 0, .int 0, .int 0, .int 0, .int 0, .int 0, .int 0]))) ha (by intro z; cases z)
  replace hc1_0 := hc1_0.up (e3 := (.inr (9, [.ref (z_b G + 1), .ref ((z_b G + 1) + 1), .ref (((z_b G + 1) + 1) + 1), .ref ((((z_b G + 1) + 1) + 1) + 1), .null, .null, .null, .int 0, .int 0, .int 0, .int 0, .int 0, .int 0, .int 0]))) ha (by intro z; cases z)
  replace hc1_1 := hc1_1.up (e3 := (.inr (9, [.ref (z_b G + 1), .ref ((z_b G + 1) + 1), .ref (((z_b G + 1) + 1) + 1), .ref ((((z_b G + 1) + 1) + 1) + 1), .null, .null, .null, .int 0, .int 0, .int 0, .int 0, .int 0, .int 0, .int 0]))) ha (by intro z; cases z)
  replace ha : z_at G (va_up h1 (z_b G) (.inr (9, [.ref (z_b G + 1), .ref ((z_b G + 1) + 1), .ref (((z_b G + 1) + 1) + 1), .ref ((((z_b G + 1) + 1) + 1) + 1), .null, .null, .null, .int 0, .int 0, .int 0, .int 0, .int 0, .int 0, .int 0]))) ((((((z_b G + 1) + 1) + 1) + 1) + 1) + 2) (z_b G) (.inr (9, [.ref (z_b G + 1), .ref ((z_b G + 1) + 1), .ref (((z_b G + 1) + 1) + 1), .ref ((((z_b G + 1) + 1) + 1) + 1), .null, .null, .null, .int 0, .int 0, .int 0, .int 0, .int 0, .int 0, .int 0])) := z_at.self ha
  refine r_aload_n hX rfl 0 rfl dX8_init_48 ?_
  refine r_new hX nw_X8_29 (by omega) dX8_init_49 ?_
  replace ha := ha.new (e2 := (.inr (2, [.null, .null, .null, .int 0, .int 0, .int 0])))
  replace hN5 := hN5.new (e2 := (.inr (2, [.null, .null, .null, .int 0, .int 0, .int 0])))
  replace hN16 := hN16.new (e2 := (.inr (2, [.null, .null, .null, .int 0, .int 0, .int 0])))
  replace hN27 := hN27.new (e2 := (.inr (2, [.null, .null, .null, .int 0, .int 0, .int 0])))
  replace hs1 := hs1.new (e2 := (.inr (2, [.null, .null, .null, .int 0, .int 0, .int 0])))
  replace hc1_0 := hc1_0.new (e2 := (.inr (2, [.null, .null, .null, .int 0, .int 0, .int 0])))
  replace hc1_1 := hc1_1.new (e2 := (.inr (2, [.null, .null, .null, .int 0, .int 0, .int 0])))
  have hN49 : z_at G (va_up (va_up h1 (z_b G) (.inr (9, [.ref (z_b G + 1), .ref ((z_b G + 1) + 1), .ref (((z_b G + 1) + 1) + 1), .ref ((((z_b G + 1) + 1) + 1) + 1), .null, .null, .null, .int 0, .int 0, .int 0, .int 0, .int 0, .int 0, .int 0]))) ((((((z_b G + 1) + 1) + 1) + 1) + 1) + 2) (.inr (2, [.null, .null, .null, .int 0, .int 0, .int 0]))) (((((((z_b G + 1) + 1) + 1) + 1) + 1) + 2) + 1) ((((((z_b G + 1) + 1) + 1) + 1) + 1) + 2) (.inr (2, [.null, .null, .null, .int 0, .int 0, .int 0])) := z_at.fresh (by omega)
  refine r_dup hX rfl dX8_init_52 ?_
  refine r_callIN (As := []) (rest := [.ref ((((((z_b G + 1) + 1) + 1) + 1) + 1) + 2), .ref (z_b G)]) hX cs_X8_31 (by decide) (fun l => c_X1_init l G (va_up (va_up h1 (z_b G) (.inr (9, [.ref (z_b G + 1), .ref ((z_b G + 1) + 1), .ref (((z_b G + 1) + 1) + 1), .ref ((((z_b G + 1) + 1) + 1) + 1), .null, .null, .null, .int 0, .int 0, .int 0, .int 0, .int 0, .int 0, .int 0]))) ((((((z_b G + 1) + 1) + 1) + 1) + 1) + 2) (.inr (2, [.null, .null, .null, .int 0, .int 0, .int 0]))) (((((((z_b G + 1) + 1) + 1) + 1) + 1) + 2) + 1) ((((((z_b G + 1) + 1) + 1) + 1) + 1) + 2) (by omega) (by omega) (by omega) hN49) rfl rfl (Nat.le_of_ble_eq_true rfl) dX8_init_53 (fun r2 h2 top2 hp2 => ?_)
  obtain ⟨rfl, rfl, hs2, hc2_0, hc2_1, hc2_2, hf2⟩ := hp2
  replace ha := ha.kp hf2 (by omega) (show (((((((z_b G + 1) + 1) + 1) + 1) + 1) + 2) + 1) ≤ (((((((z_b G + 1) + 1) + 1) + 1) + 1) + 2) + 1) + 3 from Nat.le_add_right _ _)
  replace hN5 := hN5.kp hf2 (by omega) (show (((((((z_b G + 1) + 1) + 1) + 1) + 1) + 2) + 1) ≤ (((((((z_b G + 1) + 1) + 1) + 1) + 1) + 2) + 1) + 3 from Nat.le_add_right _ _)
  replace hN16 := hN16.kp hf2 (by omega) (show (((((((z_b G + 1) + 1) + 1) + 1) + 1) + 2) + 1) ≤ (((((((z_b G + 1) + 1) + 1) + 1) + 1) + 2) + 1) + 3 from Nat.le_add_right _ _)
  replace hN27 := hN27.kp hf2 (by omega) (show (((((((z_b G + 1) + 1) + 1) + 1) + 1) + 2) + 1) ≤ (((((((z_b G + 1) + 1) + 1) + 1) + 1) + 2) + 1) + 3 from Nat.le_add_right _ _)
  replace hs1 := hs1.kp hf2 (by omega) (show (((((((z_b G + 1) + 1) + 1) + 1) + 1) + 2) + 1) ≤ (((((((z_b G + 1) + 1) + 1) + 1) + 1) + 2) + 1) + 3 from Nat.le_add_right _ _)
  replace hc1_0 := hc1_0.kp hf2 (by omega) (show (((((((z_b G + 1) + 1) + 1) + 1) + 1) + 2) + 1) ≤ (((((((z_b G + 1) + 1) + 1) + 1) + 1) + 2) + 1) + 3 from Nat.le_add_right _ _)
  replace hc1_1 := hc1_1.kp hf2 (by omega) (show (((((((z_b G + 1) + 1) + 1) + 1) + 1) + 2) + 1) ≤ (((((((z_b G + 1) + 1) + 1) + 1) + 1) + 2) + 1) + 3 from Nat.le_add_right _ _)
  refine r_putFA (fs2 := [.ref (z_b G + 1), .ref ((z_b G + 1) + 1), .ref (((z_b G + 1) + 1) + 1), .ref ((((z_b G + 1) + 1) + 1) + 1), .ref ((((((z_b G + 1) + 1) + 1) + 1) + 1) + 2), .null, .null, .int 0, .int 0, .int 0, .int 0, .int 0, .int 0, .int 0]) hX fp_X8_32 ha rfl rfl (Nat.le_of_ble_eq_true rfl) rfl dX8_init_56 ?_
  replace hN5 := hN5.up (e3 := (.inr (9, [.ref (z_b G + 1), .ref ((z_b G + 1) + 1), .ref (((z_b G + 1) + 1) + 1), .ref ((((z_b G + 1) + 1) + 1) + 1), .ref ((((((z_b G + 1) + 1) + 1) + 1) + 1) + 2), .null, .null, .int 0, .int 0, .int 0, .int 0, .int 0, .int 0, .int 0]))) ha (by intro z; cases z)
  replace hN16 := hN16.up (e3 := (.inr (9, [.ref (z_b G + 1), .ref ((z_b G + 1) + 1), .ref (((z_b G + 1) + 1) + 1), .ref ((((z_b G + 1) + 1) + 1) + 1), .ref ((((((z_b G + 1) + 1) + 1) + 1) + 1) + 2), .null, .null, .int 0, .int 0, .int 0, .int 0, .int 0, .int 0, .int 0]))) ha (by intro z; cases z)
  replace hN27 := hN27.up (e3 := (.inr (9, [.ref (z_b G + 1), .ref ((z_b G + 1) + 1), .ref (((z_b G + 1) + 1) + 1), .ref ((((z_b G + 1) + 1) + 1) + 1), .ref ((((((z_b G + 1) + 1) + 1) + 1) + 1) + 2), .null, .null, .int 0, .int 0, .int 0, .int 0, .int 0, .int 0, .int 0]))) ha (by intro z; cases z)
  replace hs1 := hs1.up (e3 := (.inr (9, [.ref (z_b G + 1), .ref ((z_b G + 1) + 1), .ref (((z_b G + 1) + 1) + 1), .ref ((((z_b G + 1) + 1) + 1) + 1), .ref ((((((z_b G + 1) + 1) + 1) + 1) + 1) + 2), .null, .null, .int 0, .int 0, .int 0, .int 0, .int 0, .int 0, .int 0]))) ha (by intro z; cases z)
  replace hc1_0 := hc1_0.up (e3 := (.inr (9, [.ref (z_b G + 1), .ref ((z_b G + 1) + 1), .ref (((z_b G + 1) + 1) + 1), .ref ((((z_b G + 1) + 1) + 1) + 1), .ref ((((((z_b G + 1) + 1) + 1) + 1) + 1) + 2), .null, .null, .int 0, .int 0, .int 0, .int 0, .int 0, .int 0, .int 0]))) ha (by intro z; cases z)
  replace hc1_1 := hc1_1.up (e3 := (.inr (9, [.ref (z_b G + 1), .ref ((z_b G + 1) + 1), .ref (((z_b G + 1) + 1) + 1), .ref ((((z_b G + 1) + 1) + 1) + 1), .ref ((((((z_b G + 1) + 1) + 1) + 1) + 1) + 2), .null, .null, .int 0, .int 0, .int 0, .int 0, .int 0, .int 0, .int 0]))) ha (by intro z; cases z)
  replace hs2 := hs2.up (e3 := (.inr (9, [.ref (z_b G + 1), .ref ((z_b G + 1) + 1), .ref (((z_b G + 1) + 1) + 1), .ref ((((z_b G + 1) + 1) + 1) + 1), .ref ((((((z_b G + 1) + 1) + 1) + 1) + 1) + 2), .null, .null, .int 0, .int 0, .int 0, .int 0, .int 0, .int 0, .int 0]))) ha (by intro z; cases z)
  replace hc2_0 := hc2_0.up (e3 := (.inr (9, [.ref (z_b G + 1), .ref ((z_b G + 1) + 1), .ref (((z_b G + 1) + 1) + 1), .ref ((((z_b G + 1) + 1) + 1) + 1), .ref ((((((z_b G + 1) + 1) + 1) + 1) + 1) + 2), .null, .null, .int 0, .int 0, .int 0, .int 0, .int 0, .int 0, .int 0]))) ha (by intro z; cases z)
  replace hc2_1 := hc2_1.up (e3 := (.inr (9, [.ref (z_b G + 1), .ref ((z_b G + 1) + 1), .ref (((z_b G + 1) + 1) + 1), .ref ((((z_b G + 1) + 1) + 1) + 1), .ref ((((((z_b G + 1) + 1) + 1) + 1) + 1) + 2), .null, .null, .int 0, .int 0, .int 0, .int 0, .int 0, .int 0, .int 0]))) ha (by intro z; cases z)
  replace hc2_2 := hc2_2.up (e3 := (.inr (9, [.ref (z_b G + 1), .ref ((z_b G + 1) + 1), .ref (((z_b G + 1) + 1) + 1), .ref ((((z_b G + 1) + 1) + 1) + 1), .ref ((((((z_b G + 1) + 1) + 1) + 1) + 1) + 2), .null, .null, .int 0, .int 0, .int 0, .int 0, .int 0, .int 0, .int 0]))) ha (by intro z; cases z)
  replace ha : z_at G (va_up h2 (z_b G) (.inr (9, [.ref (z_b G + 1), .ref ((z_b G + 1) + 1), .ref (((z_b G + 1) + 1) + 1), .ref ((((z_b G + 1) + 1) + 1) + 1), .ref ((((((z_b G + 1) + 1) + 1) + 1) + 1) + 2), .null, .null, .int 0, .int 0, .int 0, .int 0, .int 0, .int 0, .int 0]))) ((((((((z_b G + 1) + 1) + 1) + 1) + 1) + 2) + 1) + 3) (z_b G) (.inr (9, [.ref (z_b G + 1), .ref ((z_b G + 1) + 1), .ref (((z_b G + 1) + 1) + 1), .ref ((((z_b G + 1) + 1) + 1) + 1), .ref ((((((z_b G + 1) + 1) + 1) + 1) + 1) + 2), .null, .null, .int 0, .int 0, .int 0, .int 0, .int 0, .int 0, .int 0])) := z_at.self ha
  refine r_aload_n hX rfl 0 rfl dX8_init_59 ?_
  refine r_new hX nw_X8_36 (by omega) dX8_init_60 ?_
  replace ha := ha.new (e2 := (.inr (1, [.null, .null, .null, .null, .int 0, .int 0])))
  replace hN5 := hN5.new (e2 := (.inr (1, [.null, .null, .null, .null, .int 0, .int 0])))
  replace hN16 := hN16.new (e2 := (.inr (1, [.null, .null, .null, .null, .int 0, .int 0])))
  replace hN27 := hN27.new (e2 := (.inr (1, [.null, .null, .null, .null, .int 0, .int 0])))
  replace hs1 := hs1.new (e2 := (.inr (1, [.null, .null, .null, .null, .int 0, .int 0])))
  replace hc1_0 := hc1_0.new (e2 := (.inr (1, [.null, .null, .null, .null, .int 0, .int 0])))
  replace hc1_1 := hc1_1.new (e2 := (.inr (1, [.null, .null, .null, .null, .int 0, .int 0])))
  replace hs2 := hs2.new (e2 := (.inr (1, [.null, .null, .null, .null, .int 0, .int 0])))
  replace hc2_0 := hc2_0.new (e2 := (.inr (1, [.null, .null, .null, .null, .int 0, .int 0])))
  replace hc2_1 := hc2_1.new (e2 := (.inr (1, [.null, .null, .null, .null, .int 0, .int 0])))
  replace hc2_2 := hc2_2.new (e2 := (.inr (1, [.null, .null, .null, .null, .int 0, .int 0])))
  have hN60 : z_at G (va_up (va_up h2 (z_b G) (.inr (9, [.ref (z_b G + 1), .ref ((z_b G + 1) + 1), .ref (((z_b G + 1) + 1) + 1), .ref ((((z_b G + 1) + 1) + 1) + 1), .ref ((((((z_b G + 1) + 1) + 1) + 1) + 1) + 2), .null, .null, .int 0, .int 0, .int 0, .int 0, .int 0, .int 0, .int 0]))) ((((((((z_b G + 1) + 1) + 1) + 1) + 1) + 2) + 1) + 3) (.inr (1, [.null, .null, .null, .null, .int 0, .int 0]))) (((((((((z_b G + 1) + 1) + 1) + 1) + 1) + 2) + 1) + 3) + 1) ((((((((z_b G + 1) + 1) + 1) + 1) + 1) + 2) + 1) + 3) (.inr (1, [.null, .null, .null, .null, .int 0, .int 0])) := z_at.fresh (by omega)
  refine r_dup hX rfl dX8_init_63 ?_
  refine r_callIN (As := []) (rest := [.ref ((((((((z_b G + 1) + 1) + 1) + 1) + 1) + 2) + 1) + 3), .ref (z_b G)]) hX cs_X8_38 (by decide) (fun l => c_X0_init l G (va_up (va_up h2 (z_b G) (.inr (9, [.ref (z_b G + 1), .ref ((z_b G + 1) + 1), .ref (((z_b G + 1) + 1) + 1), .ref ((((z_b G + 1) + 1) + 1) + 1), .ref ((((((z_b G + 1) + 1) + 1) + 1) + 1) + 2), .null, .null, .int 0, .int 0, .int 0, .int 0, .int 0, .int 0, .int 0]))) ((((((((z_b G + 1) + 1) + 1) + 1) + 1) + 2) + 1) + 3) (.inr (1, [.null, .null, .null, .null, .int 0, .int 0]))) (((((((((z_b G + 1) + 1) + 1) + 1) + 1) + 2) + 1) + 3) + 1) ((((((((z_b G + 1) + 1) + 1) + 1) + 1) + 2) + 1) + 3) (by omega) (by omega) (by omega) hN60) rfl rfl (Nat.le_of_ble_eq_true rfl) dX8_init_64 (fun r3 h3 top3 hp3 => ?_)
  obtain ⟨rfl, rfl, hs3, hc3_0, hc3_1, hc3_2, hc3_3, hf3⟩ := hp3
  replace ha := ha.kp hf3 (by omega) (show (((((((((z_b G + 1) + 1) + 1) + 1) + 1) + 2) + 1) + 3) + 1) ≤ (((((((((z_b G + 1) + 1) + 1) + 1) + 1) + 2) + 1) + 3) + 1) + 4 from Nat.le_add_right _ _)
  replace hN5 := hN5.kp hf3 (by omega) (show (((((((((z_b G + 1) + 1) + 1) + 1) + 1) + 2) + 1) + 3) + 1) ≤ (((((((((z_b G + 1) + 1) + 1) + 1) + 1) + 2) + 1) + 3) + 1) + 4 from Nat.le_add_right _ _)
  replace hN16 := hN16.kp hf3 (by omega) (show (((((((((z_b G + 1) + 1) + 1) + 1) + 1) + 2) + 1) + 3) + 1) ≤ (((((((((z_b G + 1) + 1) + 1) + 1) + 1) + 2) + 1) + 3) + 1) + 4 from Nat.le_add_right _ _)
  replace hN27 := hN27.kp hf3 (by omega) (show (((((((((z_b G + 1) + 1) + 1) + 1) + 1) + 2) + 1) + 3) + 1) ≤ (((((((((z_b G + 1) + 1) + 1) + 1) + 1) + 2) + 1) + 3) + 1) + 4 from Nat.le_add_right _ _)
  replace hs1 := hs1.kp hf3 (by omega) (show (((((((((z_b G + 1) + 1) + 1) + 1) + 1) + 2) + 1) + 3) + 1) ≤ (((((((((z_b G + 1) + 1) + 1) + 1) + 1) + 2) + 1) + 3) + 1) + 4 from Nat.le_add_right _ _)
  replace hc1_0 := hc1_0.kp hf3 (by omega) (show (((((((((z_b G + 1) + 1) + 1) + 1) + 1) + 2) + 1) + 3) + 1) ≤ (((((((((z_b G + 1) + 1) + 1) + 1) + 1) + 2) + 1) + 3) + 1) + 4 from Nat.le_add_right _ _)
  replace hc1_1 := hc1_1.kp hf3 (by omega) (show (((((((((z_b G + 1) + 1) + 1) + 1) + 1) + 2) + 1) + 3) + 1) ≤ (((((((((z_b G + 1) + 1) + 1) + 1) + 1) + 2) + 1) + 3) + 1) + 4 from Nat.le_add_right _ _)
  replace hs2 := hs2.kp hf3 (by omega) (show (((((((((z_b G + 1) + 1) + 1) + 1) + 1) + 2) + 1) + 3) + 1) ≤ (((((((((z_b G + 1) + 1) + 1) + 1) + 1) + 2) + 1) + 3) + 1) + 4 from Nat.le_add_right _ _)
  replace hc2_0 := hc2_0.kp hf3 (by omega) (show (((((((((z_b G + 1) + 1) + 1) + 1) + 1) + 2) + 1) + 3) + 1) ≤ (((((((((z_b G + 1) + 1) + 1) + 1) + 1) + 2) + 1) + 3) + 1) + 4 from Nat.le_add_right _ _)
  replace hc2_1 := hc2_1.kp hf3 (by omega) (show (((((((((z_b G + 1) + 1) + 1) + 1) + 1) + 2) + 1) + 3) + 1) ≤ (((((((((z_b G + 1) + 1) + 1) + 1) + 1) + 2) + 1) + 3) + 1) + 4 from Nat.le_add_right _ _)
  replace hc2_2 := hc2_2.kp hf3 (by omega) (show (((((((((z_b G + 1) + 1) + 1) + 1) + 1) + 2) + 1) + 3) + 1) ≤ (((((((((z_b G + 1) + 1) + 1) + 1) + 1) + 2) + 1) + 3) + 1) + 4 from Nat.le_add_right _ _)
  refine r_putFA (fs2 := [.ref (z_b G + 1), .ref ((z_b G + 1) + 1), .ref (((z_b G + 1) + 1) + 1), .ref ((((z_b G + 1) + 1) + 1) + 1), .ref ((((((z_b G + 1) + 1) + 1) + 1) + 1) + 2), .ref ((((((((z_b G + 1) + 1) + 1) + 1) + 1) + 2) + 1) + 3), .null, .int 0, .int 0, .int 0, .int 0, .int 0, .int 0, .int 0]) hX fp_X8_39 ha rfl rfl (Nat.le_of_ble_eq_true rfl) rfl dX8_init_67 ?_
  replace hN5 := hN5.up (e3 := (.inr (9, [.ref (z_b G + 1), .ref ((z_b G + 1) + 1), .ref (((z_b G + 1) + 1) + 1), .ref ((((z_b G + 1) + 1) + 1) + 1), .ref ((((((z_b G + 1) + 1) + 1) + 1) + 1) + 2), .ref ((((((((z_b G + 1) + 1) + 1) + 1) + 1) + 2) + 1) + 3), .null, .int 0, .int 0, .int 0, .int 0, .int 0, .int 0, .int 0]))) ha (by intro z; cases z)
  replace hN16 := hN16.up (e3 := (.inr (9, [.ref (z_b G + 1), .ref ((z_b G + 1) + 1), .ref (((z_b G + 1) + 1) + 1), .ref ((((z_b G + 1) + 1) + 1) + 1), .ref ((((((z_b G + 1) + 1) + 1) + 1) + 1) + 2), .ref ((((((((z_b G + 1) + 1) + 1) + 1) + 1) + 2) + 1) + 3), .null, .int 0, .int 0, .int 0, .int 0, .int 0, .int 0, .int 0]))) ha (by intro z; cases z)
  replace hN27 := hN27.up (e3 := (.inr (9, [.ref (z_b G + 1), .ref ((z_b G + 1) + 1), .ref (((z_b G + 1) + 1) + 1), .ref ((((z_b G + 1) + 1) + 1) + 1), .ref ((((((z_b G + 1) + 1) + 1) + 1) + 1) + 2), .ref ((((((((z_b G + 1) + 1) + 1) + 1) + 1) + 2) + 1) + 3), .null, .int 0, .int 0, .int 0, .int 0, .int 0, .int 0, .int 0]))) ha (by intro z; cases z)
  replace hs1 := hs1.up (e3 := (.inr (9, [.ref (z_b G + 1), .ref ((z_b G + 1) + 1), .ref (((z_b G + 1) + 1) + 1), .ref ((((z_b G + 1) + 1) + 1) + 1), .ref ((((((z_b G + 1) + 1) + 1) + 1) + 1) + 2), .ref ((((((((z_b G + 1) + 1) + 1) + 1) + 1) + 2) + 1) + 3), .null, .int 0, .int 0, .int 0, .int 0, .int 0, .int 0, .int 0]))) ha (by intro z; cases z)
  replace hc1_0 := hc1_0.up (e3 := (.inr (9, [.ref (z_b G + 1), .ref ((z_b G + 1) + 1), .ref (((z_b G + 1) + 1) + 1), .ref ((((z_b G + 1) + 1) + 1) + 1), .ref ((((((z_b G + 1) + 1) + 1) + 1) + 1) + 2), .ref ((((((((z_b G + 1) + 1) + 1) + 1) + 1) + 2) + 1) + 3), .null, .int 0, .int 0, .int 0, .int 0, .int 0, .int 0, .int 0]))) ha (by intro z; cases z)
  replace hc1_1 := hc1_1.up (e3 := (.inr (9, [.ref (z_b G + 1), .ref ((z_b G + 1) + 1), .ref (((z_b G + 1) + 1) + 1), .ref ((((z_b G + 1) + 1) + 1) + 1), .ref ((((((z_b G + 1) + 1) + 1) + 1) + 1) + 2), .ref ((((((((z_b G + 1) + 1) + 1) + 1) + 1) + 2) + 1) + 3), .null, .int 0, .int 0, .int 0, .int 0, .int 0, .int 0, .int 0]))) ha (by intro z; cases z)
  replace hs2 := hs2.up (e3 := (.inr (9, [.ref (z_b G + 1), .ref ((z_b G + 1) + 1), .ref (((z_b G + 1) + 1) + 1), .ref ((((z_b G + 1) + 1) + 1) + 1), .ref ((((((z_b G + 1) + 1) + 1) + 1) + 1) + 2), .ref ((((((((z_b G + 1) + 1) + 1) + 1) + 1) + 2) + 1) + 3), .null, .int 0, .int 0, .int 0, .int 0, .int 0, .int 0, .int 0]))) ha (by intro z; cases z)
  replace hc2_0 := hc2_0.up (e3 := (.inr (9, [.ref (z_b G + 1), .ref ((z_b G + 1) + 1), .ref (((z_b G + 1) + 1) + 1), .ref ((((z_b G + 1) + 1) + 1) + 1), .ref ((((((z_b G + 1) + 1) + 1) + 1) + 1) + 2), .ref ((((((((z_b G + 1) + 1) + 1) + 1) + 1) + 2) + 1) + 3), .null, .int 0, .int 0, .int 0, .int 0, .int 0, .int 0, .int 0]))) ha (by intro z; cases z)
  replace hc2_1 := hc2_1.up (e3 := (.inr (9, [.ref (z_b G + 1), .ref ((z_b G + 1) + 1), .ref (((z_b G + 1) + 1) + 1), .ref ((((z_b G + 1) + 1) + 1) + 1), .ref ((((((z_b G + 1) + 1) + 1) + 1) + 1) + 2), .ref ((((((((z_b G + 1) + 1) + 1) + 1) + 1) + 2) + 1) + 3), .null, .int 0, .int 0, .int 0, .int 0, .int 0, .int 0, .int 0]))) ha (by intro z; cases z)
  replace hc2_2 := hc2_2.up (e3 := (.inr (9, [.ref (z_b G + 1), .ref ((z_b G + 1) + 1), .ref (((z_b G + 1) + 1) + 1), .ref ((((z_b G + 1) + 1) + 1) + 1), .ref ((((((z_b G + 1) + 1) + 1) + 1) + 1) + 2), .ref ((((((((z_b G + 1) + 1) + 1) + 1) + 1) + 2) + 1) + 3), .null, .int 0, .int 0, .int 0, .int 0, .int 0, .int 0, .int 0]))) ha (by intro z; cases z)
  replace hs3 := hs3.up (e3 := (.inr (9, [.ref (z_b G + 1), .ref ((z_b G + 1) + 1), .ref (((z_b G + 1) + 1) + 1), .ref ((((z_b G + 1) + 1) + 1) + 1), .ref ((((((z_b G + 1) + 1) + 1) + 1) + 1) + 2), .ref ((((((((z_b G + 1) + 1) + 1) + 1) + 1) + 2) + 1) + 3), .null, .int 0, .int 0, .int 0, .int 0, .int 0, .int 0, .int 0]))) ha (by intro z; cases z)
  replace hc3_0 := hc3_0.up (e3 := (.inr (9, [.ref (z_b G + 1), .ref ((z_b G + 1) + 1), .ref (((z_b G + 1) + 1) + 1), .ref ((((z_b G + 1) + 1) + 1) + 1), .ref ((((((z_b G + 1) + 1) + 1) + 1) + 1) + 2), .ref ((((((((z_b G + 1) + 1) + 1) + 1) + 1) + 2) + 1) + 3), .null, .int 0, .int 0, .int 0, .int 0, .int 0, .int 0, .int 0]))) ha (by intro z; cases z)
  replace hc3_1 := hc3_1.up (e3 := (.inr (9, [.ref (z_b G + 1), .ref ((z_b G + 1) + 1), .ref (((z_b G + 1) + 1) + 1), .ref ((((z_b G + 1) + 1) + 1) + 1), .ref ((((((z_b G + 1) + 1) + 1) + 1) + 1) + 2), .ref ((((((((z_b G + 1) + 1) + 1) + 1) + 1) + 2) + 1) + 3), .null, .int 0, .int 0, .int 0, .int 0, .int 0, .int 0, .int 0]))) ha (by intro z; cases z)
  replace hc3_2 := hc3_2.up (e3 := (.inr (9, [.ref (z_b G + 1), .ref ((z_b G + 1) + 1), .ref (((z_b G + 1) + 1) + 1), .ref ((((z_b G + 1) + 1) + 1) + 1), .ref ((((((z_b G + 1) + 1) + 1) + 1) + 1) + 2), .ref ((((((((z_b G + 1) + 1) + 1) + 1) + 1) + 2) + 1) + 3), .null, .int 0, .int 0, .int 0, .int 0, .int 0, .int 0, .int 0]))) ha (by intro z; cases z)
  replace hc3_3 := hc3_3.up (e3 := (.inr (9, [.ref (z_b G + 1), .ref ((z_b G + 1) + 1), .ref (((z_b G + 1) + 1) + 1), .ref ((((z_b G + 1) + 1) + 1) + 1), .ref ((((((z_b G + 1) + 1) + 1) + 1) + 1) + 2), .ref ((((((((z_b G + 1) + 1) + 1) + 1) + 1) + 2) + 1) + 3), .null, .int 0, .int 0, .int 0, .int 0, .int 0, .int 0, .int 0]))) ha (by intro z; cases z)
  replace ha : z_at G (va_up h3 (z_b G) (.inr (9, [.ref (z_b G + 1), .ref ((z_b G + 1) + 1), .ref (((z_b G + 1) + 1) + 1), .ref ((((z_b G + 1) + 1) + 1) + 1), .ref ((((((z_b G + 1) + 1) + 1) + 1) + 1) + 2), .ref ((((((((z_b G + 1) + 1) + 1) + 1) + 1) + 2) + 1) + 3), .null, .int 0, .int 0, .int 0, .int 0, .int 0, .int 0, .int 0]))) ((((((((((z_b G + 1) + 1) + 1) + 1) + 1) + 2) + 1) + 3) + 1) + 4) (z_b G) (.inr (9, [.ref (z_b G + 1), .ref ((z_b G + 1) + 1), .ref (((z_b G + 1) + 1) + 1), .ref ((((z_b G + 1) + 1) + 1) + 1), .ref ((((((z_b G + 1) + 1) + 1) + 1) + 1) + 2), .ref ((((((((z_b G + 1) + 1) + 1) + 1) + 1) + 2) + 1) + 3), .null, .int 0, .int 0, .int 0, .int 0, .int 0, .int 0, .int 0])) := z_at.self ha
  refine r_aload_n hX rfl 0 rfl dX8_init_70 ?_
  refine r_bipush (v := 8) hX (by decide) dX8_init_71 ?_
  refine r_newi (N := 8) hX kw_ai (by decide) (by decide) (by decide) (by omega) dX8_init_73 ?_
  replace ha := ha.new (e2 := (.inl (z_aI G, 8, .inl (fun _ => 0))))
  replace hN5 := hN5.new (e2 := (.inl (z_aI G, 8, .inl (fun _ => 0))))
  replace hN16 := hN16.new (e2 := (.inl (z_aI G, 8, .inl (fun _ => 0))))
  replace hN27 := hN27.new (e2 := (.inl (z_aI G, 8, .inl (fun _ => 0))))
  replace hs1 := hs1.new (e2 := (.inl (z_aI G, 8, .inl (fun _ => 0))))
  replace hc1_0 := hc1_0.new (e2 := (.inl (z_aI G, 8, .inl (fun _ => 0))))
  replace hc1_1 := hc1_1.new (e2 := (.inl (z_aI G, 8, .inl (fun _ => 0))))
  replace hs2 := hs2.new (e2 := (.inl (z_aI G, 8, .inl (fun _ => 0))))
  replace hc2_0 := hc2_0.new (e2 := (.inl (z_aI G, 8, .inl (fun _ => 0))))
  replace hc2_1 := hc2_1.new (e2 := (.inl (z_aI G, 8, .inl (fun _ => 0))))
  replace hc2_2 := hc2_2.new (e2 := (.inl (z_aI G, 8, .inl (fun _ => 0))))
  replace hs3 := hs3.new (e2 := (.inl (z_aI G, 8, .inl (fun _ => 0))))
  replace hc3_0 := hc3_0.new (e2 := (.inl (z_aI G, 8, .inl (fun _ => 0))))
  replace hc3_1 := hc3_1.new (e2 := (.inl (z_aI G, 8, .inl (fun _ => 0))))
  replace hc3_2 := hc3_2.new (e2 := (.inl (z_aI G, 8, .inl (fun _ => 0))))
  replace hc3_3 := hc3_3.new (e2 := (.inl (z_aI G, 8, .inl (fun _ => 0))))
  have hN73 : z_at G (va_up (va_up h3 (z_b G) (.inr (9, [.ref (z_b G + 1), .ref ((z_b G + 1) + 1), .ref (((z_b G + 1) + 1) + 1), .ref ((((z_b G + 1) + 1) + 1) + 1), .ref ((((((z_b G + 1) + 1) + 1) + 1) + 1) + 2), .ref ((((((((z_b G + 1) + 1) + 1) + 1) + 1) + 2) + 1) + 3), .null, .int 0, .int 0, .int 0, .int 0, .int 0, .int 0, .int 0]))) ((((((((((z_b G + 1) + 1) + 1) + 1) + 1) + 2) + 1) + 3) + 1) + 4) (.inl (z_aI G, 8, .inl (fun _ => 0)))) (((((((((((z_b G + 1) + 1) + 1) + 1) + 1) + 2) + 1) + 3) + 1) + 4) + 1) ((((((((((z_b G + 1) + 1) + 1) + 1) + 1) + 2) + 1) + 3) + 1) + 4) (.inl (z_aI G, 8, .inl (fun _ => 0))) := z_at.fresh (by omega)
  refine r_putFA (fs2 := [.ref (z_b G + 1), .ref ((z_b G + 1) + 1), .ref (((z_b G + 1) + 1) + 1), .ref ((((z_b G + 1) + 1) + 1) + 1), .ref ((((((z_b G + 1) + 1) + 1) + 1) + 1) + 2), .ref ((((((((z_b G + 1) + 1) + 1) + 1) + 1) + 2) + 1) + 3), .ref ((((((((((z_b G + 1) + 1) + 1) + 1) + 1) + 2) + 1) + 3) + 1) + 4), .int 0, .int 0, .int 0, .int 0, .int 0, .int 0, .int 0]) hX fp_X8_43 ha rfl rfl (Nat.le_of_ble_eq_true rfl) rfl dX8_init_75 ?_
  replace hN5 := hN5.up (e3 := (.inr (9, [.ref (z_b G + 1), .ref ((z_b G + 1) + 1), .ref (((z_b G + 1) + 1) + 1), .ref ((((z_b G + 1) + 1) + 1) + 1), .ref ((((((z_b G + 1) + 1) + 1) + 1) + 1) + 2), .ref ((((((((z_b G + 1) + 1) + 1) + 1) + 1) + 2) + 1) + 3), .ref ((((((((((z_b G + 1) + 1) + 1) + 1) + 1) + 2) + 1) + 3) + 1) + 4), .int 0, .int 0, .int 0, .int 0, .int 0, .int 0, .int 0]))) ha (by intro z; cases z)
  replace hN16 := hN16.up (e3 := (.inr (9, [.ref (z_b G + 1), .ref ((z_b G + 1) + 1), .ref (((z_b G + 1) + 1) + 1), .ref ((((z_b G + 1) + 1) + 1) + 1), .ref ((((((z_b G + 1) + 1) + 1) + 1) + 1) + 2), .ref ((((((((z_b G + 1) + 1) + 1) + 1) + 1) + 2) + 1) + 3), .ref ((((((((((z_b G + 1) + 1) + 1) + 1) + 1) + 2) + 1) + 3) + 1) + 4), .int 0, .int 0, .int 0, .int 0, .int 0, .int 0, .int 0]))) ha (by intro z; cases z)
  replace hN27 := hN27.up (e3 := (.inr (9, [.ref (z_b G + 1), .ref ((z_b G + 1) + 1), .ref (((z_b G + 1) + 1) + 1), .ref ((((z_b G + 1) + 1) + 1) + 1), .ref ((((((z_b G + 1) + 1) + 1) + 1) + 1) + 2), .ref ((((((((z_b G + 1) + 1) + 1) + 1) + 1) + 2) + 1) + 3), .ref ((((((((((z_b G + 1) + 1) + 1) + 1) + 1) + 2) + 1) + 3) + 1) + 4), .int 0, .int 0, .int 0, .int 0, .int 0, .int 0, .int 0]))) ha (by intro z; cases z)
  replace hs1 := hs1.up (e3 := (.inr (9, [.ref (z_b G + 1), .ref ((z_b G + 1) + 1), .ref (((z_b G + 1) + 1) + 1), .ref ((((z_b G + 1) + 1) + 1) + 1), .ref ((((((z_b G + 1) + 1) + 1) + 1) + 1) + 2), .ref ((((((((z_b G + 1) + 1) + 1) + 1) + 1) + 2) + 1) + 3), .ref ((((((((((z_b G + 1) + 1) + 1) + 1) + 1) + 2) + 1) + 3) + 1) + 4), .int 0, .int 0, .int 0, .int 0, .int 0, .int 0, .int 0]))) ha (by intro z; cases z)
  replace hc1_0 := hc1_0.up (e3 := (.inr (9, [.ref (z_b G + 1), .ref ((z_b G + 1) + 1), .ref (((z_b G + 1) + 1) + 1), .ref ((((z_b G + 1) + 1) + 1) + 1), .ref ((((((z_b G + 1) + 1) + 1) + 1) + 1) + 2), .ref ((((((((z_b G + 1) + 1) + 1) + 1) + 1) + 2) + 1) + 3), .ref ((((((((((z_b G + 1) + 1) + 1) + 1) + 1) + 2) + 1) + 3) + 1) + 4), .int 0, .int 0, .int 0, .int 0, .int 0, .int 0, .int 0]))) ha (by intro z; cases z)
  replace hc1_1 := hc1_1.up (e3 := (.inr (9, [.ref (z_b G + 1), .ref ((z_b G + 1) + 1), .ref (((z_b G + 1) + 1) + 1), .ref ((((z_b G + 1) + 1) + 1) + 1), .ref ((((((z_b G + 1) + 1) + 1) + 1) + 1) + 2), .ref ((((((((z_b G + 1) + 1) + 1) + 1) + 1) + 2) + 1) + 3), .ref ((((((((((z_b G + 1) + 1) + 1) + 1) + 1) + 2) + 1) + 3) + 1) + 4), .int 0, .int 0, .int 0, .int 0, .int 0, .int 0, .int 0]))) ha (by intro z; cases z)
  replace hs2 := hs2.up (e3 := (.inr (9, [.ref (z_b G + 1), .ref ((z_b G + 1) + 1), .ref (((z_b G + 1) + 1) + 1), .ref ((((z_b G + 1) + 1) + 1) + 1), .ref ((((((z_b G + 1) + 1) + 1) + 1) + 1) + 2), .ref ((((((((z_b G + 1) + 1) + 1) + 1) + 1) + 2) + 1) + 3), .ref ((((((((((z_b G + 1) + 1) + 1) + 1) + 1) + 2) + 1) + 3) + 1) + 4), .int 0, .int 0, .int 0, .int 0, .int 0, .int 0, .int 0]))) ha (by intro z; cases z)
  replace hc2_0 := hc2_0.up (e3 := (.inr (9, [.ref (z_b G + 1), .ref ((z_b G + 1) + 1), .ref (((z_b G + 1) + 1) + 1), .ref ((((z_b G + 1) + 1) + 1) + 1), .ref ((((((z_b G + 1) + 1) + 1) + 1) + 1) + 2), .ref ((((((((z_b G + 1) + 1) + 1) + 1) + 1) + 2) + 1) + 3), .ref ((((((((((z_b G + 1) + 1) + 1) + 1) + 1) + 2) + 1) + 3) + 1) + 4), .int 0, .int 0, .int 0, .int 0, .int 0, .int 0, .int 0]))) ha (by intro z; cases z)
  replace hc2_1 := hc2_1.up (e3 := (.inr (9, [.ref (z_b G + 1), .ref ((z_b G + 1) + 1), .ref (((z_b G + 1) + 1) + 1), .ref ((((z_b G + 1) + 1) + 1) + 1), .ref ((((((z_b G + 1) + 1) + 1) + 1) + 1) + 2), .ref ((((((((z_b G + 1) + 1) + 1) + 1) + 1) + 2) + 1) + 3), .ref ((((((((((z_b G + 1) + 1) + 1) + 1) + 1) + 2) + 1) + 3) + 1) + 4), .int 0, .int 0, .int 0, .int 0, .int 0, .int 0, .int 0]))) ha (by intro z; cases z)
  replace hc2_2 := hc2_2.up (e3 := (.inr (9, [.ref (z_b G + 1), .ref ((z_b G + 1) + 1), .ref (((z_b G + 1) + 1) + 1), .ref ((((z_b G + 1) + 1) + 1) + 1), .ref ((((((z_b G + 1) + 1) + 1) + 1) + 1) + 2), .ref ((((((((z_b G + 1) + 1) + 1) + 1) + 1) + 2) + 1) + 3), .ref ((((((((((z_b G + 1) + 1) + 1) + 1) + 1) + 2) + 1) + 3) + 1) + 4), .int 0, .int 0, .int 0, .int 0, .int 0, .int 0, .int 0]))) ha (by intro z; cases z)
  replace hs3 := hs3.up (e3 := (.inr (9, [.ref (z_b G + 1), .ref ((z_b G + 1) + 1), .ref (((z_b G + 1) + 1) + 1), .ref ((((z_b G + 1) + 1) + 1) + 1), .ref ((((((z_b G + 1) + 1) + 1) + 1) + 1) + 2), .ref ((((((((z_b G + 1) + 1) + 1) + 1) + 1) + 2) + 1) + 3), .ref ((((((((((z_b G + 1) + 1) + 1) + 1) + 1) + 2) + 1) + 3) + 1) + 4), .int 0, .int 0, .int 0, .int 0, .int 0, .int 0, .int 0]))) ha (by intro z; cases z)
  replace hc3_0 := hc3_0.up (e3 := (.inr (9, [.ref (z_b G + 1), .ref ((z_b G + 1) + 1), .ref (((z_b G + 1) + 1) + 1), .ref ((((z_b G + 1) + 1) + 1) + 1), .ref ((((((z_b G + 1) + 1) + 1) + 1) + 1) + 2), .ref ((((((((z_b G + 1) + 1) + 1) + 1) + 1) + 2) + 1) + 3), .ref ((((((((((z_b G + 1) + 1) + 1) + 1) + 1) + 2) + 1) + 3) + 1) + 4), .int 0, .int 0, .int 0, .int 0, .int 0, .int 0, .int 0]))) ha (by intro z; cases z)
  replace hc3_1 := hc3_1.up (e3 := (.inr (9, [.ref (z_b G + 1), .ref ((z_b G + 1) + 1), .ref (((z_b G + 1) + 1) + 1), .ref ((((z_b G + 1) + 1) + 1) + 1), .ref ((((((z_b G + 1) + 1) + 1) + 1) + 1) + 2), .ref ((((((((z_b G + 1) + 1) + 1) + 1) + 1) + 2) + 1) + 3), .ref ((((((((((z_b G + 1) + 1) + 1) + 1) + 1) + 2) + 1) + 3) + 1) + 4), .int 0, .int 0, .int 0, .int 0, .int 0, .int 0, .int 0]))) ha (by intro z; cases z)
  replace hc3_2 := hc3_2.up (e3 := (.inr (9, [.ref (z_b G + 1), .ref ((z_b G + 1) + 1), .ref (((z_b G + 1) + 1) + 1), .ref ((((z_b G + 1) + 1) + 1) + 1), .ref ((((((z_b G + 1) + 1) + 1) + 1) + 1) + 2), .ref ((((((((z_b G + 1) + 1) + 1) + 1) + 1) + 2) + 1) + 3), .ref ((((((((((z_b G + 1) + 1) + 1) + 1) + 1) + 2) + 1) + 3) + 1) + 4), .int 0, .int 0, .int 0, .int 0, .int 0, .int 0, .int 0]))) ha (by intro z; cases z)
  replace hc3_3 := hc3_3.up (e3 := (.inr (9, [.ref (z_b G + 1), .ref ((z_b G + 1) + 1), .ref (((z_b G + 1) + 1) + 1), .ref ((((z_b G + 1) + 1) + 1) + 1), .ref ((((((z_b G + 1) + 1) + 1) + 1) + 1) + 2), .ref ((((((((z_b G + 1) + 1) + 1) + 1) + 1) + 2) + 1) + 3), .ref ((((((((((z_b G + 1) + 1) + 1) + 1) + 1) + 2) + 1) + 3) + 1) + 4), .int 0, .int 0, .int 0, .int 0, .int 0, .int 0, .int 0]))) ha (by intro z; cases z)
  replace hN73 := hN73.up (e3 := (.inr (9, [.ref (z_b G + 1), .ref ((z_b G + 1) + 1), .ref (((z_b G + 1) + 1) + 1), .ref ((((z_b G + 1) + 1) + 1) + 1), .ref ((((((z_b G + 1) + 1) + 1) + 1) + 1) + 2), .ref ((((((((z_b G + 1) + 1) + 1) + 1) + 1) + 2) + 1) + 3), .ref ((((((((((z_b G + 1) + 1) + 1) + 1) + 1) + 2) + 1) + 3) + 1) + 4), .int 0, .int 0, .int 0, .int 0, .int 0, .int 0, .int 0]))) ha (by intro z; cases z)
  replace ha : z_at G (va_up (va_up (va_up h3 (z_b G) (.inr (9, [.ref (z_b G + 1), .ref ((z_b G + 1) + 1), .ref (((z_b G + 1) + 1) + 1), .ref ((((z_b G + 1) + 1) + 1) + 1), .ref ((((((z_b G + 1) + 1) + 1) + 1) + 1) + 2), .ref ((((((((z_b G + 1) + 1) + 1) + 1) + 1) + 2) + 1) + 3), .null, .int 0, .int 0, .int 0, .int 0, .int 0, .int 0, .int 0]))) ((((((((((z_b G + 1) + 1) + 1) + 1) + 1) + 2) + 1) + 3) + 1) + 4) (.inl (z_aI G, 8, .inl (fun _ => 0)))) (z_b G) (.inr (9, [.ref (z_b G + 1), .ref ((z_b G + 1) + 1), .ref (((z_b G + 1) + 1) + 1), .ref ((((z_b G + 1) + 1) + 1) + 1), .ref ((((((z_b G + 1) + 1) + 1) + 1) + 1) + 2), .ref ((((((((z_b G + 1) + 1) + 1) + 1) + 1) + 2) + 1) + 3), .ref ((((((((((z_b G + 1) + 1) + 1) + 1) + 1) + 2) + 1) + 3) + 1) + 4), .int 0, .int 0, .int 0, .int 0, .int 0, .int 0, .int 0]))) (((((((((((z_b G + 1) + 1) + 1) + 1) + 1) + 2) + 1) + 3) + 1) + 4) + 1) (z_b G) (.inr (9, [.ref (z_b G + 1), .ref ((z_b G + 1) + 1), .ref (((z_b G + 1) + 1) + 1), .ref ((((z_b G + 1) + 1) + 1) + 1), .ref ((((((z_b G + 1) + 1) + 1) + 1) + 1) + 2), .ref ((((((((z_b G + 1) + 1) + 1) + 1) + 1) + 2) + 1) + 3), .ref ((((((((((z_b G + 1) + 1) + 1) + 1) + 1) + 2) + 1) + 3) + 1) + 4), .int 0, .int 0, .int 0, .int 0, .int 0, .int 0, .int 0])) := z_at.self ha
  refine r_aload_n hX rfl 0 rfl dX8_init_78 ?_
  refine r_sipush (v := 300) hX (by decide) dX8_init_79 ?_
  refine r_putU (fs2 := [.ref (z_b G + 1), .ref ((z_b G + 1) + 1), .ref (((z_b G + 1) + 1) + 1), .ref ((((z_b G + 1) + 1) + 1) + 1), .ref ((((((z_b G + 1) + 1) + 1) + 1) + 1) + 2), .ref ((((((((z_b G + 1) + 1) + 1) + 1) + 1) + 2) + 1) + 3), .ref ((((((((((z_b G + 1) + 1) + 1) + 1) + 1) + 2) + 1) + 3) + 1) + 4), .int 0, .int 0, .int 300, .int 0, .int 0, .int 0, .int 0]) hX fp_X8_47 ha rfl rfl (Nat.le_of_ble_eq_true rfl) rfl dX8_init_82 ?_
  try replace hN5 := z_at.u2 (e3 := (.inr (9, [.ref (z_b G + 1), .ref ((z_b G + 1) + 1), .ref (((z_b G + 1) + 1) + 1), .ref ((((z_b G + 1) + 1) + 1) + 1), .ref ((((((z_b G + 1) + 1) + 1) + 1) + 1) + 2), .ref ((((((((z_b G + 1) + 1) + 1) + 1) + 1) + 2) + 1) + 3), .ref ((((((((((z_b G + 1) + 1) + 1) + 1) + 1) + 2) + 1) + 3) + 1) + 4), .int 0, .int 0, .int 300, .int 0, .int 0, .int 0, .int 0]))) hN5 ha (by intro z; cases z)
  try replace hN16 := z_at.u2 (e3 := (.inr (9, [.ref (z_b G + 1), .ref ((z_b G + 1) + 1), .ref (((z_b G + 1) + 1) + 1), .ref ((((z_b G + 1) + 1) + 1) + 1), .ref ((((((z_b G + 1) + 1) + 1) + 1) + 1) + 2), .ref ((((((((z_b G + 1) + 1) + 1) + 1) + 1) + 2) + 1) + 3), .ref ((((((((((z_b G + 1) + 1) + 1) + 1) + 1) + 2) + 1) + 3) + 1) + 4), .int 0, .int 0, .int 300, .int 0, .int 0, .int 0, .int 0]))) hN16 ha (by intro z; cases z)
  try replace hN27 := z_at.u2 (e3 := (.inr (9, [.ref (z_b G + 1), .ref ((z_b G + 1) + 1), .ref (((z_b G + 1) + 1) + 1), .ref ((((z_b G + 1) + 1) + 1) + 1), .ref ((((((z_b G + 1) + 1) + 1) + 1) + 1) + 2), .ref ((((((((z_b G + 1) + 1) + 1) + 1) + 1) + 2) + 1) + 3), .ref ((((((((((z_b G + 1) + 1) + 1) + 1) + 1) + 2) + 1) + 3) + 1) + 4), .int 0, .int 0, .int 300, .int 0, .int 0, .int 0, .int 0]))) hN27 ha (by intro z; cases z)
  try replace hs1 := z_at.u2 (e3 := (.inr (9, [.ref (z_b G + 1), .ref ((z_b G + 1) + 1), .ref (((z_b G + 1) + 1) + 1), .ref ((((z_b G + 1) + 1) + 1) + 1), .ref ((((((z_b G + 1) + 1) + 1) + 1) + 1) + 2), .ref ((((((((z_b G + 1) + 1) + 1) + 1) + 1) + 2) + 1) + 3), .ref ((((((((((z_b G + 1) + 1) + 1) + 1) + 1) + 2) + 1) + 3) + 1) + 4), .int 0, .int 0, .int 300, .int 0, .int 0, .int 0, .int 0]))) hs1 ha (by intro z; cases z)
  try replace hc1_0 := z_at.u2 (e3 := (.inr (9, [.ref (z_b G + 1), .ref ((z_b G + 1) + 1), .ref (((z_b G + 1) + 1) + 1), .ref ((((z_b G + 1) + 1) + 1) + 1), .ref ((((((z_b G + 1) + 1) + 1) + 1) + 1) + 2), .ref ((((((((z_b G + 1) + 1) + 1) + 1) + 1) + 2) + 1) + 3), .ref ((((((((((z_b G + 1) + 1) + 1) + 1) + 1) + 2) + 1) + 3) + 1) + 4), .int 0, .int 0, .int 300, .int 0, .int 0, .int 0, .int 0]))) hc1_0 ha (by intro z; cases z)
  try replace hc1_1 := z_at.u2 (e3 := (.inr (9, [.ref (z_b G + 1), .ref ((z_b G + 1) + 1), .ref (((z_b G + 1) + 1) + 1), .ref ((((z_b G + 1) + 1) + 1) + 1), .ref ((((((z_b G + 1) + 1) + 1) + 1) + 1) + 2), .ref ((((((((z_b G + 1) + 1) + 1) + 1) + 1) + 2) + 1) + 3), .ref ((((((((((z_b G + 1) + 1) + 1) + 1) + 1) + 2) + 1) + 3) + 1) + 4), .int 0, .int 0, .int 300, .int 0, .int 0, .int 0, .int 0]))) hc1_1 ha (by intro z; cases z)
  try replace hs2 := z_at.u2 (e3 := (.inr (9, [.ref (z_b G + 1), .ref ((z_b G + 1) + 1), .ref (((z_b G + 1) + 1) + 1), .ref ((((z_b G + 1) + 1) + 1) + 1), .ref ((((((z_b G + 1) + 1) + 1) + 1) + 1) + 2), .ref ((((((((z_b G + 1) + 1) + 1) + 1) + 1) + 2) + 1) + 3), .ref ((((((((((z_b G + 1) + 1) + 1) + 1) + 1) + 2) + 1) + 3) + 1) + 4), .int 0, .int 0, .int 300, .int 0, .int 0, .int 0, .int 0]))) hs2 ha (by intro z; cases z)
  try replace hc2_0 := z_at.u2 (e3 := (.inr (9, [.ref (z_b G + 1), .ref ((z_b G + 1) + 1), .ref (((z_b G + 1) + 1) + 1), .ref ((((z_b G + 1) + 1) + 1) + 1), .ref ((((((z_b G + 1) + 1) + 1) + 1) + 1) + 2), .ref ((((((((z_b G + 1) + 1) + 1) + 1) + 1) + 2) + 1) + 3), .ref ((((((((((z_b G + 1) + 1) + 1) + 1) + 1) + 2) + 1) + 3) + 1) + 4), .int 0, .int 0, .int 300, .int 0, .int 0, .int 0, .int 0]))) hc2_0 ha (by intro z; cases z)
  try replace hc2_1 := z_at.u2 (e3 := (.inr (9, [.ref (z_b G + 1), .ref ((z_b G + 1) + 1), .ref (((z_b G + 1) + 1) + 1), .ref ((((z_b G + 1) + 1) + 1) + 1), .ref ((((((z_b G + 1) + 1) + 1) + 1) + 1) + 2), .ref ((((((((z_b G + 1) + 1) + 1) + 1) + 1) + 2) + 1) + 3), .ref ((((((((((z_b G + 1) + 1) + 1) + 1) + 1) + 2) + 1) + 3) + 1) + 4), .int 0, .int 0, .int 300, .int 0, .int 0, .int 0, .int 0]))) hc2_1 ha (by intro z; cases z)
  try replace hc2_2 := z_at.u2 (e3 := (.inr (9, [.ref (z_b G + 1), .ref ((z_b G + 1) + 1), .ref (((z_b G + 1) + 1) + 1), .ref ((((z_b G + 1) + 1) + 1) + 1), .ref ((((((z_b G + 1) + 1) + 1) + 1) + 1) + 2), .ref ((((((((z_b G + 1) + 1) + 1) + 1) + 1) + 2) + 1) + 3), .ref ((((((((((z_b G + 1) + 1) + 1) + 1) + 1) + 2) + 1) + 3) + 1) + 4), .int 0, .int 0, .int 300, .int 0, .int 0, .int 0, .int 0]))) hc2_2 ha (by intro z; cases z)
  try replace hs3 := z_at.u2 (e3 := (.inr (9, [.ref (z_b G + 1), .ref ((z_b G + 1) + 1), .ref (((z_b G + 1) + 1) + 1), .ref ((((z_b G + 1) + 1) + 1) + 1), .ref ((((((z_b G + 1) + 1) + 1) + 1) + 1) + 2), .ref ((((((((z_b G + 1) + 1) + 1) + 1) + 1) + 2) + 1) + 3), .ref ((((((((((z_b G + 1) + 1) + 1) + 1) + 1) + 2) + 1) + 3) + 1) + 4), .int 0, .int 0, .int 300, .int 0, .int 0, .int 0, .int 0]))) hs3 ha (by intro z; cases z)
  try replace hc3_0 := z_at.u2 (e3 := (.inr (9, [.ref (z_b G + 1), .ref ((z_b G + 1) + 1), .ref (((z_b G + 1) + 1) + 1), .ref ((((z_b G + 1) + 1) + 1) + 1), .ref ((((((z_b G + 1) + 1) + 1) + 1) + 1) + 2), .ref ((((((((z_b G + 1) + 1) + 1) + 1) + 1) + 2) + 1) + 3), .ref ((((((((((z_b G + 1) + 1) + 1) + 1) + 1) + 2) + 1) + 3) + 1) + 4), .int 0, .int 0, .int 300, .int 0, .int 0, .int 0, .int 0]))) hc3_0 ha (by intro z; cases z)
  try replace hc3_1 := z_at.u2 (e3 := (.inr (9, [.ref (z_b G + 1), .ref ((z_b G + 1) + 1), .ref (((z_b G + 1) + 1) + 1), .ref ((((z_b G + 1) + 1) + 1) + 1), .ref ((((((z_b G + 1) + 1) + 1) + 1) + 1) + 2), .ref ((((((((z_b G + 1) + 1) + 1) + 1) + 1) + 2) + 1) + 3), .ref ((((((((((z_b G + 1) + 1) + 1) + 1) + 1) + 2) + 1) + 3) + 1) + 4), .int 0, .int 0, .int 300, .int 0, .int 0, .int 0, .int 0]))) hc3_1 ha (by intro z; cases z)
  try replace hc3_2 := z_at.u2 (e3 := (.inr (9, [.ref (z_b G + 1), .ref ((z_b G + 1) + 1), .ref (((z_b G + 1) + 1) + 1), .ref ((((z_b G + 1) + 1) + 1) + 1), .ref ((((((z_b G + 1) + 1) + 1) + 1) + 1) + 2), .ref ((((((((z_b G + 1) + 1) + 1) + 1) + 1) + 2) + 1) + 3), .ref ((((((((((z_b G + 1) + 1) + 1) + 1) + 1) + 2) + 1) + 3) + 1) + 4), .int 0, .int 0, .int 300, .int 0, .int 0, .int 0, .int 0]))) hc3_2 ha (by intro z; cases z)
  try replace hc3_3 := z_at.u2 (e3 := (.inr (9, [.ref (z_b G + 1), .ref ((z_b G + 1) + 1), .ref (((z_b G + 1) + 1) + 1), .ref ((((z_b G + 1) + 1) + 1) + 1), .ref ((((((z_b G + 1) + 1) + 1) + 1) + 1) + 2), .ref ((((((((z_b G + 1) + 1) + 1) + 1) + 1) + 2) + 1) + 3), .ref ((((((((((z_b G + 1) + 1) + 1) + 1) + 1) + 2) + 1) + 3) + 1) + 4), .int 0, .int 0, .int 300, .int 0, .int 0, .int 0, .int 0]))) hc3_3 ha (by intro z; cases z)
  try replace hN73 := z_at.u2 (e3 := (.inr (9, [.ref (z_b G + 1), .ref ((z_b G + 1) + 1), .ref (((z_b G + 1) + 1) + 1), .ref ((((z_b G + 1) + 1) + 1) + 1), .ref ((((((z_b G + 1) + 1) + 1) + 1) + 1) + 2), .ref ((((((((z_b G + 1) + 1) + 1) + 1) + 1) + 2) + 1) + 3), .ref ((((((((((z_b G + 1) + 1) + 1) + 1) + 1) + 2) + 1) + 3) + 1) + 4), .int 0, .int 0, .int 300, .int 0, .int 0, .int 0, .int 0]))) hN73 ha (by intro z; cases z)
  replace ha : z_at G (va_up (va_up (va_up h3 (z_b G) (.inr (9, [.ref (z_b G + 1), .ref ((z_b G + 1) + 1), .ref (((z_b G + 1) + 1) + 1), .ref ((((z_b G + 1) + 1) + 1) + 1), .ref ((((((z_b G + 1) + 1) + 1) + 1) + 1) + 2), .ref ((((((((z_b G + 1) + 1) + 1) + 1) + 1) + 2) + 1) + 3), .null, .int 0, .int 0, .int 0, .int 0, .int 0, .int 0, .int 0]))) ((((((((((z_b G + 1) + 1) + 1) + 1) + 1) + 2) + 1) + 3) + 1) + 4) (.inl (z_aI G, 8, .inl (fun _ => 0)))) (z_b G) (.inr (9, [.ref (z_b G + 1), .ref ((z_b G + 1) + 1), .ref (((z_b G + 1) + 1) + 1), .ref ((((z_b G + 1) + 1) + 1) + 1), .ref ((((((z_b G + 1) + 1) + 1) + 1) + 1) + 2), .ref ((((((((z_b G + 1) + 1) + 1) + 1) + 1) + 2) + 1) + 3), .ref ((((((((((z_b G + 1) + 1) + 1) + 1) + 1) + 2) + 1) + 3) + 1) + 4), .int 0, .int 0, .int 300, .int 0, .int 0, .int 0, .int 0]))) (((((((((((z_b G + 1) + 1) + 1) + 1) + 1) + 2) + 1) + 3) + 1) + 4) + 1) (z_b G) (.inr (9, [.ref (z_b G + 1), .ref ((z_b G + 1) + 1), .ref (((z_b G + 1) + 1) + 1), .ref ((((z_b G + 1) + 1) + 1) + 1), .ref ((((((z_b G + 1) + 1) + 1) + 1) + 1) + 2), .ref ((((((((z_b G + 1) + 1) + 1) + 1) + 1) + 2) + 1) + 3), .ref ((((((((((z_b G + 1) + 1) + 1) + 1) + 1) + 2) + 1) + 3) + 1) + 4), .int 0, .int 0, .int 300, .int 0, .int 0, .int 0, .int 0])) := z_at.uu ha
  exact r_vret hX hq ⟨rfl, by omega, z_St_0 htE (by omega) (fun off ho => by
        rcases (show off = 0 ∨ off = 1 ∨ off = 2 ∨ off = 3 ∨ off = 4 ∨ off = 5 ∨ off = 6 ∨ off = 7 ∨ off = 8 ∨ off = 9 ∨ off = 10 ∨ off = 11 ∨ off = 12 ∨ off = 13 ∨ off = 14 ∨ off = 15 ∨ off = 16 by omega) with rfl | rfl | rfl | rfl | rfl | rfl | rfl | rfl | rfl | rfl | rfl | rfl | rfl | rfl | rfl | rfl | rfl
        · exact ha
        · exact hN5
        · exact hN16
        · exact hN27
        · exact hs1
        · exact hc1_0
        · exact hc1_1
        · exact hs2
        · exact hc2_0
        · exact hc2_1
        · exact hc2_2
        · exact hs3
        · exact hc3_0
        · exact hc3_1
        · exact hc3_2
        · exact hc3_3
        · exact hN73)⟩ dX8_init_85

