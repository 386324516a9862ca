/-! ArrayList: reads and makings -/
set_option maxRecDepth 20000 in
set_option maxHeartbeats 4000000 in
theorem c_Jxa1e45_init_da8c8 (l : Launch) (G : zG) (h : zH) (top : Nat) (a : Nat) : z_Ct l yJxa1e45_init_da8c8 cJxa1e45_init_da8c8 1 none 1 G [.ref a] h top (z_R none h top) := by
  refine z_of (own := RJxa1e45) (nm := "<init>") (by decide) rfl rfl (by decide) (Nat.le_of_ble_eq_true rfl) (fun X hX hq => ?_)
  replace hX : z_ok X cJxa1e45_init_da8c8 1 RJxa1e45 none "<init>" 1 G := hX
  show z_Z X h top 0 [(0, .ref a)] []
  refine r_aload_n hX rfl 0 rfl dJxa1e45_init_da8c8_0 ?_
  refine r_objInit hX oi_Jxa1e45_1 kw_oi1 kw_oi2 (by decide) dJxa1e45_init_da8c8_1 ?_
  exact r_vret hX hq ⟨rfl, rfl, rfl⟩ dJxa1e45_init_da8c8_4

set_option maxRecDepth 20000 in
set_option maxHeartbeats 4000000 in
theorem c_Jxc12de_init_da8c8 (l : Launch) (G : zG) (h : zH) (top : Nat) (a : Nat) (m : Int32) (v1 v2 : Value) (ha : z_at G h top a (.inr (0, [.int m, v1, v2]))) : z_Ct l yJxc12de_init_da8c8 cJxc12de_init_da8c8 1 none 2 G [.ref a] h top (z_R none (va_up h a (.inr (0, [.int 0, v1, v2]))) top) := by
  refine z_of (own := RJxc12de) (nm := "<init>") (by decide) rfl rfl (by decide) (Nat.le_of_ble_eq_true rfl) (fun X hX hq => ?_)
  replace hX : z_ok X cJxc12de_init_da8c8 1 RJxc12de none "<init>" 2 G := hX
  show z_Z X h top 0 [(0, .ref a)] []
  refine r_aload_n hX rfl 0 rfl dJxc12de_init_da8c8_0 ?_
  refine r_callIR (As := []) (rest := []) (rv := none) (st1 := []) hX cs_Jxc12de_1 (by decide) (fun l => c_Jxa1e45_init_da8c8 l G h top a) rfl rfl rfl (Nat.le_of_ble_eq_true rfl) dJxc12de_init_da8c8_1 ?_
  refine r_aload_n hX rfl 0 rfl dJxc12de_init_da8c8_4 ?_
  refine r_iconst (v := 0) hX (by decide) dJxc12de_init_da8c8_5 ?_
  refine r_put (fs2 := [.int 0, v1, v2]) hX fp_Jxc12de_7 ha rfl rfl (Nat.le_of_ble_eq_true rfl) rfl dJxc12de_init_da8c8_6 ?_
  replace ha : z_at G (va_up h a (.inr (0, [.int 0, v1, v2]))) top a (.inr (0, [.int 0, v1, v2])) := z_at.self ha
  exact r_vret hX hq ⟨rfl, rfl, rfl⟩ dJxc12de_init_da8c8_9

set_option maxRecDepth 20000 in
set_option maxHeartbeats 4000000 in
theorem c_Jx4a65c_init_da8c8 (l : Launch) (G : zG) (h : zH) (top : Nat) (a : Nat) (m : Int32) (v1 v2 : Value) (ha : z_at G h top a (.inr (0, [.int m, v1, v2]))) : z_Ct l yJx4a65c_init_da8c8 cJx4a65c_init_da8c8 1 none 3 G [.ref a] h top (z_R none (va_up h a (.inr (0, [.int 0, .ref (z_tE G), v2]))) top) := by
  refine z_of (own := RJx4a65c) (nm := "<init>") (by decide) rfl rfl (by decide) (Nat.le_of_ble_eq_true rfl) (fun X hX hq => ?_)
  replace hX : z_ok X cJx4a65c_init_da8c8 1 RJx4a65c none "<init>" 3 G := hX
  show z_Z X h top 0 [(0, .ref a)] []
  refine r_aload_n hX rfl 0 rfl dJx4a65c_init_da8c8_0 ?_
  refine r_callIR (As := []) (rest := []) (rv := none) (st1 := []) hX cs_Jx4a65c_1 (by decide) (fun l => c_Jxc12de_init_da8c8 l G h top a m v1 v2 ha) rfl rfl rfl (Nat.le_of_ble_eq_true rfl) dJx4a65c_init_da8c8_1 ?_
  replace ha : z_at G (va_up h a (.inr (0, [.int 0, v1, v2]))) top a (.inr (0, [.int 0, v1, v2])) := z_at.self ha
  refine r_aload_n hX rfl 0 rfl dJx4a65c_init_da8c8_4 ?_
  refine r_getsE hX kw_getsE_39 dJx4a65c_init_da8c8_5 ?_
  refine r_putU (fs2 := [.int 0, .ref (z_tE G), v2]) hX fp_Jx4a65c_9 ha rfl rfl (Nat.le_of_ble_eq_true rfl) rfl dJx4a65c_init_da8c8_8 ?_
  replace ha : z_at G (va_up h a (.inr (0, [.int 0, .ref (z_tE G), v2]))) top a (.inr (0, [.int 0, .ref (z_tE G), v2])) := z_at.uu ha
  exact r_vret hX hq ⟨rfl, rfl, rfl⟩ dJx4a65c_init_da8c8_11

set_option maxRecDepth 20000 in
set_option maxHeartbeats 4000000 in
theorem c_Jx4a65c_size_8abf5 (l : Launch) (G : zG) (h : zH) (top : Nat) (a e : Nat) (m k : Int32) (ha : z_at G h top a (.inr (0, [.int m, .ref e, .int k]))) : z_Ct l yJx4a65c_size_8abf5 cJx4a65c_size_8abf5 1 (some .int) 1 G [.ref a] h top (z_R (some (.int k)) h top) := by
  refine z_of (own := RJx4a65c) (nm := "size") (by decide) rfl rfl (by decide) (Nat.le_of_ble_eq_true rfl) (fun X hX hq => ?_)
  replace hX : z_ok X cJx4a65c_size_8abf5 1 RJx4a65c (some .int) "size" 1 G := hX
  show z_Z X h top 0 [(0, .ref a)] []
  refine r_aload_n hX rfl 0 rfl dJx4a65c_size_8abf5_0 ?_
  refine r_getf hX fl_Jx4a65c_48 ha rfl dJx4a65c_size_8abf5_1 ?_
  exact r_iret hX hq ⟨rfl, rfl, rfl⟩ dJx4a65c_size_8abf5_4

set_option maxRecDepth 20000 in
set_option maxHeartbeats 4000000 in
theorem c_J3_checkIndex_8e157 (l : Launch) (G : zG) (h : zH) (top : Nat) (i k : Int32) (h1 : ¬ i < 0) (h2 : i < k) : z_Ct l yJ3_checkIndex_8e157 cJ3_checkIndex_8e157 3 (some .int) 1 G [.int i, .int k, .null] h top (z_R (some (.int i)) h top) := by
  refine z_of (own := RJ3) (nm := "checkIndex") (by decide) rfl rfl (by decide) (Nat.le_of_ble_eq_true rfl) (fun X hX hq => ?_)
  replace hX : z_ok X cJ3_checkIndex_8e157 3 RJ3 (some .int) "checkIndex" 1 G := hX
  show z_Z X h top 0 [(0, .int i), (1, .int k), (2, .null)] []
  refine r_iload_n hX rfl 0 rfl dJ3_checkIndex_8e157_0 ?_
  refine r_if_lt (tgt := 9) hX dJ3_checkIndex_8e157_1 rfl (fun c => False.elim (absurd c (fun z => h1 z))) (fun _ => ?_)
  refine r_iload_n hX rfl 0 rfl dJ3_checkIndex_8e157_4 ?_
  refine r_iload_n hX rfl 1 rfl dJ3_checkIndex_8e157_5 ?_
  refine r_icmp_lt (tgt := 16) hX dJ3_checkIndex_8e157_6 rfl (fun _ => ?_) (fun c => False.elim (c h2))
  refine r_iload_n hX rfl 0 rfl dJ3_checkIndex_8e157_16 ?_
  exact r_iret hX hq ⟨rfl, rfl, rfl⟩ dJ3_checkIndex_8e157_17

set_option maxRecDepth 20000 in
set_option maxHeartbeats 4000000 in
theorem c_J15_checkIndex_7cf53 (l : Launch) (G : zG) (h : zH) (top : Nat) (i k : Int32) (h1 : ¬ i < 0) (h2 : i < k) : z_Ct l yJ15_checkIndex_7cf53 cJ15_checkIndex_7cf53 2 (some .int) 2 G [.int i, .int k] h top (z_R (some (.int i)) h top) := by
  refine z_of (own := RJ15) (nm := "checkIndex") (by decide) rfl rfl (by decide) (Nat.le_of_ble_eq_true rfl) (fun X hX hq => ?_)
  replace hX : z_ok X cJ15_checkIndex_7cf53 2 RJ15 (some .int) "checkIndex" 2 G := hX
  show z_Z X h top 0 [(0, .int i), (1, .int k)] []
  refine r_iload_n hX rfl 0 rfl dJ15_checkIndex_7cf53_0 ?_
  refine r_iload_n hX rfl 1 rfl dJ15_checkIndex_7cf53_1 ?_
  refine r_null hX dJ15_checkIndex_7cf53_2 ?_
  refine r_callSR (As := [.int i, .int k, .null]) (rest := []) (rv := some (.int i)) (st1 := [.int i]) hX cs_J15_105 (by decide) (fun l => c_J3_checkIndex_8e157 l G h top i k h1 h2) rfl rfl rfl (Nat.le_of_ble_eq_true rfl) dJ15_checkIndex_7cf53_3 ?_
  exact r_iret hX hq ⟨rfl, rfl, rfl⟩ dJ15_checkIndex_7cf53_6

set_option maxRecDepth 20000 in
set_option maxHeartbeats 4000000 in
theorem c_Jx4a65c_elementData_915e3 (l : Launch) (G : zG) (h : zH) (top : Nat) (a e cap x : Nat) (m k i : Int32) (f : Nat → Option Nat) (ha : z_at G h top a (.inr (0, [.int m, .ref e, .int k]))) (he : z_at G h top e (.inl (z_aO G, cap, .inr (.inr (.inr (.inr f)))))) (hin : vp_in i cap) (hf : va_rf (f i.toNatClampNeg) = .ref x) : z_Ct l yJx4a65c_elementData_915e3 cJx4a65c_elementData_915e3 2 (some (.object "java/lang/Object")) 1 G [.ref a, .int i] h top (z_R (some (.ref x)) h top) := by
  refine z_of (own := RJx4a65c) (nm := "elementData") (by decide) rfl rfl (by decide) (Nat.le_of_ble_eq_true rfl) (fun X hX hq => ?_)
  replace hX : z_ok X cJx4a65c_elementData_915e3 2 RJx4a65c (some (.object "java/lang/Object")) "elementData" 1 G := hX
  show z_Z X h top 0 [(0, .ref a), (1, .int i)] []
  refine r_aload_n hX rfl 0 rfl dJx4a65c_elementData_915e3_0 ?_
  refine r_getf hX fl_Jx4a65c_9 ha rfl dJx4a65c_elementData_915e3_1 ?_
  refine r_iload_n hX rfl 1 rfl dJx4a65c_elementData_915e3_4 ?_
  refine r_aald (v := .ref x) hX he hin hf dJx4a65c_elementData_915e3_5 ?_
  exact r_aret hX rfl (Or.inl ⟨_, rfl⟩) hq (Or.inr ⟨_, rfl⟩) ⟨rfl, rfl, rfl⟩ dJx4a65c_elementData_915e3_6

set_option maxRecDepth 20000 in
set_option maxHeartbeats 4000000 in
theorem c_Jx4a65c_get_915e3 (l : Launch) (G : zG) (h : zH) (top : Nat) (a e cap x : Nat) (m k i : Int32) (f : Nat → Option Nat) (ha : z_at G h top a (.inr (0, [.int m, .ref e, .int k]))) (he : z_at G h top e (.inl (z_aO G, cap, .inr (.inr (.inr (.inr f)))))) (h1 : ¬ i < 0) (h2 : i < k) (hin : vp_in i cap) (hf : va_rf (f i.toNatClampNeg) = .ref x) : z_Ct l yJx4a65c_get_915e3 cJx4a65c_get_915e3 2 (some (.object "java/lang/Object")) 3 G [.ref a, .int i] h top (z_R (some (.ref x)) h top) := by
  refine z_of (own := RJx4a65c) (nm := "get") (by decide) rfl rfl (by decide) (Nat.le_of_ble_eq_true rfl) (fun X hX hq => ?_)
  replace hX : z_ok X cJx4a65c_get_915e3 2 RJx4a65c (some (.object "java/lang/Object")) "get" 3 G := hX
  show z_Z X h top 0 [(0, .ref a), (1, .int i)] []
  refine r_iload_n hX rfl 1 rfl dJx4a65c_get_915e3_0 ?_
  refine r_aload_n hX rfl 0 rfl dJx4a65c_get_915e3_1 ?_
  refine r_getf hX fl_Jx4a65c_48 ha rfl dJx4a65c_get_915e3_2 ?_
  refine r_callSR (As := [.int i, .int k]) (rest := []) (rv := some (.int i)) (st1 := [.int i]) hX cs_Jx4a65c_118 (by decide) (fun l => c_J15_checkIndex_7cf53 l G h top i k h1 h2) rfl rfl rfl (Nat.le_of_ble_eq_true rfl) dJx4a65c_get_915e3_5 ?_
  refine r_pop hX rfl dJx4a65c_get_915e3_8 ?_
  refine r_aload_n hX rfl 0 rfl dJx4a65c_get_915e3_9 ?_
  refine r_iload_n hX rfl 1 rfl dJx4a65c_get_915e3_10 ?_
  refine r_callVR (As := [.int i]) (rest := []) (rv := some (.ref x)) (st1 := [.ref x]) hX cs_Jx4a65c_123 (by decide) (fun l => c_Jx4a65c_elementData_915e3 l G h top a e cap x m k i f ha he hin hf) ha rfl rfl rfl rfl (Nat.le_of_ble_eq_true rfl) dJx4a65c_get_915e3_11 ?_
  exact r_aret hX rfl (Or.inl ⟨_, rfl⟩) hq (Or.inr ⟨_, rfl⟩) ⟨rfl, rfl, rfl⟩ dJx4a65c_get_915e3_14

