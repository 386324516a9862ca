/-! the ledger -/
def zm_share (l : zL6) (o : Nat) (c sg : Int32) : zL6 := (upd l.1 (nI o).toNatClampNeg (l.1 (nI o).toNatClampNeg + sg * (c - c / 20)), l.2.1, l.2.2.1, l.2.2.2.1 + sg * (c / 20), l.2.2.2.2.1, l.2.2.2.2.2)
def zm_pl (d v o : Nat) : Nat := (d * 8 + v) * 4 + o
def zm_receive (l : zL6) (k o : Nat) (c : Int32) : zL6 := zm_share (l.1, l.2.1, upd l.2.2.1 (nI k).toNatClampNeg c, l.2.2.2.1, l.2.2.2.2.1 + c, l.2.2.2.2.2) o c 1
def zm_giveBack (l : zL6) (k o : Nat) (c : Int32) : Int32 × zL6 := if c < l.2.2.1 (nI k).toNatClampNeg then (l.2.2.1 (nI k).toNatClampNeg - c, (fun m : zL6 => (m.1, m.2.1, upd m.2.2.1 (nI k).toNatClampNeg c, m.2.2.2.1, m.2.2.2.2.1, m.2.2.2.2.2 + (l.2.2.1 (nI k).toNatClampNeg - c))) (zm_share (zm_share l o (l.2.2.1 (nI k).toNatClampNeg) (-1)) o c 1)) else (0, l)
abbrev zs_L (s : zS) (l : zL6) : zS := (s.1, l, s.2.2)
theorem zm_pl_eq (d v o : Nat) : (nI d * 8 + nI v) * 4 + nI o = nI (zm_pl d v o) := by
  unfold zm_pl nI
  rw [Int32.ofNat_add, Int32.ofNat_mul, Int32.ofNat_add, Int32.ofNat_mul]
  rfl
theorem zm_pl_lt {d v o : Nat} (h1 : d < 41) (h2 : v < 8) (h3 : o < 4) : zm_pl d v o < 1312 := by unfold zm_pl; omega
set_option maxRecDepth 20000 in
set_option maxHeartbeats 4000000 in
theorem c_X1_placeOf (l : Launch) (G : zG) (h : zH) (top : Nat) (a b c : Int32) : z_Ct l yX1_placeOf cX1_placeOf 3 (some .int) 1 G [.int a, .int b, .int c] h top (z_R (some (.int ((a * 8 + b) * 4 + c))) h top) := by
  refine z_of (own := RX1) (nm := "placeOf") (by decide) rfl rfl (by decide) (Nat.le_of_ble_eq_true rfl) (fun X hX hq => ?_)
  replace hX : z_ok X cX1_placeOf 3 RX1 (some .int) "placeOf" 1 G := hX
  show z_Z X h top 0 [(0, .int a), (1, .int b), (2, .int c)] []
  refine r_iload_n hX rfl 0 rfl dX1_placeOf_0 ?_
  refine r_bipush (v := 8) hX (by decide) dX1_placeOf_1 ?_
  refine r_imul hX dX1_placeOf_3 ?_
  refine r_iload_n hX rfl 1 rfl dX1_placeOf_4 ?_
  refine r_iadd hX dX1_placeOf_5 ?_
  refine r_iconst (v := 4) hX (by decide) dX1_placeOf_6 ?_
  refine r_imul hX dX1_placeOf_7 ?_
  refine r_iload_n hX rfl 2 rfl dX1_placeOf_8 ?_
  refine r_iadd hX dX1_placeOf_9 ?_
  exact r_iret hX hq ⟨rfl, rfl, rfl⟩ dX1_placeOf_10

set_option maxRecDepth 20000 in
set_option maxHeartbeats 4000000 in
theorem c_X1_coinsOf (l : Launch) (G : zG) (h : zH) (top : Nat) (s : zS) (be : zB) (H : z_St G s be h top) (o : Nat) (ho : o < 4) : z_Ct l yX1_coinsOf cX1_coinsOf 2 (some .int) 1 G [.ref (z_b G + 7), .int (nI o)] h top (z_R (some (.int (s_coins s (nI o).toNatClampNeg))) h top) := by
  refine z_of (own := RX1) (nm := "coinsOf") (by decide) rfl rfl (by decide) (Nat.le_of_ble_eq_true rfl) (fun X hX hq => ?_)
  replace hX : z_ok X cX1_coinsOf 2 RX1 (some .int) "coinsOf" 1 G := hX
  show z_Z X h top 0 [(0, .ref (z_b G + 7)), (1, .int (nI o))] []
  have hlg := H.lg
  have hco := H.coins
  have hca := H.caps
  have hpa := H.paid
  refine r_iload_n hX rfl 1 rfl dX1_coinsOf_0 ?_
  refine r_if_lt (tgt := 22) hX dX1_coinsOf_1 rfl (fun c => False.elim (nI_pos (by omega) c)) (fun _ => ?_)
  refine r_iload_n hX rfl 1 rfl dX1_coinsOf_4 ?_
  refine r_aload_n hX rfl 0 rfl dX1_coinsOf_5 ?_
  refine r_getf hX fl_X1_9 hlg rfl dX1_coinsOf_6 ?_
  refine r_alenI (v := 4) hX hco rfl dX1_coinsOf_9 ?_
  refine r_icmp_ge (tgt := 22) hX dX1_coinsOf_10 rfl (fun c => False.elim (absurd (show nI 4 ≤ nI o from c) (nI_ge ho (by omega)))) (fun _ => ?_)
  refine r_aload_n hX rfl 0 rfl dX1_coinsOf_13 ?_
  refine r_getf hX fl_X1_9 hlg rfl dX1_coinsOf_14 ?_
  refine r_iload_n hX rfl 1 rfl dX1_coinsOf_17 ?_
  refine r_iald (v := ((s_coins s) ((nI o) : Int32).toNatClampNeg)) hX hco (vp_in_nI ho (by omega)) rfl dX1_coinsOf_18 ?_
  refine r_goto (tgt := 23) hX rfl dX1_coinsOf_19 ?_
  exact r_iret hX hq ⟨rfl, rfl, rfl⟩ dX1_coinsOf_23

set_option maxRecDepth 20000 in
set_option maxHeartbeats 4000000 in
theorem c_X1_capOfClosing (l : Launch) (G : zG) (h : zH) (top : Nat) (s : zS) (be : zB) (H : z_St G s be h top) (d : Nat) (hd : d < 41) : z_Ct l yX1_capOfClosing cX1_capOfClosing 2 (some .int) 1 G [.ref (z_b G + 7), .int (nI d)] h top (z_R (some (.int (s_caps s (nI d).toNatClampNeg))) h top) := by
  refine z_of (own := RX1) (nm := "capOfClosing") (by decide) rfl rfl (by decide) (Nat.le_of_ble_eq_true rfl) (fun X hX hq => ?_)
  replace hX : z_ok X cX1_capOfClosing 2 RX1 (some .int) "capOfClosing" 1 G := hX
  show z_Z X h top 0 [(0, .ref (z_b G + 7)), (1, .int (nI d))] []
  have hlg := H.lg
  have hco := H.coins
  have hca := H.caps
  have hpa := H.paid
  refine r_iload_n hX rfl 1 rfl dX1_capOfClosing_0 ?_
  refine r_if_lt (tgt := 22) hX dX1_capOfClosing_1 rfl (fun c => False.elim (nI_pos (by omega) c)) (fun _ => ?_)
  refine r_iload_n hX rfl 1 rfl dX1_capOfClosing_4 ?_
  refine r_aload_n hX rfl 0 rfl dX1_capOfClosing_5 ?_
  refine r_getf hX fl_X1_15 hlg rfl dX1_capOfClosing_6 ?_
  refine r_alenI (v := 41) hX hca rfl dX1_capOfClosing_9 ?_
  refine r_icmp_ge (tgt := 22) hX dX1_capOfClosing_10 rfl (fun c => False.elim (absurd (show nI 41 ≤ nI d from c) (nI_ge hd (by omega)))) (fun _ => ?_)
  refine r_aload_n hX rfl 0 rfl dX1_capOfClosing_13 ?_
  refine r_getf hX fl_X1_15 hlg rfl dX1_capOfClosing_14 ?_
  refine r_iload_n hX rfl 1 rfl dX1_capOfClosing_17 ?_
  refine r_iald (v := ((s_caps s) ((nI d) : Int32).toNatClampNeg)) hX hca (vp_in_nI hd (by omega)) rfl dX1_capOfClosing_18 ?_
  refine r_goto (tgt := 23) hX rfl dX1_capOfClosing_19 ?_
  exact r_iret hX hq ⟨rfl, rfl, rfl⟩ dX1_capOfClosing_23

set_option maxRecDepth 20000 in
set_option maxHeartbeats 4000000 in
theorem c_X1_keepCap (l : Launch) (G : zG) (h : zH) (top : Nat) (s : zS) (be : zB) (H : z_St G s be h top) (d : Nat) (hd : d < 41) (c : Int32) : z_Ct l yX1_keepCap cX1_keepCap 3 none 1 G [.ref (z_b G + 7), .int (nI d), .int c] h top (fun r h' top' => r = none ∧ top' = top ∧ z_St G (zs_L s (s_coins s, upd (s_caps s) (nI d).toNatClampNeg c, s_paid s, s_hall s, s_taken s, s_gb s)) be h' top') := by
  refine z_of (own := RX1) (nm := "keepCap") (by decide) rfl rfl (by decide) (Nat.le_of_ble_eq_true rfl) (fun X hX hq => ?_)
  replace hX : z_ok X cX1_keepCap 3 RX1 none "keepCap" 1 G := hX
  show z_Z X h top 0 [(0, .ref (z_b G + 7)), (1, .int (nI d)), (2, .int c)] []
  have hlg := H.lg
  have hco := H.coins
  have hca := H.caps
  have hpa := H.paid
  refine r_iload_n hX rfl 1 rfl dX1_keepCap_0 ?_
  refine r_if_lt (tgt := 20) hX dX1_keepCap_1 rfl (fun c => False.elim (nI_pos (by omega) c)) (fun _ => ?_)
  refine r_iload_n hX rfl 1 rfl dX1_keepCap_4 ?_
  refine r_aload_n hX rfl 0 rfl dX1_keepCap_5 ?_
  refine r_getf hX fl_X1_15 hlg rfl dX1_keepCap_6 ?_
  refine r_alenI (v := 41) hX hca rfl dX1_keepCap_9 ?_
  refine r_icmp_ge (tgt := 20) hX dX1_keepCap_10 rfl (fun c => False.elim (absurd (show nI 41 ≤ nI d from c) (nI_ge hd (by omega)))) (fun _ => ?_)
  refine r_aload_n hX rfl 0 rfl dX1_keepCap_13 ?_
  refine r_getf hX fl_X1_15 hlg rfl dX1_keepCap_14 ?_
  refine r_iload_n hX rfl 1 rfl dX1_keepCap_17 ?_
  refine r_iload_n hX rfl 2 rfl dX1_keepCap_18 ?_
  refine r_iast hX hca (vp_in_nI hd (by omega)) dX1_keepCap_19 ?_
  replace hlg := hlg.up (e3 := (.inl (z_aI G, 41, .inl (upd (s_caps s) ((nI d) : Int32).toNatClampNeg c)))) hca (by intro z; cases z)
  replace hco := hco.up (e3 := (.inl (z_aI G, 41, .inl (upd (s_caps s) ((nI d) : Int32).toNatClampNeg c)))) hca (by intro z; cases z)
  replace hpa := hpa.up (e3 := (.inl (z_aI G, 41, .inl (upd (s_caps s) ((nI d) : Int32).toNatClampNeg c)))) hca (by intro z; cases z)
  replace hca : z_at G (va_up h (z_b G + 9) (.inl (z_aI G, 41, .inl (upd (s_caps s) ((nI d) : Int32).toNatClampNeg c)))) top (z_b G + 9) (.inl (z_aI G, 41, .inl (upd (s_caps s) ((nI d) : Int32).toNatClampNeg c))) := z_at.self hca
  exact r_vret hX hq ⟨rfl, rfl, H.setCaps _⟩ dX1_keepCap_20

set_option maxRecDepth 20000 in
set_option maxHeartbeats 4000000 in
theorem c_X1_share (l : Launch) (G : zG) (h : zH) (top : Nat) (s : zS) (be : zB) (H : z_St G s be h top) (o : Nat) (ho : o < 4) (c sg : Int32) : z_Ct l yX1_share cX1_share 5 none 1 G [.ref (z_b G + 7), .int (nI o), .int c, .int sg] h top (fun r h' top' => r = none ∧ top' = top ∧ z_St G (zs_L s (zm_share s.2.1 o c sg)) be h' top') := by
  refine z_of (own := RX1) (nm := "share") (by decide) rfl rfl (by decide) (Nat.le_of_ble_eq_true rfl) (fun X hX hq => ?_)
  replace hX : z_ok X cX1_share 5 RX1 none "share" 1 G := hX
  show z_Z X h top 0 [(0, .ref (z_b G + 7)), (1, .int (nI o)), (2, .int c), (3, .int sg)] []
  have hlg := H.lg
  have hco := H.coins
  have hca := H.caps
  have hpa := H.paid
  refine r_iload_n hX rfl 2 rfl dX1_share_0 ?_
  refine r_bipush (v := 20) hX (by decide) dX1_share_1 ?_
  refine r_idiv hX (by decide) dX1_share_3 ?_
  refine r_istore (lv' := [(4, .int (c / 20)), (0, .ref (z_b G + 7)), (1, .int (nI o)), (2, .int c), (3, .int sg)]) hX (by decide) rfl dX1_share_4 ?_
  refine r_aload_n hX rfl 1 rfl dX1_share_6 ?_
  refine r_dup hX rfl dX1_share_7 ?_
  refine r_getf hX fl_X1_36 hlg rfl dX1_share_8 ?_
  refine r_iload_n hX rfl 4 rfl dX1_share_11 ?_
  refine r_iload hX 0 rfl dX1_share_12 ?_
  refine r_imul hX dX1_share_14 ?_
  refine r_iadd hX dX1_share_15 ?_
  refine r_put (fs2 := [.ref (z_b G + 8), .ref (z_b G + 9), .ref (z_b G + 10), .int ((s_hall s) + (sg * (c / 20))), .int (s_taken s), .int (s_gb s)]) hX fp_X1_36 hlg rfl rfl (Nat.le_of_ble_eq_true rfl) rfl dX1_share_16 ?_
  replace hco := hco.up (e3 := (.inr (2, [.ref (z_b G + 8), .ref (z_b G + 9), .ref (z_b G + 10), .int ((s_hall s) + (sg * (c / 20))), .int (s_taken s), .int (s_gb s)]))) hlg (by intro z; cases z)
  replace hca := hca.up (e3 := (.inr (2, [.ref (z_b G + 8), .ref (z_b G + 9), .ref (z_b G + 10), .int ((s_hall s) + (sg * (c / 20))), .int (s_taken s), .int (s_gb s)]))) hlg (by intro z; cases z)
  replace hpa := hpa.up (e3 := (.inr (2, [.ref (z_b G + 8), .ref (z_b G + 9), .ref (z_b G + 10), .int ((s_hall s) + (sg * (c / 20))), .int (s_taken s), .int (s_gb s)]))) hlg (by intro z; cases z)
  replace hlg : z_at G (va_up h (z_b G + 7) (.inr (2, [.ref (z_b G + 8), .ref (z_b G + 9), .ref (z_b G + 10), .int ((s_hall s) + (sg * (c / 20))), .int (s_taken s), .int (s_gb s)]))) top (z_b G + 7) (.inr (2, [.ref (z_b G + 8), .ref (z_b G + 9), .ref (z_b G + 10), .int ((s_hall s) + (sg * (c / 20))), .int (s_taken s), .int (s_gb s)])) := z_at.self hlg
  refine r_iload_n hX rfl 2 rfl dX1_share_19 ?_
  refine r_if_lt (tgt := 47) hX dX1_share_20 rfl (fun c => False.elim (nI_pos (by omega) c)) (fun _ => ?_)
  refine r_iload_n hX rfl 2 rfl dX1_share_23 ?_
  refine r_aload_n hX rfl 1 rfl dX1_share_24 ?_
  refine r_getf hX fl_X1_9 hlg rfl dX1_share_25 ?_
  refine r_alenI (v := 4) hX hco rfl dX1_share_28 ?_
  refine r_icmp_ge (tgt := 47) hX dX1_share_29 rfl (fun c => False.elim (absurd (show nI 4 ≤ nI o from c) (nI_ge ho (by omega)))) (fun _ => ?_)
  refine r_aload_n hX rfl 1 rfl dX1_share_32 ?_
  refine r_getf hX fl_X1_9 hlg rfl dX1_share_33 ?_
  refine r_iload_n hX rfl 2 rfl dX1_share_36 ?_
  refine r_dup2_11 hX rfl rfl dX1_share_37 ?_
  refine r_iald (v := ((s_coins s) ((nI o) : Int32).toNatClampNeg)) hX hco (vp_in_nI ho (by omega)) rfl dX1_share_38 ?_
  refine r_iload_n hX rfl 4 rfl dX1_share_39 ?_
  refine r_iload_n hX rfl 3 rfl dX1_share_40 ?_
  refine r_iload hX 0 rfl dX1_share_41 ?_
  refine r_isub hX dX1_share_43 ?_
  refine r_imul hX dX1_share_44 ?_
  refine r_iadd hX dX1_share_45 ?_
  refine r_iast hX hco (vp_in_nI ho (by omega)) dX1_share_46 ?_
  replace hlg := hlg.up (e3 := (.inl (z_aI G, 4, .inl (upd (s_coins s) ((nI o) : Int32).toNatClampNeg (((s_coins s) ((nI o) : Int32).toNatClampNeg) + (sg * (c - (c / 20)))))))) hco (by intro z; cases z)
  replace hca := hca.up (e3 := (.inl (z_aI G, 4, .inl (upd (s_coins s) ((nI o) : Int32).toNatClampNeg (((s_coins s) ((nI o) : Int32).toNatClampNeg) + (sg * (c - (c / 20)))))))) hco (by intro z; cases z)
  replace hpa := hpa.up (e3 := (.inl (z_aI G, 4, .inl (upd (s_coins s) ((nI o) : Int32).toNatClampNeg (((s_coins s) ((nI o) : Int32).toNatClampNeg) + (sg * (c - (c / 20)))))))) hco (by intro z; cases z)
  replace hco : z_at G (va_up (va_up h (z_b G + 7) (.inr (2, [.ref (z_b G + 8), .ref (z_b G + 9), .ref (z_b G + 10), .int ((s_hall s) + (sg * (c / 20))), .int (s_taken s), .int (s_gb s)]))) (z_b G + 8) (.inl (z_aI G, 4, .inl (upd (s_coins s) ((nI o) : Int32).toNatClampNeg (((s_coins s) ((nI o) : Int32).toNatClampNeg) + (sg * (c - (c / 20)))))))) top (z_b G + 8) (.inl (z_aI G, 4, .inl (upd (s_coins s) ((nI o) : Int32).toNatClampNeg (((s_coins s) ((nI o) : Int32).toNatClampNeg) + (sg * (c - (c / 20))))))) := z_at.self hco
  exact r_vret hX hq ⟨rfl, rfl, (H.setLg (s_hall s + sg * (c / 20)) (s_taken s) (s_gb s)).setCoins _⟩ dX1_share_47

theorem c_pl (l : Launch) (G : zG) (h : zH) (top : Nat) (d v o : Nat) : z_Ct l yX1_placeOf cX1_placeOf 3 (some .int) 1 G [.int (nI d), .int (nI v), .int (nI o)] h top (z_R (some (.int (nI (zm_pl d v o)))) h top) := by
  rw [← zm_pl_eq]
  exact c_X1_placeOf l G h top (nI d) (nI v) (nI o)
set_option maxRecDepth 20000 in
set_option maxHeartbeats 4000000 in
theorem c_X1_receive (l : Launch) (G : zG) (h : zH) (top : Nat) (s : zS) (be : zB) (H : z_St G s be h top) (d v o : Nat) (hd : d < 41) (hv : v < 8) (ho : o < 4) (c : Int32) : z_Ct l yX1_receive cX1_receive 6 none 2 G [.ref (z_b G + 7), .int (nI d), .int (nI v), .int (nI o), .int c] h top (fun r h' top' => r = none ∧ top' = top ∧ z_St G (zs_L s (zm_receive s.2.1 (zm_pl d v o) o c)) be h' top') := by
  refine z_of (own := RX1) (nm := "receive") (by decide) rfl rfl (by decide) (Nat.le_of_ble_eq_true rfl) (fun X hX hq => ?_)
  replace hX : z_ok X cX1_receive 6 RX1 none "receive" 2 G := hX
  show z_Z X h top 0 [(0, .ref (z_b G + 7)), (1, .int (nI d)), (2, .int (nI v)), (3, .int (nI o)), (4, .int c)] []
  have hlg := H.lg
  have hco := H.coins
  have hca := H.caps
  have hpa := H.paid
  have hk : zm_pl d v o < 1312 := zm_pl_lt hd hv ho
  refine r_iload_n hX rfl 1 rfl dX1_receive_0 ?_
  refine r_iload_n hX rfl 2 rfl dX1_receive_1 ?_
  refine r_iload_n hX rfl 3 rfl dX1_receive_2 ?_
  refine r_callSR (As := [.int (nI d), .int (nI v), .int (nI o)]) (rest := []) (rv := some (.int (nI (zm_pl d v o)))) (st1 := [.int (nI (zm_pl d v o))]) hX cs_X1_21 (by decide) (fun l => c_pl l G h top d v o) rfl rfl rfl (Nat.le_of_ble_eq_true rfl) dX1_receive_3 ?_
  refine r_istore (lv' := [(5, .int (nI (zm_pl d v o))), (0, .ref (z_b G + 7)), (1, .int (nI d)), (2, .int (nI v)), (3, .int (nI o)), (4, .int c)]) hX (by decide) rfl dX1_receive_6 ?_
  refine r_iload hX 0 rfl dX1_receive_8 ?_
  refine r_if_lt (tgt := 51) hX dX1_receive_10 rfl (fun c => False.elim (nI_pos (by omega) c)) (fun _ => ?_)
  refine r_iload hX 0 rfl dX1_receive_13 ?_
  refine r_aload_n hX rfl 1 rfl dX1_receive_15 ?_
  refine r_getf hX fl_X1_18 hlg rfl dX1_receive_16 ?_
  refine r_alenI (v := 1312) hX hpa rfl dX1_receive_19 ?_
  refine r_icmp_ge (tgt := 51) hX dX1_receive_20 rfl (fun c => False.elim (absurd (show nI 1312 ≤ nI (zm_pl d v o) from c) (nI_ge hk (by omega)))) (fun _ => ?_)
  refine r_aload_n hX rfl 1 rfl dX1_receive_23 ?_
  refine r_getf hX fl_X1_18 hlg rfl dX1_receive_24 ?_
  refine r_iload hX 0 rfl dX1_receive_27 ?_
  refine r_iload hX 5 rfl dX1_receive_29 ?_
  refine r_iast hX hpa (vp_in_nI hk (by omega)) dX1_receive_31 ?_
  replace hlg := hlg.up (e3 := (.inl (z_aI G, 1312, .inl (upd (s_paid s) ((nI (zm_pl d v o)) : Int32).toNatClampNeg c)))) hpa (by intro z; cases z)
  replace hco := hco.up (e3 := (.inl (z_aI G, 1312, .inl (upd (s_paid s) ((nI (zm_pl d v o)) : Int32).toNatClampNeg c)))) hpa (by intro z; cases z)
  replace hca := hca.up (e3 := (.inl (z_aI G, 1312, .inl (upd (s_paid s) ((nI (zm_pl d v o)) : Int32).toNatClampNeg c)))) hpa (by intro z; cases z)
  replace hpa : z_at G (va_up h (z_b G + 10) (.inl (z_aI G, 1312, .inl (upd (s_paid s) ((nI (zm_pl d v o)) : Int32).toNatClampNeg c)))) top (z_b G + 10) (.inl (z_aI G, 1312, .inl (upd (s_paid s) ((nI (zm_pl d v o)) : Int32).toNatClampNeg c))) := z_at.self hpa
  refine r_aload_n hX rfl 1 rfl dX1_receive_32 ?_
  refine r_dup hX rfl dX1_receive_33 ?_
  refine r_getf hX fl_X1_25 hlg rfl dX1_receive_34 ?_
  refine r_iload hX 5 rfl dX1_receive_37 ?_
  refine r_iadd hX dX1_receive_39 ?_
  refine r_put (fs2 := [.ref (z_b G + 8), .ref (z_b G + 9), .ref (z_b G + 10), .int (s_hall s), .int ((s_taken s) + c), .int (s_gb s)]) hX fp_X1_25 hlg rfl rfl (Nat.le_of_ble_eq_true rfl) rfl dX1_receive_40 ?_
  replace hco := hco.up (e3 := (.inr (2, [.ref (z_b G + 8), .ref (z_b G + 9), .ref (z_b G + 10), .int (s_hall s), .int ((s_taken s) + c), .int (s_gb s)]))) hlg (by intro z; cases z)
  replace hca := hca.up (e3 := (.inr (2, [.ref (z_b G + 8), .ref (z_b G + 9), .ref (z_b G + 10), .int (s_hall s), .int ((s_taken s) + c), .int (s_gb s)]))) hlg (by intro z; cases z)
  replace hpa := hpa.up (e3 := (.inr (2, [.ref (z_b G + 8), .ref (z_b G + 9), .ref (z_b G + 10), .int (s_hall s), .int ((s_taken s) + c), .int (s_gb s)]))) hlg (by intro z; cases z)
  replace hlg : z_at G (va_up (va_up h (z_b G + 10) (.inl (z_aI G, 1312, .inl (upd (s_paid s) ((nI (zm_pl d v o)) : Int32).toNatClampNeg c)))) (z_b G + 7) (.inr (2, [.ref (z_b G + 8), .ref (z_b G + 9), .ref (z_b G + 10), .int (s_hall s), .int ((s_taken s) + c), .int (s_gb s)]))) top (z_b G + 7) (.inr (2, [.ref (z_b G + 8), .ref (z_b G + 9), .ref (z_b G + 10), .int (s_hall s), .int ((s_taken s) + c), .int (s_gb s)])) := z_at.self hlg
  refine r_aload_n hX rfl 1 rfl dX1_receive_43 ?_
  refine r_iload_n hX rfl 4 rfl dX1_receive_44 ?_
  refine r_iload hX 5 rfl dX1_receive_45 ?_
  refine r_iconst (v := 1) hX (by decide) dX1_receive_47 ?_
  refine r_callV (As := [.int (nI o), .int c, .int 1]) (rest := []) hX cs_X1_29 (by decide) (fun l => c_X1_share l G _ top _ be ((H.setPaid (upd (s_paid s) (nI (zm_pl d v o)).toNatClampNeg c)).setLg (s_hall s) (s_taken s + c) (s_gb s)) o ho c 1) hlg rfl rfl rfl (Nat.le_of_ble_eq_true rfl) dX1_receive_48 (fun r1 h1 top1 hp1 => ?_)
  obtain ⟨rfl, rfl, H2⟩ := hp1
  exact r_vret hX hq ⟨rfl, rfl, H2⟩ dX1_receive_51

set_option maxRecDepth 20000 in
set_option maxHeartbeats 4000000 in
theorem c_X1_giveBack (l : Launch) (G : zG) (h : zH) (top : Nat) (s : zS) (be : zB) (H : z_St G s be h top) (d v o : Nat) (hd : d < 41) (hv : v < 8) (ho : o < 4) (c : Int32) : z_Ct l yX1_giveBack cX1_giveBack 7 (some .int) 2 G [.ref (z_b G + 7), .int (nI d), .int (nI v), .int (nI o), .int c] h top (fun r h' top' => r = some (.int (zm_giveBack s.2.1 (zm_pl d v o) o c).1) ∧ top' = top ∧ z_St G (zs_L s (zm_giveBack s.2.1 (zm_pl d v o) o c).2) be h' top') := by
  refine z_of (own := RX1) (nm := "giveBack") (by decide) rfl rfl (by decide) (Nat.le_of_ble_eq_true rfl) (fun X hX hq => ?_)
  replace hX : z_ok X cX1_giveBack 7 RX1 (some .int) "giveBack" 2 G := hX
  show z_Z X h top 0 [(0, .ref (z_b G + 7)), (1, .int (nI d)), (2, .int (nI v)), (3, .int (nI o)), (4, .int c)] []
  have hlg := H.lg
  have hco := H.coins
  have hca := H.caps
  have hpa := H.paid
  have hk : zm_pl d v o < 1312 := zm_pl_lt hd hv ho
  refine r_iload_n hX rfl 1 rfl dX1_giveBack_0 ?_
  refine r_iload_n hX rfl 2 rfl dX1_giveBack_1 ?_
  refine r_iload_n hX rfl 3 rfl dX1_giveBack_2 ?_
  refine r_callSR (As := [.int (nI d), .int (nI v), .int (nI o)]) (rest := []) (rv := some (.int (nI (zm_pl d v o)))) (st1 := [.int (nI (zm_pl d v o))]) hX cs_X1_21 (by decide) (fun l => c_pl l G h top d v o) rfl rfl rfl (Nat.le_of_ble_eq_true rfl) dX1_giveBack_3 ?_
  refine r_istore (lv' := [(5, .int (nI (zm_pl d v o))), (0, .ref (z_b G + 7)), (1, .int (nI d)), (2, .int (nI v)), (3, .int (nI o)), (4, .int c)]) hX (by decide) rfl dX1_giveBack_6 ?_
  refine r_iload hX 0 rfl dX1_giveBack_8 ?_
  refine r_if_lt (tgt := 35) hX dX1_giveBack_10 rfl (fun c => False.elim (nI_pos (by omega) c)) (fun _ => ?_)
  refine r_iload hX 0 rfl dX1_giveBack_13 ?_
  refine r_aload_n hX rfl 1 rfl dX1_giveBack_15 ?_
  refine r_getf hX fl_X1_18 hlg rfl dX1_giveBack_16 ?_
  refine r_alenI (v := 1312) hX hpa rfl dX1_giveBack_19 ?_
  refine r_icmp_ge (tgt := 35) hX dX1_giveBack_20 rfl (fun c => False.elim (absurd (show nI 1312 ≤ nI (zm_pl d v o) from c) (nI_ge hk (by omega)))) (fun _ => ?_)
  refine r_iload hX 5 rfl dX1_giveBack_23 ?_
  refine r_aload_n hX rfl 1 rfl dX1_giveBack_25 ?_
  refine r_getf hX fl_X1_18 hlg rfl dX1_giveBack_26 ?_
  refine r_iload hX 0 rfl dX1_giveBack_29 ?_
  refine r_iald (v := ((s_paid s) ((nI (zm_pl d v o)) : Int32).toNatClampNeg)) hX hpa (vp_in_nI hk (by omega)) rfl dX1_giveBack_31 ?_
  refine r_icmp_lt (tgt := 37) hX dX1_giveBack_32 rfl (fun c32 => ?_) (fun c32 => ?_)
  · skip
    refine r_aload_n hX rfl 1 rfl dX1_giveBack_37 ?_
    refine r_getf hX fl_X1_18 hlg rfl dX1_giveBack_38 ?_
    refine r_iload hX 0 rfl dX1_giveBack_41 ?_
    refine r_iald (v := ((s_paid s) ((nI (zm_pl d v o)) : Int32).toNatClampNeg)) hX hpa (vp_in_nI hk (by omega)) rfl dX1_giveBack_43 ?_
    refine r_iload hX 5 rfl dX1_giveBack_44 ?_
    refine r_isub hX dX1_giveBack_46 ?_
    refine r_istore (lv' := [(6, .int (((s_paid s) ((nI (zm_pl d v o)) : Int32).toNatClampNeg) - c)), (5, .int (nI (zm_pl d v o))), (0, .ref (z_b G + 7)), (1, .int (nI d)), (2, .int (nI v)), (3, .int (nI o)), (4, .int c)]) hX (by decide) rfl dX1_giveBack_47 ?_
    refine r_aload_n hX rfl 2 rfl dX1_giveBack_49 ?_
    refine r_iload_n hX rfl 5 rfl dX1_giveBack_50 ?_
    refine r_aload_n hX rfl 2 rfl dX1_giveBack_51 ?_
    refine r_getf hX fl_X1_18 hlg rfl dX1_giveBack_52 ?_
    refine r_iload hX 1 rfl dX1_giveBack_55 ?_
    refine r_iald (v := ((s_paid s) ((nI (zm_pl d v o)) : Int32).toNatClampNeg)) hX hpa (vp_in_nI hk (by omega)) rfl dX1_giveBack_57 ?_
    refine r_iconst (v := (-1)) hX (by decide) dX1_giveBack_58 ?_
    refine r_callV (As := [.int (nI o), .int ((s_paid s) ((nI (zm_pl d v o)) : Int32).toNatClampNeg), .int (-1)]) (rest := []) hX cs_X1_29 (by decide) (fun l => c_X1_share l G h top s be H o ho (s_paid s (nI (zm_pl d v o)).toNatClampNeg) (-1)) hlg rfl rfl rfl (Nat.le_of_ble_eq_true rfl) dX1_giveBack_59 (fun r1 h1 top1 hp1 => ?_)
    obtain ⟨rfl, rfl, H1⟩ := hp1
    have hpa1 : z_at G h1 top1 (z_b G + 10) (.inl (z_aI G, 1312, .inl (s_paid s))) := H1.paid
    have hlg1 : z_at G h1 top1 (z_b G + 7) (.inr (2, [.ref (z_b G + 8), .ref (z_b G + 9), .ref (z_b G + 10), .int ((zm_share s.2.1 o (s_paid s (nI (zm_pl d v o)).toNatClampNeg) (-1)).2.2.2.1), .int (s_taken s), .int (s_gb s)])) := H1.lg
    refine r_aload_n hX rfl 2 rfl dX1_giveBack_62 ?_
    refine r_iload_n hX rfl 5 rfl dX1_giveBack_63 ?_
    refine r_iload hX 6 rfl dX1_giveBack_64 ?_
    refine r_iconst (v := 1) hX (by decide) dX1_giveBack_66 ?_
    refine r_callV (As := [.int (nI o), .int c, .int 1]) (rest := []) hX cs_X1_29 (by decide) (fun l => c_X1_share l G h1 top1 _ be H1 o ho c 1) hlg1 rfl rfl rfl (Nat.le_of_ble_eq_true rfl) dX1_giveBack_67 (fun r2 h2 top2 hp2 => ?_)
    obtain ⟨rfl, rfl, H2⟩ := hp2
    have hpa2 : z_at G h2 top2 (z_b G + 10) (.inl (z_aI G, 1312, .inl (s_paid s))) := H2.paid
    have hlg2 : z_at G h2 top2 (z_b G + 7) (.inr (2, [.ref (z_b G + 8), .ref (z_b G + 9), .ref (z_b G + 10), .int ((zm_share (zm_share s.2.1 o (s_paid s (nI (zm_pl d v o)).toNatClampNeg) (-1)) o c 1).2.2.2.1), .int (s_taken s), .int (s_gb s)])) := H2.lg
    refine r_aload_n hX rfl 2 rfl dX1_giveBack_70 ?_
    refine r_getf hX fl_X1_18 hlg2 rfl dX1_giveBack_71 ?_
    refine r_iload hX 1 rfl dX1_giveBack_74 ?_
    refine r_iload hX 6 rfl dX1_giveBack_76 ?_
    refine r_iast hX hpa2 (vp_in_nI hk (by omega)) dX1_giveBack_78 ?_
    replace hlg2 := hlg2.up (e3 := (.inl (z_aI G, 1312, .inl (upd (s_paid s) ((nI (zm_pl d v o)) : Int32).toNatClampNeg c)))) hpa2 (by intro z; cases z)
    replace hpa2 : z_at G (va_up h2 (z_b G + 10) (.inl (z_aI G, 1312, .inl (upd (s_paid s) ((nI (zm_pl d v o)) : Int32).toNatClampNeg c)))) top2 (z_b G + 10) (.inl (z_aI G, 1312, .inl (upd (s_paid s) ((nI (zm_pl d v o)) : Int32).toNatClampNeg c))) := z_at.self hpa2
    refine r_aload_n hX rfl 2 rfl dX1_giveBack_79 ?_
    refine r_dup hX rfl dX1_giveBack_80 ?_
    refine r_getf hX fl_X1_33 hlg2 rfl dX1_giveBack_81 ?_
    refine r_iload hX 0 rfl dX1_giveBack_84 ?_
    refine r_iadd hX dX1_giveBack_86 ?_
    refine r_put (fs2 := [.ref (z_b G + 8), .ref (z_b G + 9), .ref (z_b G + 10), .int ((zm_share (zm_share s.2.1 o (s_paid s (nI (zm_pl d v o)).toNatClampNeg) (-1)) o c 1).2.2.2.1), .int (s_taken s), .int ((s_gb s) + (((s_paid s) ((nI (zm_pl d v o)) : Int32).toNatClampNeg) - c))]) hX fp_X1_33 hlg2 rfl rfl (Nat.le_of_ble_eq_true rfl) rfl dX1_giveBack_87 ?_
    replace hpa2 := hpa2.up (e3 := (.inr (2, [.ref (z_b G + 8), .ref (z_b G + 9), .ref (z_b G + 10), .int ((zm_share (zm_share s.2.1 o (s_paid s (nI (zm_pl d v o)).toNatClampNeg) (-1)) o c 1).2.2.2.1), .int (s_taken s), .int ((s_gb s) + (((s_paid s) ((nI (zm_pl d v o)) : Int32).toNatClampNeg) - c))]))) hlg2 (by intro z; cases z)
    replace hlg2 : z_at G (va_up (va_up h2 (z_b G + 10) (.inl (z_aI G, 1312, .inl (upd (s_paid s) ((nI (zm_pl d v o)) : Int32).toNatClampNeg c)))) (z_b G + 7) (.inr (2, [.ref (z_b G + 8), .ref (z_b G + 9), .ref (z_b G + 10), .int ((zm_share (zm_share s.2.1 o (s_paid s (nI (zm_pl d v o)).toNatClampNeg) (-1)) o c 1).2.2.2.1), .int (s_taken s), .int ((s_gb s) + (((s_paid s) ((nI (zm_pl d v o)) : Int32).toNatClampNeg) - c))]))) top2 (z_b G + 7) (.inr (2, [.ref (z_b G + 8), .ref (z_b G + 9), .ref (z_b G + 10), .int ((zm_share (zm_share s.2.1 o (s_paid s (nI (zm_pl d v o)).toNatClampNeg) (-1)) o c 1).2.2.2.1), .int (s_taken s), .int ((s_gb s) + (((s_paid s) ((nI (zm_pl d v o)) : Int32).toNatClampNeg) - c))])) := z_at.self hlg2
    refine r_iload hX 0 rfl dX1_giveBack_90 ?_
    exact r_iret hX hq ⟨by rw [zm_giveBack, if_pos c32], rfl, by rw [zm_giveBack, if_pos c32]; exact (H2.setPaid _).setLg _ _ _⟩ dX1_giveBack_92
  · skip
    refine r_iconst (v := 0) hX (by decide) dX1_giveBack_35 ?_
    exact r_iret hX hq ⟨by rw [zm_giveBack, if_neg c32], rfl, by rw [zm_giveBack, if_neg c32]; exact H⟩ dX1_giveBack_36

