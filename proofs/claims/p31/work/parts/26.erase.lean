/-! paying, exempting, erasing -/
def zm_pay (s : zS) (iv : Nat) (v : zVeh) (c : Int32) : zS := zs_vehs s ((s_vehs s).set iv (v.1, v.2.1, v.2.2.1 + c, v.2.2.2.1, v.2.2.2.2.1, v.2.2.2.2.2))
set_option maxRecDepth 20000 in
set_option maxHeartbeats 4000000 in
theorem c_X8_pay (l : Launch) (G : zG) (h : zH) (top : Nat) (s : zS) (be : zB) (H : z_St G s be h top) (iv : Nat) (v : zVeh) (hv : (s_vehs s)[iv]? = some v) (c : Int32) (hc : zf_isIn c 1 2000 = true) : z_Ct l yX8_pay cX8_pay 4 (some .int) 4 G [.ref (z_b G), .int (nI iv), .int c] h top (z_PQ G (zm_pay s iv v c) (.int (v.2.2.1 + c))) := by
  refine z_of (own := RX8) (nm := "pay") (by decide) rfl rfl (by decide) (Nat.le_of_ble_eq_true rfl) (fun X hX hq => ?_)
  replace hX : z_ok X cX8_pay 4 RX8 (some .int) "pay" 4 G := hX
  show z_Z X h top 0 [(0, .ref (z_b G)), (1, .int (nI iv)), (2, .int c)] []
  have hha := H.hall
  have hbd := H.2.2.1.2.2
  have hl0 := H.l0
  have hl01 := hl0.1
  have hl1 := H.l1
  have hl11 := hl1.1
  have hl2 := H.l2
  have hl21 := hl2.1
  have hbk := H.bk
  have hvl : iv < (s_vehs s).length := (List.getElem?_eq_some_iff.mp hv).1
  have hvs := H.veh hv
  refine r_aload_n hX rfl 0 rfl dX8_pay_0 ?_
  refine r_iload_n hX rfl 1 rfl dX8_pay_1 ?_
  refine r_callVR (As := [.int (nI iv)]) (rest := []) (rv := some (.int 1)) (st1 := [.int 1]) hX cs_X8_126 (by decide) (fun l => c_X8_isVehicle l G h top s be H iv hvl) hha rfl rfl rfl rfl (Nat.le_of_ble_eq_true rfl) dX8_pay_2 ?_
  refine r_callSR (As := [.int 1]) (rest := []) (rv := none) (st1 := []) hX cs_X8_58 (by decide) (fun l => c_X8_needIndex l G h top) rfl rfl rfl (Nat.le_of_ble_eq_true rfl) dX8_pay_5 ?_
  refine r_iload_n hX rfl 2 rfl dX8_pay_8 ?_
  refine r_iconst (v := 1) hX (by decide) dX8_pay_9 ?_
  refine r_sipush (v := 2000) hX (by decide) dX8_pay_10 ?_
  refine r_callSR (As := [.int c, .int 1, .int 2000]) (rest := []) (rv := some (.int 1)) (st1 := [.int 1]) hX cs_X8_62 (by decide) (fun l => c_isIn_1 l G h top hc) rfl rfl rfl (Nat.le_of_ble_eq_true rfl) dX8_pay_13 ?_
  refine r_callSR (As := [.int 1]) (rest := []) (rv := none) (st1 := []) hX cs_X8_66 (by decide) (fun l => c_X8_needArgument l G h top) rfl rfl rfl (Nat.le_of_ble_eq_true rfl) dX8_pay_16 ?_
  refine r_aload_n hX rfl 0 rfl dX8_pay_19 ?_
  refine r_getf hX fl_X8_16 hha rfl dX8_pay_20 ?_
  refine r_iload_n hX rfl 1 rfl dX8_pay_23 ?_
  refine r_callVR (As := [.int (nI iv)]) (rest := []) (rv := some (.ref v.1)) (st1 := [.ref v.1]) hX cs_X8_92 (by decide) (fun l => z_get hl1 hvl (z_mapget hv) l) hl11 rfl rfl rfl rfl (Nat.le_of_ble_eq_true rfl) dX8_pay_24 ?_
  refine r_cast (ci := 8) hX rfl hvs cl_X8_121 dX8_pay_27 ?_
  refine r_astore_n (lv' := [(3, .ref v.1), (0, .ref (z_b G)), (1, .int (nI iv)), (2, .int c)]) hX rfl (by decide) rfl dX8_pay_30 ?_
  refine r_aload_n hX rfl 0 rfl dX8_pay_31 ?_
  refine r_dup hX rfl dX8_pay_32 ?_
  refine r_getf hX fl_X8_136 hvs rfl dX8_pay_33 ?_
  refine r_iload_n hX rfl 3 rfl dX8_pay_36 ?_
  refine r_iadd hX dX8_pay_37 ?_
  refine r_put (fs2 := [.int (nI iv), .int v.2.1.1, .int v.2.1.2.1, .int v.2.1.2.2, .int (v.2.2.1 + c), .int v.2.2.2.1, .int v.2.2.2.2.1, .int v.2.2.2.2.2]) hX fp_X8_136 hvs rfl rfl (Nat.le_of_ble_eq_true rfl) rfl dX8_pay_38 ?_
  replace hha := hha.up (e3 := (.inr (8, [.int (nI iv), .int v.2.1.1, .int v.2.1.2.1, .int v.2.1.2.2, .int (v.2.2.1 + c), .int v.2.2.2.1, .int v.2.2.2.2.1, .int v.2.2.2.2.2]))) hvs (by intro z; cases z)
  replace hl01 := hl01.up (e3 := (.inr (8, [.int (nI iv), .int v.2.1.1, .int v.2.1.2.1, .int v.2.1.2.2, .int (v.2.2.1 + c), .int v.2.2.2.1, .int v.2.2.2.2.1, .int v.2.2.2.2.2]))) hvs (by intro z; cases z)
  replace hl11 := hl11.up (e3 := (.inr (8, [.int (nI iv), .int v.2.1.1, .int v.2.1.2.1, .int v.2.1.2.2, .int (v.2.2.1 + c), .int v.2.2.2.1, .int v.2.2.2.2.1, .int v.2.2.2.2.2]))) hvs (by intro z; cases z)
  replace hl21 := hl21.up (e3 := (.inr (8, [.int (nI iv), .int v.2.1.1, .int v.2.1.2.1, .int v.2.1.2.2, .int (v.2.2.1 + c), .int v.2.2.2.1, .int v.2.2.2.2.1, .int v.2.2.2.2.2]))) hvs (by intro z; cases z)
  replace hbk := hbk.up (e3 := (.inr (8, [.int (nI iv), .int v.2.1.1, .int v.2.1.2.1, .int v.2.1.2.2, .int (v.2.2.1 + c), .int v.2.2.2.1, .int v.2.2.2.2.1, .int v.2.2.2.2.2]))) hvs (by intro z; cases z)
  replace hvs : z_at G (va_up h v.1 (.inr (8, [.int (nI iv), .int v.2.1.1, .int v.2.1.2.1, .int v.2.1.2.2, .int (v.2.2.1 + c), .int v.2.2.2.1, .int v.2.2.2.2.1, .int v.2.2.2.2.2]))) top v.1 (.inr (8, [.int (nI iv), .int v.2.1.1, .int v.2.1.2.1, .int v.2.1.2.2, .int (v.2.2.1 + c), .int v.2.2.2.1, .int v.2.2.2.2.1, .int v.2.2.2.2.2])) := z_at.self hvs
  refine r_aload_n hX rfl 0 rfl dX8_pay_41 ?_
  refine r_getf hX fl_X8_136 hvs rfl dX8_pay_42 ?_
  exact r_iret hX hq ⟨rfl, be, H.setVeh (p2 := (v.1, v.2.1, v.2.2.1 + c, v.2.2.2.1, v.2.2.2.2.1, v.2.2.2.2.2)) hv rfl⟩ dX8_pay_45

set_option maxRecDepth 20000 in
set_option maxHeartbeats 4000000 in
theorem c_X7_setExempt (l : Launch) (G : zG) (h : zH) (top : Nat) (v : zVeh) (iv : Nat) (hv : z_at G h top v.1 (z_vehC iv v)) (o : Int32) : z_Ct l yX7_setExempt cX7_setExempt 4 none 1 G [.ref v.1, .int o, .int 1] h top (z_R none (va_up h v.1 (.inr (8, [.int (nI iv), .int v.2.1.1, .int v.2.1.2.1, .int v.2.1.2.2, .int v.2.2.1, .int (v.2.2.2.1 ||| (1 <<< (o &&& 31))), .int v.2.2.2.2.1, .int v.2.2.2.2.2]))) top) := by
  refine z_of (own := RX7) (nm := "setExempt") (by decide) rfl rfl (by decide) (Nat.le_of_ble_eq_true rfl) (fun X hX hq => ?_)
  replace hX : z_ok X cX7_setExempt 4 RX7 none "setExempt" 1 G := hX
  show z_Z X h top 0 [(0, .ref v.1), (1, .int o), (2, .int 1)] []
  refine r_iconst (v := 1) hX (by decide) dX7_setExempt_0 ?_
  refine r_iload_n hX rfl 1 rfl dX7_setExempt_1 ?_
  refine r_ishl hX dX7_setExempt_2 ?_
  refine r_istore_n (lv' := [(3, .int (1 <<< (o &&& 31))), (0, .ref v.1), (1, .int o), (2, .int 1)]) hX rfl (by decide) rfl dX7_setExempt_3 ?_
  refine r_aload_n hX rfl 1 rfl dX7_setExempt_4 ?_
  refine r_iload_n hX rfl 3 rfl dX7_setExempt_5 ?_
  refine r_if_eq (tgt := 18) hX dX7_setExempt_6 rfl (fun c => False.elim (absurd c (by decide))) (fun _ => ?_)
  refine r_aload_n hX rfl 1 rfl dX7_setExempt_9 ?_
  refine r_getf hX fl_X7_27 hv rfl dX7_setExempt_10 ?_
  refine r_iload_n hX rfl 0 rfl dX7_setExempt_13 ?_
  refine r_ior hX dX7_setExempt_14 ?_
  refine r_goto (tgt := 26) hX rfl dX7_setExempt_15 ?_
  refine r_put (fs2 := [.int (nI iv), .int v.2.1.1, .int v.2.1.2.1, .int v.2.1.2.2, .int v.2.2.1, .int (v.2.2.2.1 ||| (1 <<< (o &&& 31))), .int v.2.2.2.2.1, .int v.2.2.2.2.2]) hX fp_X7_27 hv rfl rfl (Nat.le_of_ble_eq_true rfl) rfl dX7_setExempt_26 ?_
  replace hv : z_at G (va_up h v.1 (.inr (8, [.int (nI iv), .int v.2.1.1, .int v.2.1.2.1, .int v.2.1.2.2, .int v.2.2.1, .int (v.2.2.2.1 ||| (1 <<< (o &&& 31))), .int v.2.2.2.2.1, .int v.2.2.2.2.2]))) top v.1 (.inr (8, [.int (nI iv), .int v.2.1.1, .int v.2.1.2.1, .int v.2.1.2.2, .int v.2.2.1, .int (v.2.2.2.1 ||| (1 <<< (o &&& 31))), .int v.2.2.2.2.1, .int v.2.2.2.2.2])) := z_at.self hv
  exact r_vret hX hq ⟨rfl, rfl, rfl⟩ dX7_setExempt_29

def zm_exempt (s : zS) (iv : Nat) (v : zVeh) (o : Int32) : zS := zs_vehs s ((s_vehs s).set iv (v.1, v.2.1, v.2.2.1, v.2.2.2.1 ||| (1 <<< (o &&& 31)), v.2.2.2.2.1, v.2.2.2.2.2))
set_option maxRecDepth 20000 in
set_option maxHeartbeats 4000000 in
theorem c_X8_exempt (l : Launch) (G : zG) (h : zH) (top : Nat) (s : zS) (be : zB) (H : z_St G s be h top) (iv : Nat) (v : zVeh) (hv : (s_vehs s)[iv]? = some v) (o : Nat) (ho : o < 4) : z_Ct l yX8_exempt cX8_exempt 6 (some .boolean) 4 G [.ref (z_b G), .int (nI iv), .int (nI o), .int 1] h top (z_PQ G (zm_exempt s iv v (nI o)) (.int (zf_b (zf_hasBit v.2.2.2.1 (nI o))))) := by
  refine z_of (own := RX8) (nm := "exempt") (by decide) rfl rfl (by decide) (Nat.le_of_ble_eq_true rfl) (fun X hX hq => ?_)
  replace hX : z_ok X cX8_exempt 6 RX8 (some .boolean) "exempt" 4 G := hX
  show z_Z X h top 0 [(0, .ref (z_b G)), (1, .int (nI iv)), (2, .int (nI o)), (3, .int 1)] []
  have hha := H.hall
  have hbd := H.2.2.1.2.2
  have hl0 := H.l0
  have hl01 := hl0.1
  have hl1 := H.l1
  have hl11 := hl1.1
  have hl2 := H.l2
  have hl21 := hl2.1
  have hbk := H.bk
  have hvl : iv < (s_vehs s).length := (List.getElem?_eq_some_iff.mp hv).1
  have hvs := H.veh hv
  refine r_aload_n hX rfl 0 rfl dX8_exempt_0 ?_
  refine r_iload_n hX rfl 1 rfl dX8_exempt_1 ?_
  refine r_callVR (As := [.int (nI iv)]) (rest := []) (rv := some (.int 1)) (st1 := [.int 1]) hX cs_X8_126 (by decide) (fun l => c_X8_isVehicle l G h top s be H iv hvl) hha rfl rfl rfl rfl (Nat.le_of_ble_eq_true rfl) dX8_exempt_2 ?_
  refine r_if_eq (tgt := 19) hX dX8_exempt_5 rfl (fun c => False.elim (absurd c (by decide))) (fun _ => ?_)
  refine r_iload_n hX rfl 2 rfl dX8_exempt_8 ?_
  refine r_callSR (As := [.int (nI o)]) (rest := []) (rv := some (.int 1)) (st1 := [.int 1]) hX cs_X8_55 (by decide) (fun l => c_isOwner_1 l G h top ho) rfl rfl rfl (Nat.le_of_ble_eq_true rfl) dX8_exempt_9 ?_
  refine r_if_eq (tgt := 19) hX dX8_exempt_12 rfl (fun c => False.elim (absurd c (by decide))) (fun _ => ?_)
  refine r_iconst (v := 1) hX (by decide) dX8_exempt_15 ?_
  refine r_goto (tgt := 20) hX rfl dX8_exempt_16 ?_
  refine r_callSR (As := [.int 1]) (rest := []) (rv := none) (st1 := []) hX cs_X8_58 (by decide) (fun l => c_X8_needIndex l G h top) rfl rfl rfl (Nat.le_of_ble_eq_true rfl) dX8_exempt_20 ?_
  refine r_aload_n hX rfl 0 rfl dX8_exempt_23 ?_
  refine r_getf hX fl_X8_16 hha rfl dX8_exempt_24 ?_
  refine r_iload_n hX rfl 1 rfl dX8_exempt_27 ?_
  refine r_callVR (As := [.int (nI iv)]) (rest := []) (rv := some (.ref v.1)) (st1 := [.ref v.1]) hX cs_X8_92 (by decide) (fun l => z_get hl1 hvl (z_mapget hv) l) hl11 rfl rfl rfl rfl (Nat.le_of_ble_eq_true rfl) dX8_exempt_28 ?_
  refine r_cast (ci := 8) hX rfl hvs cl_X8_121 dX8_exempt_31 ?_
  refine r_astore (lv' := [(4, .ref v.1), (0, .ref (z_b G)), (1, .int (nI iv)), (2, .int (nI o)), (3, .int 1)]) hX (by decide) rfl dX8_exempt_34 ?_
  refine r_aload hX 0 rfl dX8_exempt_36 ?_
  refine r_iload_n hX rfl 3 rfl dX8_exempt_38 ?_
  refine r_callVR (As := [.int (nI o)]) (rest := []) (rv := some (.int (zf_b (zf_hasBit v.2.2.2.1 (nI o))))) (st1 := [.int (zf_b (zf_hasBit v.2.2.2.1 (nI o)))]) hX cs_X8_129 (by decide) (fun l => c_X7_isExempt l G h top v iv hvs (nI o)) hvs rfl rfl rfl rfl (Nat.le_of_ble_eq_true rfl) dX8_exempt_39 ?_
  refine r_istore (lv' := [(5, .int (zf_b (zf_hasBit v.2.2.2.1 (nI o)))), (4, .ref v.1), (0, .ref (z_b G)), (1, .int (nI iv)), (2, .int (nI o)), (3, .int 1)]) hX (by decide) rfl dX8_exempt_42 ?_
  refine r_aload hX 1 rfl dX8_exempt_44 ?_
  refine r_iload_n hX rfl 4 rfl dX8_exempt_46 ?_
  refine r_iload_n hX rfl 5 rfl dX8_exempt_47 ?_
  refine r_callVR (As := [.int (nI o), .int 1]) (rest := []) (rv := none) (st1 := []) hX cs_X8_132 (by decide) (fun l => c_X7_setExempt l G h top v iv hvs (nI o)) hvs rfl rfl rfl rfl (Nat.le_of_ble_eq_true rfl) dX8_exempt_48 ?_
  refine r_iload hX 0 rfl dX8_exempt_51 ?_
  exact r_zret hX hq (zf_b01 _) ⟨rfl, be, H.setVeh (p2 := (v.1, v.2.1, v.2.2.1, v.2.2.2.1 ||| (1 <<< (nI o &&& 31)), v.2.2.2.2.1, v.2.2.2.2.2)) hv rfl⟩ dX8_exempt_53

def zm_erase1 (s : zS) (k : Nat) (y : zSgt) : zS := ((s_shuts s, s_now s, s_cap s, s_listed s, s_alarms s, s_catches s, s_erased s + 1), s.2.1, s_segs s, s_vehs s, s_tars s, (s_sgts s).set k (y.1, y.2.1, y.2.2.1, y.2.2.2.1, 1))
def zm_eraseF (s : zS) (d : Int32) : Nat → zS
  | 0 => s
  | k + 1 => match (s_sgts (zm_eraseF s d k))[k]? with
    | none => zm_eraseF s d k
    | some y => if y.2.2.1 / 1440 = d then zm_erase1 (zm_eraseF s d k) k y else zm_eraseF s d k
theorem zm_eraseF_s {s : zS} {d : Int32} {k : Nat} {y : zSgt} (h : (s_sgts (zm_eraseF s d k))[k]? = some y) : zm_eraseF s d (k + 1) = if y.2.2.1 / 1440 = d then zm_erase1 (zm_eraseF s d k) k y else zm_eraseF s d k := by
  show (match (s_sgts (zm_eraseF s d k))[k]? with
    | none => zm_eraseF s d k
    | some y => if y.2.2.1 / 1440 = d then zm_erase1 (zm_eraseF s d k) k y else zm_eraseF s d k) = _
  rw [h]
def zm_erase (s : zS) (d : Int32) : zS := zm_eraseF s d (s_sgts s).length
set_option maxRecDepth 20000 in
set_option maxHeartbeats 4000000 in
theorem f_erase_step {X : zX} {G : zG} {h : zH} {top : Nat} {Post : Option Value → zH → Nat → Prop} (s : zS) (d : Int32) (hp : ∀ (h : zH) (top : Nat) (be : zB), z_St G (zm_erase s d) be h top → Post none h top) (k i : Nat) (be : zB) (hk : (s_sgts s).length - i < k + 1) (hi : i ≤ (s_sgts s).length) (hinv : z_St G (zm_eraseF s d i) be h top ∧ (s_sgts (zm_eraseF s d i)).length = (s_sgts s).length) (ih : ∀ (i : Nat) (h : zH) (top : Nat) (be : zB), (s_sgts s).length - i < k → i ≤ (s_sgts s).length → (z_St G (zm_eraseF s d i) be h top ∧ (s_sgts (zm_eraseF s d i)).length = (s_sgts s).length) → z_Z X h top 2 [(2, .int (nI i)), (0, .ref (z_b G)), (1, .int d)] []) (hX : z_ok X cX8_eraseDay 4 RX8 none "eraseDay" 4 G) (hq : z_mq X (Post)) : z_Z X h top 2 [(2, .int (nI i)), (0, .ref (z_b G)), (1, .int d)] [] := by
  obtain ⟨s2, hs2⟩ : ∃ z, z = zm_eraseF s d i := ⟨_, rfl⟩
  rw [← hs2] at hinv
  obtain ⟨H, hln⟩ := hinv
  have hbd := H.2.2.1.2.2
  have hha := H.hall
  have hl2 := H.l2
  have hl21 := hl2.1
  refine r_iload_n hX rfl 0 rfl dX8_eraseDay_2 ?_
  refine r_aload_n hX rfl 1 rfl dX8_eraseDay_3 ?_
  refine r_getf hX fl_X8_19 hha rfl dX8_eraseDay_4 ?_
  refine r_callVR (As := []) (rest := [.int (nI i)]) (rv := some (.int (nI (s_sgts s2).length))) (st1 := [.int (nI (s_sgts s2).length), .int (nI i)]) hX cs_X8_69 (by decide) (fun l => z_size hl2 l) hl21 rfl rfl rfl rfl (Nat.le_of_ble_eq_true rfl) dX8_eraseDay_7 ?_
  refine r_icmp_ge (tgt := 58) hX dX8_eraseDay_10 rfl (fun c10 => ?_) (fun c10 => ?_)
  · skip
    exact r_vret hX hq (hp _ _ be (by rw [zm_erase, ← ge_n (n := (s_sgts s).length) (by omega) hi (by rw [← hln]; exact c10), ← hs2]; exact H)) dX8_eraseDay_58
  · skip
    have hlt := lt_n (by omega) c10
    obtain ⟨y, hy⟩ : ∃ y, (s_sgts s2)[i]? = some y := ⟨_, List.getElem?_eq_getElem hlt⟩
    have hys := H.sgt hy
    refine r_aload_n hX rfl 1 rfl dX8_eraseDay_13 ?_
    refine r_getf hX fl_X8_19 hha rfl dX8_eraseDay_14 ?_
    refine r_iload_n hX rfl 0 rfl dX8_eraseDay_17 ?_
    refine r_callVR (As := [.int (nI i)]) (rest := []) (rv := some (.ref y.1)) (st1 := [.ref y.1]) hX cs_X8_92 (by decide) (fun l => z_get hl2 hlt (z_mapget hy) l) hl21 rfl rfl rfl rfl (Nat.le_of_ble_eq_true rfl) dX8_eraseDay_18 ?_
    refine r_cast (ci := 5) hX rfl hys cl_X8_145 dX8_eraseDay_21 ?_
    refine r_astore_n (lv' := [(3, .ref y.1), (2, .int (nI i)), (0, .ref (z_b G)), (1, .int d)]) hX rfl (by decide) rfl dX8_eraseDay_24 ?_
    refine r_aload_n hX rfl 0 rfl dX8_eraseDay_25 ?_
    refine r_getf hX fl_X8_264 hys rfl dX8_eraseDay_26 ?_
    refine r_sipush (v := 1440) hX (by decide) dX8_eraseDay_29 ?_
    refine r_idiv hX (by decide) dX8_eraseDay_32 ?_
    refine r_iload_n hX rfl 3 rfl dX8_eraseDay_33 ?_
    refine r_icmp_ne (tgt := 52) hX dX8_eraseDay_34 rfl (fun c34 => ?_) (fun c34 => ?_)
    · skip
      refine r_iinc (q := 1) (lv' := [(2, .int ((nI i) + 1)), (3, .ref y.1), (0, .ref (z_b G)), (1, .int d)]) hX rfl rfl (by decide) rfl dX8_eraseDay_52 ?_
      refine r_goto (tgt := 2) hX rfl dX8_eraseDay_55 ?_
      refine r_lv [0, 2, 3] (lv2 := [(2, .int (nI i + 1)), (0, .ref (z_b G)), (1, .int d)]) rfl ?_
      rw [nI_1]
      refine ih (i + 1) _ _ be (by omega) (by omega) ?_
      rw [zm_eraseF_s (by rw [← hs2]; exact hy), ← hs2, if_neg (by first | exact c34 | exact fun z => c34 z)]
      exact ⟨H, hln⟩
    · skip
      refine r_aload_n hX rfl 0 rfl dX8_eraseDay_37 ?_
      refine r_iconst (v := 1) hX (by decide) dX8_eraseDay_38 ?_
      refine r_put (fs2 := [.ref y.2.1.1, .ref y.2.1.2, .int y.2.2.1, .int y.2.2.2.1, .int 1]) hX fp_X8_166 hys rfl rfl (Nat.le_of_ble_eq_true rfl) rfl dX8_eraseDay_39 ?_
      replace hha := hha.up (e3 := (.inr (5, [.ref y.2.1.1, .ref y.2.1.2, .int y.2.2.1, .int y.2.2.2.1, .int 1]))) hys (by intro z; cases z)
      replace hl21 := hl21.up (e3 := (.inr (5, [.ref y.2.1.1, .ref y.2.1.2, .int y.2.2.1, .int y.2.2.2.1, .int 1]))) hys (by intro z; cases z)
      replace hys : z_at G (va_up h y.1 (.inr (5, [.ref y.2.1.1, .ref y.2.1.2, .int y.2.2.1, .int y.2.2.2.1, .int 1]))) top y.1 (.inr (5, [.ref y.2.1.1, .ref y.2.1.2, .int y.2.2.1, .int y.2.2.2.1, .int 1])) := z_at.self hys
      refine r_aload_n hX rfl 2 rfl dX8_eraseDay_42 ?_
      refine r_dup hX rfl dX8_eraseDay_43 ?_
      refine r_getf hX fl_X8_291 hha rfl dX8_eraseDay_44 ?_
      refine r_iconst (v := 1) hX (by decide) dX8_eraseDay_47 ?_
      refine r_iadd hX dX8_eraseDay_48 ?_
      refine r_put (fs2 := [.ref (z_b G + 1), .ref (z_b G + 2), .ref (z_b G + 3), .ref (z_b G + 4), .ref (z_b G + 7), .ref (z_b G + 11), .ref (z_b G + 16), .int (s_shuts s2), .int (s_now s2), .int (s_cap s2), .int (s_listed s2), .int (s_alarms s2), .int (s_catches s2), .int ((s_erased s2) + 1)]) hX fp_X8_291 hha rfl rfl (Nat.le_of_ble_eq_true rfl) rfl dX8_eraseDay_49 ?_
      replace hl21 := hl21.up (e3 := (.inr (9, [.ref (z_b G + 1), .ref (z_b G + 2), .ref (z_b G + 3), .ref (z_b G + 4), .ref (z_b G + 7), .ref (z_b G + 11), .ref (z_b G + 16), .int (s_shuts s2), .int (s_now s2), .int (s_cap s2), .int (s_listed s2), .int (s_alarms s2), .int (s_catches s2), .int ((s_erased s2) + 1)]))) hha (by intro z; cases z)
      replace hys := hys.up (e3 := (.inr (9, [.ref (z_b G + 1), .ref (z_b G + 2), .ref (z_b G + 3), .ref (z_b G + 4), .ref (z_b G + 7), .ref (z_b G + 11), .ref (z_b G + 16), .int (s_shuts s2), .int (s_now s2), .int (s_cap s2), .int (s_listed s2), .int (s_alarms s2), .int (s_catches s2), .int ((s_erased s2) + 1)]))) hha (by intro z; cases z)
      replace hha : z_at G (va_up (va_up h y.1 (.inr (5, [.ref y.2.1.1, .ref y.2.1.2, .int y.2.2.1, .int y.2.2.2.1, .int 1]))) (z_b G) (.inr (9, [.ref (z_b G + 1), .ref (z_b G + 2), .ref (z_b G + 3), .ref (z_b G + 4), .ref (z_b G + 7), .ref (z_b G + 11), .ref (z_b G + 16), .int (s_shuts s2), .int (s_now s2), .int (s_cap s2), .int (s_listed s2), .int (s_alarms s2), .int (s_catches s2), .int ((s_erased s2) + 1)]))) top (z_b G) (.inr (9, [.ref (z_b G + 1), .ref (z_b G + 2), .ref (z_b G + 3), .ref (z_b G + 4), .ref (z_b G + 7), .ref (z_b G + 11), .ref (z_b G + 16), .int (s_shuts s2), .int (s_now s2), .int (s_cap s2), .int (s_listed s2), .int (s_alarms s2), .int (s_catches s2), .int ((s_erased s2) + 1)])) := z_at.self hha
      refine r_iinc (q := 1) (lv' := [(2, .int ((nI i) + 1)), (3, .ref y.1), (0, .ref (z_b G)), (1, .int d)]) hX rfl rfl (by decide) rfl dX8_eraseDay_52 ?_
      refine r_goto (tgt := 2) hX rfl dX8_eraseDay_55 ?_
      refine r_lv [0, 2, 3] (lv2 := [(2, .int (nI i + 1)), (0, .ref (z_b G)), (1, .int d)]) rfl ?_
      rw [nI_1]
      refine ih (i + 1) _ _ be (by omega) (by omega) ?_
      rw [zm_eraseF_s (by rw [← hs2]; exact hy), ← hs2, if_pos (by first | exact c34 | exact Decidable.not_not.mp c34)]
      exact ⟨(H.setSgt (p2 := (y.1, y.2.1, y.2.2.1, y.2.2.2.1, 1)) hy rfl rfl).setHall _, (List.length_set ..).trans hln⟩

theorem f_erase {X : zX} {G : zG}  {Post : Option Value → zH → Nat → Prop} (s : zS) (d : Int32) (hp : ∀ (h : zH) (top : Nat) (be : zB), z_St G (zm_erase s d) be h top → Post none h top) (hX : z_ok X cX8_eraseDay 4 RX8 none "eraseDay" 4 G) (hq : z_mq X Post) : ∀ (k i : Nat) (h : zH) (top : Nat) (be : zB), (s_sgts s).length - i < k → i ≤ (s_sgts s).length → (z_St G (zm_eraseF s d i) be h top ∧ (s_sgts (zm_eraseF s d i)).length = (s_sgts s).length) → z_Z X h top 2 [(2, .int (nI i)), (0, .ref (z_b G)), (1, .int d)] [] := by
  intro k
  induction k with
  | zero => intros; omega
  | succ k ih => intro i h top be hk hi hinv; exact f_erase_step s d hp k i be hk hi hinv ih hX hq
set_option maxRecDepth 20000 in
set_option maxHeartbeats 4000000 in
theorem c_X8_eraseDay (l : Launch) (G : zG) (h : zH) (top : Nat) (s : zS) (be : zB) (H : z_St G s be h top) (d : Int32) : z_Ct l yX8_eraseDay cX8_eraseDay 4 none 4 G [.ref (z_b G), .int d] h top (fun r h' top' => r = none ∧ ∃ be2, z_St G (zm_erase s d) be2 h' top') := by
  refine z_of (own := RX8) (nm := "eraseDay") (by decide) rfl rfl (by decide) (Nat.le_of_ble_eq_true rfl) (fun X hX hq => ?_)
  replace hX : z_ok X cX8_eraseDay 4 RX8 none "eraseDay" 4 G := hX
  show z_Z X h top 0 [(0, .ref (z_b G)), (1, .int d)] []
  refine r_iconst (v := 0) hX (by decide) dX8_eraseDay_0 ?_
  refine r_istore_n (lv' := [(2, .int 0), (0, .ref (z_b G)), (1, .int d)]) hX rfl (by decide) rfl dX8_eraseDay_1 ?_
  rw [← nI_0]
  refine r_lv [0, 1, 2] (lv2 := [(2, .int (nI 0)), (0, .ref (z_b G)), (1, .int d)]) rfl ?_
  exact f_erase s d (fun h9 t9 b9 H9 => ⟨rfl, b9, H9⟩) hX hq ((s_sgts s).length + 1) 0 h top be (by omega) (by omega) ⟨H, rfl⟩

def zm_closeF (s : zS) (d : Nat) : Nat → Int32 × zS
  | 0 => (0, s)
  | k + 1 => match (s_vehs (zm_closeF s d k).2)[k]? with
    | none => zm_closeF s d k
    | some v => ((zm_closeF s d k).1 + (zm_takeBill (zm_closeF s d k).2 k v d).1, (zm_takeBill (zm_closeF s d k).2 k v d).2)
theorem zm_closeF_s {s : zS} {d : Nat} {k : Nat} {v : zVeh} (h : (s_vehs (zm_closeF s d k).2)[k]? = some v) : zm_closeF s d (k + 1) = ((zm_closeF s d k).1 + (zm_takeBill (zm_closeF s d k).2 k v d).1, (zm_takeBill (zm_closeF s d k).2 k v d).2) := by
  show (match (s_vehs (zm_closeF s d k).2)[k]? with
    | none => zm_closeF s d k
    | some v => ((zm_closeF s d k).1 + (zm_takeBill (zm_closeF s d k).2 k v d).1, (zm_takeBill (zm_closeF s d k).2 k v d).2)) = _
  rw [h]
theorem zm_tb_len (s : zS) (iv : Nat) (v : zVeh) (d : Nat) : (s_vehs (zm_takeBill s iv v d).2).length = (s_vehs s).length := by
  unfold zm_takeBill zm_guest
  dsimp only
  split
  · exact (List.length_set ..).trans (List.length_set ..)
  · exact List.length_set ..
def zm_kept (s : zS) (d : Nat) : zS := zs_L s (s_coins s, upd (s_caps s) (nI d).toNatClampNeg (s_cap s), s_paid s, s_hall s, s_taken s, s_gb s)
def zm_close (s : zS) (d : Nat) : Int32 × zS := zm_closeF (zm_kept s d) d (s_vehs s).length
set_option maxRecDepth 20000 in
set_option maxHeartbeats 4000000 in
theorem f_close_step {X : zX} {G : zG} {h : zH} {top : Nat} {Post : Option Value → zH → Nat → Prop} (s : zS) (d : Nat) (hd : d < 41) (hp : ∀ (v2 : Int32) (h : zH) (top : Nat) (be : zB), z_St G (zm_closeF s d (s_vehs s).length).2 be h top → v2 = (zm_closeF s d (s_vehs s).length).1 → Post (some (.int v2)) h top) (k i : Nat) (be : zB) (acc : Int32) (hk : (s_vehs s).length - i < k + 1) (hi : i ≤ (s_vehs s).length) (hinv : z_St G (zm_closeF s d i).2 be h top ∧ acc = (zm_closeF s d i).1 ∧ (s_vehs (zm_closeF s d i).2).length = (s_vehs s).length) (ih : ∀ (i : Nat) (h : zH) (top : Nat) (be : zB) (acc : Int32), (s_vehs s).length - i < k → i ≤ (s_vehs s).length → (z_St G (zm_closeF s d i).2 be h top ∧ acc = (zm_closeF s d i).1 ∧ (s_vehs (zm_closeF s d i).2).length = (s_vehs s).length) → z_Z X h top 22 [(3, .int (nI i)), (2, .int acc), (0, .ref (z_b G)), (1, .int (nI d))] []) (hX : z_ok X cX8_closeDay 4 RX8 (some .int) "closeDay" 13 G) (hq : z_mq X (Post)) : z_Z X h top 22 [(3, .int (nI i)), (2, .int acc), (0, .ref (z_b G)), (1, .int (nI d))] [] := by
  obtain ⟨s2, hs2⟩ : ∃ z, z = zm_closeF s d i := ⟨_, rfl⟩
  rw [← hs2] at hinv
  obtain ⟨H, hac, hln⟩ := hinv
  have hbd := H.2.2.1.2.2
  have hha := H.hall
  have hl1 := H.l1
  have hl11 := hl1.1
  refine r_iload_n hX rfl 0 rfl dX8_closeDay_22 ?_
  refine r_aload_n hX rfl 2 rfl dX8_closeDay_23 ?_
  refine r_getf hX fl_X8_16 hha rfl dX8_closeDay_24 ?_
  refine r_callVR (As := []) (rest := [.int (nI i)]) (rv := some (.int (nI (s_vehs s2.2).length))) (st1 := [.int (nI (s_vehs s2.2).length), .int (nI i)]) hX cs_X8_69 (by decide) (fun l => z_size hl1 l) hl11 rfl rfl rfl rfl (Nat.le_of_ble_eq_true rfl) dX8_closeDay_27 ?_
  refine r_icmp_ge (tgt := 58) hX dX8_closeDay_30 rfl (fun c30 => ?_) (fun c30 => ?_)
  · skip
    refine r_iload_n hX rfl 1 rfl dX8_closeDay_58 ?_
    exact r_iret hX hq (hp _ _ _ be (by rw [← ge_n (n := (s_vehs s).length) (by omega) hi (by rw [← hln]; exact c30), ← hs2]; exact H) (by rw [← ge_n (n := (s_vehs s).length) (by omega) hi (by rw [← hln]; exact c30), ← hs2]; exact hac)) dX8_closeDay_59
  · skip
    have hlt := lt_n (by omega) c30
    obtain ⟨v, hv⟩ : ∃ v, (s_vehs s2.2)[i]? = some v := ⟨_, List.getElem?_eq_getElem hlt⟩
    have hvs := H.veh hv
    refine r_iload_n hX rfl 1 rfl dX8_closeDay_33 ?_
    refine r_aload_n hX rfl 2 rfl dX8_closeDay_34 ?_
    refine r_aload_n hX rfl 2 rfl dX8_closeDay_35 ?_
    refine r_getf hX fl_X8_16 hha rfl dX8_closeDay_36 ?_
    refine r_iload_n hX rfl 0 rfl dX8_closeDay_39 ?_
    refine r_callVR (As := [.int (nI i)]) (rest := [.ref (z_b G), .int acc]) (rv := some (.ref v.1)) (st1 := [.ref v.1, .ref (z_b G), .int acc]) hX cs_X8_92 (by decide) (fun l => z_get hl1 hlt (z_mapget hv) l) hl11 rfl rfl rfl rfl (Nat.le_of_ble_eq_true rfl) dX8_closeDay_40 ?_
    refine r_cast (ci := 8) hX rfl hvs cl_X8_121 dX8_closeDay_43 ?_
    refine r_iload_n hX rfl 3 rfl dX8_closeDay_46 ?_
    refine r_callV (As := [.ref v.1, .int (nI d)]) (rest := [.int acc]) hX cs_X8_370 (by decide) (fun l => c_X8_takeBill l G h top s2.2 be H i v hv d hd) hha rfl rfl rfl (Nat.le_of_ble_eq_true rfl) dX8_closeDay_47 (fun r1 h1 top1 hp1 => ?_)
    obtain ⟨rfl, be1, H1⟩ := hp1
    refine r_iadd hX dX8_closeDay_50 ?_
    refine r_istore_n (lv' := [(2, .int (acc + (zm_takeBill s2.2 i v d).1)), (3, .int (nI i)), (0, .ref (z_b G)), (1, .int (nI d))]) hX rfl (by decide) rfl dX8_closeDay_51 ?_
    refine r_iinc (q := 1) (lv' := [(3, .int ((nI i) + 1)), (2, .int (acc + (zm_takeBill s2.2 i v d).1)), (0, .ref (z_b G)), (1, .int (nI d))]) hX rfl rfl (by decide) rfl dX8_closeDay_52 ?_
    refine r_goto (tgt := 22) hX rfl dX8_closeDay_55 ?_
    refine r_lv [0, 1, 2, 3] (lv2 := [(3, .int (nI i + 1)), (2, .int (acc + (zm_takeBill s2.2 i v d).1)), (0, .ref (z_b G)), (1, .int (nI d))]) rfl ?_
    rw [nI_1]
    refine ih (i + 1) _ _ be1 _ (by omega) (by omega) ?_
    rw [zm_closeF_s (by rw [← hs2]; exact hv), ← hs2]
    exact ⟨H1, by rw [hac], (zm_tb_len _ _ _ _).trans hln⟩

theorem f_close {X : zX} {G : zG}  {Post : Option Value → zH → Nat → Prop} (s : zS) (d : Nat) (hd : d < 41) (hp : ∀ (v2 : Int32) (h : zH) (top : Nat) (be : zB), z_St G (zm_closeF s d (s_vehs s).length).2 be h top → v2 = (zm_closeF s d (s_vehs s).length).1 → Post (some (.int v2)) h top) (hX : z_ok X cX8_closeDay 4 RX8 (some .int) "closeDay" 13 G) (hq : z_mq X Post) : ∀ (k i : Nat) (h : zH) (top : Nat) (be : zB) (acc : Int32), (s_vehs s).length - i < k → i ≤ (s_vehs s).length → (z_St G (zm_closeF s d i).2 be h top ∧ acc = (zm_closeF s d i).1 ∧ (s_vehs (zm_closeF s d i).2).length = (s_vehs s).length) → z_Z X h top 22 [(3, .int (nI i)), (2, .int acc), (0, .ref (z_b G)), (1, .int (nI d))] [] := by
  intro k
  induction k with
  | zero => intros; omega
  | succ k ih => intro i h top be acc hk hi hinv; exact f_close_step s d hd hp k i be acc hk hi hinv ih hX hq
set_option maxRecDepth 20000 in
set_option maxHeartbeats 4000000 in
theorem c_X8_closeDay (l : Launch) (G : zG) (h : zH) (top : Nat) (s : zS) (be : zB) (H : z_St G s be h top) (d : Nat) (hd : d < 41) : z_Ct l yX8_closeDay cX8_closeDay 4 (some .int) 13 G [.ref (z_b G), .int (nI d)] h top (z_PQ G (zm_close s d).2 (.int (zm_close s d).1)) := by
  refine z_of (own := RX8) (nm := "closeDay") (by decide) rfl rfl (by decide) (Nat.le_of_ble_eq_true rfl) (fun X hX hq => ?_)
  replace hX : z_ok X cX8_closeDay 4 RX8 (some .int) "closeDay" 13 G := hX
  show z_Z X h top 0 [(0, .ref (z_b G)), (1, .int (nI d))] []
  have hha := H.hall
  have hbd := H.2.2.1.2.2
  have hl0 := H.l0
  have hl01 := hl0.1
  have hl1 := H.l1
  have hl11 := hl1.1
  have hl2 := H.l2
  have hl21 := hl2.1
  have hbk := H.bk
  have hlg := H.lg
  refine r_iload_n hX rfl 1 rfl dX8_closeDay_0 ?_
  refine r_if_ge (tgt := 6) hX dX8_closeDay_1 rfl (fun _ => ?_) (fun c => False.elim (nI_pos (by omega) (Int32.not_le.mp c)))
  refine r_aload_n hX rfl 0 rfl dX8_closeDay_6 ?_
  refine r_getf hX fl_X8_32 hha rfl dX8_closeDay_7 ?_
  refine r_iload_n hX rfl 1 rfl dX8_closeDay_10 ?_
  refine r_aload_n hX rfl 0 rfl dX8_closeDay_11 ?_
  refine r_getf hX fl_X8_47 hha rfl dX8_closeDay_12 ?_
  refine r_callV (As := [.int (nI d), .int (s_cap s)]) (rest := []) hX cs_X8_367 (by decide) (fun l => c_X1_keepCap l G h top s be H d hd (s_cap s)) hlg rfl rfl rfl (Nat.le_of_ble_eq_true rfl) dX8_closeDay_15 (fun r1 h1 top1 hp1 => ?_)
  obtain ⟨rfl, rfl, H1⟩ := hp1
  refine r_iconst (v := 0) hX (by decide) dX8_closeDay_18 ?_
  refine r_istore_n (lv' := [(2, .int 0), (0, .ref (z_b G)), (1, .int (nI d))]) hX rfl (by decide) rfl dX8_closeDay_19 ?_
  refine r_iconst (v := 0) hX (by decide) dX8_closeDay_20 ?_
  refine r_istore_n (lv' := [(3, .int 0), (2, .int 0), (0, .ref (z_b G)), (1, .int (nI d))]) hX rfl (by decide) rfl dX8_closeDay_21 ?_
  rw [← nI_0]
  refine r_lv [0, 1, 2, 3] (lv2 := [(3, .int (nI 0)), (2, .int (nI 0)), (0, .ref (z_b G)), (1, .int (nI d))]) rfl ?_
  exact f_close (zm_kept s d) d hd (fun v2 h9 t9 b9 H9 e => ⟨by rw [e]; rfl, b9, H9⟩) hX hq ((s_vehs s).length + 1) 0 h1 _ be (nI 0) (by show (s_vehs s).length - 0 < _; omega) (by omega) ⟨H1, by rw [nI_0]; rfl, rfl⟩

