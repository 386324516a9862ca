/-! disputing -/
def zm_backF (l : zL6) (d iv : Nat) (due : Nat → Int32) : Nat → Int32 × zL6
  | 0 => (0, l)
  | o + 1 => ((zm_backF l d iv due o).1 + (zm_giveBack (zm_backF l d iv due o).2 (zm_pl d iv o) o (due o)).1, (zm_giveBack (zm_backF l d iv due o).2 (zm_pl d iv o) o (due o)).2)
def zm_back (s : zS) (iv : Nat) (v : zVeh) (d : Nat) : Int32 × zL6 := zm_backF s.2.1 d iv (fun o => zm_dueTo s (nI o) (zm_day s v.1 (nI d)) (zm_charge s v v.2.1.1 (s_caps s (nI d).toNatClampNeg) (zm_day s v.1 (nI d))).2) 4
def zs_back (s : zS) (iv : Nat) (v : zVeh) (p : Int32 × zL6) : zS := (s.1, p.2, s_segs s, (s_vehs s).set iv (v.1, v.2.1, v.2.2.1 + p.1, v.2.2.2.1, v.2.2.2.2.1 - p.1, v.2.2.2.2.2), s_tars s, s_sgts s)
set_option maxRecDepth 20000 in
set_option maxHeartbeats 4000000 in
theorem f_disp_step {X : zX} {G : zG} {h : zH} {top : Nat} {Post : Option Value → zH → Nat → Prop} (s1 : zS) (iv : Nat) (v : zVeh) (hv : (s_vehs s1)[iv]? = some v) (rch : Nat → Int32) (ct : Int32) (rows : List zQ) (RI : List Nat) (vals : List (Int32 × Int32)) (hvl : vals.length = rows.length) (d : Nat) (hd : d < 41) (hp : ∀ (v2 : Int32) (h : zH) (top : Nat) (be : zB), v2 = (zm_backF s1.2.1 d iv (fun o => zm_dueTo s1 (nI o) rows vals) 4).1 → z_St G (zs_back s1 iv v (zm_backF s1.2.1 d iv (fun o => zm_dueTo s1 (nI o) rows vals) 4)) be h top → Post (some (.int v2)) h top) (k i : Nat) (be : zB) (acc : Int32) (hk : 4 - i < k + 1) (hi : i ≤ 4) (hinv : z_DC G (zs_L s1 (zm_backF s1.2.1 d iv (fun o => zm_dueTo s1 (nI o) rows vals) i).2) rch ct be rows RI vals h top ∧ acc = (zm_backF s1.2.1 d iv (fun o => zm_dueTo s1 (nI o) rows vals) i).1) (ih : ∀ (i : Nat) (h : zH) (top : Nat) (be : zB) (acc : Int32), 4 - i < k → i ≤ 4 → (z_DC G (zs_L s1 (zm_backF s1.2.1 d iv (fun o => zm_dueTo s1 (nI o) rows vals) i).2) rch ct be rows RI vals h top ∧ acc = (zm_backF s1.2.1 d iv (fun o => zm_dueTo s1 (nI o) rows vals) i).1) → z_Z X h top 98 [(5, .int (nI i)), (4, .int acc), (0, .ref (z_b G)), (1, .int (nI iv)), (2, .int (nI d)), (3, .ref v.1)] []) (hX : z_ok X cX8_dispute 6 RX8 (some .int) "dispute" 12 G) (hq : z_mq X (Post)) : z_Z X h top 98 [(5, .int (nI i)), (4, .int acc), (0, .ref (z_b G)), (1, .int (nI iv)), (2, .int (nI d)), (3, .ref v.1)] [] := by
  obtain ⟨L, hL⟩ : ∃ L, L = (zm_backF s1.2.1 d iv (fun o => zm_dueTo s1 (nI o) rows vals) i) := ⟨_, rfl⟩
  rw [← hL] at hinv
  obtain ⟨J, hac⟩ := hinv
  have hha := J.1.1.hall
  have hbk := J.1.1.bk
  have hlg := J.1.1.lg
  have hvs : z_at G h top v.1 (z_vehC iv v) := J.1.1.veh hv
  refine r_iload hX 0 rfl dX8_dispute_98 ?_
  refine r_iconst (v := 4) hX (by decide) dX8_dispute_100 ?_
  refine r_icmp_ge (tgt := 135) hX dX8_dispute_101 rfl (fun c101 => ?_) (fun c101 => ?_)
  · skip
    refine r_aload_n hX rfl 5 rfl dX8_dispute_135 ?_
    refine r_dup hX rfl dX8_dispute_136 ?_
    refine r_getf hX fl_X8_136 hvs rfl dX8_dispute_137 ?_
    refine r_iload hX 1 rfl dX8_dispute_140 ?_
    refine r_iadd hX dX8_dispute_142 ?_
    refine r_put (fs2 := [.int (nI iv), .int v.2.1.1, .int v.2.1.2.1, .int v.2.1.2.2, .int (v.2.2.1 + acc), .int v.2.2.2.1, .int v.2.2.2.2.1, .int v.2.2.2.2.2]) hX fp_X8_136 hvs rfl rfl (Nat.le_of_ble_eq_true rfl) rfl dX8_dispute_143 ?_
    replace hha := hha.up (e3 := (.inr (8, [.int (nI iv), .int v.2.1.1, .int v.2.1.2.1, .int v.2.1.2.2, .int (v.2.2.1 + acc), .int v.2.2.2.1, .int v.2.2.2.2.1, .int v.2.2.2.2.2]))) hvs (by intro z; cases z)
    replace hbk := hbk.up (e3 := (.inr (8, [.int (nI iv), .int v.2.1.1, .int v.2.1.2.1, .int v.2.1.2.2, .int (v.2.2.1 + acc), .int v.2.2.2.1, .int v.2.2.2.2.1, .int v.2.2.2.2.2]))) hvs (by intro z; cases z)
    replace hlg := hlg.up (e3 := (.inr (8, [.int (nI iv), .int v.2.1.1, .int v.2.1.2.1, .int v.2.1.2.2, .int (v.2.2.1 + acc), .int v.2.2.2.1, .int v.2.2.2.2.1, .int v.2.2.2.2.2]))) hvs (by intro z; cases z)
    replace hvs : z_at G (va_up h v.1 (.inr (8, [.int (nI iv), .int v.2.1.1, .int v.2.1.2.1, .int v.2.1.2.2, .int (v.2.2.1 + acc), .int v.2.2.2.1, .int v.2.2.2.2.1, .int v.2.2.2.2.2]))) top v.1 (.inr (8, [.int (nI iv), .int v.2.1.1, .int v.2.1.2.1, .int v.2.1.2.2, .int (v.2.2.1 + acc), .int v.2.2.2.1, .int v.2.2.2.2.1, .int v.2.2.2.2.2])) := z_at.self hvs
    refine r_aload_n hX rfl 5 rfl dX8_dispute_146 ?_
    refine r_dup hX rfl dX8_dispute_147 ?_
    refine r_getf hX fl_X8_219 hvs rfl dX8_dispute_148 ?_
    refine r_iload hX 1 rfl dX8_dispute_151 ?_
    refine r_isub hX dX8_dispute_153 ?_
    refine r_putU (fs2 := [.int (nI iv), .int v.2.1.1, .int v.2.1.2.1, .int v.2.1.2.2, .int (v.2.2.1 + acc), .int v.2.2.2.1, .int (v.2.2.2.2.1 - acc), .int v.2.2.2.2.2]) hX fp_X8_219 hvs rfl rfl (Nat.le_of_ble_eq_true rfl) rfl dX8_dispute_154 ?_
    try replace hha := z_at.u2 (e3 := (.inr (8, [.int (nI iv), .int v.2.1.1, .int v.2.1.2.1, .int v.2.1.2.2, .int (v.2.2.1 + acc), .int v.2.2.2.1, .int (v.2.2.2.2.1 - acc), .int v.2.2.2.2.2]))) hha hvs (by intro z; cases z)
    try replace hbk := z_at.u2 (e3 := (.inr (8, [.int (nI iv), .int v.2.1.1, .int v.2.1.2.1, .int v.2.1.2.2, .int (v.2.2.1 + acc), .int v.2.2.2.1, .int (v.2.2.2.2.1 - acc), .int v.2.2.2.2.2]))) hbk hvs (by intro z; cases z)
    try replace hlg := z_at.u2 (e3 := (.inr (8, [.int (nI iv), .int v.2.1.1, .int v.2.1.2.1, .int v.2.1.2.2, .int (v.2.2.1 + acc), .int v.2.2.2.1, .int (v.2.2.2.2.1 - acc), .int v.2.2.2.2.2]))) hlg hvs (by intro z; cases z)
    replace hvs : z_at G (va_up h v.1 (.inr (8, [.int (nI iv), .int v.2.1.1, .int v.2.1.2.1, .int v.2.1.2.2, .int (v.2.2.1 + acc), .int v.2.2.2.1, .int (v.2.2.2.2.1 - acc), .int v.2.2.2.2.2]))) top v.1 (.inr (8, [.int (nI iv), .int v.2.1.1, .int v.2.1.2.1, .int v.2.1.2.2, .int (v.2.2.1 + acc), .int v.2.2.2.1, .int (v.2.2.2.2.1 - acc), .int v.2.2.2.2.2])) := z_at.uu hvs
    refine r_iload hX 1 rfl dX8_dispute_157 ?_
    exact r_iret hX hq (hp acc _ _ be (by obtain rfl := ge_n (n := 4) (by decide) hi c101; rw [← hL, hac]) (by obtain rfl := ge_n (n := 4) (by decide) hi c101; rw [← hL, zs_back, ← hac]; exact J.1.1.setVeh (p2 := (v.1, v.2.1, v.2.2.1 + acc, v.2.2.2.1, v.2.2.2.2.1 - acc, v.2.2.2.2.2)) hv rfl)) dX8_dispute_159
  · skip
    refine r_iload hX 1 rfl dX8_dispute_104 ?_
    refine r_aload_n hX rfl 2 rfl dX8_dispute_106 ?_
    refine r_getf hX fl_X8_32 hha rfl dX8_dispute_107 ?_
    refine r_iload_n hX rfl 4 rfl dX8_dispute_110 ?_
    refine r_iload_n hX rfl 3 rfl dX8_dispute_111 ?_
    refine r_iload hX 0 rfl dX8_dispute_112 ?_
    refine r_aload_n hX rfl 2 rfl dX8_dispute_114 ?_
    refine r_getf hX fl_X8_39 hha rfl dX8_dispute_115 ?_
    refine r_iload hX 0 rfl dX8_dispute_118 ?_
    have hlt := lt_n (n := 4) (by omega) c101
    refine r_callVR (As := [.int (nI i)]) (rest := [.int (nI i), .int (nI iv), .int (nI d), .ref (z_b G + 7), .int acc]) (rv := some (.int (zm_dueTo s1 (nI i) rows vals))) (st1 := [.int (zm_dueTo s1 (nI i) rows vals), .int (nI i), .int (nI iv), .int (nI d), .ref (z_b G + 7), .int acc]) hX cs_X8_212 (by decide) (fun l => c_dueL l G h top s1 L.2 rch ct be rows RI vals J hvl (nI i)) hbk rfl rfl rfl rfl (Nat.le_of_ble_eq_true rfl) dX8_dispute_120 ?_
    refine r_callV (As := [.int (nI d), .int (nI iv), .int (nI i), .int (zm_dueTo s1 (nI i) rows vals)]) (rest := [.int acc]) hX cs_X8_215 (by decide) (fun l => c_X1_giveBack l G h top (zs_L s1 L.2) be J.1.1 d iv i hd (by have : iv < (s_vehs s1).length := (List.getElem?_eq_some_iff.mp hv).1; have : (s_vehs s1).length ≤ 3 := J.1.1.2.2.1.2.2.2.1; omega) hlt (zm_dueTo s1 (nI i) rows vals)) hlg rfl rfl rfl (Nat.le_of_ble_eq_true rfl) dX8_dispute_123 (fun r1 h1 top1 hp1 => ?_)
    obtain ⟨rfl, rfl, H1⟩ := hp1
    refine r_iadd hX dX8_dispute_126 ?_
    refine r_istore (lv' := [(4, .int (acc + (zm_giveBack L.2 (zm_pl d iv i) i (zm_dueTo s1 (nI i) rows vals)).1)), (5, .int (nI i)), (0, .ref (z_b G)), (1, .int (nI iv)), (2, .int (nI d)), (3, .ref v.1)]) hX (by decide) rfl dX8_dispute_127 ?_
    refine r_iinc (q := 1) (lv' := [(5, .int ((nI i) + 1)), (4, .int (acc + (zm_giveBack L.2 (zm_pl d iv i) i (zm_dueTo s1 (nI i) rows vals)).1)), (0, .ref (z_b G)), (1, .int (nI iv)), (2, .int (nI d)), (3, .ref v.1)]) hX rfl rfl (by decide) rfl dX8_dispute_129 ?_
    refine r_goto (tgt := 98) hX rfl dX8_dispute_132 ?_
    refine r_lv [0, 1, 2, 3, 4, 5] (lv2 := [(5, .int (nI i + 1)), (4, .int (acc + (zm_giveBack L.2 (zm_pl d iv i) i (zm_dueTo s1 (nI i) rows vals)).1)), (0, .ref (z_b G)), (1, .int (nI iv)), (2, .int (nI d)), (3, .ref v.1)]) rfl ?_
    rw [nI_1]
    subst hL
    exact ih (i + 1) h1 _ be _ (by omega) (by omega) ⟨⟨⟨H1, J.1.2⟩, J.2⟩, by rw [hac]; rfl⟩

theorem f_disp {X : zX} {G : zG}  {Post : Option Value → zH → Nat → Prop} (s1 : zS) (iv : Nat) (v : zVeh) (hv : (s_vehs s1)[iv]? = some v) (rch : Nat → Int32) (ct : Int32) (rows : List zQ) (RI : List Nat) (vals : List (Int32 × Int32)) (hvl : vals.length = rows.length) (d : Nat) (hd : d < 41) (hp : ∀ (v2 : Int32) (h : zH) (top : Nat) (be : zB), v2 = (zm_backF s1.2.1 d iv (fun o => zm_dueTo s1 (nI o) rows vals) 4).1 → z_St G (zs_back s1 iv v (zm_backF s1.2.1 d iv (fun o => zm_dueTo s1 (nI o) rows vals) 4)) be h top → Post (some (.int v2)) h top) (hX : z_ok X cX8_dispute 6 RX8 (some .int) "dispute" 12 G) (hq : z_mq X Post) : ∀ (k i : Nat) (h : zH) (top : Nat) (be : zB) (acc : Int32), 4 - i < k → i ≤ 4 → (z_DC G (zs_L s1 (zm_backF s1.2.1 d iv (fun o => zm_dueTo s1 (nI o) rows vals) i).2) rch ct be rows RI vals h top ∧ acc = (zm_backF s1.2.1 d iv (fun o => zm_dueTo s1 (nI o) rows vals) i).1) → z_Z X h top 98 [(5, .int (nI i)), (4, .int acc), (0, .ref (z_b G)), (1, .int (nI iv)), (2, .int (nI d)), (3, .ref v.1)] [] := by
  intro k
  induction k with
  | zero => intros; omega
  | succ k ih => intro i h top be acc hk hi hinv; exact f_disp_step s1 iv v hv rch ct rows RI vals hvl d hd hp k i be acc hk hi hinv ih hX hq
set_option maxRecDepth 20000 in
set_option maxHeartbeats 4000000 in
theorem c_X8_dispute (l : Launch) (G : zG) (h : zH) (top : Nat) (s : zS) (be : zB) (H : z_St G s be h top) (iv : Nat) (v : zVeh) (hv : (s_vehs s)[iv]? = some v) (d : Nat) (hd : d < 41) (hcl : nI d ≤ s_now s / 1440 - 2) (h5 : s_now s / 1440 - nI d < 5) : z_Ct l yX8_dispute cX8_dispute 6 (some .int) 12 G [.ref (z_b G), .int (nI iv), .int (nI d)] h top (z_PQ G (zs_back s iv v (zm_back s iv v d)) (.int (zm_back s iv v d).1)) := by
  refine z_of (own := RX8) (nm := "dispute") (by decide) rfl rfl (by decide) (Nat.le_of_ble_eq_true rfl) (fun X hX hq => ?_)
  replace hX : z_ok X cX8_dispute 6 RX8 (some .int) "dispute" 12 G := hX
  show z_Z X h top 0 [(0, .ref (z_b G)), (1, .int (nI iv)), (2, .int (nI d))] []
  have hha := H.hall
  have hbd := H.2.2.1.2.2
  have hl0 := H.l0
  have hl01 := hl0.1
  have hl1 := H.l1
  have hl11 := hl1.1
  have hl2 := H.l2
  have hl21 := hl2.1
  have hbk := H.bk
  have hvl : iv < (s_vehs s).length := (List.getElem?_eq_some_iff.mp hv).1
  have hvs := H.veh hv
  refine r_aload_n hX rfl 0 rfl dX8_dispute_0 ?_
  refine r_iload_n hX rfl 1 rfl dX8_dispute_1 ?_
  refine r_callVR (As := [.int (nI iv)]) (rest := []) (rv := some (.int 1)) (st1 := [.int 1]) hX cs_X8_126 (by decide) (fun l => c_X8_isVehicle l G h top s be H iv hvl) hha rfl rfl rfl rfl (Nat.le_of_ble_eq_true rfl) dX8_dispute_2 ?_
  refine r_callSR (As := [.int 1]) (rest := []) (rv := none) (st1 := []) hX cs_X8_58 (by decide) (fun l => c_X8_needIndex l G h top) rfl rfl rfl (Nat.le_of_ble_eq_true rfl) dX8_dispute_5 ?_
  refine r_iload_n hX rfl 2 rfl dX8_dispute_8 ?_
  refine r_if_lt (tgt := 34) hX dX8_dispute_9 rfl (fun c => False.elim (nI_pos (by omega) c)) (fun _ => ?_)
  refine r_aload_n hX rfl 0 rfl dX8_dispute_12 ?_
  refine r_iload_n hX rfl 2 rfl dX8_dispute_13 ?_
  refine r_callVR (As := [.int (nI d)]) (rest := []) (rv := some (.int 1)) (st1 := [.int 1]) hX cs_X8_142 (by decide) (fun l => c_isClosed_1 l G h top s be H hcl) hha rfl rfl rfl rfl (Nat.le_of_ble_eq_true rfl) dX8_dispute_14 ?_
  refine r_if_eq (tgt := 34) hX dX8_dispute_17 rfl (fun c => False.elim (absurd c (by decide))) (fun _ => ?_)
  refine r_aload_n hX rfl 0 rfl dX8_dispute_20 ?_
  refine r_callVR (As := []) (rest := []) (rv := some (.int (s_now s / 1440))) (st1 := [.int (s_now s / 1440)]) hX cs_X8_194 (by decide) (fun l => c_X8_today l G h top s be H) hha rfl rfl rfl rfl (Nat.le_of_ble_eq_true rfl) dX8_dispute_21 ?_
  refine r_iload_n hX rfl 2 rfl dX8_dispute_24 ?_
  refine r_isub hX dX8_dispute_25 ?_
  refine r_iconst (v := 5) hX (by decide) dX8_dispute_26 ?_
  refine r_icmp_ge (tgt := 34) hX dX8_dispute_27 rfl (fun c => False.elim (absurd h5 (Int32.not_lt.mpr c))) (fun _ => ?_)
  refine r_iconst (v := 1) hX (by decide) dX8_dispute_30 ?_
  refine r_goto (tgt := 35) hX rfl dX8_dispute_31 ?_
  refine r_callSR (As := [.int 1]) (rest := []) (rv := none) (st1 := []) hX cs_X8_66 (by decide) (fun l => c_X8_needArgument l G h top) rfl rfl rfl (Nat.le_of_ble_eq_true rfl) dX8_dispute_35 ?_
  refine r_aload_n hX rfl 0 rfl dX8_dispute_38 ?_
  refine r_getf hX fl_X8_16 hha rfl dX8_dispute_39 ?_
  refine r_iload_n hX rfl 1 rfl dX8_dispute_42 ?_
  refine r_callVR (As := [.int (nI iv)]) (rest := []) (rv := some (.ref v.1)) (st1 := [.ref v.1]) hX cs_X8_92 (by decide) (fun l => z_get hl1 hvl (z_mapget hv) l) hl11 rfl rfl rfl rfl (Nat.le_of_ble_eq_true rfl) dX8_dispute_43 ?_
  refine r_cast (ci := 8) hX rfl hvs cl_X8_121 dX8_dispute_46 ?_
  refine r_astore_n (lv' := [(3, .ref v.1), (0, .ref (z_b G)), (1, .int (nI iv)), (2, .int (nI d))]) hX rfl (by decide) rfl dX8_dispute_49 ?_
  refine r_aload_n hX rfl 1 rfl dX8_dispute_50 ?_
  refine r_getf hX fl_X8_39 hha rfl dX8_dispute_51 ?_
  refine r_aload_n hX rfl 1 rfl dX8_dispute_54 ?_
  refine r_getf hX fl_X8_19 hha rfl dX8_dispute_55 ?_
  refine r_aload_n hX rfl 1 rfl dX8_dispute_58 ?_
  refine r_getf hX fl_X8_10 hha rfl dX8_dispute_59 ?_
  refine r_aload_n hX rfl 0 rfl dX8_dispute_62 ?_
  refine r_iload_n hX rfl 3 rfl dX8_dispute_63 ?_
  refine r_callV (As := [.ref (z_b G + 3), .ref (z_b G + 1), .ref v.1, .int (nI d)]) (rest := []) hX cs_X8_197 (by decide) (fun l => c_X0_gather l G h top s be v.1 (nI d) H) hbk rfl rfl rfl (Nat.le_of_ble_eq_true rfl) dX8_dispute_64 (fun r1 h1 top1 hp1 => ?_)
  obtain ⟨rfl, be1, RI1, J1⟩ := hp1
  have hha1 := J1.1.hall
  have hbk1 := J1.1.bk
  have htf1 := J1.1.tfs
  have hlg1 := J1.1.lg
  have hl1_0 := J1.1.l0
  have hl1_01 := hl1_0.1
  have hl1_1 := J1.1.l1
  have hl1_11 := hl1_1.1
  have hl1_2 := J1.1.l2
  have hl1_21 := hl1_2.1
  have hvs1 := J1.1.veh hv
  refine r_aload_n hX rfl 1 rfl dX8_dispute_67 ?_
  refine r_getf hX fl_X8_39 hha1 rfl dX8_dispute_68 ?_
  refine r_aload_n hX rfl 0 rfl dX8_dispute_71 ?_
  refine r_aload_n hX rfl 0 rfl dX8_dispute_72 ?_
  refine r_getf hX fl_X8_201 hvs1 rfl dX8_dispute_73 ?_
  refine r_aload_n hX rfl 1 rfl dX8_dispute_76 ?_
  refine r_getf hX fl_X8_32 hha1 rfl dX8_dispute_77 ?_
  refine r_iload_n hX rfl 3 rfl dX8_dispute_80 ?_
  refine r_callVR (As := [.int (nI d)]) (rest := [.int v.2.1.1, .ref v.1, .ref (z_b G + 11)]) (rv := some (.int (s_caps s (nI d).toNatClampNeg))) (st1 := [.int (s_caps s (nI d).toNatClampNeg), .int v.2.1.1, .ref v.1, .ref (z_b G + 11)]) hX cs_X8_204 (by decide) (fun l => c_X1_capOfClosing l G h1 top1 s be1 J1.1 d hd) hlg1 rfl rfl rfl rfl (Nat.le_of_ble_eq_true rfl) dX8_dispute_81 ?_
  refine r_aload_n hX rfl 1 rfl dX8_dispute_84 ?_
  refine r_getf hX fl_X8_25 hha1 rfl dX8_dispute_85 ?_
  refine r_callV (As := [.ref v.1, .int v.2.1.1, .int (s_caps s (nI d).toNatClampNeg), .ref (z_b G + 4)]) (rest := []) hX cs_X8_208 (by decide) (fun l => c_X0_charge l G h1 top1 s _ _ v iv hv v.2.1.1 (s_caps s (nI d).toNatClampNeg) _ _ _ J1) hbk1 rfl rfl rfl (Nat.le_of_ble_eq_true rfl) dX8_dispute_88 (fun r2 h2 top2 hp2 => ?_)
  obtain ⟨rfl, rfl, be2, C2⟩ := hp2
  have hha2 := C2.1.1.hall
  have hbk2 := C2.1.1.bk
  have htf2 := C2.1.1.tfs
  have hlg2 := C2.1.1.lg
  have hl2_0 := C2.1.1.l0
  have hl2_01 := hl2_0.1
  have hl2_1 := C2.1.1.l1
  have hl2_11 := hl2_1.1
  have hl2_2 := C2.1.1.l2
  have hl2_21 := hl2_2.1
  have hvs2 := C2.1.1.veh hv
  refine r_pop hX rfl dX8_dispute_91 ?_
  refine r_iconst (v := 0) hX (by decide) dX8_dispute_92 ?_
  refine r_istore (lv' := [(4, .int 0), (3, .ref v.1), (0, .ref (z_b G)), (1, .int (nI iv)), (2, .int (nI d))]) hX (by decide) rfl dX8_dispute_93 ?_
  refine r_iconst (v := 0) hX (by decide) dX8_dispute_95 ?_
  refine r_istore (lv' := [(5, .int 0), (4, .int 0), (3, .ref v.1), (0, .ref (z_b G)), (1, .int (nI iv)), (2, .int (nI d))]) hX (by decide) rfl dX8_dispute_96 ?_
  rw [← nI_0]
  refine r_lv [0, 1, 3, 4, 5, 2] (lv2 := [(5, .int (nI 0)), (4, .int (nI 0)), (0, .ref (z_b G)), (1, .int (nI iv)), (2, .int (nI d)), (3, .ref v.1)]) rfl ?_
  exact f_disp s iv v hv _ _ _ _ _ (zm_charge_len s v v.2.1.1 (s_caps s (nI d).toNatClampNeg) (zm_day s v.1 (nI d))) d hd (fun v2 h9 t9 b9 e H9 => ⟨by rw [e]; rfl, b9, H9⟩) hX hq (4 + 1) 0 _ top2 be2 (nI 0) (by omega) (by omega) ⟨C2, by rw [nI_0]; rfl⟩

