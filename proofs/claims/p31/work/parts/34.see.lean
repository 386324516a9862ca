/-! seeing -/
def zm_see (s : zS) (iv : Nat) (p : zSgt) : zS := if p.2.2.2.1 = 1 ∧ zf_hasBit (s_listed s) (nI iv) = true then ((s_shuts s, s_now s, s_cap s, s_listed s, s_alarms s + 1, s_catches s, s_erased s), s.2.1, s_segs s, s_vehs s, s_tars s, s_sgts s ++ [p]) else zs_sgts s (s_sgts s ++ [p])
set_option maxRecDepth 20000 in
set_option maxHeartbeats 4000000 in
theorem c_X8_see (l : Launch) (G : zG) (h : zH) (top : Nat) (s : zS) (be : zB) (H : z_St G s be h top) (iv : Nat) (v : zVeh) (hv : (s_vehs s)[iv]? = some v) (i : Nat) (x : zSeg) (hx : (s_segs s)[i]? = some x) (m src : Int32) (hm : zf_isIn m 0 (s_now s) = true) (hsrc : zf_isIn src 0 2 = true) (hcl : ¬ m / 1440 ≤ s_now s / 1440 - 2) (h60 : (s_sgts s).length < 60) : z_Ct l yX8_see cX8_see 6 (some .int) 8 G [.ref (z_b G), .int (nI iv), .int (nI i), .int m, .int src] h top (fun r9 h' top' => r9 = some (.int (nI (s_sgts s).length)) ∧ ∃ (a : Nat) (be2 : zB), z_St G (zm_see s iv (a, (v.1, x.1), m, src, 0)) be2 h' top') := by
  refine z_of (own := RX8) (nm := "see") (by decide) rfl rfl (by decide) (Nat.le_of_ble_eq_true rfl) (fun X hX hq => ?_)
  replace hX : z_ok X cX8_see 6 RX8 (some .int) "see" 8 G := hX
  show z_Z X h top 0 [(0, .ref (z_b G)), (1, .int (nI iv)), (2, .int (nI i)), (3, .int m), (4, .int src)] []
  have hha := H.hall
  have hbd := H.2.2.1.2.2
  have hl0 := H.l0
  have hl01 := hl0.1
  have hl1 := H.l1
  have hl11 := hl1.1
  have hl2 := H.l2
  have hl21 := hl2.1
  have hil : i < (s_segs s).length := (List.getElem?_eq_some_iff.mp hx).1
  have hxs := H.seg hx
  have hvl : iv < (s_vehs s).length := (List.getElem?_eq_some_iff.mp hv).1
  have hvs := H.veh hv
  have hbt : z_b G ≤ top := Nat.le_trans H.hall.1 (Nat.le_of_lt H.hall.2.1)
  have hrm := H.2.2.1.room
  refine r_aload_n hX rfl 0 rfl dX8_see_0 ?_
  refine r_iload_n hX rfl 1 rfl dX8_see_1 ?_
  refine r_callVR (As := [.int (nI iv)]) (rest := []) (rv := some (.int 1)) (st1 := [.int 1]) hX cs_X8_126 (by decide) (fun l => c_X8_isVehicle l G h top s be H iv hvl) hha rfl rfl rfl rfl (Nat.le_of_ble_eq_true rfl) dX8_see_2 ?_
  refine r_if_eq (tgt := 20) hX dX8_see_5 rfl (fun c => False.elim (absurd c (by decide))) (fun _ => ?_)
  refine r_aload_n hX rfl 0 rfl dX8_see_8 ?_
  refine r_iload_n hX rfl 2 rfl dX8_see_9 ?_
  refine r_callVR (As := [.int (nI i)]) (rest := []) (rv := some (.int 1)) (st1 := [.int 1]) hX cs_X8_85 (by decide) (fun l => c_X8_isSegment l G h top s be H i hil) hha rfl rfl rfl rfl (Nat.le_of_ble_eq_true rfl) dX8_see_10 ?_
  refine r_if_eq (tgt := 20) hX dX8_see_13 rfl (fun c => False.elim (absurd c (by decide))) (fun _ => ?_)
  refine r_iconst (v := 1) hX (by decide) dX8_see_16 ?_
  refine r_goto (tgt := 21) hX rfl dX8_see_17 ?_
  refine r_callSR (As := [.int 1]) (rest := []) (rv := none) (st1 := []) hX cs_X8_58 (by decide) (fun l => c_X8_needIndex l G h top) rfl rfl rfl (Nat.le_of_ble_eq_true rfl) dX8_see_21 ?_
  refine r_iload_n hX rfl 3 rfl dX8_see_24 ?_
  refine r_iconst (v := 0) hX (by decide) dX8_see_25 ?_
  refine r_aload_n hX rfl 0 rfl dX8_see_26 ?_
  refine r_getf hX fl_X8_139 hha rfl dX8_see_27 ?_
  refine r_callSR (As := [.int m, .int 0, .int (s_now s)]) (rest := []) (rv := some (.int 1)) (st1 := [.int 1]) hX cs_X8_62 (by decide) (fun l => c_isIn_1 l G h top hm) rfl rfl rfl (Nat.le_of_ble_eq_true rfl) dX8_see_30 ?_
  refine r_if_eq (tgt := 50) hX dX8_see_33 rfl (fun c => False.elim (absurd c (by decide))) (fun _ => ?_)
  refine r_iload hX 4 rfl dX8_see_36 ?_
  refine r_iconst (v := 0) hX (by decide) dX8_see_38 ?_
  refine r_iconst (v := 2) hX (by decide) dX8_see_39 ?_
  refine r_callSR (As := [.int src, .int 0, .int 2]) (rest := []) (rv := some (.int 1)) (st1 := [.int 1]) hX cs_X8_62 (by decide) (fun l => c_isIn_1 l G h top hsrc) rfl rfl rfl (Nat.le_of_ble_eq_true rfl) dX8_see_40 ?_
  refine r_if_eq (tgt := 50) hX dX8_see_43 rfl (fun c => False.elim (absurd c (by decide))) (fun _ => ?_)
  refine r_iconst (v := 1) hX (by decide) dX8_see_46 ?_
  refine r_goto (tgt := 51) hX rfl dX8_see_47 ?_
  refine r_callSR (As := [.int 1]) (rest := []) (rv := none) (st1 := []) hX cs_X8_66 (by decide) (fun l => c_X8_needArgument l G h top) rfl rfl rfl (Nat.le_of_ble_eq_true rfl) dX8_see_51 ?_
  refine r_aload_n hX rfl 0 rfl dX8_see_54 ?_
  refine r_iload_n hX rfl 3 rfl dX8_see_55 ?_
  refine r_sipush (v := 1440) hX (by decide) dX8_see_56 ?_
  refine r_idiv hX (by decide) dX8_see_59 ?_
  refine r_callVR (As := [.int (m / 1440)]) (rest := []) (rv := some (.int 0)) (st1 := [.int 0]) hX cs_X8_142 (by decide) (fun l => c_isClosed_0 l G h top s be H hcl) hha rfl rfl rfl rfl (Nat.le_of_ble_eq_true rfl) dX8_see_60 ?_
  refine r_if_ne (tgt := 82) hX dX8_see_63 rfl (fun c => False.elim (absurd c (by decide))) (fun _ => ?_)
  refine r_aload_n hX rfl 0 rfl dX8_see_66 ?_
  refine r_getf hX fl_X8_19 hha rfl dX8_see_67 ?_
  refine r_callVR (As := []) (rest := []) (rv := some (.int (nI (s_sgts s).length))) (st1 := [.int (nI (s_sgts s).length)]) hX cs_X8_69 (by decide) (fun l => z_size hl2 l) hl21 rfl rfl rfl rfl (Nat.le_of_ble_eq_true rfl) dX8_see_70 ?_
  refine r_bipush (v := 60) hX (by decide) dX8_see_73 ?_
  refine r_icmp_ge (tgt := 82) hX dX8_see_75 rfl (fun c => False.elim (absurd (show nI 60 ≤ nI (s_sgts s).length from c) (nI_ge (by omega) (by omega)))) (fun _ => ?_)
  refine r_iconst (v := 1) hX (by decide) dX8_see_78 ?_
  refine r_goto (tgt := 83) hX rfl dX8_see_79 ?_
  refine r_callSR (As := [.int 1]) (rest := []) (rv := none) (st1 := []) hX cs_X8_73 (by decide) (fun l => c_X8_needState l G h top) rfl rfl rfl (Nat.le_of_ble_eq_true rfl) dX8_see_83 ?_
  refine r_aload_n hX rfl 0 rfl dX8_see_86 ?_
  refine r_getf hX fl_X8_19 hha rfl dX8_see_87 ?_
  refine r_callVR (As := []) (rest := []) (rv := some (.int (nI (s_sgts s).length))) (st1 := [.int (nI (s_sgts s).length)]) hX cs_X8_69 (by decide) (fun l => z_size hl2 l) hl21 rfl rfl rfl rfl (Nat.le_of_ble_eq_true rfl) dX8_see_90 ?_
  refine r_istore (lv' := [(5, .int (nI (s_sgts s).length)), (0, .ref (z_b G)), (1, .int (nI iv)), (2, .int (nI i)), (3, .int m), (4, .int src)]) hX (by decide) rfl dX8_see_93 ?_
  refine r_aload_n hX rfl 1 rfl dX8_see_95 ?_
  refine r_getf hX fl_X8_19 hha rfl dX8_see_96 ?_
  refine r_new hX nw_X8_145 (by omega) dX8_see_99 ?_
  replace hha := hha.new (e2 := (.inr (5, [.null, .null, .int 0, .int 0, .int 0])))
  replace hl01 := hl01.new (e2 := (.inr (5, [.null, .null, .int 0, .int 0, .int 0])))
  replace hl11 := hl11.new (e2 := (.inr (5, [.null, .null, .int 0, .int 0, .int 0])))
  replace hl21 := hl21.new (e2 := (.inr (5, [.null, .null, .int 0, .int 0, .int 0])))
  replace hvs := hvs.new (e2 := (.inr (5, [.null, .null, .int 0, .int 0, .int 0])))
  replace hxs := hxs.new (e2 := (.inr (5, [.null, .null, .int 0, .int 0, .int 0])))
  have hN99 : z_at G (va_up h top (.inr (5, [.null, .null, .int 0, .int 0, .int 0]))) (top + 1) top (.inr (5, [.null, .null, .int 0, .int 0, .int 0])) := z_at.fresh hbt
  refine r_dup hX rfl dX8_see_102 ?_
  refine r_aload_n hX rfl 1 rfl dX8_see_103 ?_
  refine r_getf hX fl_X8_16 hha rfl dX8_see_104 ?_
  refine r_iload_n hX rfl 2 rfl dX8_see_107 ?_
  refine r_callVR (As := [.int (nI iv)]) (rest := [.ref top, .ref top, .ref (z_b G + 3)]) (rv := some (.ref v.1)) (st1 := [.ref v.1, .ref top, .ref top, .ref (z_b G + 3)]) hX cs_X8_92 (by decide) (fun l => z_get (z_AL.new hl1) hvl (z_mapget hv) l) hl11 rfl rfl rfl rfl (Nat.le_of_ble_eq_true rfl) dX8_see_108 ?_
  refine r_cast (ci := 8) hX rfl hvs cl_X8_121 dX8_see_111 ?_
  refine r_aload_n hX rfl 1 rfl dX8_see_114 ?_
  refine r_getf hX fl_X8_10 hha rfl dX8_see_115 ?_
  refine r_iload_n hX rfl 3 rfl dX8_see_118 ?_
  refine r_callVR (As := [.int (nI i)]) (rest := [.ref v.1, .ref top, .ref top, .ref (z_b G + 3)]) (rv := some (.ref x.1)) (st1 := [.ref x.1, .ref v.1, .ref top, .ref top, .ref (z_b G + 3)]) hX cs_X8_92 (by decide) (fun l => z_get (z_AL.new hl0) hil (z_mapget hx) l) hl01 rfl rfl rfl rfl (Nat.le_of_ble_eq_true rfl) dX8_see_119 ?_
  refine r_cast (ci := 4) hX rfl hxs cl_X8_76 dX8_see_122 ?_
  refine r_iload_n hX rfl 4 rfl dX8_see_125 ?_
  refine r_iload hX 5 rfl dX8_see_126 ?_
  refine r_callIR (As := [.ref v.1, .ref x.1, .int m, .int src]) (rest := [.ref top, .ref (z_b G + 3)]) (rv := none) (st1 := [.ref top, .ref (z_b G + 3)]) hX cs_X8_147 (by decide) (fun l => c_X4_init l G (va_up h top (.inr (5, [.null, .null, .int 0, .int 0, .int 0]))) (top + 1) top v.1 x.1 m src hN99) rfl rfl rfl (Nat.le_of_ble_eq_true rfl) dX8_see_128 ?_
  rw [bx_uu]
  have hfr : ∀ q, q < top → (va_up h top (.inr (5, [.ref v.1, .ref x.1, .int m, .int src, .int 0]))) q = h q := fun q hq => by simp [va_up, show q ≠ top by omega]
  have hat : z_at G (va_up h top (.inr (5, [.ref v.1, .ref x.1, .int m, .int src, .int 0]))) (top + 1) top (.inr (5, [.ref v.1, .ref x.1, .int m, .int src, .int 0])) := z_at.fresh hbt
  have hAA : z_AL G (va_up h top (.inr (5, [.ref v.1, .ref x.1, .int m, .int src, .int 0]))) (top + 1) (z_b G + 3) (b_ls be 2).1 (b_ls be 2).2.1 (s_sgts s).length (b_ls be 2).2.2 (fun i : Nat => ((s_sgts s).map (fun x => x.1))[i]?) := H.l2.fr hfr (by omega)
  have hAA1 := hAA.1
  refine r_callV (As := [.ref top]) (rest := []) hX cs_X8_81 (by decide) (fun l => c_add1 l G (va_up h top (.inr (5, [.ref v.1, .ref x.1, .int m, .int src, .int 0]))) (top + 1) (z_b G + 3) top (b_ls be 2).2.1 (s_sgts s).length (b_ls be 2).2.2 (b_ls be 2).1 (fun i : Nat => ((s_sgts s).map (fun x => x.1))[i]?) (by omega) hAA (fun i hi y hy => by obtain ⟨q, hq2⟩ : ∃ q, (s_sgts s)[i]? = some q := ⟨_, List.getElem?_eq_getElem hi⟩; rw [z_mapget hq2] at hy; cases hy; exact (H.ob_sgt hq2).fr hfr (by omega)) (by omega) (z_ob_of hat rfl kw_ob5) (fun _ => by omega)) hAA1 rfl rfl rfl (Nat.le_of_ble_eq_true rfl) dX8_see_131 (fun r1 h1 top1 hp1 => ?_)
  obtain ⟨rfl, l9, H2⟩ := H.addSgt (p := (top, (v.1, x.1), m, src, 0)) rfl ⟨iv, v, hv, rfl⟩ ⟨i, x, hx, rfl⟩ (by omega) (t1 := top + 1) rfl hat hfr hp1
  have hha2 := H2.hall
  refine r_pop hX rfl dX8_see_134 ?_
  refine r_iload hX 5 rfl dX8_see_135 ?_
  refine r_iconst (v := 1) hX (by decide) dX8_see_137 ?_
  refine r_icmp_ne (tgt := 162) hX dX8_see_138 rfl (fun c138 => ?_) (fun c138 => ?_)
  · skip
    refine r_iload hX 0 rfl dX8_see_162 ?_
    exact r_iret hX hq ⟨rfl, top, _, by rw [zm_see, if_neg (fun z => c138 z.1)]; exact H2⟩ dX8_see_164
  · skip
    refine r_aload_n hX rfl 1 rfl dX8_see_141 ?_
    refine r_getf hX fl_X8_150 hha2 rfl dX8_see_142 ?_
    refine r_iload_n hX rfl 2 rfl dX8_see_145 ?_
    refine r_callSR (As := [.int (s_listed s), .int (nI iv)]) (rest := []) (rv := some (.int (zf_b (zf_hasBit (s_listed s) (nI iv))))) (st1 := [.int (zf_b (zf_hasBit (s_listed s) (nI iv)))]) hX cs_X8_153 (by decide) (fun l => c_X8_hasBit l G h1 top1 (s_listed s) (nI iv)) rfl rfl rfl (Nat.le_of_ble_eq_true rfl) dX8_see_146 ?_
    refine r_if_eq (tgt := 162) hX dX8_see_149 rfl (fun c149 => ?_) (fun c149 => ?_)
    · skip
      refine r_iload hX 0 rfl dX8_see_162 ?_
      exact r_iret hX hq ⟨rfl, top, _, by rw [zm_see, if_neg (fun z => by rw [zf_b_e c149] at z; cases z.2)]; exact H2⟩ dX8_see_164
    · skip
      refine r_aload_n hX rfl 1 rfl dX8_see_152 ?_
      refine r_dup hX rfl dX8_see_153 ?_
      refine r_getf hX fl_X8_157 hha2 rfl dX8_see_154 ?_
      refine r_iconst (v := 1) hX (by decide) dX8_see_157 ?_
      refine r_iadd hX dX8_see_158 ?_
      refine r_put (fs2 := [.ref (z_b G + 1), .ref (z_b G + 2), .ref (z_b G + 3), .ref (z_b G + 4), .ref (z_b G + 7), .ref (z_b G + 11), .ref (z_b G + 16), .int (s_shuts s), .int (s_now s), .int (s_cap s), .int (s_listed s), .int ((s_alarms s) + 1), .int (s_catches s), .int (s_erased s)]) hX fp_X8_157 hha2 rfl rfl (Nat.le_of_ble_eq_true rfl) rfl dX8_see_159 ?_
      replace hha2 : z_at G (va_up h1 (z_b G) (.inr (9, [.ref (z_b G + 1), .ref (z_b G + 2), .ref (z_b G + 3), .ref (z_b G + 4), .ref (z_b G + 7), .ref (z_b G + 11), .ref (z_b G + 16), .int (s_shuts s), .int (s_now s), .int (s_cap s), .int (s_listed s), .int ((s_alarms s) + 1), .int (s_catches s), .int (s_erased s)]))) top1 (z_b G) (.inr (9, [.ref (z_b G + 1), .ref (z_b G + 2), .ref (z_b G + 3), .ref (z_b G + 4), .ref (z_b G + 7), .ref (z_b G + 11), .ref (z_b G + 16), .int (s_shuts s), .int (s_now s), .int (s_cap s), .int (s_listed s), .int ((s_alarms s) + 1), .int (s_catches s), .int (s_erased s)])) := z_at.self hha2
      refine r_iload hX 0 rfl dX8_see_162 ?_
      exact r_iret hX hq ⟨rfl, top, z_setLs be 2 l9, by rw [zm_see, if_pos ⟨by first | exact c138 | exact Decidable.not_not.mp c138, zf_b_ne c149⟩]; exact H2.setHall _⟩ dX8_see_164

