/-! closing -/
theorem lt_n {n i : Nat} (hb : i < 2 ^ 31) (c : ¬ nI n ≤ nI i) : i < n := by
  rcases Nat.lt_or_ge i n with q | q
  · exact q
  · exact absurd (nI_le q hb) c
theorem ge_n {n i : Nat} (hn : n < 2 ^ 31) (hi : i ≤ n) (c : nI n ≤ nI i) : i = n := by
  rcases Nat.lt_or_ge i n with q | q
  · exact absurd c (nI_ge q hn)
  · omega
def zm_recv (l : zL6) (d iv : Nat) (due : Nat → Int32) : Nat → zL6
  | 0 => l
  | o + 1 => zm_receive (zm_recv l d iv due o) (zm_pl d iv o) o (due o)
def zm_guest (s : zS) (iv : Nat) (v : zVeh) (sum : Int32) (l : zL6) : zS := if v.2.1.2.2 = 2 ∧ 0 < sum then (s.1, (l.1, l.2.1, l.2.2.1, l.2.2.2.1 + 10, l.2.2.2.2.1, l.2.2.2.2.2), s_segs s, (s_vehs s).set iv (v.1, v.2.1, v.2.2.1 - 10, v.2.2.2.1, v.2.2.2.2.1, v.2.2.2.2.2), s_tars s, s_sgts s) else zs_L s l
def zm_billed (s : zS) (iv : Nat) (v : zVeh) (sum : Int32) : zS := zs_vehs s ((s_vehs s).set iv (v.1, v.2.1, v.2.2.1 - sum, v.2.2.2.1, v.2.2.2.2.1 + sum, v.2.2.2.2.2))
def zm_takeBill (s : zS) (iv : Nat) (v : zVeh) (d : Nat) : Int32 × zS :=
  ((zm_charge s v v.2.1.1 (s_cap s) (zm_day s v.1 (nI d))).1, zm_guest (zm_billed s iv v (zm_charge s v v.2.1.1 (s_cap s) (zm_day s v.1 (nI d))).1) iv (v.1, v.2.1, v.2.2.1 - (zm_charge s v v.2.1.1 (s_cap s) (zm_day s v.1 (nI d))).1, v.2.2.2.1, v.2.2.2.2.1 + (zm_charge s v v.2.1.1 (s_cap s) (zm_day s v.1 (nI d))).1, v.2.2.2.2.2) (zm_charge s v v.2.1.1 (s_cap s) (zm_day s v.1 (nI d))).1 (zm_recv s.2.1 d iv (fun o => zm_dueTo s (nI o) (zm_day s v.1 (nI d)) (zm_charge s v v.2.1.1 (s_cap s) (zm_day s v.1 (nI d))).2) 4))
theorem zm_dueL (s : zS) (l : zL6) (o : Int32) (rows : List zQ) (vals : List (Int32 × Int32)) : zm_dueTo (zs_L s l) o rows vals = zm_dueTo s o rows vals := rfl
theorem c_dueL (l : Launch) (G : zG) (h : zH) (top : Nat) (s : zS) (l6 : zL6) (rch : Nat → Int32) (ct : Int32) (be : zB) (rows : List zQ) (RI : List Nat) (vals : List (Int32 × Int32)) (J : z_DC G (zs_L s l6) rch ct be rows RI vals h top) (hvl : vals.length = rows.length) (owner : Int32) : z_Ct l yX0_dueTo cX0_dueTo 5 (some .int) 4 G [.ref (z_b G + 11), .int owner] h top (z_R (some (.int (zm_dueTo s owner rows vals))) h top) := by
  rw [← zm_dueL s l6]
  exact c_X0_dueTo l G h top (zs_L s l6) rch ct be rows RI vals J hvl owner
set_option maxRecDepth 20000 in
set_option maxHeartbeats 4000000 in
theorem f_tb_step {X : zX} {G : zG} {h : zH} {top : Nat} {Post : Option Value → zH → Nat → Prop} (s1 : zS) (iv : Nat) (v : zVeh) (hv : (s_vehs s1)[iv]? = some v) (rch : Nat → Int32) (ct : Int32) (rows : List zQ) (RI : List Nat) (vals : List (Int32 × Int32)) (hvl : vals.length = rows.length) (d : Nat) (hd : d < 41) (sum : Int32) (hp : ∀ (h : zH) (top : Nat) (be : zB), z_St G (zm_guest s1 iv v sum (zm_recv s1.2.1 d iv (fun o => zm_dueTo s1 (nI o) rows vals) 4)) be h top → Post (some (.int sum)) h top) (k i : Nat) (be : zB) (hk : 4 - i < k + 1) (hi : i ≤ 4) (hinv : z_DC G (zs_L s1 (zm_recv s1.2.1 d iv (fun o => zm_dueTo s1 (nI o) rows vals) i)) rch ct be rows RI vals h top) (ih : ∀ (i : Nat) (h : zH) (top : Nat) (be : zB), 4 - i < k → i ≤ 4 → (z_DC G (zs_L s1 (zm_recv s1.2.1 d iv (fun o => zm_dueTo s1 (nI o) rows vals) i)) rch ct be rows RI vals h top) → z_Z X h top 61 [(4, .int (nI i)), (0, .ref (z_b G)), (1, .ref v.1), (2, .int (nI d)), (3, .int sum)] []) (hX : z_ok X cX8_takeBill 5 RX8 (some .int) "takeBill" 12 G) (hq : z_mq X (Post)) : z_Z X h top 61 [(4, .int (nI i)), (0, .ref (z_b G)), (1, .ref v.1), (2, .int (nI d)), (3, .int sum)] [] := by
  obtain ⟨L, hL⟩ : ∃ L, L = zm_recv s1.2.1 d iv (fun o => zm_dueTo s1 (nI o) rows vals) i := ⟨_, rfl⟩
  rw [← hL] at hinv
  have hha := hinv.1.1.hall
  have hbk := hinv.1.1.bk
  have hlg := hinv.1.1.lg
  have hvs : z_at G h top v.1 (z_vehC iv v) := hinv.1.1.veh hv
  refine r_iload hX 0 rfl dX8_takeBill_61 ?_
  refine r_iconst (v := 4) hX (by decide) dX8_takeBill_63 ?_
  refine r_icmp_ge (tgt := 96) hX dX8_takeBill_64 rfl (fun c64 => ?_) (fun c64 => ?_)
  · skip
    refine r_aload_n hX rfl 2 rfl dX8_takeBill_96 ?_
    refine r_getf hX fl_X8_249 hvs rfl dX8_takeBill_97 ?_
    refine r_iconst (v := 2) hX (by decide) dX8_takeBill_100 ?_
    refine r_icmp_ne (tgt := 133) hX dX8_takeBill_101 rfl (fun c101 => ?_) (fun c101 => ?_)
    · skip
      refine r_iload_n hX rfl 4 rfl dX8_takeBill_133 ?_
      exact r_iret hX hq (hp _ _ be (by obtain rfl := ge_n (n := 4) (by decide) hi c64; subst hL; rw [zm_guest, if_neg (fun z => c101 z.1)]; exact hinv.1.1)) dX8_takeBill_134
    · skip
      refine r_iload_n hX rfl 4 rfl dX8_takeBill_104 ?_
      refine r_if_le (tgt := 133) hX dX8_takeBill_105 rfl (fun c105 => ?_) (fun c105 => ?_)
      · skip
        refine r_iload_n hX rfl 4 rfl dX8_takeBill_133 ?_
        exact r_iret hX hq (hp _ _ be (by obtain rfl := ge_n (n := 4) (by decide) hi c64; subst hL; rw [zm_guest, if_neg (fun z => absurd z.2 (Int32.not_lt.mpr c105))]; exact hinv.1.1)) dX8_takeBill_134
      · skip
        refine r_aload_n hX rfl 2 rfl dX8_takeBill_108 ?_
        refine r_dup hX rfl dX8_takeBill_109 ?_
        refine r_getf hX fl_X8_136 hvs rfl dX8_takeBill_110 ?_
        refine r_bipush (v := 10) hX (by decide) dX8_takeBill_113 ?_
        refine r_isub hX dX8_takeBill_115 ?_
        refine r_put (fs2 := [.int (nI iv), .int v.2.1.1, .int v.2.1.2.1, .int v.2.1.2.2, .int (v.2.2.1 - 10), .int v.2.2.2.1, .int v.2.2.2.2.1, .int v.2.2.2.2.2]) hX fp_X8_136 hvs rfl rfl (Nat.le_of_ble_eq_true rfl) rfl dX8_takeBill_116 ?_
        replace hha := hha.up (e3 := (.inr (8, [.int (nI iv), .int v.2.1.1, .int v.2.1.2.1, .int v.2.1.2.2, .int (v.2.2.1 - 10), .int v.2.2.2.1, .int v.2.2.2.2.1, .int v.2.2.2.2.2]))) hvs (by intro z; cases z)
        replace hbk := hbk.up (e3 := (.inr (8, [.int (nI iv), .int v.2.1.1, .int v.2.1.2.1, .int v.2.1.2.2, .int (v.2.2.1 - 10), .int v.2.2.2.1, .int v.2.2.2.2.1, .int v.2.2.2.2.2]))) hvs (by intro z; cases z)
        replace hlg := hlg.up (e3 := (.inr (8, [.int (nI iv), .int v.2.1.1, .int v.2.1.2.1, .int v.2.1.2.2, .int (v.2.2.1 - 10), .int v.2.2.2.1, .int v.2.2.2.2.1, .int v.2.2.2.2.2]))) hvs (by intro z; cases z)
        replace hvs : z_at G (va_up h v.1 (.inr (8, [.int (nI iv), .int v.2.1.1, .int v.2.1.2.1, .int v.2.1.2.2, .int (v.2.2.1 - 10), .int v.2.2.2.1, .int v.2.2.2.2.1, .int v.2.2.2.2.2]))) top v.1 (.inr (8, [.int (nI iv), .int v.2.1.1, .int v.2.1.2.1, .int v.2.1.2.2, .int (v.2.2.1 - 10), .int v.2.2.2.1, .int v.2.2.2.2.1, .int v.2.2.2.2.2])) := z_at.self hvs
        refine r_aload_n hX rfl 1 rfl dX8_takeBill_119 ?_
        refine r_getf hX fl_X8_32 hha rfl dX8_takeBill_120 ?_
        refine r_dup hX rfl dX8_takeBill_123 ?_
        refine r_getf hX fl_X8_188 hlg rfl dX8_takeBill_124 ?_
        refine r_bipush (v := 10) hX (by decide) dX8_takeBill_127 ?_
        refine r_iadd hX dX8_takeBill_129 ?_
        refine r_put (fs2 := [.ref (z_b G + 8), .ref (z_b G + 9), .ref (z_b G + 10), .int ((s_hall (zs_L s1 L)) + 10), .int (s_taken (zs_L s1 L)), .int (s_gb (zs_L s1 L))]) hX fp_X8_188 hlg rfl rfl (Nat.le_of_ble_eq_true rfl) rfl dX8_takeBill_130 ?_
        replace hha := hha.up (e3 := (.inr (2, [.ref (z_b G + 8), .ref (z_b G + 9), .ref (z_b G + 10), .int ((s_hall (zs_L s1 L)) + 10), .int (s_taken (zs_L s1 L)), .int (s_gb (zs_L s1 L))]))) hlg (by intro z; cases z)
        replace hbk := hbk.up (e3 := (.inr (2, [.ref (z_b G + 8), .ref (z_b G + 9), .ref (z_b G + 10), .int ((s_hall (zs_L s1 L)) + 10), .int (s_taken (zs_L s1 L)), .int (s_gb (zs_L s1 L))]))) hlg (by intro z; cases z)
        replace hvs := hvs.up (e3 := (.inr (2, [.ref (z_b G + 8), .ref (z_b G + 9), .ref (z_b G + 10), .int ((s_hall (zs_L s1 L)) + 10), .int (s_taken (zs_L s1 L)), .int (s_gb (zs_L s1 L))]))) hlg (by intro z; cases z)
        replace hlg : z_at G (va_up (va_up h v.1 (.inr (8, [.int (nI iv), .int v.2.1.1, .int v.2.1.2.1, .int v.2.1.2.2, .int (v.2.2.1 - 10), .int v.2.2.2.1, .int v.2.2.2.2.1, .int v.2.2.2.2.2]))) (z_b G + 7) (.inr (2, [.ref (z_b G + 8), .ref (z_b G + 9), .ref (z_b G + 10), .int ((s_hall (zs_L s1 L)) + 10), .int (s_taken (zs_L s1 L)), .int (s_gb (zs_L s1 L))]))) top (z_b G + 7) (.inr (2, [.ref (z_b G + 8), .ref (z_b G + 9), .ref (z_b G + 10), .int ((s_hall (zs_L s1 L)) + 10), .int (s_taken (zs_L s1 L)), .int (s_gb (zs_L s1 L))])) := z_at.self hlg
        refine r_iload_n hX rfl 4 rfl dX8_takeBill_133 ?_
        exact r_iret hX hq (hp _ _ be (by obtain rfl := ge_n (n := 4) (by decide) hi c64; subst hL; rw [zm_guest, if_pos ⟨by first | exact c101 | exact Decidable.not_not.mp c101, Int32.not_le.mp c105⟩]; exact (hinv.1.1.setVeh (p2 := (v.1, v.2.1, v.2.2.1 - 10, v.2.2.2.1, v.2.2.2.2.1, v.2.2.2.2.2)) hv rfl).setLg _ _ _)) dX8_takeBill_134
  · skip
    refine r_aload_n hX rfl 1 rfl dX8_takeBill_67 ?_
    refine r_getf hX fl_X8_32 hha rfl dX8_takeBill_68 ?_
    refine r_iload_n hX rfl 3 rfl dX8_takeBill_71 ?_
    refine r_aload_n hX rfl 2 rfl dX8_takeBill_72 ?_
    refine r_getf hX fl_X8_174 hvs rfl dX8_takeBill_73 ?_
    refine r_iload hX 0 rfl dX8_takeBill_76 ?_
    refine r_aload_n hX rfl 1 rfl dX8_takeBill_78 ?_
    refine r_getf hX fl_X8_39 hha rfl dX8_takeBill_79 ?_
    refine r_iload hX 0 rfl dX8_takeBill_82 ?_
    have hlt := lt_n (n := 4) (by omega) c64
    refine r_callVR (As := [.int (nI i)]) (rest := [.int (nI i), .int (nI iv), .int (nI d), .ref (z_b G + 7)]) (rv := some (.int (zm_dueTo s1 (nI i) rows vals))) (st1 := [.int (zm_dueTo s1 (nI i) rows vals), .int (nI i), .int (nI iv), .int (nI d), .ref (z_b G + 7)]) hX cs_X8_212 (by decide) (fun l => c_dueL l G h top s1 L rch ct be rows RI vals hinv hvl (nI i)) hbk rfl rfl rfl rfl (Nat.le_of_ble_eq_true rfl) dX8_takeBill_84 ?_
    refine r_callV (As := [.int (nI d), .int (nI iv), .int (nI i), .int (zm_dueTo s1 (nI i) rows vals)]) (rest := []) hX cs_X8_374 (by decide) (fun l => c_X1_receive l G h top (zs_L s1 L) be hinv.1.1 d iv i hd (by have := hinv.1.1.2.2.1.2.2.2.1; have : iv < (s_vehs s1).length := (List.getElem?_eq_some_iff.mp hv).1; have : (s_vehs s1).length ≤ 3 := hinv.1.1.2.2.1.2.2.2.1; omega) hlt (zm_dueTo s1 (nI i) rows vals)) hlg rfl rfl rfl (Nat.le_of_ble_eq_true rfl) dX8_takeBill_87 (fun r1 h1 top1 hp1 => ?_)
    obtain ⟨rfl, rfl, H1⟩ := hp1
    refine r_iinc (q := 0) (lv' := [(4, .int ((nI i) + 1)), (0, .ref (z_b G)), (1, .ref v.1), (2, .int (nI d)), (3, .int sum)]) hX rfl rfl (by decide) rfl dX8_takeBill_90 ?_
    refine r_goto (tgt := 61) hX rfl dX8_takeBill_93 ?_
    refine r_lv [0, 1, 2, 3, 4] (lv2 := [(4, .int (nI i + 1)), (0, .ref (z_b G)), (1, .ref v.1), (2, .int (nI d)), (3, .int sum)]) rfl ?_
    rw [nI_1]
    subst hL
    exact ih (i + 1) h1 _ be (by omega) (by omega) ⟨⟨H1, hinv.1.2⟩, hinv.2⟩

theorem f_tb {X : zX} {G : zG}  {Post : Option Value → zH → Nat → Prop} (s1 : zS) (iv : Nat) (v : zVeh) (hv : (s_vehs s1)[iv]? = some v) (rch : Nat → Int32) (ct : Int32) (rows : List zQ) (RI : List Nat) (vals : List (Int32 × Int32)) (hvl : vals.length = rows.length) (d : Nat) (hd : d < 41) (sum : Int32) (hp : ∀ (h : zH) (top : Nat) (be : zB), z_St G (zm_guest s1 iv v sum (zm_recv s1.2.1 d iv (fun o => zm_dueTo s1 (nI o) rows vals) 4)) be h top → Post (some (.int sum)) h top) (hX : z_ok X cX8_takeBill 5 RX8 (some .int) "takeBill" 12 G) (hq : z_mq X Post) : ∀ (k i : Nat) (h : zH) (top : Nat) (be : zB), 4 - i < k → i ≤ 4 → (z_DC G (zs_L s1 (zm_recv s1.2.1 d iv (fun o => zm_dueTo s1 (nI o) rows vals) i)) rch ct be rows RI vals h top) → z_Z X h top 61 [(4, .int (nI i)), (0, .ref (z_b G)), (1, .ref v.1), (2, .int (nI d)), (3, .int sum)] [] := by
  intro k
  induction k with
  | zero => intros; omega
  | succ k ih => intro i h top be hk hi hinv; exact f_tb_step s1 iv v hv rch ct rows RI vals hvl d hd sum hp k i be hk hi hinv ih hX hq
set_option maxRecDepth 20000 in
set_option maxHeartbeats 4000000 in
theorem c_X8_takeBill (l : Launch) (G : zG) (h : zH) (top : Nat) (s : zS) (be : zB) (H : z_St G s be h top) (iv : Nat) (v : zVeh) (hv : (s_vehs s)[iv]? = some v) (d : Nat) (hd : d < 41) : z_Ct l yX8_takeBill cX8_takeBill 5 (some .int) 12 G [.ref (z_b G), .ref v.1, .int (nI d)] h top (z_PQ G (zm_takeBill s iv v d).2 (.int (zm_takeBill s iv v d).1)) := by
  refine z_of (own := RX8) (nm := "takeBill") (by decide) rfl rfl (by decide) (Nat.le_of_ble_eq_true rfl) (fun X hX hq => ?_)
  replace hX : z_ok X cX8_takeBill 5 RX8 (some .int) "takeBill" 12 G := hX
  show z_Z X h top 0 [(0, .ref (z_b G)), (1, .ref v.1), (2, .int (nI d))] []
  have hha := H.hall
  have hbd := H.2.2.1.2.2
  have hl0 := H.l0
  have hl01 := hl0.1
  have hl1 := H.l1
  have hl11 := hl1.1
  have hl2 := H.l2
  have hl21 := hl2.1
  have hbk := H.bk
  have hvl : iv < (s_vehs s).length := (List.getElem?_eq_some_iff.mp hv).1
  have hvs := H.veh hv
  refine r_aload_n hX rfl 0 rfl dX8_takeBill_0 ?_
  refine r_getf hX fl_X8_39 hha rfl dX8_takeBill_1 ?_
  refine r_aload_n hX rfl 0 rfl dX8_takeBill_4 ?_
  refine r_getf hX fl_X8_19 hha rfl dX8_takeBill_5 ?_
  refine r_aload_n hX rfl 0 rfl dX8_takeBill_8 ?_
  refine r_getf hX fl_X8_10 hha rfl dX8_takeBill_9 ?_
  refine r_aload_n hX rfl 1 rfl dX8_takeBill_12 ?_
  refine r_iload_n hX rfl 2 rfl dX8_takeBill_13 ?_
  refine r_callV (As := [.ref (z_b G + 3), .ref (z_b G + 1), .ref v.1, .int (nI d)]) (rest := []) hX cs_X8_197 (by decide) (fun l => c_X0_gather l G h top s be v.1 (nI d) H) hbk rfl rfl rfl (Nat.le_of_ble_eq_true rfl) dX8_takeBill_14 (fun r1 h1 top1 hp1 => ?_)
  obtain ⟨rfl, be1, RI1, J1⟩ := hp1
  have hha1 := J1.1.hall
  have hbk1 := J1.1.bk
  have htf1 := J1.1.tfs
  have hlg1 := J1.1.lg
  have hl1_0 := J1.1.l0
  have hl1_01 := hl1_0.1
  have hl1_1 := J1.1.l1
  have hl1_11 := hl1_1.1
  have hl1_2 := J1.1.l2
  have hl1_21 := hl1_2.1
  have hvs1 := J1.1.veh hv
  refine r_aload_n hX rfl 0 rfl dX8_takeBill_17 ?_
  refine r_getf hX fl_X8_39 hha1 rfl dX8_takeBill_18 ?_
  refine r_aload_n hX rfl 1 rfl dX8_takeBill_21 ?_
  refine r_aload_n hX rfl 1 rfl dX8_takeBill_22 ?_
  refine r_getf hX fl_X8_201 hvs1 rfl dX8_takeBill_23 ?_
  refine r_aload_n hX rfl 0 rfl dX8_takeBill_26 ?_
  refine r_getf hX fl_X8_47 hha1 rfl dX8_takeBill_27 ?_
  refine r_aload_n hX rfl 0 rfl dX8_takeBill_30 ?_
  refine r_getf hX fl_X8_25 hha1 rfl dX8_takeBill_31 ?_
  refine r_callV (As := [.ref v.1, .int v.2.1.1, .int (s_cap s), .ref (z_b G + 4)]) (rest := []) hX cs_X8_208 (by decide) (fun l => c_X0_charge l G h1 top1 s _ _ v iv hv v.2.1.1 (s_cap s) _ _ _ J1) hbk1 rfl rfl rfl (Nat.le_of_ble_eq_true rfl) dX8_takeBill_34 (fun r2 h2 top2 hp2 => ?_)
  obtain ⟨rfl, rfl, be2, C2⟩ := hp2
  have hha2 := C2.1.1.hall
  have hbk2 := C2.1.1.bk
  have htf2 := C2.1.1.tfs
  have hlg2 := C2.1.1.lg
  have hl2_0 := C2.1.1.l0
  have hl2_01 := hl2_0.1
  have hl2_1 := C2.1.1.l1
  have hl2_11 := hl2_1.1
  have hl2_2 := C2.1.1.l2
  have hl2_21 := hl2_2.1
  have hvs2 := C2.1.1.veh hv
  refine r_istore_n (lv' := [(3, .int (zm_charge s v v.2.1.1 (s_cap s) (zm_day s v.1 (nI d))).1), (0, .ref (z_b G)), (1, .ref v.1), (2, .int (nI d))]) hX rfl (by decide) rfl dX8_takeBill_37 ?_
  refine r_aload_n hX rfl 2 rfl dX8_takeBill_38 ?_
  refine r_dup hX rfl dX8_takeBill_39 ?_
  refine r_getf hX fl_X8_136 hvs2 rfl dX8_takeBill_40 ?_
  refine r_iload_n hX rfl 0 rfl dX8_takeBill_43 ?_
  refine r_isub hX dX8_takeBill_44 ?_
  refine r_put (fs2 := [.int (nI iv), .int v.2.1.1, .int v.2.1.2.1, .int v.2.1.2.2, .int (v.2.2.1 - (zm_charge s v v.2.1.1 (s_cap s) (zm_day s v.1 (nI d))).1), .int v.2.2.2.1, .int v.2.2.2.2.1, .int v.2.2.2.2.2]) hX fp_X8_136 hvs2 rfl rfl (Nat.le_of_ble_eq_true rfl) rfl dX8_takeBill_45 ?_
  replace hha2 := hha2.up (e3 := (.inr (8, [.int (nI iv), .int v.2.1.1, .int v.2.1.2.1, .int v.2.1.2.2, .int (v.2.2.1 - (zm_charge s v v.2.1.1 (s_cap s) (zm_day s v.1 (nI d))).1), .int v.2.2.2.1, .int v.2.2.2.2.1, .int v.2.2.2.2.2]))) hvs2 (by intro z; cases z)
  replace hbk2 := hbk2.up (e3 := (.inr (8, [.int (nI iv), .int v.2.1.1, .int v.2.1.2.1, .int v.2.1.2.2, .int (v.2.2.1 - (zm_charge s v v.2.1.1 (s_cap s) (zm_day s v.1 (nI d))).1), .int v.2.2.2.1, .int v.2.2.2.2.1, .int v.2.2.2.2.2]))) hvs2 (by intro z; cases z)
  replace htf2 := htf2.up (e3 := (.inr (8, [.int (nI iv), .int v.2.1.1, .int v.2.1.2.1, .int v.2.1.2.2, .int (v.2.2.1 - (zm_charge s v v.2.1.1 (s_cap s) (zm_day s v.1 (nI d))).1), .int v.2.2.2.1, .int v.2.2.2.2.1, .int v.2.2.2.2.2]))) hvs2 (by intro z; cases z)
  replace hlg2 := hlg2.up (e3 := (.inr (8, [.int (nI iv), .int v.2.1.1, .int v.2.1.2.1, .int v.2.1.2.2, .int (v.2.2.1 - (zm_charge s v v.2.1.1 (s_cap s) (zm_day s v.1 (nI d))).1), .int v.2.2.2.1, .int v.2.2.2.2.1, .int v.2.2.2.2.2]))) hvs2 (by intro z; cases z)
  replace hl2_01 := hl2_01.up (e3 := (.inr (8, [.int (nI iv), .int v.2.1.1, .int v.2.1.2.1, .int v.2.1.2.2, .int (v.2.2.1 - (zm_charge s v v.2.1.1 (s_cap s) (zm_day s v.1 (nI d))).1), .int v.2.2.2.1, .int v.2.2.2.2.1, .int v.2.2.2.2.2]))) hvs2 (by intro z; cases z)
  replace hl2_11 := hl2_11.up (e3 := (.inr (8, [.int (nI iv), .int v.2.1.1, .int v.2.1.2.1, .int v.2.1.2.2, .int (v.2.2.1 - (zm_charge s v v.2.1.1 (s_cap s) (zm_day s v.1 (nI d))).1), .int v.2.2.2.1, .int v.2.2.2.2.1, .int v.2.2.2.2.2]))) hvs2 (by intro z; cases z)
  replace hl2_21 := hl2_21.up (e3 := (.inr (8, [.int (nI iv), .int v.2.1.1, .int v.2.1.2.1, .int v.2.1.2.2, .int (v.2.2.1 - (zm_charge s v v.2.1.1 (s_cap s) (zm_day s v.1 (nI d))).1), .int v.2.2.2.1, .int v.2.2.2.2.1, .int v.2.2.2.2.2]))) hvs2 (by intro z; cases z)
  replace hvs2 : z_at G (va_up h2 v.1 (.inr (8, [.int (nI iv), .int v.2.1.1, .int v.2.1.2.1, .int v.2.1.2.2, .int (v.2.2.1 - (zm_charge s v v.2.1.1 (s_cap s) (zm_day s v.1 (nI d))).1), .int v.2.2.2.1, .int v.2.2.2.2.1, .int v.2.2.2.2.2]))) top2 v.1 (.inr (8, [.int (nI iv), .int v.2.1.1, .int v.2.1.2.1, .int v.2.1.2.2, .int (v.2.2.1 - (zm_charge s v v.2.1.1 (s_cap s) (zm_day s v.1 (nI d))).1), .int v.2.2.2.1, .int v.2.2.2.2.1, .int v.2.2.2.2.2])) := z_at.self hvs2
  refine r_aload_n hX rfl 2 rfl dX8_takeBill_48 ?_
  refine r_dup hX rfl dX8_takeBill_49 ?_
  refine r_getf hX fl_X8_219 hvs2 rfl dX8_takeBill_50 ?_
  refine r_iload_n hX rfl 0 rfl dX8_takeBill_53 ?_
  refine r_iadd hX dX8_takeBill_54 ?_
  refine r_putU (fs2 := [.int (nI iv), .int v.2.1.1, .int v.2.1.2.1, .int v.2.1.2.2, .int (v.2.2.1 - (zm_charge s v v.2.1.1 (s_cap s) (zm_day s v.1 (nI d))).1), .int v.2.2.2.1, .int (v.2.2.2.2.1 + (zm_charge s v v.2.1.1 (s_cap s) (zm_day s v.1 (nI d))).1), .int v.2.2.2.2.2]) hX fp_X8_219 hvs2 rfl rfl (Nat.le_of_ble_eq_true rfl) rfl dX8_takeBill_55 ?_
  try replace hha2 := z_at.u2 (e3 := (.inr (8, [.int (nI iv), .int v.2.1.1, .int v.2.1.2.1, .int v.2.1.2.2, .int (v.2.2.1 - (zm_charge s v v.2.1.1 (s_cap s) (zm_day s v.1 (nI d))).1), .int v.2.2.2.1, .int (v.2.2.2.2.1 + (zm_charge s v v.2.1.1 (s_cap s) (zm_day s v.1 (nI d))).1), .int v.2.2.2.2.2]))) hha2 hvs2 (by intro z; cases z)
  try replace hbk2 := z_at.u2 (e3 := (.inr (8, [.int (nI iv), .int v.2.1.1, .int v.2.1.2.1, .int v.2.1.2.2, .int (v.2.2.1 - (zm_charge s v v.2.1.1 (s_cap s) (zm_day s v.1 (nI d))).1), .int v.2.2.2.1, .int (v.2.2.2.2.1 + (zm_charge s v v.2.1.1 (s_cap s) (zm_day s v.1 (nI d))).1), .int v.2.2.2.2.2]))) hbk2 hvs2 (by intro z; cases z)
  try replace htf2 := z_at.u2 (e3 := (.inr (8, [.int (nI iv), .int v.2.1.1, .int v.2.1.2.1, .int v.2.1.2.2, .int (v.2.2.1 - (zm_charge s v v.2.1.1 (s_cap s) (zm_day s v.1 (nI d))).1), .int v.2.2.2.1, .int (v.2.2.2.2.1 + (zm_charge s v v.2.1.1 (s_cap s) (zm_day s v.1 (nI d))).1), .int v.2.2.2.2.2]))) htf2 hvs2 (by intro z; cases z)
  try replace hlg2 := z_at.u2 (e3 := (.inr (8, [.int (nI iv), .int v.2.1.1, .int v.2.1.2.1, .int v.2.1.2.2, .int (v.2.2.1 - (zm_charge s v v.2.1.1 (s_cap s) (zm_day s v.1 (nI d))).1), .int v.2.2.2.1, .int (v.2.2.2.2.1 + (zm_charge s v v.2.1.1 (s_cap s) (zm_day s v.1 (nI d))).1), .int v.2.2.2.2.2]))) hlg2 hvs2 (by intro z; cases z)
  try replace hl2_01 := z_at.u2 (e3 := (.inr (8, [.int (nI iv), .int v.2.1.1, .int v.2.1.2.1, .int v.2.1.2.2, .int (v.2.2.1 - (zm_charge s v v.2.1.1 (s_cap s) (zm_day s v.1 (nI d))).1), .int v.2.2.2.1, .int (v.2.2.2.2.1 + (zm_charge s v v.2.1.1 (s_cap s) (zm_day s v.1 (nI d))).1), .int v.2.2.2.2.2]))) hl2_01 hvs2 (by intro z; cases z)
  try replace hl2_11 := z_at.u2 (e3 := (.inr (8, [.int (nI iv), .int v.2.1.1, .int v.2.1.2.1, .int v.2.1.2.2, .int (v.2.2.1 - (zm_charge s v v.2.1.1 (s_cap s) (zm_day s v.1 (nI d))).1), .int v.2.2.2.1, .int (v.2.2.2.2.1 + (zm_charge s v v.2.1.1 (s_cap s) (zm_day s v.1 (nI d))).1), .int v.2.2.2.2.2]))) hl2_11 hvs2 (by intro z; cases z)
  try replace hl2_21 := z_at.u2 (e3 := (.inr (8, [.int (nI iv), .int v.2.1.1, .int v.2.1.2.1, .int v.2.1.2.2, .int (v.2.2.1 - (zm_charge s v v.2.1.1 (s_cap s) (zm_day s v.1 (nI d))).1), .int v.2.2.2.1, .int (v.2.2.2.2.1 + (zm_charge s v v.2.1.1 (s_cap s) (zm_day s v.1 (nI d))).1), .int v.2.2.2.2.2]))) hl2_21 hvs2 (by intro z; cases z)
  replace hvs2 : z_at G (va_up h2 v.1 (.inr (8, [.int (nI iv), .int v.2.1.1, .int v.2.1.2.1, .int v.2.1.2.2, .int (v.2.2.1 - (zm_charge s v v.2.1.1 (s_cap s) (zm_day s v.1 (nI d))).1), .int v.2.2.2.1, .int (v.2.2.2.2.1 + (zm_charge s v v.2.1.1 (s_cap s) (zm_day s v.1 (nI d))).1), .int v.2.2.2.2.2]))) top2 v.1 (.inr (8, [.int (nI iv), .int v.2.1.1, .int v.2.1.2.1, .int v.2.1.2.2, .int (v.2.2.1 - (zm_charge s v v.2.1.1 (s_cap s) (zm_day s v.1 (nI d))).1), .int v.2.2.2.1, .int (v.2.2.2.2.1 + (zm_charge s v v.2.1.1 (s_cap s) (zm_day s v.1 (nI d))).1), .int v.2.2.2.2.2])) := z_at.uu hvs2
  refine r_iconst (v := 0) hX (by decide) dX8_takeBill_58 ?_
  refine r_istore (lv' := [(4, .int 0), (3, .int (zm_charge s v v.2.1.1 (s_cap s) (zm_day s v.1 (nI d))).1), (0, .ref (z_b G)), (1, .ref v.1), (2, .int (nI d))]) hX (by decide) rfl dX8_takeBill_59 ?_
  rw [← nI_0]
  refine r_lv [0, 2, 3, 4, 1] (lv2 := [(4, .int (nI 0)), (0, .ref (z_b G)), (1, .ref v.1), (2, .int (nI d)), (3, .int (zm_charge s v v.2.1.1 (s_cap s) (zm_day s v.1 (nI d))).1)]) rfl ?_
  have H3 := C2.1.1.setVeh (p2 := (v.1, v.2.1, v.2.2.1 - (zm_charge s v v.2.1.1 (s_cap s) (zm_day s v.1 (nI d))).1, v.2.2.2.1, v.2.2.2.2.1 + (zm_charge s v v.2.1.1 (s_cap s) (zm_day s v.1 (nI d))).1, v.2.2.2.2.2)) hv rfl
  exact f_tb (zm_billed s iv v (zm_charge s v v.2.1.1 (s_cap s) (zm_day s v.1 (nI d))).1) iv (v.1, v.2.1, v.2.2.1 - (zm_charge s v v.2.1.1 (s_cap s) (zm_day s v.1 (nI d))).1, v.2.2.2.1, v.2.2.2.2.1 + (zm_charge s v v.2.1.1 (s_cap s) (zm_day s v.1 (nI d))).1, v.2.2.2.2.2) (List.getElem?_set_self hvl) _ _ _ _ _ (zm_charge_len s v v.2.1.1 (s_cap s) (zm_day s v.1 (nI d))) d hd (zm_charge s v v.2.1.1 (s_cap s) (zm_day s v.1 (nI d))).1 (fun h9 t9 b9 H9 => ⟨rfl, b9, H9⟩) hX hq (4 + 1) 0 _ top2 be2 (by omega) (by omega) ⟨⟨H3, C2.1.2⟩, C2.2⟩

