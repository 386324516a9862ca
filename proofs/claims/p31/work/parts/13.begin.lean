/-! passages: begun, joined -/
set_option maxRecDepth 20000 in
set_option maxHeartbeats 4000000 in
theorem c_X2_init (l : Launch) (G : zG) (h : zH) (top : Nat) (a sg : Nat) (mi : Int32) (ha : z_at G h top a (.inr (3, [.null, .int 0, .int 0, .int 0, .int 0, .int 0]))) : z_Ct l yX2_init cX2_init 3 none 1 G [.ref a, .ref sg, .int mi] h top (z_R none (va_up h a (.inr (3, [.ref sg, .int mi, .int 0, .int 0, .int 0, .int 0]))) top) := by
  refine z_of (own := RX2) (nm := "<init>") (by decide) rfl rfl (by decide) (Nat.le_of_ble_eq_true rfl) (fun X hX hq => ?_)
  replace hX : z_ok X cX2_init 3 RX2 none "<init>" 1 G := hX
  show z_Z X h top 0 [(0, .ref a), (1, .ref sg), (2, .int mi)] []
  refine r_aload_n hX rfl 0 rfl dX2_init_0 ?_
  refine r_objInit hX oi_X2_3 kw_oi1 kw_oi2 (by decide) dX2_init_1 ?_
  refine r_aload_n hX rfl 0 rfl dX2_init_4 ?_
  refine r_aload_n hX rfl 1 rfl dX2_init_5 ?_
  refine r_put (fs2 := [.ref sg, .int 0, .int 0, .int 0, .int 0, .int 0]) hX fp_X2_9 ha rfl rfl (Nat.le_of_ble_eq_true rfl) rfl dX2_init_6 ?_
  replace ha : z_at G (va_up h a (.inr (3, [.ref sg, .int 0, .int 0, .int 0, .int 0, .int 0]))) top a (.inr (3, [.ref sg, .int 0, .int 0, .int 0, .int 0, .int 0])) := z_at.self ha
  refine r_aload_n hX rfl 0 rfl dX2_init_9 ?_
  refine r_iload_n hX rfl 2 rfl dX2_init_10 ?_
  refine r_putU (fs2 := [.ref sg, .int mi, .int 0, .int 0, .int 0, .int 0]) hX fp_X2_15 ha rfl rfl (Nat.le_of_ble_eq_true rfl) rfl dX2_init_11 ?_
  replace ha : z_at G (va_up h a (.inr (3, [.ref sg, .int mi, .int 0, .int 0, .int 0, .int 0]))) top a (.inr (3, [.ref sg, .int mi, .int 0, .int 0, .int 0, .int 0])) := z_at.uu ha
  exact r_vret hX hq ⟨rfl, rfl, rfl⟩ dX2_init_14

set_option maxRecDepth 20000 in
set_option maxHeartbeats 4000000 in
theorem c_X2_restart (l : Launch) (G : zG) (h : zH) (top : Nat) (a sg : Nat) (mi : Int32) (v : Nat) (mi0 n0 d0 r0 u0 : Int32) (ha : z_at G h top a (.inr (3, [.ref v, .int mi0, .int n0, .int d0, .int r0, .int u0]))) : z_Ct l yX2_restart cX2_restart 3 none 1 G [.ref a, .ref sg, .int mi] h top (z_R none (va_up h a (.inr (3, [.ref sg, .int mi, .int 0, .int 0, .int 0, .int 0]))) top) := by
  refine z_of (own := RX2) (nm := "restart") (by decide) rfl rfl (by decide) (Nat.le_of_ble_eq_true rfl) (fun X hX hq => ?_)
  replace hX : z_ok X cX2_restart 3 RX2 none "restart" 1 G := hX
  show z_Z X h top 0 [(0, .ref a), (1, .ref sg), (2, .int mi)] []
  refine r_aload_n hX rfl 0 rfl dX2_restart_0 ?_
  refine r_aload_n hX rfl 1 rfl dX2_restart_1 ?_
  refine r_put (fs2 := [.ref sg, .int mi0, .int n0, .int d0, .int r0, .int u0]) hX fp_X2_9 ha rfl rfl (Nat.le_of_ble_eq_true rfl) rfl dX2_restart_2 ?_
  replace ha : z_at G (va_up h a (.inr (3, [.ref sg, .int mi0, .int n0, .int d0, .int r0, .int u0]))) top a (.inr (3, [.ref sg, .int mi0, .int n0, .int d0, .int r0, .int u0])) := z_at.self ha
  refine r_aload_n hX rfl 0 rfl dX2_restart_5 ?_
  refine r_iload_n hX rfl 2 rfl dX2_restart_6 ?_
  refine r_putU (fs2 := [.ref sg, .int mi, .int n0, .int d0, .int r0, .int u0]) hX fp_X2_15 ha rfl rfl (Nat.le_of_ble_eq_true rfl) rfl dX2_restart_7 ?_
  replace ha : z_at G (va_up h a (.inr (3, [.ref sg, .int mi, .int n0, .int d0, .int r0, .int u0]))) top a (.inr (3, [.ref sg, .int mi, .int n0, .int d0, .int r0, .int u0])) := z_at.uu ha
  refine r_aload_n hX rfl 0 rfl dX2_restart_10 ?_
  refine r_iconst (v := 0) hX (by decide) dX2_restart_11 ?_
  refine r_putU (fs2 := [.ref sg, .int mi, .int 0, .int d0, .int r0, .int u0]) hX fp_X2_19 ha rfl rfl (Nat.le_of_ble_eq_true rfl) rfl dX2_restart_12 ?_
  replace ha : z_at G (va_up h a (.inr (3, [.ref sg, .int mi, .int 0, .int d0, .int r0, .int u0]))) top a (.inr (3, [.ref sg, .int mi, .int 0, .int d0, .int r0, .int u0])) := z_at.uu ha
  refine r_aload_n hX rfl 0 rfl dX2_restart_15 ?_
  refine r_iconst (v := 0) hX (by decide) dX2_restart_16 ?_
  refine r_putU (fs2 := [.ref sg, .int mi, .int 0, .int 0, .int r0, .int u0]) hX fp_X2_22 ha rfl rfl (Nat.le_of_ble_eq_true rfl) rfl dX2_restart_17 ?_
  replace ha : z_at G (va_up h a (.inr (3, [.ref sg, .int mi, .int 0, .int 0, .int r0, .int u0]))) top a (.inr (3, [.ref sg, .int mi, .int 0, .int 0, .int r0, .int u0])) := z_at.uu ha
  refine r_aload_n hX rfl 0 rfl dX2_restart_20 ?_
  refine r_iconst (v := 0) hX (by decide) dX2_restart_21 ?_
  refine r_putU (fs2 := [.ref sg, .int mi, .int 0, .int 0, .int 0, .int u0]) hX fp_X2_26 ha rfl rfl (Nat.le_of_ble_eq_true rfl) rfl dX2_restart_22 ?_
  replace ha : z_at G (va_up h a (.inr (3, [.ref sg, .int mi, .int 0, .int 0, .int 0, .int u0]))) top a (.inr (3, [.ref sg, .int mi, .int 0, .int 0, .int 0, .int u0])) := z_at.uu ha
  refine r_aload_n hX rfl 0 rfl dX2_restart_25 ?_
  refine r_iconst (v := 0) hX (by decide) dX2_restart_26 ?_
  refine r_putU (fs2 := [.ref sg, .int mi, .int 0, .int 0, .int 0, .int 0]) hX fp_X2_29 ha rfl rfl (Nat.le_of_ble_eq_true rfl) rfl dX2_restart_27 ?_
  replace ha : z_at G (va_up h a (.inr (3, [.ref sg, .int mi, .int 0, .int 0, .int 0, .int 0]))) top a (.inr (3, [.ref sg, .int mi, .int 0, .int 0, .int 0, .int 0])) := z_at.uu ha
  exact r_vret hX hq ⟨rfl, rfl, rfl⟩ dX2_restart_30

def zm_doubt (n src : Int32) : Int32 := zf_b (decide (n = 1) && decide (src = 2))
set_option maxRecDepth 20000 in
set_option maxHeartbeats 4000000 in
theorem c_X2_join (l : Launch) (G : zG) (h : zH) (top : Nat) (a : Nat) (y : zSgt) (v : Nat) (mi0 n0 d0 r0 u0 : Int32) (ha : z_at G h top a (.inr (3, [.ref v, .int mi0, .int n0, .int d0, .int r0, .int u0]))) (hy : z_at G h top y.1 (z_sgtC y)) : z_Ct l yX2_join cX2_join 2 none 1 G [.ref a, .ref y.1] h top (z_R none (va_up h a (.inr (3, [.ref v, .int mi0, .int (n0 + 1), .int (zm_doubt (n0 + 1) y.2.2.2.1), .int r0, .int u0]))) top) := by
  refine z_of (own := RX2) (nm := "join") (by decide) rfl rfl (by decide) (Nat.le_of_ble_eq_true rfl) (fun X hX hq => ?_)
  replace hX : z_ok X cX2_join 2 RX2 none "join" 1 G := hX
  show z_Z X h top 0 [(0, .ref a), (1, .ref y.1)] []
  refine r_aload_n hX rfl 0 rfl dX2_join_0 ?_
  refine r_dup hX rfl dX2_join_1 ?_
  refine r_getf hX fl_X2_19 ha rfl dX2_join_2 ?_
  refine r_iconst (v := 1) hX (by decide) dX2_join_5 ?_
  refine r_iadd hX dX2_join_6 ?_
  refine r_put (fs2 := [.ref v, .int mi0, .int (n0 + 1), .int d0, .int r0, .int u0]) hX fp_X2_19 ha rfl rfl (Nat.le_of_ble_eq_true rfl) rfl dX2_join_7 ?_
  replace hy := hy.up (e3 := (.inr (3, [.ref v, .int mi0, .int (n0 + 1), .int d0, .int r0, .int u0]))) ha (by intro z; cases z)
  replace ha : z_at G (va_up h a (.inr (3, [.ref v, .int mi0, .int (n0 + 1), .int d0, .int r0, .int u0]))) top a (.inr (3, [.ref v, .int mi0, .int (n0 + 1), .int d0, .int r0, .int u0])) := z_at.self ha
  refine r_aload_n hX rfl 0 rfl dX2_join_10 ?_
  refine r_aload_n hX rfl 0 rfl dX2_join_11 ?_
  refine r_getf hX fl_X2_19 ha rfl dX2_join_12 ?_
  refine r_iconst (v := 1) hX (by decide) dX2_join_15 ?_
  refine r_icmp_ne (tgt := 31) hX dX2_join_16 rfl (fun c16 => ?_) (fun c16 => ?_)
  · skip
    refine r_iconst (v := 0) hX (by decide) dX2_join_31 ?_
    refine r_putU (fs2 := [.ref v, .int mi0, .int (n0 + 1), .int 0, .int r0, .int u0]) hX fp_X2_22 ha rfl rfl (Nat.le_of_ble_eq_true rfl) rfl dX2_join_32 ?_
    replace ha : z_at G (va_up h a (.inr (3, [.ref v, .int mi0, .int (n0 + 1), .int 0, .int r0, .int u0]))) top a (.inr (3, [.ref v, .int mi0, .int (n0 + 1), .int 0, .int r0, .int u0])) := z_at.uu ha
    exact r_vret hX hq ⟨rfl, by simp [zm_doubt, zf_b, c16], rfl⟩ dX2_join_35
  · skip
    refine r_aload_n hX rfl 1 rfl dX2_join_19 ?_
    refine r_getf hX fl_X2_32 hy rfl dX2_join_20 ?_
    refine r_iconst (v := 2) hX (by decide) dX2_join_23 ?_
    refine r_icmp_ne (tgt := 31) hX dX2_join_24 rfl (fun c24 => ?_) (fun c24 => ?_)
    · skip
      refine r_iconst (v := 0) hX (by decide) dX2_join_31 ?_
      refine r_putU (fs2 := [.ref v, .int mi0, .int (n0 + 1), .int 0, .int r0, .int u0]) hX fp_X2_22 ha rfl rfl (Nat.le_of_ble_eq_true rfl) rfl dX2_join_32 ?_
      replace ha : z_at G (va_up h a (.inr (3, [.ref v, .int mi0, .int (n0 + 1), .int 0, .int r0, .int u0]))) top a (.inr (3, [.ref v, .int mi0, .int (n0 + 1), .int 0, .int r0, .int u0])) := z_at.uu ha
      exact r_vret hX hq ⟨rfl, by simp [zm_doubt, zf_b, c16, c24], rfl⟩ dX2_join_35
    · skip
      refine r_iconst (v := 1) hX (by decide) dX2_join_27 ?_
      refine r_goto (tgt := 32) hX rfl dX2_join_28 ?_
      refine r_putU (fs2 := [.ref v, .int mi0, .int (n0 + 1), .int 1, .int r0, .int u0]) hX fp_X2_22 ha rfl rfl (Nat.le_of_ble_eq_true rfl) rfl dX2_join_32 ?_
      replace ha : z_at G (va_up h a (.inr (3, [.ref v, .int mi0, .int (n0 + 1), .int 1, .int r0, .int u0]))) top a (.inr (3, [.ref v, .int mi0, .int (n0 + 1), .int 1, .int r0, .int u0])) := z_at.uu ha
      exact r_vret hX hq ⟨rfl, by simp [zm_doubt, zf_b, c16, c24], rfl⟩ dX2_join_35

/-- behind begin -/
def z_PBegin (G : zG) (s : zS) (be : zB) (pu sg : Nat) (mi : Int32) : Option Value → zH → Nat → Prop := fun r h' top' => ∃ (be2 : zB) (a : Nat), z_St G s be2 h' top' ∧ r = some (.ref a) ∧ b_pu be2 = nI (pu + 1) ∧ (b_pool be2)[pu]? = some (a, sg, mi, 0, 0, 0, 0) ∧ (∀ i, i < pu → (b_pool be2)[i]? = (b_pool be)[i]?) ∧ b_rch be2 = b_rch be ∧ b_ct be2 = b_ct be ∧ b_pk be2 = b_pk be ∧ b_jn be2 = b_jn be ∧ b_rw be2 = b_rw be
def z_addPool (be : zB) (p : zPas) (l : Int32 × Nat × Nat) : zB := (be.1, be.2.1, b_pool be ++ [p], be.2.2.2.1, va_up (b_ls be) 7 l)
theorem z_St.addPool {G : zG} {s : zS} {be : zB} {h : zH} {top : Nat} (H : z_St G s be h top) {p : zPas} (hp1 : p.1 = top) (hs : z_isSeg s p.2.1) (hlen : (b_pool be).length < 120) {h2 : zH} {top2 : Nat} {rv r : Option Value} (hp : z_PAdd G (va_up h top (z_pasC p)) (top + 1) (z_b G + 15) (b_ls be 7).2.1 (b_pool be).length (b_ls be 7).2.2 (fun q : Nat => ((b_pool be).map (fun x => x.1))[q]?) (b_pool be).length top rv r h2 top2) : r = rv ∧ ∃ l, z_St G s (z_addPool be p l) h2 top2 := by
  have e7 : (z_els s be 7).length = (b_pool be).length := List.length_map _
  refine z_St.addO (s2 := s) (z_addPool be p) (top + 1) H 7 7 (b_pool be).length top (by decide) (by decide) (e0 := z_pasC p) (h1 := va_up h top (z_pasC p)) (Nat.le_refl _) (z_at.fresh (Nat.le_trans H.hall.1 (Nat.le_of_lt H.hall.2.1))) (fun u z => by cases z) (fun fs z => by cases z) (fun q hq => by simp [va_up, show q ≠ top by omega]) (by rw [e7]; exact hp) (by omega) (fun l => ⟨by show va_up (b_ls be) 7 l 7 = l; simp [va_up], fun k hk => by show va_up (b_ls be) 7 l k = _; simp [va_up, hk], ?_, ?_, ?_, ?_, ?_, ?_, ?_⟩)
  · show (b_pool be ++ [p]).map _ = (b_pool be).map _ ++ _
    rw [List.map_append, ← hp1]
    rfl
  · intro k hk hk8
    rcases (show k = 0 ∨ k = 1 ∨ k = 2 ∨ k = 3 ∨ k = 4 ∨ k = 5 ∨ k = 6 by omega) with rfl | rfl | rfl | rfl | rfl | rfl | rfl <;> rfl
  · rw [z_ct7]
    show ((b_pool be ++ [p])[(b_pool be).length]?).map _ = _
    rw [List.getElem?_append_right (Nat.le_refl _), Nat.sub_self]
    simp [hp1]
  · intro k i h1 h2 h3
    match k with
    | 0 => match i with
      | 0 => rfl
      | 1 => rfl
      | 2 => rfl
      | 3 => rfl
      | 4 => rfl
      | 5 => rfl
      | 6 => rfl
      | 7 => rfl
      | 8 => rfl
      | i + 9 => rfl
    | 1 =>
      rw [z_ct1, z_ct1]
      by_cases q : i < 8
      · have hi : i ≠ 7 := fun z => h2 ⟨rfl, z⟩
        have e1 : b_ls (z_addPool be p l) i = b_ls be i := by show va_up (b_ls be) 7 l i = _; simp [va_up, hi]
        have e2 : z_els s (z_addPool be p l) i = z_els s be i := by
          rcases (show i = 0 ∨ i = 1 ∨ i = 2 ∨ i = 3 ∨ i = 4 ∨ i = 5 ∨ i = 6 by omega) with rfl | rfl | rfl | rfl | rfl | rfl | rfl <;> rfl
        rw [if_pos q, if_pos q, e1, e2]
      · rw [if_neg q, if_neg q]
    | 2 =>
      have hi : i ≠ 7 := fun z => h3 ⟨rfl, z⟩
      have e1 : b_ls (z_addPool be p l) i = b_ls be i := by show va_up (b_ls be) 7 l i = _; simp [va_up, hi]
      rw [z_ct2, z_ct2, e1]
      by_cases q : i < 8 ∧ 0 < (b_ls be i).2.2
      · have e2 : z_els s (z_addPool be p l) i = z_els s be i := by
          have q1 := q.1
          rcases (show i = 0 ∨ i = 1 ∨ i = 2 ∨ i = 3 ∨ i = 4 ∨ i = 5 ∨ i = 6 by omega) with rfl | rfl | rfl | rfl | rfl | rfl | rfl <;> rfl
        rw [if_pos q, if_pos q, e2]
      · rw [if_neg q, if_neg q]
    | 3 => rfl
    | 4 => rfl
    | 5 => rfl
    | 6 => rfl
    | 7 =>
      rw [z_ct7, z_ct7]
      show ((b_pool be ++ [p])[i]?).map _ = _
      rcases Nat.lt_or_ge i (b_pool be).length with q | q
      · rw [List.getElem?_append_left q]
      · rw [List.getElem?_append_right q, List.getElem?_eq_none (l := b_pool be) q, List.getElem?_eq_none (by have : i ≠ (b_pool be).length := fun z => h1 ⟨rfl, z⟩; simp; omega)]
    | k + 8 => rw [z_ct8 _ _ _ _ _ (by omega), z_ct8 _ _ _ _ _ (by omega)]
  · refine ⟨H.2.2.2.1.1, fun q hq => ?_⟩
    rcases List.mem_append.mp hq with w | w
    · exact H.2.2.2.1.2 q w
    · rw [List.mem_singleton.mp w]; exact hs
  · have := H.2.2.1.2.1
    show top + 1 ≤ _ + (b_pool be ++ [p]).length + _
    rw [List.length_append, List.length_singleton]
    omega
  · have := H.2.2.1.2.2
    refine ⟨this.1, this.2.1, this.2.2.1, this.2.2.2.1, ?_⟩
    show (b_pool be ++ [p]).length ≤ 120
    rw [List.length_append, List.length_singleton]
    omega

set_option maxRecDepth 20000 in
set_option maxHeartbeats 4000000 in
theorem f_begin_tail {X : zX} {G : zG} {h : zH} {top : Nat} {Post : Option Value → zH → Nat → Prop} (s : zS) (be : zB) (pu sg : Nat) (mi : Int32) (p : zPas) (H : z_St G s be h top) (hpu : b_pu be = nI pu) (hp0 : (b_pool be)[pu]? = some p) (hsg : z_isSeg s sg) (hpo : z_St G s (z_setBk (z_setPool be ((b_pool be).set pu (p.1, sg, mi, 0, 0, 0, 0))) (nI pu + 1) (b_ct be)) (va_up (va_up h p.1 (.inr (3, [.ref sg, .int mi, .int 0, .int 0, .int 0, .int 0]))) (z_b G + 11) (.inr (1, [.ref (z_b G + 12), .ref (z_b G + 13), .ref (z_b G + 14), .ref (z_b G + 15), .int (nI pu + 1), .int (b_ct be)]))) top → Post (some (.ref p.1)) (va_up (va_up h p.1 (.inr (3, [.ref sg, .int mi, .int 0, .int 0, .int 0, .int 0]))) (z_b G + 11) (.inr (1, [.ref (z_b G + 12), .ref (z_b G + 13), .ref (z_b G + 14), .ref (z_b G + 15), .int (nI pu + 1), .int (b_ct be)]))) top) (hX : z_ok X cX0_begin 4 RX0 (some (.object "GantryHall$Passage")) "begin" 8 G) (hq : z_mq X (Post)) : z_Z X h top 44 [(0, .ref (z_b G + 11)), (1, .ref sg), (2, .int mi)] [] := by
  have hlt : pu < (b_pool be).length := (List.getElem?_eq_some_iff.mp hp0).1
  have hpas := H.pas hp0
  have hbk : z_at G h top (z_b G + 11) (.inr (1, [.ref (z_b G + 12), .ref (z_b G + 13), .ref (z_b G + 14), .ref (z_b G + 15), .int (nI pu), .int (b_ct be)])) := by
    have q : z_at G h top (z_b G + 11) (z_bkC (z_b G) be) := H.bk
    unfold z_bkC at q
    rw [hpu] at q
    exact q
  refine r_aload_n hX rfl 0 rfl dX0_begin_44 ?_
  refine r_getf hX fl_X0_24 hbk rfl dX0_begin_45 ?_
  refine r_aload_n hX rfl 0 rfl dX0_begin_48 ?_
  refine r_getf hX fl_X0_31 hbk rfl dX0_begin_49 ?_
  refine r_callVR (As := [.int (nI pu)]) (rest := []) (rv := some (.ref p.1)) (st1 := [.ref p.1]) hX cs_X0_55 (by decide) (fun l => z_get H.l7 hlt (z_mapget hp0) l) H.l7.1 rfl rfl rfl rfl (Nat.le_of_ble_eq_true rfl) dX0_begin_52 ?_
  refine r_cast (ci := 3) hX rfl hpas cl_X0_89 dX0_begin_55 ?_
  refine r_astore_n (lv' := [(3, .ref p.1), (0, .ref (z_b G + 11)), (1, .ref sg), (2, .int mi)]) hX rfl (by decide) rfl dX0_begin_58 ?_
  refine r_aload_n hX rfl 0 rfl dX0_begin_59 ?_
  refine r_aload_n hX rfl 2 rfl dX0_begin_60 ?_
  refine r_iload_n hX rfl 3 rfl dX0_begin_61 ?_
  refine r_callVR (As := [.ref sg, .int mi]) (rest := []) (rv := none) (st1 := []) hX cs_X0_106 (by decide) (fun l => c_X2_restart l G h top p.1 sg mi p.2.1 p.2.2.1 p.2.2.2.1 p.2.2.2.2.1 p.2.2.2.2.2.1 p.2.2.2.2.2.2 hpas) hpas rfl rfl rfl rfl (Nat.le_of_ble_eq_true rfl) dX0_begin_62 ?_
  have H2 := H.setPas (p2 := (p.1, sg, mi, 0, 0, 0, 0)) hp0 rfl hsg
  replace hbk : z_at G (va_up h p.1 (.inr (3, [.ref sg, .int mi, .int 0, .int 0, .int 0, .int 0]))) top (z_b G + 11) (.inr (1, [.ref (z_b G + 12), .ref (z_b G + 13), .ref (z_b G + 14), .ref (z_b G + 15), .int (nI pu), .int (b_ct be)])) := hbk.up hpas (by intro z; cases z)
  refine r_aload_n hX rfl 1 rfl dX0_begin_65 ?_
  refine r_dup hX rfl dX0_begin_66 ?_
  refine r_getf hX fl_X0_31 hbk rfl dX0_begin_67 ?_
  refine r_iconst (v := 1) hX (by decide) dX0_begin_70 ?_
  refine r_iadd hX dX0_begin_71 ?_
  refine r_put (fs2 := [.ref (z_b G + 12), .ref (z_b G + 13), .ref (z_b G + 14), .ref (z_b G + 15), .int ((nI pu) + 1), .int (b_ct be)]) hX fp_X0_31 hbk rfl rfl (Nat.le_of_ble_eq_true rfl) rfl dX0_begin_72 ?_
  replace hbk : z_at G (va_up (va_up h p.1 (.inr (3, [.ref sg, .int mi, .int 0, .int 0, .int 0, .int 0]))) (z_b G + 11) (.inr (1, [.ref (z_b G + 12), .ref (z_b G + 13), .ref (z_b G + 14), .ref (z_b G + 15), .int ((nI pu) + 1), .int (b_ct be)]))) top (z_b G + 11) (.inr (1, [.ref (z_b G + 12), .ref (z_b G + 13), .ref (z_b G + 14), .ref (z_b G + 15), .int ((nI pu) + 1), .int (b_ct be)])) := z_at.self hbk
  refine r_aload_n hX rfl 0 rfl dX0_begin_75 ?_
  exact r_aret hX rfl (Or.inl ⟨_, rfl⟩) hq (Or.inr ⟨_, rfl⟩) (hpo (H2.setBk (nI pu + 1) (b_ct be))) dX0_begin_76

set_option maxRecDepth 20000 in
set_option maxHeartbeats 4000000 in
theorem c_begin_A (l : Launch) (G : zG) (h : zH) (top : Nat) (s : zS) (be : zB) (pu sg : Nat) (mi : Int32) (H : z_St G s be h top) (hpu : b_pu be = nI pu) (hsg : z_isSeg s sg) (p : zPas) (hp0 : (b_pool be)[pu]? = some p) : z_Ct l yX0_begin cX0_begin 4 (some (.object "GantryHall$Passage")) 8 G [.ref (z_b G + 11), .ref sg, .int mi] h top (z_PBegin G s be pu sg mi) := by
  refine z_of (own := RX0) (nm := "begin") (by decide) rfl rfl (by decide) (Nat.le_of_ble_eq_true rfl) (fun X hX hq => ?_)
  replace hX : z_ok X cX0_begin 4 RX0 (some (.object "GantryHall$Passage")) "begin" 8 G := hX
  show z_Z X h top 0 [(0, .ref (z_b G + 11)), (1, .ref sg), (2, .int mi)] []
  have hlt : pu < (b_pool be).length := (List.getElem?_eq_some_iff.mp hp0).1
  have hb120 := H.2.2.1.2.2.2.2.2.2
  have hbk : z_at G h top (z_b G + 11) (.inr (1, [.ref (z_b G + 12), .ref (z_b G + 13), .ref (z_b G + 14), .ref (z_b G + 15), .int (nI pu), .int (b_ct be)])) := by
    have q : z_at G h top (z_b G + 11) (z_bkC (z_b G) be) := H.bk
    unfold z_bkC at q
    rw [hpu] at q
    exact q
  refine r_aload_n hX rfl 0 rfl dX0_begin_0 ?_
  refine r_getf hX fl_X0_31 hbk rfl dX0_begin_1 ?_
  refine r_aload_n hX rfl 0 rfl dX0_begin_4 ?_
  refine r_getf hX fl_X0_24 hbk rfl dX0_begin_5 ?_
  refine r_callVR (As := []) (rest := [.int (nI pu)]) (rv := some (.int (nI (b_pool be).length))) (st1 := [.int (nI (b_pool be).length), .int (nI pu)]) hX cs_X0_27 (by decide) (fun l => z_size H.l7 l) H.l7.1 rfl rfl rfl rfl (Nat.le_of_ble_eq_true rfl) dX0_begin_8 ?_
  refine r_icmp_lt (tgt := 44) hX dX0_begin_11 rfl (fun _ => ?_) (fun c => False.elim (absurd (nI_lt hlt (by omega)) c))
  exact f_begin_tail s be pu sg mi p H hpu hp0 hsg (fun H9 => ⟨_, p.1, H9, rfl, nI_1 pu, by show ((b_pool be).set pu _)[pu]? = _; rw [List.getElem?_set_self hlt], fun i hi => by show ((b_pool be).set pu _)[i]? = _; rw [List.getElem?_set_ne (by omega)], rfl, rfl, rfl, rfl, rfl⟩) hX hq

theorem z_AL.new {G : zG} {h : zH} {top a : Nat} {m : Int32} {e n cap : Nat} {f : Nat → Option Nat} {v : va_E} (hL : z_AL G h top a m e n cap f) : z_AL G (va_up h top v) (top + 1) a m e n cap f := by
  obtain ⟨h1, h2, h3, h4, h5⟩ := hL
  refine ⟨h1.new, h2, h3, h4, ?_⟩
  rcases h5 with h5 | ⟨h5, he⟩
  · exact Or.inl h5
  · exact Or.inr ⟨h5, he.new⟩
set_option maxRecDepth 20000 in
set_option maxHeartbeats 4000000 in
theorem c_begin_B (l : Launch) (G : zG) (h : zH) (top : Nat) (s : zS) (be : zB) (pu sg : Nat) (mi : Int32) (H : z_St G s be h top) (hpu : b_pu be = nI pu) (hsg : z_isSeg s sg) (heq : (b_pool be).length = pu) (h120 : pu < 120) : z_Ct l yX0_begin cX0_begin 4 (some (.object "GantryHall$Passage")) 8 G [.ref (z_b G + 11), .ref sg, .int mi] h top (z_PBegin G s be pu sg mi) := by
  refine z_of (own := RX0) (nm := "begin") (by decide) rfl rfl (by decide) (Nat.le_of_ble_eq_true rfl) (fun X hX hq => ?_)
  replace hX : z_ok X cX0_begin 4 RX0 (some (.object "GantryHall$Passage")) "begin" 8 G := hX
  show z_Z X h top 0 [(0, .ref (z_b G + 11)), (1, .ref sg), (2, .int mi)] []
  have hbt : z_b G ≤ top := Nat.le_trans H.hall.1 (Nat.le_of_lt H.hall.2.1)
  have hl7 := H.l7.1
  have hbk : z_at G h top (z_b G + 11) (.inr (1, [.ref (z_b G + 12), .ref (z_b G + 13), .ref (z_b G + 14), .ref (z_b G + 15), .int (nI pu), .int (b_ct be)])) := by
    have q : z_at G h top (z_b G + 11) (z_bkC (z_b G) be) := H.bk
    unfold z_bkC at q
    rw [hpu] at q
    exact q
  refine r_aload_n hX rfl 0 rfl dX0_begin_0 ?_
  refine r_getf hX fl_X0_31 hbk rfl dX0_begin_1 ?_
  refine r_aload_n hX rfl 0 rfl dX0_begin_4 ?_
  refine r_getf hX fl_X0_24 hbk rfl dX0_begin_5 ?_
  refine r_callVR (As := []) (rest := [.int (nI pu)]) (rv := some (.int (nI (b_pool be).length))) (st1 := [.int (nI (b_pool be).length), .int (nI pu)]) hX cs_X0_27 (by decide) (fun l => z_size H.l7 l) hl7 rfl rfl rfl rfl (Nat.le_of_ble_eq_true rfl) dX0_begin_8 ?_
  refine r_icmp_lt (tgt := 44) hX dX0_begin_11 rfl (fun c => False.elim (absurd c (nI_nlt (Nat.le_of_eq heq) (by omega)))) (fun _ => ?_)
  refine r_aload_n hX rfl 0 rfl dX0_begin_14 ?_
  refine r_getf hX fl_X0_24 hbk rfl dX0_begin_15 ?_
  refine r_new hX nw_X0_89 (by have := H.2.2.1.room; omega) dX0_begin_18 ?_
  replace hbk := hbk.new (e2 := (.inr (3, [.null, .int 0, .int 0, .int 0, .int 0, .int 0])))
  replace hl7 := hl7.new (e2 := (.inr (3, [.null, .int 0, .int 0, .int 0, .int 0, .int 0])))
  have hN18 : z_at G (va_up h top (.inr (3, [.null, .int 0, .int 0, .int 0, .int 0, .int 0]))) (top + 1) top (.inr (3, [.null, .int 0, .int 0, .int 0, .int 0, .int 0])) := z_at.fresh hbt
  refine r_dup hX rfl dX0_begin_21 ?_
  refine r_aload_n hX rfl 1 rfl dX0_begin_22 ?_
  refine r_iload_n hX rfl 2 rfl dX0_begin_23 ?_
  refine r_callIR (As := [.ref sg, .int mi]) (rest := [.ref top, .ref (z_b G + 15)]) (rv := none) (st1 := [.ref top, .ref (z_b G + 15)]) hX cs_X0_103 (by decide) (fun l => c_X2_init l G (va_up h top (.inr (3, [.null, .int 0, .int 0, .int 0, .int 0, .int 0]))) (top + 1) top sg mi hN18) rfl rfl rfl (Nat.le_of_ble_eq_true rfl) dX0_begin_24 ?_
  rw [bx_uu]
  have hA15 : z_AL G (va_up h top (.inr (3, [.ref sg, .int mi, .int 0, .int 0, .int 0, .int 0]))) (top + 1) (z_b G + 15) (b_ls be 7).1 (b_ls be 7).2.1 (b_pool be).length (b_ls be 7).2.2 (fun i : Nat => ((b_pool be).map (fun x => x.1))[i]?) := z_AL.new H.l7
  refine r_callV (As := [.ref top]) (rest := []) hX cs_X0_95 (by decide) (fun l => c_add1 l G (va_up h top (.inr (3, [.ref sg, .int mi, .int 0, .int 0, .int 0, .int 0]))) (top + 1) (z_b G + 15) top (b_ls be 7).2.1 (b_pool be).length (b_ls be 7).2.2 (b_ls be 7).1 (fun i : Nat => ((b_pool be).map (fun x => x.1))[i]?) (by omega) hA15 (fun i hi y hy => by obtain ⟨q, hq2⟩ : ∃ q, (b_pool be)[i]? = some q := ⟨_, List.getElem?_eq_getElem hi⟩; rw [z_mapget hq2] at hy; cases hy; exact (H.ob_pas hq2).new) (by omega) (z_ob_of (z_at.fresh hbt) rfl kw_ob3) (fun _ => by have := H.2.2.1.room; omega)) hA15.1 rfl rfl rfl (Nat.le_of_ble_eq_true rfl) dX0_begin_27 (fun r1 h1 top1 hp1 => ?_)
  obtain ⟨rfl, l7, H2⟩ := H.addPool (p := (top, sg, mi, 0, 0, 0, 0)) rfl hsg (by omega) hp1
  have hbk2 : z_at G h1 top1 (z_b G + 11) (.inr (1, [.ref (z_b G + 12), .ref (z_b G + 13), .ref (z_b G + 14), .ref (z_b G + 15), .int (nI pu), .int (b_ct be)])) := by
    have q : z_at G h1 top1 (z_b G + 11) (.inr (1, [.ref (z_b G + 12), .ref (z_b G + 13), .ref (z_b G + 14), .ref (z_b G + 15), .int (b_pu be), .int (b_ct be)])) := H2.bk
    rw [hpu] at q
    exact q
  have hA7 := H2.l7
  rw [show (b_pool (z_addPool be (top, sg, mi, 0, 0, 0, 0) l7)).length = pu + 1 by show (b_pool be ++ [_]).length = _; rw [List.length_append, List.length_singleton, heq]] at hA7
  have hA71 := hA7.1
  refine r_pop hX rfl dX0_begin_30 ?_
  refine r_aload_n hX rfl 0 rfl dX0_begin_31 ?_
  refine r_aload_n hX rfl 0 rfl dX0_begin_32 ?_
  refine r_getf hX fl_X0_24 hbk2 rfl dX0_begin_33 ?_
  refine r_callVR (As := []) (rest := [.ref (z_b G + 11)]) (rv := some (.int (nI (pu + 1)))) (st1 := [.int (nI (pu + 1)), .ref (z_b G + 11)]) hX cs_X0_27 (by decide) (fun l => z_size hA7 l) hA71 rfl rfl rfl rfl (Nat.le_of_ble_eq_true rfl) dX0_begin_36 ?_
  refine r_iconst (v := 1) hX (by decide) dX0_begin_39 ?_
  refine r_isub hX dX0_begin_40 ?_
  rw [show nI (pu + 1) - 1 = nI pu from nI_pred pu]
  refine r_put (fs2 := [.ref (z_b G + 12), .ref (z_b G + 13), .ref (z_b G + 14), .ref (z_b G + 15), .int (nI pu), .int (b_ct be)]) hX fp_X0_31 hbk2 rfl rfl (Nat.le_of_ble_eq_true rfl) rfl dX0_begin_41 ?_
  replace hA71 := hA71.up (e3 := (.inr (1, [.ref (z_b G + 12), .ref (z_b G + 13), .ref (z_b G + 14), .ref (z_b G + 15), .int (nI pu), .int (b_ct be)]))) hbk2 (by intro z; cases z)
  replace hbk2 : z_at G (va_up h1 (z_b G + 11) (.inr (1, [.ref (z_b G + 12), .ref (z_b G + 13), .ref (z_b G + 14), .ref (z_b G + 15), .int (nI pu), .int (b_ct be)]))) top1 (z_b G + 11) (.inr (1, [.ref (z_b G + 12), .ref (z_b G + 13), .ref (z_b G + 14), .ref (z_b G + 15), .int (nI pu), .int (b_ct be)])) := z_at.self hbk2
  have H3 := H2.setBk (nI pu) (b_ct be)
  have hg : (b_pool (z_setBk (z_addPool be (top, sg, mi, 0, 0, 0, 0) l7) (nI pu) (b_ct be)))[pu]? = some (top, sg, mi, 0, 0, 0, 0) := by
    show (b_pool be ++ [_])[pu]? = _
    rw [← heq, List.getElem?_append_right (Nat.le_refl _), Nat.sub_self]
    rfl
  have hsz : (b_pool be ++ [((top, sg, mi, 0, 0, 0, 0) : zPas)]).length = pu + 1 := by rw [List.length_append, List.length_singleton, heq]
  refine f_begin_tail s (z_setBk (z_addPool be (top, sg, mi, 0, 0, 0, 0) l7) (nI pu) (b_ct be)) pu sg mi (top, sg, mi, 0, 0, 0, 0) H3 rfl hg hsg (fun H9 => ⟨_, top, H9, rfl, nI_1 pu, ?_, fun i hi => ?_, rfl, rfl, rfl, rfl, rfl⟩) hX hq
  · show ((b_pool be ++ [_]).set pu _)[pu]? = _
    rw [List.getElem?_set_self (by rw [hsz]; omega)]
  · show ((b_pool be ++ [_]).set pu _)[i]? = _
    rw [List.getElem?_set_ne (by omega), List.getElem?_append_left (by omega)]

theorem c_begin (l : Launch) (G : zG) (h : zH) (top : Nat) (s : zS) (be : zB) (pu sg : Nat) (mi : Int32) (H : z_St G s be h top) (hpu : b_pu be = nI pu) (hsg : z_isSeg s sg) (hle : pu ≤ (b_pool be).length) (h120 : pu < 120) : z_Ct l yX0_begin cX0_begin 4 (some (.object "GantryHall$Passage")) 8 G [.ref (z_b G + 11), .ref sg, .int mi] h top (z_PBegin G s be pu sg mi) := by
  rcases Nat.lt_or_ge pu (b_pool be).length with q | q
  · exact c_begin_A l G h top s be pu sg mi H hpu hsg _ (List.getElem?_eq_getElem q)
  · exact c_begin_B l G h top s be pu sg mi H hpu hsg (by omega) h120
