/-! what lies between -/
def zm_only : List zSeg → Int32 → Int32 → Option zSeg → Option zSeg
  | [], _, _, f => f
  | x :: xs, a, b, f => if x.2.1 = a ∧ x.2.2.1 = b then (match f with | some _ => none | none => zm_only xs a b (some x)) else zm_only xs a b f
def zm_sg (segs : List zSeg) (a : Nat) : zSeg := (segs[zm_num segs a]?).getD (0, 0, 0, 0, 0)
theorem zm_sg_at {s : zS} {a : Nat} (h : z_isSeg s a) : (s_segs s)[zm_num (s_segs s) a]? = some (zm_sg (s_segs s) a) ∧ (zm_sg (s_segs s) a).1 = a := by
  obtain ⟨x, h1, h2⟩ := zm_num_at h
  unfold zm_sg
  rw [h1]
  exact ⟨rfl, h2⟩
def zm_inf (segs : List zSeg) (a b : zQ) : Option zQ :=
  if (zm_sg segs a.1).2.2.1 = (zm_sg segs b.1).2.1 ∨ 180 < b.2.1 - a.2.1 then none
  else (zm_only segs (zm_sg segs a.1).2.2.1 (zm_sg segs b.1).2.1 none).map (fun x => (x.1, (a.2.1 + b.2.1) / 2, 0, 0))
theorem zm_only_hit {x : zSeg} {xs : List zSeg} {a b : Int32} {f : Option zSeg} (h : x.2.1 = a ∧ x.2.2.1 = b) : zm_only (x :: xs) a b f = (match f with | some _ => none | none => zm_only xs a b (some x)) := if_pos h
theorem zm_only_miss {x : zSeg} {xs : List zSeg} {a b : Int32} {f : Option zSeg} (h : ¬ (x.2.1 = a ∧ x.2.2.1 = b)) : zm_only (x :: xs) a b f = zm_only xs a b f := if_neg h
theorem zm_only_mem {a b : Int32} {x : zSeg} : ∀ (l : List zSeg) (f : Option zSeg), zm_only l a b f = some x → x ∈ l ∨ f = some x := by
  intro l
  induction l with
  | nil => intro f h; exact Or.inr h
  | cons y ys ih =>
    intro f h
    by_cases c : y.2.1 = a ∧ y.2.2.1 = b
    · rw [zm_only_hit c] at h
      cases f with
      | none =>
        rcases ih _ h with w | w
        · exact Or.inl (List.mem_cons_of_mem _ w)
        · cases w; exact Or.inl List.mem_cons_self
      | some g => cases h
    · rw [zm_only_miss c] at h
      rcases ih _ h with w | w
      · exact Or.inl (List.mem_cons_of_mem _ w)
      · exact Or.inr w
set_option maxRecDepth 20000 in
set_option maxHeartbeats 4000000 in
theorem f_oN {X : zX} {G : zG} {h : zH} {top : Nat} {Post : Option Value → zH → Nat → Prop} (s : zS) (be : zB) (H : z_St G s be h top) (fa tb : Int32) (i : Nat) (r : Option zSeg) (x : zSeg) (hx : (s_segs s)[i]? = some x) (hr : zm_only (x :: (s_segs s).drop (i + 1)) fa tb none = r) (hp : ∀ r2, r2 = r → Post (some (va_rf (r2.map (fun x => x.1)))) h top) (ih : ∀ fo2 : Option zSeg, zm_only ((s_segs s).drop (i + 1)) fa tb fo2 = r → z_Z X h top 5 [(4, .int (nI (i + 1))), (3, va_rf (fo2.map (fun x => x.1))), (0, .ref (z_b G + 1)), (1, .int fa), (2, .int tb)] []) (hX : z_ok X cX0_onlyBetween 6 RX0 (some (.object "GantryHall$Segment")) "onlyBetween" 4 G) (hq : z_mq X (Post)) : z_Z X h top 5 [(4, .int (nI i)), (3, .null), (0, .ref (z_b G + 1)), (1, .int fa), (2, .int tb)] [] := by
  have hl0 := H.l0
  have hl01 := hl0.1
  have hlt : i < (s_segs s).length := (List.getElem?_eq_some_iff.mp hx).1
  have hxs := H.seg hx
  refine r_iload hX 0 rfl dX0_onlyBetween_5 ?_
  refine r_aload_n hX rfl 2 rfl dX0_onlyBetween_7 ?_
  refine r_callVR (As := []) (rest := [.int (nI i)]) (rv := some (.int (nI (s_segs s).length))) (st1 := [.int (nI (s_segs s).length), .int (nI i)]) hX cs_X0_27 (by decide) (fun l => z_size hl0 l) hl01 rfl rfl rfl rfl (Nat.le_of_ble_eq_true rfl) dX0_onlyBetween_8 ?_
  refine r_icmp_ge (tgt := 58) hX dX0_onlyBetween_11 rfl (fun c => False.elim (absurd c (nI_ge hlt (by have := hl0.2.1; have := hl0.2.2.1; omega)))) (fun _ => ?_)
  refine r_aload_n hX rfl 2 rfl dX0_onlyBetween_14 ?_
  refine r_iload hX 0 rfl dX0_onlyBetween_15 ?_
  refine r_callVR (As := [.int (nI i)]) (rest := []) (rv := some (.ref x.1)) (st1 := [.ref x.1]) hX cs_X0_55 (by decide) (fun l => z_get hl0 hlt (z_mapget hx) l) hl01 rfl rfl rfl rfl (Nat.le_of_ble_eq_true rfl) dX0_onlyBetween_17 ?_
  refine r_cast (ci := 4) hX rfl hxs cl_X0_118 dX0_onlyBetween_20 ?_
  refine r_astore (lv' := [(5, .ref x.1), (4, .int (nI i)), (3, .null), (0, .ref (z_b G + 1)), (1, .int fa), (2, .int tb)]) hX (by decide) rfl dX0_onlyBetween_23 ?_
  refine r_aload hX 0 rfl dX0_onlyBetween_25 ?_
  refine r_getf hX fl_X0_122 hxs rfl dX0_onlyBetween_27 ?_
  refine r_iload_n hX rfl 4 rfl dX0_onlyBetween_30 ?_
  refine r_icmp_ne (tgt := 52) hX dX0_onlyBetween_31 rfl (fun c31 => ?_) (fun c31 => ?_)
  · skip
    refine r_iinc (q := 1) (lv' := [(4, .int ((nI i) + 1)), (5, .ref x.1), (3, .null), (0, .ref (z_b G + 1)), (1, .int fa), (2, .int tb)]) hX rfl rfl (by decide) rfl dX0_onlyBetween_52 ?_
    refine r_goto (tgt := 5) hX rfl dX0_onlyBetween_55 ?_
    refine r_lv [0, 2, 3, 4, 5] (lv2 := [(4, .int (nI i + 1)), (3, .null), (0, .ref (z_b G + 1)), (1, .int fa), (2, .int tb)]) rfl ?_
    rw [nI_1]
    exact ih none ((zm_only_miss (by intro z; first | exact c31 z.1 | exact c40 z.2)).symm.trans hr)
  · skip
    refine r_aload hX 0 rfl dX0_onlyBetween_34 ?_
    refine r_getf hX fl_X0_117 hxs rfl dX0_onlyBetween_36 ?_
    refine r_iload_n hX rfl 5 rfl dX0_onlyBetween_39 ?_
    refine r_icmp_ne (tgt := 52) hX dX0_onlyBetween_40 rfl (fun c40 => ?_) (fun c40 => ?_)
    · skip
      refine r_iinc (q := 1) (lv' := [(4, .int ((nI i) + 1)), (5, .ref x.1), (3, .null), (0, .ref (z_b G + 1)), (1, .int fa), (2, .int tb)]) hX rfl rfl (by decide) rfl dX0_onlyBetween_52 ?_
      refine r_goto (tgt := 5) hX rfl dX0_onlyBetween_55 ?_
      refine r_lv [0, 2, 3, 4, 5] (lv2 := [(4, .int (nI i + 1)), (3, .null), (0, .ref (z_b G + 1)), (1, .int fa), (2, .int tb)]) rfl ?_
      rw [nI_1]
      exact ih none ((zm_only_miss (by intro z; first | exact c31 z.1 | exact c40 z.2)).symm.trans hr)
    · skip
      refine r_aload_nN hX rfl 2 rfl dX0_onlyBetween_43 ?_
      refine r_ifnullN (tgt := 49) hX rfl dX0_onlyBetween_44 ?_
      refine r_aload hX 0 rfl dX0_onlyBetween_49 ?_
      refine r_astore_n (lv' := [(3, .ref x.1), (5, .ref x.1), (4, .int (nI i)), (0, .ref (z_b G + 1)), (1, .int fa), (2, .int tb)]) hX rfl (by decide) rfl dX0_onlyBetween_51 ?_
      refine r_iinc (q := 2) (lv' := [(4, .int ((nI i) + 1)), (3, .ref x.1), (5, .ref x.1), (0, .ref (z_b G + 1)), (1, .int fa), (2, .int tb)]) hX rfl rfl (by decide) rfl dX0_onlyBetween_52 ?_
      refine r_goto (tgt := 5) hX rfl dX0_onlyBetween_55 ?_
      refine r_lv [0, 1, 3, 4, 5] (lv2 := [(4, .int (nI i + 1)), (3, .ref x.1), (0, .ref (z_b G + 1)), (1, .int fa), (2, .int tb)]) rfl ?_
      rw [nI_1]
      exact ih (some x) ((zm_only_hit (f := none) ⟨c31, c40⟩).symm.trans hr)

set_option maxRecDepth 20000 in
set_option maxHeartbeats 4000000 in
theorem f_oS {X : zX} {G : zG} {h : zH} {top : Nat} {Post : Option Value → zH → Nat → Prop} (s : zS) (be : zB) (H : z_St G s be h top) (fa tb : Int32) (i : Nat) (r : Option zSeg) (f : zSeg) (x : zSeg) (hx : (s_segs s)[i]? = some x) (hr : zm_only (x :: (s_segs s).drop (i + 1)) fa tb (some f) = r) (hp : ∀ r2, r2 = r → Post (some (va_rf (r2.map (fun x => x.1)))) h top) (ih : ∀ fo2 : Option zSeg, zm_only ((s_segs s).drop (i + 1)) fa tb fo2 = r → z_Z X h top 5 [(4, .int (nI (i + 1))), (3, va_rf (fo2.map (fun x => x.1))), (0, .ref (z_b G + 1)), (1, .int fa), (2, .int tb)] []) (hX : z_ok X cX0_onlyBetween 6 RX0 (some (.object "GantryHall$Segment")) "onlyBetween" 4 G) (hq : z_mq X (Post)) : z_Z X h top 5 [(4, .int (nI i)), (3, .ref f.1), (0, .ref (z_b G + 1)), (1, .int fa), (2, .int tb)] [] := by
  have hl0 := H.l0
  have hl01 := hl0.1
  have hlt : i < (s_segs s).length := (List.getElem?_eq_some_iff.mp hx).1
  have hxs := H.seg hx
  refine r_iload hX 0 rfl dX0_onlyBetween_5 ?_
  refine r_aload_n hX rfl 2 rfl dX0_onlyBetween_7 ?_
  refine r_callVR (As := []) (rest := [.int (nI i)]) (rv := some (.int (nI (s_segs s).length))) (st1 := [.int (nI (s_segs s).length), .int (nI i)]) hX cs_X0_27 (by decide) (fun l => z_size hl0 l) hl01 rfl rfl rfl rfl (Nat.le_of_ble_eq_true rfl) dX0_onlyBetween_8 ?_
  refine r_icmp_ge (tgt := 58) hX dX0_onlyBetween_11 rfl (fun c => False.elim (absurd c (nI_ge hlt (by have := hl0.2.1; have := hl0.2.2.1; omega)))) (fun _ => ?_)
  refine r_aload_n hX rfl 2 rfl dX0_onlyBetween_14 ?_
  refine r_iload hX 0 rfl dX0_onlyBetween_15 ?_
  refine r_callVR (As := [.int (nI i)]) (rest := []) (rv := some (.ref x.1)) (st1 := [.ref x.1]) hX cs_X0_55 (by decide) (fun l => z_get hl0 hlt (z_mapget hx) l) hl01 rfl rfl rfl rfl (Nat.le_of_ble_eq_true rfl) dX0_onlyBetween_17 ?_
  refine r_cast (ci := 4) hX rfl hxs cl_X0_118 dX0_onlyBetween_20 ?_
  refine r_astore (lv' := [(5, .ref x.1), (4, .int (nI i)), (3, .ref f.1), (0, .ref (z_b G + 1)), (1, .int fa), (2, .int tb)]) hX (by decide) rfl dX0_onlyBetween_23 ?_
  refine r_aload hX 0 rfl dX0_onlyBetween_25 ?_
  refine r_getf hX fl_X0_122 hxs rfl dX0_onlyBetween_27 ?_
  refine r_iload_n hX rfl 4 rfl dX0_onlyBetween_30 ?_
  refine r_icmp_ne (tgt := 52) hX dX0_onlyBetween_31 rfl (fun c31 => ?_) (fun c31 => ?_)
  · skip
    refine r_iinc (q := 1) (lv' := [(4, .int ((nI i) + 1)), (5, .ref x.1), (3, .ref f.1), (0, .ref (z_b G + 1)), (1, .int fa), (2, .int tb)]) hX rfl rfl (by decide) rfl dX0_onlyBetween_52 ?_
    refine r_goto (tgt := 5) hX rfl dX0_onlyBetween_55 ?_
    refine r_lv [0, 2, 3, 4, 5] (lv2 := [(4, .int (nI i + 1)), (3, .ref f.1), (0, .ref (z_b G + 1)), (1, .int fa), (2, .int tb)]) rfl ?_
    rw [nI_1]
    exact ih (some f) ((zm_only_miss (by intro z; first | exact c31 z.1 | exact c40 z.2)).symm.trans hr)
  · skip
    refine r_aload hX 0 rfl dX0_onlyBetween_34 ?_
    refine r_getf hX fl_X0_117 hxs rfl dX0_onlyBetween_36 ?_
    refine r_iload_n hX rfl 5 rfl dX0_onlyBetween_39 ?_
    refine r_icmp_ne (tgt := 52) hX dX0_onlyBetween_40 rfl (fun c40 => ?_) (fun c40 => ?_)
    · skip
      refine r_iinc (q := 1) (lv' := [(4, .int ((nI i) + 1)), (5, .ref x.1), (3, .ref f.1), (0, .ref (z_b G + 1)), (1, .int fa), (2, .int tb)]) hX rfl rfl (by decide) rfl dX0_onlyBetween_52 ?_
      refine r_goto (tgt := 5) hX rfl dX0_onlyBetween_55 ?_
      refine r_lv [0, 2, 3, 4, 5] (lv2 := [(4, .int (nI i + 1)), (3, .ref f.1), (0, .ref (z_b G + 1)), (1, .int fa), (2, .int tb)]) rfl ?_
      rw [nI_1]
      exact ih (some f) ((zm_only_miss (by intro z; first | exact c31 z.1 | exact c40 z.2)).symm.trans hr)
    · skip
      refine r_aload_n hX rfl 2 rfl dX0_onlyBetween_43 ?_
      refine r_ifnull hX dX0_onlyBetween_44 ?_
      refine r_null hX dX0_onlyBetween_47 ?_
      exact r_aret hX rfl (Or.inl ⟨_, rfl⟩) hq (Or.inl rfl) (hp none ((zm_only_hit (f := some f) ⟨c31, c40⟩).symm.trans hr)) dX0_onlyBetween_48

set_option maxRecDepth 20000 in
set_option maxHeartbeats 4000000 in
theorem f_oNe {X : zX} {G : zG} {h : zH} {top : Nat} {Post : Option Value → zH → Nat → Prop} (s : zS) (be : zB) (H : z_St G s be h top) (fa tb : Int32) (i : Nat) (r : Option zSeg) (hge : (s_segs s).length ≤ i) (hi : i ≤ 1000) (hr : none = r) (hp : ∀ r2, r2 = r → Post (some (va_rf (r2.map (fun x => x.1)))) h top) (hX : z_ok X cX0_onlyBetween 6 RX0 (some (.object "GantryHall$Segment")) "onlyBetween" 4 G) (hq : z_mq X (Post)) : z_Z X h top 5 [(4, .int (nI i)), (3, .null), (0, .ref (z_b G + 1)), (1, .int fa), (2, .int tb)] [] := by
  have hl0 := H.l0
  have hl01 := hl0.1
  refine r_iload hX 0 rfl dX0_onlyBetween_5 ?_
  refine r_aload_n hX rfl 2 rfl dX0_onlyBetween_7 ?_
  refine r_callVR (As := []) (rest := [.int (nI i)]) (rv := some (.int (nI (s_segs s).length))) (st1 := [.int (nI (s_segs s).length), .int (nI i)]) hX cs_X0_27 (by decide) (fun l => z_size hl0 l) hl01 rfl rfl rfl rfl (Nat.le_of_ble_eq_true rfl) dX0_onlyBetween_8 ?_
  refine r_icmp_ge (tgt := 58) hX dX0_onlyBetween_11 rfl (fun _ => ?_) (fun c => False.elim (c (nI_le hge (by omega))))
  refine r_aload_nN hX rfl 1 rfl dX0_onlyBetween_58 ?_
  exact r_aret hX rfl (Or.inl ⟨_, rfl⟩) hq (Or.inl rfl) (hp none hr) dX0_onlyBetween_59

set_option maxRecDepth 20000 in
set_option maxHeartbeats 4000000 in
theorem f_oSe {X : zX} {G : zG} {h : zH} {top : Nat} {Post : Option Value → zH → Nat → Prop} (s : zS) (be : zB) (H : z_St G s be h top) (fa tb : Int32) (i : Nat) (r : Option zSeg) (f : zSeg) (hge : (s_segs s).length ≤ i) (hi : i ≤ 1000) (hr : some f = r) (hp : ∀ r2, r2 = r → Post (some (va_rf (r2.map (fun x => x.1)))) h top) (hX : z_ok X cX0_onlyBetween 6 RX0 (some (.object "GantryHall$Segment")) "onlyBetween" 4 G) (hq : z_mq X (Post)) : z_Z X h top 5 [(4, .int (nI i)), (3, .ref f.1), (0, .ref (z_b G + 1)), (1, .int fa), (2, .int tb)] [] := by
  have hl0 := H.l0
  have hl01 := hl0.1
  refine r_iload hX 0 rfl dX0_onlyBetween_5 ?_
  refine r_aload_n hX rfl 2 rfl dX0_onlyBetween_7 ?_
  refine r_callVR (As := []) (rest := [.int (nI i)]) (rv := some (.int (nI (s_segs s).length))) (st1 := [.int (nI (s_segs s).length), .int (nI i)]) hX cs_X0_27 (by decide) (fun l => z_size hl0 l) hl01 rfl rfl rfl rfl (Nat.le_of_ble_eq_true rfl) dX0_onlyBetween_8 ?_
  refine r_icmp_ge (tgt := 58) hX dX0_onlyBetween_11 rfl (fun _ => ?_) (fun c => False.elim (c (nI_le hge (by omega))))
  refine r_aload_n hX rfl 1 rfl dX0_onlyBetween_58 ?_
  exact r_aret hX rfl (Or.inl ⟨_, rfl⟩) hq (Or.inr ⟨_, rfl⟩) (hp (some f) hr) dX0_onlyBetween_59

theorem f_only {X : zX} {G : zG} {h : zH} {top : Nat} {Post : Option Value → zH → Nat → Prop} (s : zS) (be : zB) (H : z_St G s be h top) (fa tb : Int32) (r : Option zSeg) (hp : ∀ r2, r2 = r → Post (some (va_rf (r2.map (fun x => x.1)))) h top) (hX : z_ok X cX0_onlyBetween 6 RX0 (some (.object "GantryHall$Segment")) "onlyBetween" 4 G) (hq : z_mq X Post) : ∀ (k i : Nat) (fo : Option zSeg), (s_segs s).length - i < k → i ≤ (s_segs s).length → zm_only ((s_segs s).drop i) fa tb fo = r → z_Z X h top 5 [(4, .int (nI i)), (3, va_rf (fo.map (fun x => x.1))), (0, .ref (z_b G + 1)), (1, .int fa), (2, .int tb)] [] := by
  intro k
  induction k with
  | zero => intros; omega
  | succ k ih =>
    intro i fo hk hi hr
    have h8 := H.2.2.1.2.2.1
    rcases Nat.lt_or_ge i (s_segs s).length with hlt | hge
    · have hx := List.getElem?_eq_getElem hlt
      rw [List.drop_eq_getElem_cons hlt] at hr
      cases fo with
      | none => exact f_oN s be H fa tb i r _ hx hr hp (fun fo2 e => ih (i + 1) fo2 (by omega) (by omega) e) hX hq
      | some f => exact f_oS s be H fa tb i r f _ hx hr hp (fun fo2 e => ih (i + 1) fo2 (by omega) (by omega) e) hX hq
    · rw [List.drop_eq_nil_of_le hge] at hr
      cases fo with
      | none => exact f_oNe s be H fa tb i r hge (by omega) hr hp hX hq
      | some f => exact f_oSe s be H fa tb i r f hge (by omega) hr hp hX hq
set_option maxRecDepth 20000 in
set_option maxHeartbeats 4000000 in
theorem c_X0_onlyBetween (l : Launch) (G : zG) (h : zH) (top : Nat) (s : zS) (be : zB) (H : z_St G s be h top) (fa tb : Int32) : z_Ct l yX0_onlyBetween cX0_onlyBetween 6 (some (.object "GantryHall$Segment")) 4 G [.ref (z_b G + 1), .int fa, .int tb] h top (z_R (some (va_rf ((zm_only (s_segs s) fa tb none).map (fun x => x.1)))) h top) := by
  refine z_of (own := RX0) (nm := "onlyBetween") (by decide) rfl rfl (by decide) (Nat.le_of_ble_eq_true rfl) (fun X hX hq => ?_)
  replace hX : z_ok X cX0_onlyBetween 6 RX0 (some (.object "GantryHall$Segment")) "onlyBetween" 4 G := hX
  show z_Z X h top 0 [(0, .ref (z_b G + 1)), (1, .int fa), (2, .int tb)] []
  refine r_null hX dX0_onlyBetween_0 ?_
  refine r_astore_nN (lv' := [(3, .null), (0, .ref (z_b G + 1)), (1, .int fa), (2, .int tb)]) hX rfl (by decide) rfl dX0_onlyBetween_1 ?_
  refine r_iconst (v := 0) hX (by decide) dX0_onlyBetween_2 ?_
  refine r_istore (lv' := [(4, .int 0), (3, .null), (0, .ref (z_b G + 1)), (1, .int fa), (2, .int tb)]) hX (by decide) rfl dX0_onlyBetween_3 ?_
  rw [← nI_0]
  refine r_lv [0, 1, 2, 3, 4] (lv2 := [(4, .int (nI 0)), (3, .null), (0, .ref (z_b G + 1)), (1, .int fa), (2, .int tb)]) rfl ?_
  exact f_only s be H fa tb (zm_only (s_segs s) fa tb none) (fun r2 e => ⟨by rw [e], rfl, rfl⟩) hX hq ((s_segs s).length + 1) 0 none (by omega) (by omega) rfl

theorem c_only_none (l : Launch) (G : zG) (h : zH) (top : Nat) (s : zS) (be : zB) (H : z_St G s be h top) (fa tb : Int32) (hl : zm_only (s_segs s) fa tb none = none) : z_Ct l yX0_onlyBetween cX0_onlyBetween 6 (some (.object "GantryHall$Segment")) 4 G [.ref (z_b G + 1), .int fa, .int tb] h top (z_R (some .null) h top) := by
  have q := c_X0_onlyBetween l G h top s be H fa tb
  rw [hl] at q
  exact q
theorem c_only_some (l : Launch) (G : zG) (h : zH) (top : Nat) (s : zS) (be : zB) (H : z_St G s be h top) (fa tb : Int32) {x : zSeg} (hl : zm_only (s_segs s) fa tb none = some x) : z_Ct l yX0_onlyBetween cX0_onlyBetween 6 (some (.object "GantryHall$Segment")) 4 G [.ref (z_b G + 1), .int fa, .int tb] h top (z_R (some (.ref x.1)) h top) := by
  have q := c_X0_onlyBetween l G h top s be H fa tb
  rw [hl] at q
  exact q
/-- behind addInferred -/
def z_PInf (G : zG) (s : zS) (be : zB) (pu : Nat) (o : Option zQ) : Option Value → zH → Nat → Prop := fun r h' top' => r = none ∧ ∃ be2, z_St G s be2 h' top' ∧ match o with
  | none => be2 = be
  | some q => b_pu be2 = nI (pu + 1) ∧ (∃ a, (b_pool be2)[pu]? = some (a, q.1, q.2.1, 0, 0, 0, 0) ∧ b_rw be2 = b_rw be ++ [a]) ∧ (∀ i, i < pu → (b_pool be2)[i]? = (b_pool be)[i]?) ∧ b_rch be2 = b_rch be ∧ b_ct be2 = b_ct be ∧ b_pk be2 = b_pk be ∧ b_jn be2 = b_jn be
set_option maxRecDepth 20000 in
set_option maxHeartbeats 4000000 in
theorem c_inf_0 (l : Launch) (G : zG) (h : zH) (top : Nat) (s : zS) (be : zB) (pu : Nat) (H : z_St G s be h top) (hpu : b_pu be = nI pu) (hle : pu ≤ (b_pool be).length) (h120 : pu < 120) (hrl : (b_rw be).length ≤ 119) (hro : ∀ (i u : Nat), (b_rw be)[i]? = some u → ∃ (k : Nat) (p : zPas), k < pu ∧ (b_pool be)[k]? = some p ∧ p.1 = u) (ka kb : Nat) (pa pb : zPas) (hpa : (b_pool be)[ka]? = some pa) (hpb : (b_pool be)[kb]? = some pb) (hc : (zm_sg (s_segs s) pa.2.1).2.2.1 = (zm_sg (s_segs s) pb.2.1).2.1 ∨ 180 < pb.2.2.1 - pa.2.2.1) : z_Ct l yX0_addInferred cX0_addInferred 7 none 9 G [.ref (z_b G + 11), .ref (z_b G + 1), .ref pa.1, .ref pb.1] h top (z_PInf G s be pu none) := by
  refine z_of (own := RX0) (nm := "addInferred") (by decide) rfl rfl (by decide) (Nat.le_of_ble_eq_true rfl) (fun X hX hq => ?_)
  replace hX : z_ok X cX0_addInferred 7 RX0 none "addInferred" 9 G := hX
  show z_Z X h top 0 [(0, .ref (z_b G + 11)), (1, .ref (z_b G + 1)), (2, .ref pa.1), (3, .ref pb.1)] []
  have hbk := H.bk
  have hl6 := H.l6
  have hl61 := hl6.1
  have hps := H.pas hpa
  have hqs := H.pas hpb
  obtain ⟨hxa, hxa2⟩ := zm_sg_at (H.2.2.2.1.2 pa (List.mem_of_getElem? hpa))
  obtain ⟨hxb, hxb2⟩ := zm_sg_at (H.2.2.2.1.2 pb (List.mem_of_getElem? hpb))
  have hsa := H.seg hxa
  have hsb := H.seg hxb
  rw [hxa2] at hsa
  rw [hxb2] at hsb
  refine r_aload_n hX rfl 2 rfl dX0_addInferred_0 ?_
  refine r_getf hX fl_X0_102 hps rfl dX0_addInferred_1 ?_
  refine r_getf hX fl_X0_117 hsa rfl dX0_addInferred_4 ?_
  refine r_istore (lv' := [(4, .int (zm_sg (s_segs s) pa.2.1).2.2.1), (0, .ref (z_b G + 11)), (1, .ref (z_b G + 1)), (2, .ref pa.1), (3, .ref pb.1)]) hX (by decide) rfl dX0_addInferred_7 ?_
  refine r_aload_n hX rfl 4 rfl dX0_addInferred_9 ?_
  refine r_getf hX fl_X0_102 hqs rfl dX0_addInferred_10 ?_
  refine r_getf hX fl_X0_122 hsb rfl dX0_addInferred_13 ?_
  refine r_istore (lv' := [(5, .int (zm_sg (s_segs s) pb.2.1).2.1), (4, .int (zm_sg (s_segs s) pa.2.1).2.2.1), (0, .ref (z_b G + 11)), (1, .ref (z_b G + 1)), (2, .ref pa.1), (3, .ref pb.1)]) hX (by decide) rfl dX0_addInferred_16 ?_
  refine r_iload hX 1 rfl dX0_addInferred_18 ?_
  refine r_iload hX 0 rfl dX0_addInferred_20 ?_
  refine r_icmp_eq (tgt := 40) hX dX0_addInferred_22 rfl (fun c22 => ?_) (fun c22 => ?_)
  · skip
    exact r_vret hX hq ⟨rfl, be, H, rfl⟩ dX0_addInferred_40
  · skip
    refine r_aload_n hX rfl 5 rfl dX0_addInferred_25 ?_
    refine r_getf hX fl_X0_88 hqs rfl dX0_addInferred_26 ?_
    refine r_aload_n hX rfl 4 rfl dX0_addInferred_29 ?_
    refine r_getf hX fl_X0_88 hps rfl dX0_addInferred_30 ?_
    refine r_isub hX dX0_addInferred_33 ?_
    refine r_sipush (v := 180) hX (by decide) dX0_addInferred_34 ?_
    refine r_icmp_le (tgt := 41) hX dX0_addInferred_37 rfl (fun c => False.elim (hc.elim (fun z => absurd z c22) (fun z => absurd c (Int32.not_le.mpr z)))) (fun _ => ?_)
    exact r_vret hX hq ⟨rfl, be, H, rfl⟩ dX0_addInferred_40

set_option maxRecDepth 20000 in
set_option maxHeartbeats 4000000 in
theorem c_inf_1 (l : Launch) (G : zG) (h : zH) (top : Nat) (s : zS) (be : zB) (pu : Nat) (H : z_St G s be h top) (hpu : b_pu be = nI pu) (hle : pu ≤ (b_pool be).length) (h120 : pu < 120) (hrl : (b_rw be).length ≤ 119) (hro : ∀ (i u : Nat), (b_rw be)[i]? = some u → ∃ (k : Nat) (p : zPas), k < pu ∧ (b_pool be)[k]? = some p ∧ p.1 = u) (ka kb : Nat) (pa pb : zPas) (hpa : (b_pool be)[ka]? = some pa) (hpb : (b_pool be)[kb]? = some pb) (hc : ¬ ((zm_sg (s_segs s) pa.2.1).2.2.1 = (zm_sg (s_segs s) pb.2.1).2.1 ∨ 180 < pb.2.2.1 - pa.2.2.1)) (hon : zm_only (s_segs s) (zm_sg (s_segs s) pa.2.1).2.2.1 (zm_sg (s_segs s) pb.2.1).2.1 none = none) : z_Ct l yX0_addInferred cX0_addInferred 7 none 9 G [.ref (z_b G + 11), .ref (z_b G + 1), .ref pa.1, .ref pb.1] h top (z_PInf G s be pu none) := by
  refine z_of (own := RX0) (nm := "addInferred") (by decide) rfl rfl (by decide) (Nat.le_of_ble_eq_true rfl) (fun X hX hq => ?_)
  replace hX : z_ok X cX0_addInferred 7 RX0 none "addInferred" 9 G := hX
  show z_Z X h top 0 [(0, .ref (z_b G + 11)), (1, .ref (z_b G + 1)), (2, .ref pa.1), (3, .ref pb.1)] []
  have hbk := H.bk
  have hl6 := H.l6
  have hl61 := hl6.1
  have hps := H.pas hpa
  have hqs := H.pas hpb
  obtain ⟨hxa, hxa2⟩ := zm_sg_at (H.2.2.2.1.2 pa (List.mem_of_getElem? hpa))
  obtain ⟨hxb, hxb2⟩ := zm_sg_at (H.2.2.2.1.2 pb (List.mem_of_getElem? hpb))
  have hsa := H.seg hxa
  have hsb := H.seg hxb
  rw [hxa2] at hsa
  rw [hxb2] at hsb
  refine r_aload_n hX rfl 2 rfl dX0_addInferred_0 ?_
  refine r_getf hX fl_X0_102 hps rfl dX0_addInferred_1 ?_
  refine r_getf hX fl_X0_117 hsa rfl dX0_addInferred_4 ?_
  refine r_istore (lv' := [(4, .int (zm_sg (s_segs s) pa.2.1).2.2.1), (0, .ref (z_b G + 11)), (1, .ref (z_b G + 1)), (2, .ref pa.1), (3, .ref pb.1)]) hX (by decide) rfl dX0_addInferred_7 ?_
  refine r_aload_n hX rfl 4 rfl dX0_addInferred_9 ?_
  refine r_getf hX fl_X0_102 hqs rfl dX0_addInferred_10 ?_
  refine r_getf hX fl_X0_122 hsb rfl dX0_addInferred_13 ?_
  refine r_istore (lv' := [(5, .int (zm_sg (s_segs s) pb.2.1).2.1), (4, .int (zm_sg (s_segs s) pa.2.1).2.2.1), (0, .ref (z_b G + 11)), (1, .ref (z_b G + 1)), (2, .ref pa.1), (3, .ref pb.1)]) hX (by decide) rfl dX0_addInferred_16 ?_
  refine r_iload hX 1 rfl dX0_addInferred_18 ?_
  refine r_iload hX 0 rfl dX0_addInferred_20 ?_
  refine r_icmp_eq (tgt := 40) hX dX0_addInferred_22 rfl (fun c => False.elim (hc (Or.inl c))) (fun _ => ?_)
  refine r_aload_n hX rfl 5 rfl dX0_addInferred_25 ?_
  refine r_getf hX fl_X0_88 hqs rfl dX0_addInferred_26 ?_
  refine r_aload_n hX rfl 4 rfl dX0_addInferred_29 ?_
  refine r_getf hX fl_X0_88 hps rfl dX0_addInferred_30 ?_
  refine r_isub hX dX0_addInferred_33 ?_
  refine r_sipush (v := 180) hX (by decide) dX0_addInferred_34 ?_
  refine r_icmp_le (tgt := 41) hX dX0_addInferred_37 rfl (fun _ => ?_) (fun c => False.elim (hc (Or.inr (Int32.not_le.mp c))))
  refine r_aload_n hX rfl 3 rfl dX0_addInferred_41 ?_
  refine r_iload hX 1 rfl dX0_addInferred_42 ?_
  refine r_iload hX 0 rfl dX0_addInferred_44 ?_
  refine r_callSR (As := [.ref (z_b G + 1), .int (zm_sg (s_segs s) pa.2.1).2.2.1, .int (zm_sg (s_segs s) pb.2.1).2.1]) (rest := []) (rv := some (.null)) (st1 := [.null]) hX cs_X0_125 (by decide) (fun l => c_only_none l G h top s be H (zm_sg (s_segs s) pa.2.1).2.2.1 (zm_sg (s_segs s) pb.2.1).2.1 hon) rfl rfl rfl (Nat.le_of_ble_eq_true rfl) dX0_addInferred_46 ?_
  refine r_astoreN (lv' := [(6, .null), (5, .int (zm_sg (s_segs s) pb.2.1).2.1), (4, .int (zm_sg (s_segs s) pa.2.1).2.2.1), (0, .ref (z_b G + 11)), (1, .ref (z_b G + 1)), (2, .ref pa.1), (3, .ref pb.1)]) hX (by decide) rfl dX0_addInferred_49 ?_
  refine r_aloadN hX 0 rfl dX0_addInferred_51 ?_
  refine r_ifnullN (tgt := 81) hX rfl dX0_addInferred_53 ?_
  exact r_vret hX hq ⟨rfl, be, H, rfl⟩ dX0_addInferred_81

set_option maxRecDepth 20000 in
set_option maxHeartbeats 4000000 in
theorem c_inf_2 (l : Launch) (G : zG) (h : zH) (top : Nat) (s : zS) (be : zB) (pu : Nat) (H : z_St G s be h top) (hpu : b_pu be = nI pu) (hle : pu ≤ (b_pool be).length) (h120 : pu < 120) (hrl : (b_rw be).length ≤ 119) (hro : ∀ (i u : Nat), (b_rw be)[i]? = some u → ∃ (k : Nat) (p : zPas), k < pu ∧ (b_pool be)[k]? = some p ∧ p.1 = u) (ka kb : Nat) (pa pb : zPas) (hpa : (b_pool be)[ka]? = some pa) (hpb : (b_pool be)[kb]? = some pb) (hc : ¬ ((zm_sg (s_segs s) pa.2.1).2.2.1 = (zm_sg (s_segs s) pb.2.1).2.1 ∨ 180 < pb.2.2.1 - pa.2.2.1)) (x : zSeg) (hon : zm_only (s_segs s) (zm_sg (s_segs s) pa.2.1).2.2.1 (zm_sg (s_segs s) pb.2.1).2.1 none = some x) (hxs : z_isSeg s x.1) : z_Ct l yX0_addInferred cX0_addInferred 7 none 9 G [.ref (z_b G + 11), .ref (z_b G + 1), .ref pa.1, .ref pb.1] h top (z_PInf G s be pu (some (x.1, (pa.2.2.1 + pb.2.2.1) / 2, 0, 0))) := by
  refine z_of (own := RX0) (nm := "addInferred") (by decide) rfl rfl (by decide) (Nat.le_of_ble_eq_true rfl) (fun X hX hq => ?_)
  replace hX : z_ok X cX0_addInferred 7 RX0 none "addInferred" 9 G := hX
  show z_Z X h top 0 [(0, .ref (z_b G + 11)), (1, .ref (z_b G + 1)), (2, .ref pa.1), (3, .ref pb.1)] []
  have hbk := H.bk
  have hl6 := H.l6
  have hl61 := hl6.1
  have hps := H.pas hpa
  have hqs := H.pas hpb
  obtain ⟨hxa, hxa2⟩ := zm_sg_at (H.2.2.2.1.2 pa (List.mem_of_getElem? hpa))
  obtain ⟨hxb, hxb2⟩ := zm_sg_at (H.2.2.2.1.2 pb (List.mem_of_getElem? hpb))
  have hsa := H.seg hxa
  have hsb := H.seg hxb
  rw [hxa2] at hsa
  rw [hxb2] at hsb
  refine r_aload_n hX rfl 2 rfl dX0_addInferred_0 ?_
  refine r_getf hX fl_X0_102 hps rfl dX0_addInferred_1 ?_
  refine r_getf hX fl_X0_117 hsa rfl dX0_addInferred_4 ?_
  refine r_istore (lv' := [(4, .int (zm_sg (s_segs s) pa.2.1).2.2.1), (0, .ref (z_b G + 11)), (1, .ref (z_b G + 1)), (2, .ref pa.1), (3, .ref pb.1)]) hX (by decide) rfl dX0_addInferred_7 ?_
  refine r_aload_n hX rfl 4 rfl dX0_addInferred_9 ?_
  refine r_getf hX fl_X0_102 hqs rfl dX0_addInferred_10 ?_
  refine r_getf hX fl_X0_122 hsb rfl dX0_addInferred_13 ?_
  refine r_istore (lv' := [(5, .int (zm_sg (s_segs s) pb.2.1).2.1), (4, .int (zm_sg (s_segs s) pa.2.1).2.2.1), (0, .ref (z_b G + 11)), (1, .ref (z_b G + 1)), (2, .ref pa.1), (3, .ref pb.1)]) hX (by decide) rfl dX0_addInferred_16 ?_
  refine r_iload hX 1 rfl dX0_addInferred_18 ?_
  refine r_iload hX 0 rfl dX0_addInferred_20 ?_
  refine r_icmp_eq (tgt := 40) hX dX0_addInferred_22 rfl (fun c => False.elim (hc (Or.inl c))) (fun _ => ?_)
  refine r_aload_n hX rfl 5 rfl dX0_addInferred_25 ?_
  refine r_getf hX fl_X0_88 hqs rfl dX0_addInferred_26 ?_
  refine r_aload_n hX rfl 4 rfl dX0_addInferred_29 ?_
  refine r_getf hX fl_X0_88 hps rfl dX0_addInferred_30 ?_
  refine r_isub hX dX0_addInferred_33 ?_
  refine r_sipush (v := 180) hX (by decide) dX0_addInferred_34 ?_
  refine r_icmp_le (tgt := 41) hX dX0_addInferred_37 rfl (fun _ => ?_) (fun c => False.elim (hc (Or.inr (Int32.not_le.mp c))))
  refine r_aload_n hX rfl 3 rfl dX0_addInferred_41 ?_
  refine r_iload hX 1 rfl dX0_addInferred_42 ?_
  refine r_iload hX 0 rfl dX0_addInferred_44 ?_
  refine r_callSR (As := [.ref (z_b G + 1), .int (zm_sg (s_segs s) pa.2.1).2.2.1, .int (zm_sg (s_segs s) pb.2.1).2.1]) (rest := []) (rv := some (.ref x.1)) (st1 := [.ref x.1]) hX cs_X0_125 (by decide) (fun l => c_only_some l G h top s be H (zm_sg (s_segs s) pa.2.1).2.2.1 (zm_sg (s_segs s) pb.2.1).2.1 hon) rfl rfl rfl (Nat.le_of_ble_eq_true rfl) dX0_addInferred_46 ?_
  refine r_astore (lv' := [(6, .ref x.1), (5, .int (zm_sg (s_segs s) pb.2.1).2.1), (4, .int (zm_sg (s_segs s) pa.2.1).2.2.1), (0, .ref (z_b G + 11)), (1, .ref (z_b G + 1)), (2, .ref pa.1), (3, .ref pb.1)]) hX (by decide) rfl dX0_addInferred_49 ?_
  refine r_aload hX 0 rfl dX0_addInferred_51 ?_
  refine r_ifnull hX dX0_addInferred_53 ?_
  refine r_aload_n hX rfl 3 rfl dX0_addInferred_56 ?_
  refine r_getf hX fl_X0_21 hbk rfl dX0_addInferred_57 ?_
  refine r_aload_n hX rfl 3 rfl dX0_addInferred_60 ?_
  refine r_aload hX 0 rfl dX0_addInferred_61 ?_
  refine r_aload_n hX rfl 5 rfl dX0_addInferred_63 ?_
  refine r_getf hX fl_X0_88 hps rfl dX0_addInferred_64 ?_
  refine r_aload_n hX rfl 6 rfl dX0_addInferred_67 ?_
  refine r_getf hX fl_X0_88 hqs rfl dX0_addInferred_68 ?_
  refine r_iadd hX dX0_addInferred_71 ?_
  refine r_iconst (v := 2) hX (by decide) dX0_addInferred_72 ?_
  refine r_idiv hX (by decide) dX0_addInferred_73 ?_
  refine r_callV (As := [.ref x.1, .int ((pa.2.2.1 + pb.2.2.1) / 2)]) (rest := [.ref (z_b G + 14)]) hX cs_X0_91 (by decide) (fun l => c_begin l G h top s be pu x.1 ((pa.2.2.1 + pb.2.2.1) / 2) H hpu hxs hle h120) hbk rfl rfl rfl (Nat.le_of_ble_eq_true rfl) dX0_addInferred_74 (fun r1 h1 top1 hp1 => ?_)
  obtain ⟨be2, a, H2, rfl, q1, q2, q3, q4, q5, q6, q7, q8⟩ := hp1
  have hbk2 := H2.bk
  have hl62 := H2.l6
  have hl63 := hl62.1
  refine r_callV (As := [.ref a]) (rest := []) hX cs_X0_95 (by decide) (fun l => c_add1 l G h1 top1 (z_b G + 14) a (b_ls be2 6).2.1 (b_rw be2).length (b_ls be2 6).2.2 (b_ls be2 6).1 (fun q : Nat => (b_rw be2)[q]?) (Nat.le_trans H2.hall.1 (Nat.le_of_lt H2.hall.2.1)) hl62 (fun i hi u hu => by rw [q8] at hu; obtain ⟨k9, p9, w1, w2, w3⟩ := hro i u hu; rw [← w3]; exact H2.ob_pas (by rw [q3 k9 w1]; exact w2)) (by rw [q8]; omega) (H2.ob_pas q2) (fun _ => by have := H2.2.2.1.room; omega)) hl63 rfl rfl rfl (Nat.le_of_ble_eq_true rfl) dX0_addInferred_77 (fun r2 h2 top2 hp2 => ?_)
  obtain ⟨rfl, l6, H3⟩ := H2.addB 6 (Or.inr (Or.inr rfl)) hp2 (Nat.le_refl _) (show (b_rw be2).length ≤ 120 by rw [q8]; omega)
  refine r_pop hX rfl dX0_addInferred_80 ?_
  exact r_vret hX hq ⟨rfl, _, H3, by exact q1, ⟨a, q2, by show (b_rw be2).insertIdx (b_rw be2).length a = _; rw [List.insertIdx_length_self, q8]⟩, q3, q4, q5, q6, q7⟩ dX0_addInferred_81

theorem c_inf (l : Launch) (G : zG) (h : zH) (top : Nat) (s : zS) (be : zB) (pu : Nat) (H : z_St G s be h top) (hpu : b_pu be = nI pu) (hle : pu ≤ (b_pool be).length) (h120 : pu < 120) (hrl : (b_rw be).length ≤ 119) (hro : ∀ (i u : Nat), (b_rw be)[i]? = some u → ∃ (k : Nat) (p : zPas), k < pu ∧ (b_pool be)[k]? = some p ∧ p.1 = u) (ka kb : Nat) (pa pb : zPas) (hpa : (b_pool be)[ka]? = some pa) (hpb : (b_pool be)[kb]? = some pb) : z_Ct l yX0_addInferred cX0_addInferred 7 none 9 G [.ref (z_b G + 11), .ref (z_b G + 1), .ref pa.1, .ref pb.1] h top (z_PInf G s be pu (zm_inf (s_segs s) (zm_q pa) (zm_q pb))) := by
  unfold zm_inf
  by_cases hc : (zm_sg (s_segs s) pa.2.1).2.2.1 = (zm_sg (s_segs s) pb.2.1).2.1 ∨ 180 < pb.2.2.1 - pa.2.2.1
  · rw [if_pos (show (zm_sg (s_segs s) (zm_q pa).1).2.2.1 = (zm_sg (s_segs s) (zm_q pb).1).2.1 ∨ 180 < (zm_q pb).2.1 - (zm_q pa).2.1 from hc)]
    exact c_inf_0 l G h top s be pu H hpu hle h120 hrl hro ka kb pa pb hpa hpb hc
  · rw [if_neg (show ¬ ((zm_sg (s_segs s) (zm_q pa).1).2.2.1 = (zm_sg (s_segs s) (zm_q pb).1).2.1 ∨ 180 < (zm_q pb).2.1 - (zm_q pa).2.1) from hc)]
    cases hon : zm_only (s_segs s) (zm_sg (s_segs s) pa.2.1).2.2.1 (zm_sg (s_segs s) pb.2.1).2.1 none with
    | none =>
      rw [show zm_only (s_segs s) (zm_sg (s_segs s) (zm_q pa).1).2.2.1 (zm_sg (s_segs s) (zm_q pb).1).2.1 none = none from hon]
      exact c_inf_1 l G h top s be pu H hpu hle h120 hrl hro ka kb pa pb hpa hpb hc hon
    | some x =>
      rw [show zm_only (s_segs s) (zm_sg (s_segs s) (zm_q pa).1).2.2.1 (zm_sg (s_segs s) (zm_q pb).1).2.1 none = some x from hon]
      refine c_inf_2 l G h top s be pu H hpu hle h120 hrl hro ka kb pa pb hpa hpb hc x hon ?_
      rcases zm_only_mem _ _ hon with w | w
      · obtain ⟨i, hi⟩ := List.getElem?_of_mem w
        exact ⟨i, x, hi, rfl⟩
      · cases w
