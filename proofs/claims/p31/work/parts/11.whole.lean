/-! the whole state: cells, lists, room, references that stand -/
def z_caps : List Nat := [0, 10, 15, 22, 33, 49, 73, 109, 163]
def z_gi (c : Nat) : Nat := z_caps.findIdx (fun x => x == c)
def z_gsum (be : zB) : Nat := z_gi (b_ls be 0).2.2 + z_gi (b_ls be 1).2.2 + z_gi (b_ls be 2).2.2 + z_gi (b_ls be 3).2.2 + z_gi (b_ls be 4).2.2 + z_gi (b_ls be 5).2.2 + z_gi (b_ls be 6).2.2 + z_gi (b_ls be 7).2.2
def z_acc (G : zG) (s : zS) (be : zB) (top : Nat) : Prop := (∀ j, j < 8 → (b_ls be j).2.2 ∈ z_caps) ∧ top ≤ z_b G + 17 + 3 * (s_segs s).length + (s_vehs s).length + (s_tars s).length + (s_sgts s).length + (b_pool be).length + z_gsum be ∧
  (s_segs s).length ≤ 8 ∧ (s_vehs s).length ≤ 3 ∧ (s_tars s).length ≤ 5 ∧ (s_sgts s).length ≤ 60 ∧ (b_pool be).length ≤ 120
/-- the segment at that address -/
def z_isSeg (s : zS) (a : Nat) : Prop := ∃ (i : Nat) (x : zSeg), (s_segs s)[i]? = some x ∧ x.1 = a
def z_isVeh (s : zS) (a : Nat) : Prop := ∃ (i : Nat) (v : zVeh), (s_vehs s)[i]? = some v ∧ v.1 = a
def z_val (s : zS) (be : zB) : Prop := (∀ y ∈ s_sgts s, z_isVeh s y.2.1.1 ∧ z_isSeg s y.2.1.2) ∧ ∀ p ∈ b_pool be, z_isSeg s p.2.1
def z_St (G : zG) (s : zS) (be : zB) (h : zH) (top : Nat) : Prop := z_Rp G (z_ct G s be) h top ∧ z_okL G s be ∧ z_acc G s be top ∧ z_val s be ∧ ¬ z_b G ≤ z_tE G
theorem z_gi_le (c : Nat) (h : c ∈ z_caps) : z_gi c ≤ 8 := by
  have : ∀ c ∈ z_caps, z_gi c ≤ 8 := by decide
  exact this c h
theorem z_gr_caps {c : Nat} (h : c ∈ z_caps) (h2 : c ≤ 120) : z_gr c ∈ z_caps ∧ z_gi (z_gr c) = z_gi c + 1 := by
  have : ∀ c ∈ z_caps, c ≤ 120 → z_gr c ∈ z_caps ∧ z_gi (z_gr c) = z_gi c + 1 := by decide
  exact this c h h2
theorem z_acc.room {G : zG} {s : zS} {be : zB} {top : Nat} (h : z_acc G s be top) : top + 20 ≤ z_b G + 320 := by
  obtain ⟨h1, h2, h3, h4, h5, h6, h7⟩ := h
  have a0 := z_gi_le _ (h1 0 (by decide))
  have a1 := z_gi_le _ (h1 1 (by decide))
  have a2 := z_gi_le _ (h1 2 (by decide))
  have a3 := z_gi_le _ (h1 3 (by decide))
  have a4 := z_gi_le _ (h1 4 (by decide))
  have a5 := z_gi_le _ (h1 5 (by decide))
  have a6 := z_gi_le _ (h1 6 (by decide))
  have a7 := z_gi_le _ (h1 7 (by decide))
  unfold z_gsum at h2
  omega
section FX
variable {G : zG} {s : zS} {be : zB} {h : zH} {top : Nat}
theorem z_St.hall (H : z_St G s be h top) : z_at G h top (z_b G) (z_hallC (z_b G) s) := H.1.1 0 0 _ _ rfl
theorem z_St.tfs (H : z_St G s be h top) : z_at G h top (z_b G + 4) (z_tfsC (z_b G)) := H.1.1 0 1 _ _ rfl
theorem z_St.lg (H : z_St G s be h top) : z_at G h top (z_b G + 7) (z_lgC (z_b G) s) := H.1.1 0 2 _ _ rfl
theorem z_St.bk (H : z_St G s be h top) : z_at G h top (z_b G + 11) (z_bkC (z_b G) be) := H.1.1 0 3 _ _ rfl
theorem z_St.coins (H : z_St G s be h top) : z_at G h top (z_b G + 8) (.inl (z_aI G, 4, .inl (s_coins s))) := H.1.1 0 4 _ _ rfl
theorem z_St.caps (H : z_St G s be h top) : z_at G h top (z_b G + 9) (.inl (z_aI G, 41, .inl (s_caps s))) := H.1.1 0 5 _ _ rfl
theorem z_St.paid (H : z_St G s be h top) : z_at G h top (z_b G + 10) (.inl (z_aI G, 1312, .inl (s_paid s))) := H.1.1 0 6 _ _ rfl
theorem z_St.rch (H : z_St G s be h top) : z_at G h top (z_b G + 16) (.inl (z_aI G, 8, .inl (b_rch be))) := H.1.1 0 7 _ _ rfl
theorem z_St.hol (H : z_St G s be h top) : z_at G h top (z_b G + 6) (.inl (z_aZ G, 51, .inl (fun _ => 0))) := H.1.1 0 8 _ _ rfl
theorem z_St.seg (H : z_St G s be h top) {i : Nat} {x : zSeg} (hx : (s_segs s)[i]? = some x) : z_at G h top x.1 (z_segC i x) := H.1.1 3 i _ _ (by rw [z_ct3, hx]; rfl)
theorem z_St.veh (H : z_St G s be h top) {i : Nat} {x : zVeh} (hx : (s_vehs s)[i]? = some x) : z_at G h top x.1 (z_vehC i x) := H.1.1 4 i _ _ (by rw [z_ct4, hx]; rfl)
theorem z_St.tar (H : z_St G s be h top) {i : Nat} {x : zTar} (hx : (s_tars s)[i]? = some x) : z_at G h top x.1 (z_tarC x) := H.1.1 5 i _ _ (by rw [z_ct5, hx]; rfl)
theorem z_St.sgt (H : z_St G s be h top) {i : Nat} {x : zSgt} (hx : (s_sgts s)[i]? = some x) : z_at G h top x.1 (z_sgtC x) := H.1.1 6 i _ _ (by rw [z_ct6, hx]; rfl)
theorem z_St.pas (H : z_St G s be h top) {i : Nat} {x : zPas} (hx : (b_pool be)[i]? = some x) : z_at G h top x.1 (z_pasC x) := H.1.1 7 i _ _ (by rw [z_ct7, hx]; rfl)
theorem z_St.ls (H : z_St G s be h top) (j : Nat) (hj : j < 8) : z_AL G h top (z_la (z_b G) j) (b_ls be j).1 (b_ls be j).2.1 (z_els s be j).length (b_ls be j).2.2 (fun i : Nat => (z_els s be j)[i]?) := H.1.list H.2.1 j hj
theorem z_St.l0 (H : z_St G s be h top) : z_AL G h top (z_b G + 1) (b_ls be 0).1 (b_ls be 0).2.1 (s_segs s).length (b_ls be 0).2.2 (fun i : Nat => ((s_segs s).map (fun x => x.1))[i]?) := by have q := H.ls 0 (by decide); rw [show (z_els s be 0).length = (s_segs s).length from List.length_map _] at q; exact q
theorem z_St.l1 (H : z_St G s be h top) : z_AL G h top (z_b G + 2) (b_ls be 1).1 (b_ls be 1).2.1 (s_vehs s).length (b_ls be 1).2.2 (fun i : Nat => ((s_vehs s).map (fun x => x.1))[i]?) := by have q := H.ls 1 (by decide); rw [show (z_els s be 1).length = (s_vehs s).length from List.length_map _] at q; exact q
theorem z_St.l2 (H : z_St G s be h top) : z_AL G h top (z_b G + 3) (b_ls be 2).1 (b_ls be 2).2.1 (s_sgts s).length (b_ls be 2).2.2 (fun i : Nat => ((s_sgts s).map (fun x => x.1))[i]?) := by have q := H.ls 2 (by decide); rw [show (z_els s be 2).length = (s_sgts s).length from List.length_map _] at q; exact q
theorem z_St.l3 (H : z_St G s be h top) : z_AL G h top (z_b G + 5) (b_ls be 3).1 (b_ls be 3).2.1 (s_tars s).length (b_ls be 3).2.2 (fun i : Nat => ((s_tars s).map (fun x => x.1))[i]?) := by have q := H.ls 3 (by decide); rw [show (z_els s be 3).length = (s_tars s).length from List.length_map _] at q; exact q
theorem z_St.l4 (H : z_St G s be h top) : z_AL G h top (z_b G + 12) (b_ls be 4).1 (b_ls be 4).2.1 (b_pk be).length (b_ls be 4).2.2 (fun i : Nat => (b_pk be)[i]?) := H.ls 4 (by decide)
theorem z_St.l5 (H : z_St G s be h top) : z_AL G h top (z_b G + 13) (b_ls be 5).1 (b_ls be 5).2.1 (b_jn be).length (b_ls be 5).2.2 (fun i : Nat => (b_jn be)[i]?) := H.ls 5 (by decide)
theorem z_St.l6 (H : z_St G s be h top) : z_AL G h top (z_b G + 14) (b_ls be 6).1 (b_ls be 6).2.1 (b_rw be).length (b_ls be 6).2.2 (fun i : Nat => (b_rw be)[i]?) := H.ls 6 (by decide)
theorem z_St.l7 (H : z_St G s be h top) : z_AL G h top (z_b G + 15) (b_ls be 7).1 (b_ls be 7).2.1 (b_pool be).length (b_ls be 7).2.2 (fun i : Nat => ((b_pool be).map (fun x => x.1))[i]?) := by have q := H.ls 7 (by decide); rw [show (z_els s be 7).length = (b_pool be).length from List.length_map _] at q; exact q
theorem z_mapget {α : Type} {l : List (Nat × α)} {i : Nat} {x : Nat × α} (hx : l[i]? = some x) : (l.map (fun x => x.1))[i]? = some x.1 := by rw [List.getElem?_map, hx]; rfl
theorem z_ob_of {ci : Nat} {a : Nat} {fs : List Value} {r : vw_C} (h1 : z_at G h top a (.inr (ci, fs))) (h2 : vwCl[ci]? = some r) (h3 : Cond.castable r.1 "java/lang/Object" ∈ zNW) : z_ob G h top a := ⟨ci, fs, r, h1, h2, h3⟩
theorem z_St.ob_pas (H : z_St G s be h top) {i : Nat} {x : zPas} (hx : (b_pool be)[i]? = some x) : z_ob G h top x.1 := z_ob_of (H.pas hx) rfl kw_ob3
theorem z_St.ob_sgt (H : z_St G s be h top) {i : Nat} {x : zSgt} (hx : (s_sgts s)[i]? = some x) : z_ob G h top x.1 := z_ob_of (H.sgt hx) rfl kw_ob5
theorem z_St.ob_seg (H : z_St G s be h top) {i : Nat} {x : zSeg} (hx : (s_segs s)[i]? = some x) : z_ob G h top x.1 := z_ob_of (H.seg hx) rfl kw_ob4
theorem z_St.ob_veh (H : z_St G s be h top) {i : Nat} {x : zVeh} (hx : (s_vehs s)[i]? = some x) : z_ob G h top x.1 := z_ob_of (H.veh hx) rfl kw_ob8
theorem z_St.ob_tar (H : z_St G s be h top) {i : Nat} {x : zTar} (hx : (s_tars s)[i]? = some x) : z_ob G h top x.1 := z_ob_of (H.tar hx) rfl kw_ob6
end FX
