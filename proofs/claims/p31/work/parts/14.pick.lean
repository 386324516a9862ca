/-! picking -/
def zm_num (segs : List zSeg) (a : Nat) : Nat := segs.findIdx (fun x => x.1 == a)
theorem zm_num_at {s : zS} {a : Nat} (h : z_isSeg s a) : ∃ x : zSeg, (s_segs s)[zm_num (s_segs s) a]? = some x ∧ x.1 = a := by
  obtain ⟨i, x, h1, h2⟩ := h
  have hm : x ∈ s_segs s := List.mem_of_getElem? h1
  have hl : zm_num (s_segs s) a < (s_segs s).length := List.findIdx_lt_length_of_exists ⟨x, hm, by simp [h2]⟩
  have hp : ((((s_segs s)[zm_num (s_segs s) a]'hl).1 == a) : Bool) = true := List.findIdx_getElem (w := hl)
  exact ⟨_, List.getElem?_eq_getElem hl, beq_iff_eq.mp hp⟩
def zm_ah (segs : List zSeg) (y z : zSgt) : Bool := zm_ahead y.2.2.1 (zm_num segs y.2.1.2) z.2.2.1 (zm_num segs z.2.1.2)
def zm_place (segs : List zSeg) (y : zSgt) (l : List zSgt) : Nat := l.findIdx (fun z => zm_ah segs y z)
def zm_pickStep (segs : List zSeg) (va : Nat) (day : Int32) (acc : List zSgt) (y : zSgt) : List zSgt := if zm_isOf y va day then acc.insertIdx (zm_place segs y acc) y else acc
def zm_pick (segs : List zSeg) (sgts : List zSgt) (va : Nat) (day : Int32) : List zSgt := sgts.foldl (zm_pickStep segs va day) []
theorem zf_b1 {c : Bool} (h : c = true) : zf_b c = 1 := by rw [h]; rfl
theorem zf_b_ne {c : Bool} (h : ¬ zf_b c = 0) : c = true := by cases c; exact absurd rfl h; rfl
theorem zf_b_e {c : Bool} (h : zf_b c = 0) : c = false := by cases c; rfl; exact absurd h (by decide)
theorem zm_place_at {segs : List zSeg} {y : zSgt} {l : List zSgt} {i : Nat} {z : zSgt} (hz : l[i]? = some z) (ha : zm_ah segs y z = true) (hn : ∀ (j : Nat) (z : zSgt), j < i → l[j]? = some z → zm_ah segs y z = false) : zm_place segs y l = i := by
  obtain ⟨hl, he⟩ := List.getElem?_eq_some_iff.mp hz
  unfold zm_place
  rw [List.findIdx_eq hl]
  exact ⟨by rw [he]; exact ha, fun j hj => hn j _ hj (List.getElem?_eq_getElem (by omega))⟩
theorem zm_place_end {segs : List zSeg} {y : zSgt} {l : List zSgt} (hn : ∀ (j : Nat) (z : zSgt), j < l.length → l[j]? = some z → zm_ah segs y z = false) : zm_place segs y l = l.length := by
  unfold zm_place
  rw [List.findIdx_eq_length]
  intro z hz
  obtain ⟨j, hj⟩ := List.getElem?_of_mem hz
  exact hn j z (List.getElem?_eq_some_iff.mp hj).1 hj
theorem zm_place_le (segs : List zSeg) (y : zSgt) (l : List zSgt) : zm_place segs y l ≤ l.length := List.findIdx_le_length
set_option maxRecDepth 20000 in
set_option maxHeartbeats 4000000 in
theorem f_place_step {X : zX} {G : zG} {h : zH} {top : Nat} {Post : Option Value → zH → Nat → Prop} (s : zS) (be : zB) (H : z_St G s be h top) (y : zSgt) (hy : y ∈ s_sgts s) (pk : List zSgt) (hpk : b_pk be = pk.map (fun x => x.1)) (hm : ∀ z ∈ pk, z ∈ s_sgts s) (hp : ∀ {v : Int32}, nI (zm_place (s_segs s) y pk) = v → Post (some (.int v)) h top) (k i : Nat)  (hk : pk.length - i < k + 1) (hi : i ≤ pk.length) (hinv : ∀ (j : Nat) (z : zSgt), j < i → pk[j]? = some z → zm_ah (s_segs s) y z = false) (ih : ∀ (i : Nat) , pk.length - i < k → i ≤ pk.length → (∀ (j : Nat) (z : zSgt), j < i → pk[j]? = some z → zm_ah (s_segs s) y z = false) → z_Z X h top 2 [(2, .int (nI i)), (0, .ref (z_b G + 11)), (1, .ref y.1)] []) (hX : z_ok X cX0_placeOf 3 RX0 (some .int) "placeOf" 4 G) (hq : z_mq X (Post)) : z_Z X h top 2 [(2, .int (nI i)), (0, .ref (z_b G + 11)), (1, .ref y.1)] [] := by
  have hbk := H.bk
  have hl4 := H.l4
  have elen : (b_pk be).length = pk.length := by rw [hpk, List.length_map]
  rw [elen, hpk] at hl4
  have hl41 := hl4.1
  obtain ⟨iy, hiy⟩ := List.getElem?_of_mem hy
  have hys := H.sgt hiy
  refine r_iload_n hX rfl 0 rfl dX0_placeOf_2 ?_
  refine r_aload_n hX rfl 1 rfl dX0_placeOf_3 ?_
  refine r_getf hX fl_X0_12 hbk rfl dX0_placeOf_4 ?_
  refine r_callVR (As := []) (rest := [.int (nI i)]) (rv := some (.int (nI pk.length))) (st1 := [.int (nI pk.length), .int (nI i)]) hX cs_X0_27 (by decide) (fun l => z_size hl4 l) hl41 rfl rfl rfl rfl (Nat.le_of_ble_eq_true rfl) dX0_placeOf_7 ?_
  refine r_icmp_ge (tgt := 39) hX dX0_placeOf_10 rfl (fun c10 => ?_) (fun c10 => ?_)
  · skip
    refine r_aload_n hX rfl 1 rfl dX0_placeOf_39 ?_
    refine r_getf hX fl_X0_12 hbk rfl dX0_placeOf_40 ?_
    refine r_callVR (As := []) (rest := []) (rv := some (.int (nI pk.length))) (st1 := [.int (nI pk.length)]) hX cs_X0_27 (by decide) (fun l => z_size hl4 l) hl41 rfl rfl rfl rfl (Nat.le_of_ble_eq_true rfl) dX0_placeOf_43 ?_
    exact r_iret hX hq (hp (by rw [zm_place_end (fun j u hj hu => hinv j u (Nat.lt_of_lt_of_le hj ((nI_leI (by have := hl4.2.1; have := hl4.2.2.1; omega) (by have := hl4.2.1; have := hl4.2.2.1; omega)).mp c10)) hu)])) dX0_placeOf_46
  · skip
    have hlt : i < pk.length := by
      rcases Nat.lt_or_ge i pk.length with q | q
      · exact q
      · exact absurd (nI_le q (by have := hl4.2.1; have := hl4.2.2.1; omega)) c10
    obtain ⟨z, hz⟩ : ∃ z, pk[i]? = some z := ⟨_, List.getElem?_eq_getElem hlt⟩
    have hzm := hm z (List.mem_of_getElem? hz)
    obtain ⟨iz, hiz⟩ := List.getElem?_of_mem hzm
    have hzs := H.sgt hiz
    obtain ⟨x1, hx1, hx1b⟩ := zm_num_at (H.2.2.2.1.1 y hy).2
    obtain ⟨x2, hx2, hx2b⟩ := zm_num_at (H.2.2.2.1.1 z hzm).2
    refine r_aload_n hX rfl 2 rfl dX0_placeOf_13 ?_
    refine r_aload_n hX rfl 1 rfl dX0_placeOf_14 ?_
    refine r_getf hX fl_X0_12 hbk rfl dX0_placeOf_15 ?_
    refine r_iload_n hX rfl 0 rfl dX0_placeOf_18 ?_
    refine r_callVR (As := [.int (nI i)]) (rest := [.ref y.1]) (rv := some (.ref z.1)) (st1 := [.ref z.1, .ref y.1]) hX cs_X0_55 (by decide) (fun l => z_get hl4 hlt (z_mapget hz) l) hl41 rfl rfl rfl rfl (Nat.le_of_ble_eq_true rfl) dX0_placeOf_19 ?_
    refine r_cast (ci := 5) hX rfl hzs cl_X0_59 dX0_placeOf_22 ?_
    refine r_callVR (As := [.ref z.1]) (rest := []) (rv := some (.int (zf_b (zm_ah (s_segs s) y z)))) (st1 := [.int (zf_b (zm_ah (s_segs s) y z))]) hX cs_X0_73 (by decide) (fun l => c_X4_isAheadOf l G h top y z x1 x2 (zm_num (s_segs s) y.2.1.2) (zm_num (s_segs s) z.2.1.2) hys hzs hx1b.symm hx2b.symm (H.seg hx1) (H.seg hx2)) hys rfl rfl rfl rfl (Nat.le_of_ble_eq_true rfl) dX0_placeOf_25 ?_
    refine r_if_eq (tgt := 33) hX dX0_placeOf_28 rfl (fun c28 => ?_) (fun c28 => ?_)
    · skip
      refine r_iinc (q := 0) (lv' := [(2, .int ((nI i) + 1)), (0, .ref (z_b G + 11)), (1, .ref y.1)]) hX rfl rfl (by decide) rfl dX0_placeOf_33 ?_
      refine r_goto (tgt := 2) hX rfl dX0_placeOf_36 ?_
      refine r_lv [0, 1, 2] (lv2 := [(2, .int (nI i + 1)), (0, .ref (z_b G + 11)), (1, .ref y.1)]) rfl ?_
      rw [nI_1]
      exact ih (i + 1) (by omega) (by omega) (fun j u hj hu => by
        rcases Nat.lt_or_ge j i with q | q
        · exact hinv j u q hu
        · obtain rfl : j = i := by omega
          rw [hz] at hu
          cases hu
          exact zf_b_e c28)
    · skip
      refine r_iload_n hX rfl 0 rfl dX0_placeOf_31 ?_
      exact r_iret hX hq (hp (by rw [zm_place_at hz (zf_b_ne c28) hinv])) dX0_placeOf_32

theorem f_place {X : zX} {G : zG} {h : zH} {top : Nat} {Post : Option Value → zH → Nat → Prop} (s : zS) (be : zB) (H : z_St G s be h top) (y : zSgt) (hy : y ∈ s_sgts s) (pk : List zSgt) (hpk : b_pk be = pk.map (fun x => x.1)) (hm : ∀ z ∈ pk, z ∈ s_sgts s) (hp : ∀ {v : Int32}, nI (zm_place (s_segs s) y pk) = v → Post (some (.int v)) h top) (hX : z_ok X cX0_placeOf 3 RX0 (some .int) "placeOf" 4 G) (hq : z_mq X Post) : ∀ (k i : Nat) , pk.length - i < k → i ≤ pk.length → (∀ (j : Nat) (z : zSgt), j < i → pk[j]? = some z → zm_ah (s_segs s) y z = false) → z_Z X h top 2 [(2, .int (nI i)), (0, .ref (z_b G + 11)), (1, .ref y.1)] [] := by
  intro k
  induction k with
  | zero => intros; omega
  | succ k ih => intro i  hk hi hinv; exact f_place_step s be H y hy pk hpk hm hp k i  hk hi hinv ih hX hq
set_option maxRecDepth 20000 in
set_option maxHeartbeats 4000000 in
theorem c_X0_placeOf (l : Launch) (G : zG) (h : zH) (top : Nat) (s : zS) (be : zB) (H : z_St G s be h top) (y : zSgt) (hy : y ∈ s_sgts s) (pk : List zSgt) (hpk : b_pk be = pk.map (fun x => x.1)) (hm : ∀ z ∈ pk, z ∈ s_sgts s) : z_Ct l yX0_placeOf cX0_placeOf 3 (some .int) 4 G [.ref (z_b G + 11), .ref y.1] h top (z_R (some (.int (nI (zm_place (s_segs s) y pk)))) h top) := by
  refine z_of (own := RX0) (nm := "placeOf") (by decide) rfl rfl (by decide) (Nat.le_of_ble_eq_true rfl) (fun X hX hq => ?_)
  replace hX : z_ok X cX0_placeOf 3 RX0 (some .int) "placeOf" 4 G := hX
  show z_Z X h top 0 [(0, .ref (z_b G + 11)), (1, .ref y.1)] []
  refine r_iconst (v := 0) hX (by decide) dX0_placeOf_0 ?_
  refine r_istore_n (lv' := [(2, .int 0), (0, .ref (z_b G + 11)), (1, .ref y.1)]) hX rfl (by decide) rfl dX0_placeOf_1 ?_
  rw [← nI_0]
  refine r_lv [0, 1, 2] (lv2 := [(2, .int (nI 0)), (0, .ref (z_b G + 11)), (1, .ref y.1)]) rfl ?_
  exact f_place s be H y hy pk hpk hm (fun e => ⟨by rw [← e], rfl, rfl⟩) hX hq (pk.length + 1) 0 (by omega) (by omega) (fun j z hj => by omega)

theorem z_setL_setL (be : zB) (j : Nat) (e1 e2 : List Nat) (l1 l2 : Int32 × Nat × Nat) (hj : j = 4 ∨ j = 5 ∨ j = 6) : z_setL (z_setL be j e1 l1) j e2 l2 = z_setL be j e2 l2 := by
  unfold z_setL
  have hu : va_up (b_ls (be.1, be.2.1, be.2.2.1, (if j = 4 then e1 else b_pk be, if j = 5 then e1 else b_jn be, if j = 6 then e1 else b_rw be), va_up (b_ls be) j l1)) j l2 = va_up (b_ls be) j l2 := by
    show va_up (va_up (b_ls be) j l1) j l2 = _
    funext k
    by_cases q : k = j <;> simp [va_up, q]
  rw [hu]
  rcases hj with rfl | rfl | rfl <;> rfl
theorem zm_step_mem {segs : List zSeg} {va : Nat} {day : Int32} {acc : List zSgt} {y z : zSgt} (h : z ∈ zm_pickStep segs va day acc y) : z = y ∨ z ∈ acc := by
  unfold zm_pickStep at h
  split at h
  · exact (List.mem_insertIdx (zm_place_le _ _ _)).mp h
  · exact Or.inr h
theorem zm_step_len (segs : List zSeg) (va : Nat) (day : Int32) (acc : List zSgt) (y : zSgt) : (zm_pickStep segs va day acc y).length ≤ acc.length + 1 := by
  unfold zm_pickStep
  split
  · rw [List.length_insertIdx_of_le_length (zm_place_le _ _ _)]
    exact Nat.le_refl _
  · exact Nat.le_succ _
theorem zm_take {α β : Type} (f : β → α → β) (b : β) (l : List α) {i : Nat} {y : α} (h : l[i]? = some y) : (l.take (i + 1)).foldl f b = f ((l.take i).foldl f b) y := by
  rw [List.take_add_one, h, List.foldl_append]
  rfl
theorem z_map_insertIdx {α : Type} (f : α → Nat) (l : List α) (i : Nat) (y : α) : (l.insertIdx i y).map f = (l.map f).insertIdx i (f y) := by
  apply List.ext_getElem?
  intro k
  rw [List.getElem?_map, List.getElem?_insertIdx, List.getElem?_insertIdx, List.length_map, List.getElem?_map, List.getElem?_map]
  repeat' split
  all_goals simp_all
set_option maxRecDepth 20000 in
set_option maxHeartbeats 4000000 in
theorem f_pick_step {X : zX} {G : zG} {h : zH} {top : Nat} {Post : Option Value → zH → Nat → Prop} (s : zS) (be0 : zB) (va : Nat) (day : Int32) (hp : ∀ (h : zH) (top : Nat) (be : zB), z_St G s be h top → b_pk be = (zm_pick (s_segs s) (s_sgts s) va day).map (fun x => x.1) → (∃ els l, be = z_setL be0 4 els l) → Post none h top) (k i : Nat) (be : zB) (pk : List zSgt) (hk : (s_sgts s).length - i < k + 1) (hi : i ≤ (s_sgts s).length) (hinv : z_St G s be h top ∧ b_pk be = pk.map (fun x => x.1) ∧ pk = ((s_sgts s).take i).foldl (zm_pickStep (s_segs s) va day) [] ∧ (∀ z ∈ pk, z ∈ s_sgts s) ∧ pk.length ≤ i ∧ ∃ els l, be = z_setL be0 4 els l) (ih : ∀ (i : Nat) (h : zH) (top : Nat) (be : zB) (pk : List zSgt), (s_sgts s).length - i < k → i ≤ (s_sgts s).length → (z_St G s be h top ∧ b_pk be = pk.map (fun x => x.1) ∧ pk = ((s_sgts s).take i).foldl (zm_pickStep (s_segs s) va day) [] ∧ (∀ z ∈ pk, z ∈ s_sgts s) ∧ pk.length ≤ i ∧ ∃ els l, be = z_setL be0 4 els l) → z_Z X h top 10 [(4, .int (nI i)), (0, .ref (z_b G + 11)), (1, .ref (z_b G + 3)), (2, .ref va), (3, .int day)] []) (hX : z_ok X cX0_pick 6 RX0 none "pick" 7 G) (hq : z_mq X (Post)) : z_Z X h top 10 [(4, .int (nI i)), (0, .ref (z_b G + 11)), (1, .ref (z_b G + 3)), (2, .ref va), (3, .int day)] [] := by
  obtain ⟨H, hpk, hacc, hm, hlen, hset⟩ := hinv
  have hbk := H.bk
  have hl2 := H.l2
  have hl21 := hl2.1
  have hl4 := H.l4
  have hl41 := hl4.1
  refine r_iload hX 0 rfl dX0_pick_10 ?_
  refine r_aload_n hX rfl 2 rfl dX0_pick_12 ?_
  refine r_callVR (As := []) (rest := [.int (nI i)]) (rv := some (.int (nI (s_sgts s).length))) (st1 := [.int (nI (s_sgts s).length), .int (nI i)]) hX cs_X0_27 (by decide) (fun l => z_size hl2 l) hl21 rfl rfl rfl rfl (Nat.le_of_ble_eq_true rfl) dX0_pick_13 ?_
  refine r_icmp_ge (tgt := 61) hX dX0_pick_16 rfl (fun c16 => ?_) (fun c16 => ?_)
  · skip
    exact r_vret hX hq (hp h top be H (by rw [hpk, hacc, List.take_of_length_le ((nI_leI (by have := H.2.2.1.2.2.2.2.2.1; omega) (by have := H.2.2.1.2.2.2.2.2.1; omega)).mp c16)]; rfl) hset) dX0_pick_61
  · skip
    have hlt : i < (s_sgts s).length := by
      rcases Nat.lt_or_ge i (s_sgts s).length with q | q
      · exact q
      · exact absurd (nI_le q (by have := H.2.2.1.2.2.2.2.2.1; omega)) c16
    obtain ⟨y, hy⟩ : ∃ y, (s_sgts s)[i]? = some y := ⟨_, List.getElem?_eq_getElem hlt⟩
    have hys := H.sgt hy
    refine r_aload_n hX rfl 2 rfl dX0_pick_19 ?_
    refine r_iload hX 0 rfl dX0_pick_20 ?_
    refine r_callVR (As := [.int (nI i)]) (rest := []) (rv := some (.ref y.1)) (st1 := [.ref y.1]) hX cs_X0_55 (by decide) (fun l => z_get hl2 hlt (z_mapget hy) l) hl21 rfl rfl rfl rfl (Nat.le_of_ble_eq_true rfl) dX0_pick_22 ?_
    refine r_cast (ci := 5) hX rfl hys cl_X0_59 dX0_pick_25 ?_
    refine r_astore (lv' := [(5, .ref y.1), (4, .int (nI i)), (0, .ref (z_b G + 11)), (1, .ref (z_b G + 3)), (2, .ref va), (3, .int day)]) hX (by decide) rfl dX0_pick_28 ?_
    refine r_aload hX 0 rfl dX0_pick_30 ?_
    refine r_aload_n hX rfl 4 rfl dX0_pick_32 ?_
    refine r_iload_n hX rfl 5 rfl dX0_pick_33 ?_
    refine r_callVR (As := [.ref va, .int day]) (rest := []) (rv := some (.int (zf_b (zm_isOf y va day)))) (st1 := [.int (zf_b (zm_isOf y va day))]) hX cs_X0_61 (by decide) (fun l => c_X4_isOf l G h top y va day hys) hys rfl rfl rfl rfl (Nat.le_of_ble_eq_true rfl) dX0_pick_34 ?_
    refine r_if_eq (tgt := 55) hX dX0_pick_37 rfl (fun c37 => ?_) (fun c37 => ?_)
    · skip
      refine r_iinc (q := 1) (lv' := [(4, .int ((nI i) + 1)), (5, .ref y.1), (0, .ref (z_b G + 11)), (1, .ref (z_b G + 3)), (2, .ref va), (3, .int day)]) hX rfl rfl (by decide) rfl dX0_pick_55 ?_
      refine r_goto (tgt := 10) hX rfl dX0_pick_58 ?_
      refine r_lv [0, 2, 3, 4, 5] (lv2 := [(4, .int (nI i + 1)), (0, .ref (z_b G + 11)), (1, .ref (z_b G + 3)), (2, .ref va), (3, .int day)]) rfl ?_
      rw [nI_1]
      have hst : zm_pickStep (s_segs s) va day pk y = pk := if_neg (by rw [zf_b_e c37]; decide)
      exact ih (i + 1) h top be pk (by omega) (by omega) ⟨H, hpk, by rw [zm_take _ _ _ hy, ← hacc, hst], hm, by omega, hset⟩
    · skip
      refine r_aload_n hX rfl 2 rfl dX0_pick_40 ?_
      refine r_getf hX fl_X0_12 hbk rfl dX0_pick_41 ?_
      refine r_aload_n hX rfl 2 rfl dX0_pick_44 ?_
      refine r_aload hX 0 rfl dX0_pick_45 ?_
      refine r_callVR (As := [.ref y.1]) (rest := [.ref (z_b G + 12)]) (rv := some (.int (nI (zm_place (s_segs s) y pk)))) (st1 := [.int (nI (zm_place (s_segs s) y pk)), .ref (z_b G + 12)]) hX cs_X0_65 (by decide) (fun l => c_X0_placeOf l G h top s be H y (List.mem_of_getElem? hy) pk hpk hm) hbk rfl rfl rfl rfl (Nat.le_of_ble_eq_true rfl) dX0_pick_47 ?_
      refine r_aload hX 0 rfl dX0_pick_50 ?_
      refine r_callV (As := [.int (nI (zm_place (s_segs s) y pk)), .ref y.1]) (rest := []) hX cs_X0_69 (by decide) (fun l => c_ins l G h top (z_b G + 12) y.1 (b_ls be 4).2.1 (b_pk be).length (b_ls be 4).2.2 (zm_place (s_segs s) y pk) (b_ls be 4).1 (fun q : Nat => (b_pk be)[q]?) (Nat.le_trans H.hall.1 (Nat.le_of_lt H.hall.2.1)) (by rw [hpk, List.length_map]; exact zm_place_le _ _ _) hl4 (fun i hi u hu => by rw [hpk] at hu; obtain ⟨q, hq, rfl⟩ := List.mem_map.mp (List.mem_of_getElem? hu); obtain ⟨iq, hiq⟩ := List.getElem?_of_mem (hm q hq); exact H.ob_sgt hiq) (by rw [hpk, List.length_map]; have := H.2.2.1.2.2.2.2.2.1; omega) (H.ob_sgt hy) (fun _ => by have := H.2.2.1.room; omega)) hl41 rfl rfl rfl (Nat.le_of_ble_eq_true rfl) dX0_pick_52 (fun r1 h1 top1 hp1 => ?_)
      obtain ⟨rfl, l4, H2⟩ := H.addB 4 (Or.inl rfl) hp1 (show zm_place (s_segs s) y pk ≤ (b_pk be).length by rw [hpk, List.length_map]; exact zm_place_le _ _ _) (show (b_pk be).length ≤ 120 by rw [hpk, List.length_map]; have := H.2.2.1.2.2.2.2.2.1; omega)
      have hst : zm_pickStep (s_segs s) va day pk y = pk.insertIdx (zm_place (s_segs s) y pk) y := if_pos (zf_b_ne c37)
      refine r_iinc (q := 1) (lv' := [(4, .int ((nI i) + 1)), (5, .ref y.1), (0, .ref (z_b G + 11)), (1, .ref (z_b G + 3)), (2, .ref va), (3, .int day)]) hX rfl rfl (by decide) rfl dX0_pick_55 ?_
      refine r_goto (tgt := 10) hX rfl dX0_pick_58 ?_
      refine r_lv [0, 2, 3, 4, 5] (lv2 := [(4, .int (nI i + 1)), (0, .ref (z_b G + 11)), (1, .ref (z_b G + 3)), (2, .ref va), (3, .int day)]) rfl ?_
      rw [nI_1]
      obtain ⟨els0, l0, hset⟩ := hset
      refine ih (i + 1) h1 top1 _ (pk.insertIdx (zm_place (s_segs s) y pk) y) (by omega) (by omega) ⟨H2, ?_, by rw [zm_take _ _ _ hy, ← hacc, hst], fun z hz => ?_, ?_, ⟨_, l4, by rw [hset, z_setL_setL _ _ _ _ _ _ (Or.inl rfl)]⟩⟩
      · rw [z_map_insertIdx, ← hpk]
        rfl
      · rcases (List.mem_insertIdx (zm_place_le _ _ _)).mp hz with q | q
        · rw [q]; exact List.mem_of_getElem? hy
        · exact hm z q
      · rw [List.length_insertIdx_of_le_length (zm_place_le _ _ _)]; omega

theorem f_pick {X : zX} {G : zG}  {Post : Option Value → zH → Nat → Prop} (s : zS) (be0 : zB) (va : Nat) (day : Int32) (hp : ∀ (h : zH) (top : Nat) (be : zB), z_St G s be h top → b_pk be = (zm_pick (s_segs s) (s_sgts s) va day).map (fun x => x.1) → (∃ els l, be = z_setL be0 4 els l) → Post none h top) (hX : z_ok X cX0_pick 6 RX0 none "pick" 7 G) (hq : z_mq X Post) : ∀ (k i : Nat) (h : zH) (top : Nat) (be : zB) (pk : List zSgt), (s_sgts s).length - i < k → i ≤ (s_sgts s).length → (z_St G s be h top ∧ b_pk be = pk.map (fun x => x.1) ∧ pk = ((s_sgts s).take i).foldl (zm_pickStep (s_segs s) va day) [] ∧ (∀ z ∈ pk, z ∈ s_sgts s) ∧ pk.length ≤ i ∧ ∃ els l, be = z_setL be0 4 els l) → z_Z X h top 10 [(4, .int (nI i)), (0, .ref (z_b G + 11)), (1, .ref (z_b G + 3)), (2, .ref va), (3, .int day)] [] := by
  intro k
  induction k with
  | zero => intros; omega
  | succ k ih => intro i h top be pk hk hi hinv; exact f_pick_step s be0 va day hp k i be pk hk hi hinv ih hX hq
set_option maxRecDepth 20000 in
set_option maxHeartbeats 4000000 in
theorem c_X0_pick (l : Launch) (G : zG) (h : zH) (top : Nat) (s : zS) (be : zB) (va : Nat) (day : Int32) (H : z_St G s be h top) : z_Ct l yX0_pick cX0_pick 6 none 7 G [.ref (z_b G + 11), .ref (z_b G + 3), .ref va, .int day] h top (fun r h' top' => r = none ∧ ∃ be2, z_St G s be2 h' top' ∧ b_pk be2 = (zm_pick (s_segs s) (s_sgts s) va day).map (fun x => x.1) ∧ ∃ els l, be2 = z_setL be 4 els l) := by
  refine z_of (own := RX0) (nm := "pick") (by decide) rfl rfl (by decide) (Nat.le_of_ble_eq_true rfl) (fun X hX hq => ?_)
  replace hX : z_ok X cX0_pick 6 RX0 none "pick" 7 G := hX
  show z_Z X h top 0 [(0, .ref (z_b G + 11)), (1, .ref (z_b G + 3)), (2, .ref va), (3, .int day)] []
  have hbk := H.bk
  have hl41 := H.l4.1
  refine r_aload_n hX rfl 0 rfl dX0_pick_0 ?_
  refine r_getf hX fl_X0_12 hbk rfl dX0_pick_1 ?_
  refine r_callV (As := []) (rest := []) hX cs_X0_42 (by decide) (fun l => c_Jx4a65c_clear_da8c8 l G h top (z_b G + 12) (b_ls be 4).2.1 (b_pk be).length (b_ls be 4).2.2 (b_ls be 4).1 (fun q : Nat => (b_pk be)[q]?) H.l4 (by have := H.2.2.2.2; omega)) hl41 rfl rfl rfl (Nat.le_of_ble_eq_true rfl) dX0_pick_4 (fun r1 h1 top1 hp1 => ?_)
  obtain ⟨rfl, rfl, m4, f4, hA4, hf4⟩ := hp1
  obtain ⟨l4, H2⟩ := H.clrB 4 (Or.inl rfl) hA4 hf4
  refine r_iconst (v := 0) hX (by decide) dX0_pick_7 ?_
  refine r_istore (lv' := [(4, .int 0), (0, .ref (z_b G + 11)), (1, .ref (z_b G + 3)), (2, .ref va), (3, .int day)]) hX (by decide) rfl dX0_pick_8 ?_
  rw [← nI_0]
  refine r_lv [0, 1, 2, 3, 4] (lv2 := [(4, .int (nI 0)), (0, .ref (z_b G + 11)), (1, .ref (z_b G + 3)), (2, .ref va), (3, .int day)]) rfl ?_
  exact f_pick s be va day (fun h9 top9 be9 H9 e1 e2 => ⟨rfl, be9, H9, e1, e2⟩) hX hq ((s_sgts s).length + 1) 0 h1 top1 _ [] (by omega) (by omega) ⟨H2, rfl, rfl, (fun z hz => by cases hz), Nat.le_refl _, ⟨[], l4, rfl⟩⟩

