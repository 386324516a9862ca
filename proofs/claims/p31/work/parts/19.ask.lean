/-! asking the book -/
def zm_dueStep (s : zS) (owner : Int32) (acc : Int32) (y : zQ × (Int32 × Int32)) : Int32 := if (zm_sg (s_segs s) y.1.1).2.2.2.2 = owner then acc + y.2.2 else acc
def zm_dueTo (s : zS) (owner : Int32) (rows : List zQ) (vals : List (Int32 × Int32)) : Int32 := (rows.zip vals).foldl (zm_dueStep s owner) 0
theorem z_DC.at {G : zG} {s : zS} {rch : Nat → Int32} {ct : Int32} {be : zB} {rows : List zQ} {RI : List Nat} {vals : List (Int32 × Int32)} {h : zH} {top : Nat} (J : z_DC G s rch ct be rows RI vals h top) (hvl : vals.length = rows.length) {i : Nat} (hi : i < rows.length) : ∃ p : zPas, rows[i]? = some (zm_q p) ∧ vals[i]? = some p.2.2.2.2.2 ∧ (b_rw be)[i]? = some p.1 ∧ ∃ k : Nat, (b_pool be)[k]? = some p := by
  obtain ⟨k, p, h1, h2, h3, h4⟩ := J.1.at (List.getElem?_eq_getElem hi)
  obtain ⟨p9, g1, g2⟩ := J.2 i k _ h1 (List.getElem?_eq_getElem (by omega : i < vals.length))
  rw [h2] at g1
  cases g1
  exact ⟨p, by rw [h3]; exact List.getElem?_eq_getElem hi, by rw [g2]; exact List.getElem?_eq_getElem _, h4, k, h2⟩
set_option maxRecDepth 20000 in
set_option maxHeartbeats 4000000 in
theorem f_due_step {X : zX} {G : zG} {h : zH} {top : Nat} {Post : Option Value → zH → Nat → Prop} (s : zS) (rch : Nat → Int32) (ct : Int32) (be : zB) (rows : List zQ) (RI : List Nat) (vals : List (Int32 × Int32)) (J : z_DC G s rch ct be rows RI vals h top) (hvl : vals.length = rows.length) (owner : Int32) (hp : ∀ {v : Int32}, v = zm_dueTo s owner rows vals → Post (some (.int v)) h top) (k i : Nat) (acc : Int32) (hk : rows.length - i < k + 1) (hi : i ≤ rows.length) (hinv : acc = ((rows.zip vals).take i).foldl (zm_dueStep s owner) 0) (ih : ∀ (i : Nat) (acc : Int32), rows.length - i < k → i ≤ rows.length → (acc = ((rows.zip vals).take i).foldl (zm_dueStep s owner) 0) → z_Z X h top 4 [(3, .int (nI i)), (2, .int acc), (0, .ref (z_b G + 11)), (1, .int owner)] []) (hX : z_ok X cX0_dueTo 5 RX0 (some .int) "dueTo" 4 G) (hq : z_mq X (Post)) : z_Z X h top 4 [(3, .int (nI i)), (2, .int acc), (0, .ref (z_b G + 11)), (1, .int owner)] [] := by
  have H := J.1.1
  have hbk := H.bk
  have hl6 := H.l6
  rw [J.1.len.1] at hl6
  have hl61 := hl6.1
  have h225 := J.1.len.2
  refine r_iload_n hX rfl 0 rfl dX0_dueTo_4 ?_
  refine r_aload_n hX rfl 2 rfl dX0_dueTo_5 ?_
  refine r_getf hX fl_X0_21 hbk rfl dX0_dueTo_6 ?_
  refine r_callVR (As := []) (rest := [.int (nI i)]) (rv := some (.int (nI rows.length))) (st1 := [.int (nI rows.length), .int (nI i)]) hX cs_X0_27 (by decide) (fun l => z_size hl6 l) hl61 rfl rfl rfl rfl (Nat.le_of_ble_eq_true rfl) dX0_dueTo_9 ?_
  refine r_icmp_ge (tgt := 54) hX dX0_dueTo_12 rfl (fun c12 => ?_) (fun c12 => ?_)
  · skip
    refine r_iload_n hX rfl 1 rfl dX0_dueTo_54 ?_
    exact r_iret hX hq (hp (hinv.trans (by rw [List.take_of_length_le (by rw [List.length_zip, hvl, Nat.min_self]; exact (nI_leI (by omega) (by omega)).mp c12)]; rfl))) dX0_dueTo_55
  · skip
    have hlt : i < rows.length := by
      rcases Nat.lt_or_ge i rows.length with q | q
      · exact q
      · exact absurd (nI_le q (by omega)) c12
    obtain ⟨p, hqi, hvi, hrw, k9, hp1⟩ := J.at hvl hlt
    have hps := H.pas hp1
    obtain ⟨hx1, hx2⟩ := zm_sg_at (H.2.2.2.1.2 p (List.mem_of_getElem? hp1))
    have hxs := H.seg hx1
    rw [hx2] at hxs
    refine r_aload_n hX rfl 2 rfl dX0_dueTo_15 ?_
    refine r_getf hX fl_X0_21 hbk rfl dX0_dueTo_16 ?_
    refine r_iload_n hX rfl 0 rfl dX0_dueTo_19 ?_
    refine r_callVR (As := [.int (nI i)]) (rest := []) (rv := some (.ref p.1)) (st1 := [.ref p.1]) hX cs_X0_55 (by decide) (fun l => z_get hl6 hlt hrw l) hl61 rfl rfl rfl rfl (Nat.le_of_ble_eq_true rfl) dX0_dueTo_20 ?_
    refine r_cast (ci := 3) hX rfl hps cl_X0_89 dX0_dueTo_23 ?_
    refine r_astore (lv' := [(4, .ref p.1), (3, .int (nI i)), (2, .int acc), (0, .ref (z_b G + 11)), (1, .int owner)]) hX (by decide) rfl dX0_dueTo_26 ?_
    refine r_aload hX 0 rfl dX0_dueTo_28 ?_
    refine r_getf hX fl_X0_102 hps rfl dX0_dueTo_30 ?_
    refine r_getf hX fl_X0_154 hxs rfl dX0_dueTo_33 ?_
    refine r_iload_n hX rfl 4 rfl dX0_dueTo_36 ?_
    refine r_icmp_ne (tgt := 48) hX dX0_dueTo_37 rfl (fun c37 => ?_) (fun c37 => ?_)
    · skip
      refine r_iinc (q := 1) (lv' := [(3, .int ((nI i) + 1)), (4, .ref p.1), (2, .int acc), (0, .ref (z_b G + 11)), (1, .int owner)]) hX rfl rfl (by decide) rfl dX0_dueTo_48 ?_
      refine r_goto (tgt := 4) hX rfl dX0_dueTo_51 ?_
      refine r_lv [0, 2, 3, 4] (lv2 := [(3, .int (nI i + 1)), (2, .int acc), (0, .ref (z_b G + 11)), (1, .int owner)]) rfl ?_
      rw [nI_1]
      exact ih (i + 1) _ (by omega) (by omega) (by rw [zm_take _ _ _ ((List.getElem?_zip_eq_some (z := (zm_q p, p.2.2.2.2.2))).mpr ⟨hqi, hvi⟩), ← hinv]; exact (if_neg c37).symm)
    · skip
      refine r_iload_n hX rfl 2 rfl dX0_dueTo_40 ?_
      refine r_aload hX 0 rfl dX0_dueTo_41 ?_
      refine r_getf hX fl_X0_151 hps rfl dX0_dueTo_43 ?_
      refine r_iadd hX dX0_dueTo_46 ?_
      refine r_istore_n (lv' := [(2, .int (acc + p.2.2.2.2.2.2)), (4, .ref p.1), (3, .int (nI i)), (0, .ref (z_b G + 11)), (1, .int owner)]) hX rfl (by decide) rfl dX0_dueTo_47 ?_
      refine r_iinc (q := 2) (lv' := [(3, .int ((nI i) + 1)), (2, .int (acc + p.2.2.2.2.2.2)), (4, .ref p.1), (0, .ref (z_b G + 11)), (1, .int owner)]) hX rfl rfl (by decide) rfl dX0_dueTo_48 ?_
      refine r_goto (tgt := 4) hX rfl dX0_dueTo_51 ?_
      refine r_lv [0, 1, 3, 4] (lv2 := [(3, .int (nI i + 1)), (2, .int (acc + p.2.2.2.2.2.2)), (0, .ref (z_b G + 11)), (1, .int owner)]) rfl ?_
      rw [nI_1]
      exact ih (i + 1) _ (by omega) (by omega) (by rw [zm_take _ _ _ ((List.getElem?_zip_eq_some (z := (zm_q p, p.2.2.2.2.2))).mpr ⟨hqi, hvi⟩), ← hinv]; exact (if_pos c37).symm)

theorem f_due {X : zX} {G : zG} {h : zH} {top : Nat} {Post : Option Value → zH → Nat → Prop} (s : zS) (rch : Nat → Int32) (ct : Int32) (be : zB) (rows : List zQ) (RI : List Nat) (vals : List (Int32 × Int32)) (J : z_DC G s rch ct be rows RI vals h top) (hvl : vals.length = rows.length) (owner : Int32) (hp : ∀ {v : Int32}, v = zm_dueTo s owner rows vals → Post (some (.int v)) h top) (hX : z_ok X cX0_dueTo 5 RX0 (some .int) "dueTo" 4 G) (hq : z_mq X Post) : ∀ (k i : Nat) (acc : Int32), rows.length - i < k → i ≤ rows.length → (acc = ((rows.zip vals).take i).foldl (zm_dueStep s owner) 0) → z_Z X h top 4 [(3, .int (nI i)), (2, .int acc), (0, .ref (z_b G + 11)), (1, .int owner)] [] := by
  intro k
  induction k with
  | zero => intros; omega
  | succ k ih => intro i acc hk hi hinv; exact f_due_step s rch ct be rows RI vals J hvl owner hp k i acc hk hi hinv ih hX hq
set_option maxRecDepth 20000 in
set_option maxHeartbeats 4000000 in
theorem c_X0_dueTo (l : Launch) (G : zG) (h : zH) (top : Nat) (s : zS) (rch : Nat → Int32) (ct : Int32) (be : zB) (rows : List zQ) (RI : List Nat) (vals : List (Int32 × Int32)) (J : z_DC G s rch ct be rows RI vals h top) (hvl : vals.length = rows.length) (owner : Int32) : z_Ct l yX0_dueTo cX0_dueTo 5 (some .int) 4 G [.ref (z_b G + 11), .int owner] h top (z_R (some (.int (zm_dueTo s owner rows vals))) h top) := by
  refine z_of (own := RX0) (nm := "dueTo") (by decide) rfl rfl (by decide) (Nat.le_of_ble_eq_true rfl) (fun X hX hq => ?_)
  replace hX : z_ok X cX0_dueTo 5 RX0 (some .int) "dueTo" 4 G := hX
  show z_Z X h top 0 [(0, .ref (z_b G + 11)), (1, .int owner)] []
  refine r_iconst (v := 0) hX (by decide) dX0_dueTo_0 ?_
  refine r_istore_n (lv' := [(2, .int 0), (0, .ref (z_b G + 11)), (1, .int owner)]) hX rfl (by decide) rfl dX0_dueTo_1 ?_
  refine r_iconst (v := 0) hX (by decide) dX0_dueTo_2 ?_
  refine r_istore_n (lv' := [(3, .int 0), (2, .int 0), (0, .ref (z_b G + 11)), (1, .int owner)]) hX rfl (by decide) rfl dX0_dueTo_3 ?_
  rw [← nI_0]
  refine r_lv [0, 1, 2, 3] (lv2 := [(3, .int (nI 0)), (2, .int (nI 0)), (0, .ref (z_b G + 11)), (1, .int owner)]) rfl ?_
  exact f_due s rch ct be rows RI vals J hvl owner (fun e => ⟨by rw [e], rfl, rfl⟩) hX hq (rows.length + 1) 0 (nI 0) (by omega) (by omega) (by rw [nI_0]; rfl)

def zm_fact (s : zS) (q : zQ) (v : Int32 × Int32) (what : Int32) : Int32 := if what = 0 then nI (zm_num (s_segs s) q.1) else if what = 1 then q.2.1 else if what = 2 then q.2.2.1 else if what = 3 then v.1 else v.2
def zm_factAt (s : zS) (rows : List zQ) (vals : List (Int32 × Int32)) (k : Nat) (what : Int32) : Int32 := zm_fact s ((rows[k]?).getD (0, 0, 0, 0)) ((vals[k]?).getD (0, 0)) what
set_option maxRecDepth 20000 in
set_option maxHeartbeats 4000000 in
theorem c_fact_0 (l : Launch) (G : zG) (h : zH) (top : Nat) (s : zS) (rch : Nat → Int32) (ct : Int32) (be : zB) (rows : List zQ) (RI : List Nat) (vals : List (Int32 × Int32)) (J : z_DC G s rch ct be rows RI vals h top) (hvl : vals.length = rows.length) (i : Nat) (hlt : i < rows.length) : z_Ct l yX0_fact cX0_fact 4 (some .int) 4 G [.ref (z_b G + 11), .int (nI i), .int 0] h top (z_R (some (.int (zm_factAt s rows vals i 0))) h top) := by
  refine z_of (own := RX0) (nm := "fact") (by decide) rfl rfl (by decide) (Nat.le_of_ble_eq_true rfl) (fun X hX hq => ?_)
  replace hX : z_ok X cX0_fact 4 RX0 (some .int) "fact" 4 G := hX
  show z_Z X h top 0 [(0, .ref (z_b G + 11)), (1, .int (nI i)), (2, .int 0)] []
  have H := J.1.1
  have hbk := H.bk
  have hl6 := H.l6
  rw [J.1.len.1] at hl6
  have hl61 := hl6.1
  have h225 := J.1.len.2
  obtain ⟨p, hqi, hvi, hrw, k9, hp1⟩ := J.at hvl hlt
  have hps := H.pas hp1
  obtain ⟨hx1, hx2⟩ := zm_sg_at (H.2.2.2.1.2 p (List.mem_of_getElem? hp1))
  have hxs := H.seg hx1
  rw [hx2] at hxs
  refine r_iload_n hX rfl 1 rfl dX0_fact_0 ?_
  refine r_if_lt (tgt := 15) hX dX0_fact_1 rfl (fun c => False.elim (nI_pos (by omega) c)) (fun _ => ?_)
  refine r_iload_n hX rfl 1 rfl dX0_fact_4 ?_
  refine r_aload_n hX rfl 0 rfl dX0_fact_5 ?_
  refine r_getf hX fl_X0_21 hbk rfl dX0_fact_6 ?_
  refine r_callVR (As := []) (rest := [.int (nI i)]) (rv := some (.int (nI rows.length))) (st1 := [.int (nI rows.length), .int (nI i)]) hX cs_X0_27 (by decide) (fun l => z_size hl6 l) hl61 rfl rfl rfl rfl (Nat.le_of_ble_eq_true rfl) dX0_fact_9 ?_
  refine r_icmp_lt (tgt := 17) hX dX0_fact_12 rfl (fun _ => ?_) (fun c => False.elim (absurd (nI_lt hlt (by omega)) c))
  refine r_aload_n hX rfl 0 rfl dX0_fact_17 ?_
  refine r_getf hX fl_X0_21 hbk rfl dX0_fact_18 ?_
  refine r_iload_n hX rfl 1 rfl dX0_fact_21 ?_
  refine r_callVR (As := [.int (nI i)]) (rest := []) (rv := some (.ref p.1)) (st1 := [.ref p.1]) hX cs_X0_55 (by decide) (fun l => z_get hl6 hlt hrw l) hl61 rfl rfl rfl rfl (Nat.le_of_ble_eq_true rfl) dX0_fact_22 ?_
  refine r_cast (ci := 3) hX rfl hps cl_X0_89 dX0_fact_25 ?_
  refine r_astore_n (lv' := [(3, .ref p.1), (0, .ref (z_b G + 11)), (1, .int (nI i)), (2, .int 0)]) hX rfl (by decide) rfl dX0_fact_28 ?_
  refine r_iload_n hX rfl 3 rfl dX0_fact_29 ?_
  refine r_tableIn (off := 30) (tgt := 60) hX (by decide) (by decide) (by decide) rfl dX0_fact_30 ?_
  refine r_aload_n hX rfl 0 rfl dX0_fact_60 ?_
  refine r_getf hX fl_X0_102 hps rfl dX0_fact_61 ?_
  refine r_getf hX fl_X0_171 hxs rfl dX0_fact_64 ?_
  exact r_iret hX hq ⟨by simp [zm_factAt, zm_fact, zm_q, hqi, hvi], rfl, rfl⟩ dX0_fact_67

set_option maxRecDepth 20000 in
set_option maxHeartbeats 4000000 in
theorem c_fact_1 (l : Launch) (G : zG) (h : zH) (top : Nat) (s : zS) (rch : Nat → Int32) (ct : Int32) (be : zB) (rows : List zQ) (RI : List Nat) (vals : List (Int32 × Int32)) (J : z_DC G s rch ct be rows RI vals h top) (hvl : vals.length = rows.length) (i : Nat) (hlt : i < rows.length) : z_Ct l yX0_fact cX0_fact 4 (some .int) 4 G [.ref (z_b G + 11), .int (nI i), .int 1] h top (z_R (some (.int (zm_factAt s rows vals i 1))) h top) := by
  refine z_of (own := RX0) (nm := "fact") (by decide) rfl rfl (by decide) (Nat.le_of_ble_eq_true rfl) (fun X hX hq => ?_)
  replace hX : z_ok X cX0_fact 4 RX0 (some .int) "fact" 4 G := hX
  show z_Z X h top 0 [(0, .ref (z_b G + 11)), (1, .int (nI i)), (2, .int 1)] []
  have H := J.1.1
  have hbk := H.bk
  have hl6 := H.l6
  rw [J.1.len.1] at hl6
  have hl61 := hl6.1
  have h225 := J.1.len.2
  obtain ⟨p, hqi, hvi, hrw, k9, hp1⟩ := J.at hvl hlt
  have hps := H.pas hp1
  obtain ⟨hx1, hx2⟩ := zm_sg_at (H.2.2.2.1.2 p (List.mem_of_getElem? hp1))
  have hxs := H.seg hx1
  rw [hx2] at hxs
  refine r_iload_n hX rfl 1 rfl dX0_fact_0 ?_
  refine r_if_lt (tgt := 15) hX dX0_fact_1 rfl (fun c => False.elim (nI_pos (by omega) c)) (fun _ => ?_)
  refine r_iload_n hX rfl 1 rfl dX0_fact_4 ?_
  refine r_aload_n hX rfl 0 rfl dX0_fact_5 ?_
  refine r_getf hX fl_X0_21 hbk rfl dX0_fact_6 ?_
  refine r_callVR (As := []) (rest := [.int (nI i)]) (rv := some (.int (nI rows.length))) (st1 := [.int (nI rows.length), .int (nI i)]) hX cs_X0_27 (by decide) (fun l => z_size hl6 l) hl61 rfl rfl rfl rfl (Nat.le_of_ble_eq_true rfl) dX0_fact_9 ?_
  refine r_icmp_lt (tgt := 17) hX dX0_fact_12 rfl (fun _ => ?_) (fun c => False.elim (absurd (nI_lt hlt (by omega)) c))
  refine r_aload_n hX rfl 0 rfl dX0_fact_17 ?_
  refine r_getf hX fl_X0_21 hbk rfl dX0_fact_18 ?_
  refine r_iload_n hX rfl 1 rfl dX0_fact_21 ?_
  refine r_callVR (As := [.int (nI i)]) (rest := []) (rv := some (.ref p.1)) (st1 := [.ref p.1]) hX cs_X0_55 (by decide) (fun l => z_get hl6 hlt hrw l) hl61 rfl rfl rfl rfl (Nat.le_of_ble_eq_true rfl) dX0_fact_22 ?_
  refine r_cast (ci := 3) hX rfl hps cl_X0_89 dX0_fact_25 ?_
  refine r_astore_n (lv' := [(3, .ref p.1), (0, .ref (z_b G + 11)), (1, .int (nI i)), (2, .int 1)]) hX rfl (by decide) rfl dX0_fact_28 ?_
  refine r_iload_n hX rfl 3 rfl dX0_fact_29 ?_
  refine r_tableIn (off := 38) (tgt := 68) hX (by decide) (by decide) (by decide) rfl dX0_fact_30 ?_
  refine r_aload_n hX rfl 0 rfl dX0_fact_68 ?_
  refine r_getf hX fl_X0_88 hps rfl dX0_fact_69 ?_
  exact r_iret hX hq ⟨by simp [zm_factAt, zm_fact, zm_q, hqi, hvi], rfl, rfl⟩ dX0_fact_72

set_option maxRecDepth 20000 in
set_option maxHeartbeats 4000000 in
theorem c_fact_2 (l : Launch) (G : zG) (h : zH) (top : Nat) (s : zS) (rch : Nat → Int32) (ct : Int32) (be : zB) (rows : List zQ) (RI : List Nat) (vals : List (Int32 × Int32)) (J : z_DC G s rch ct be rows RI vals h top) (hvl : vals.length = rows.length) (i : Nat) (hlt : i < rows.length) : z_Ct l yX0_fact cX0_fact 4 (some .int) 4 G [.ref (z_b G + 11), .int (nI i), .int 2] h top (z_R (some (.int (zm_factAt s rows vals i 2))) h top) := by
  refine z_of (own := RX0) (nm := "fact") (by decide) rfl rfl (by decide) (Nat.le_of_ble_eq_true rfl) (fun X hX hq => ?_)
  replace hX : z_ok X cX0_fact 4 RX0 (some .int) "fact" 4 G := hX
  show z_Z X h top 0 [(0, .ref (z_b G + 11)), (1, .int (nI i)), (2, .int 2)] []
  have H := J.1.1
  have hbk := H.bk
  have hl6 := H.l6
  rw [J.1.len.1] at hl6
  have hl61 := hl6.1
  have h225 := J.1.len.2
  obtain ⟨p, hqi, hvi, hrw, k9, hp1⟩ := J.at hvl hlt
  have hps := H.pas hp1
  obtain ⟨hx1, hx2⟩ := zm_sg_at (H.2.2.2.1.2 p (List.mem_of_getElem? hp1))
  have hxs := H.seg hx1
  rw [hx2] at hxs
  refine r_iload_n hX rfl 1 rfl dX0_fact_0 ?_
  refine r_if_lt (tgt := 15) hX dX0_fact_1 rfl (fun c => False.elim (nI_pos (by omega) c)) (fun _ => ?_)
  refine r_iload_n hX rfl 1 rfl dX0_fact_4 ?_
  refine r_aload_n hX rfl 0 rfl dX0_fact_5 ?_
  refine r_getf hX fl_X0_21 hbk rfl dX0_fact_6 ?_
  refine r_callVR (As := []) (rest := [.int (nI i)]) (rv := some (.int (nI rows.length))) (st1 := [.int (nI rows.length), .int (nI i)]) hX cs_X0_27 (by decide) (fun l => z_size hl6 l) hl61 rfl rfl rfl rfl (Nat.le_of_ble_eq_true rfl) dX0_fact_9 ?_
  refine r_icmp_lt (tgt := 17) hX dX0_fact_12 rfl (fun _ => ?_) (fun c => False.elim (absurd (nI_lt hlt (by omega)) c))
  refine r_aload_n hX rfl 0 rfl dX0_fact_17 ?_
  refine r_getf hX fl_X0_21 hbk rfl dX0_fact_18 ?_
  refine r_iload_n hX rfl 1 rfl dX0_fact_21 ?_
  refine r_callVR (As := [.int (nI i)]) (rest := []) (rv := some (.ref p.1)) (st1 := [.ref p.1]) hX cs_X0_55 (by decide) (fun l => z_get hl6 hlt hrw l) hl61 rfl rfl rfl rfl (Nat.le_of_ble_eq_true rfl) dX0_fact_22 ?_
  refine r_cast (ci := 3) hX rfl hps cl_X0_89 dX0_fact_25 ?_
  refine r_astore_n (lv' := [(3, .ref p.1), (0, .ref (z_b G + 11)), (1, .int (nI i)), (2, .int 2)]) hX rfl (by decide) rfl dX0_fact_28 ?_
  refine r_iload_n hX rfl 3 rfl dX0_fact_29 ?_
  refine r_tableIn (off := 43) (tgt := 73) hX (by decide) (by decide) (by decide) rfl dX0_fact_30 ?_
  refine r_aload_n hX rfl 0 rfl dX0_fact_73 ?_
  refine r_getf hX fl_X0_164 hps rfl dX0_fact_74 ?_
  exact r_iret hX hq ⟨by simp [zm_factAt, zm_fact, zm_q, hqi, hvi], rfl, rfl⟩ dX0_fact_77

set_option maxRecDepth 20000 in
set_option maxHeartbeats 4000000 in
theorem c_fact_3 (l : Launch) (G : zG) (h : zH) (top : Nat) (s : zS) (rch : Nat → Int32) (ct : Int32) (be : zB) (rows : List zQ) (RI : List Nat) (vals : List (Int32 × Int32)) (J : z_DC G s rch ct be rows RI vals h top) (hvl : vals.length = rows.length) (i : Nat) (hlt : i < rows.length) : z_Ct l yX0_fact cX0_fact 4 (some .int) 4 G [.ref (z_b G + 11), .int (nI i), .int 3] h top (z_R (some (.int (zm_factAt s rows vals i 3))) h top) := by
  refine z_of (own := RX0) (nm := "fact") (by decide) rfl rfl (by decide) (Nat.le_of_ble_eq_true rfl) (fun X hX hq => ?_)
  replace hX : z_ok X cX0_fact 4 RX0 (some .int) "fact" 4 G := hX
  show z_Z X h top 0 [(0, .ref (z_b G + 11)), (1, .int (nI i)), (2, .int 3)] []
  have H := J.1.1
  have hbk := H.bk
  have hl6 := H.l6
  rw [J.1.len.1] at hl6
  have hl61 := hl6.1
  have h225 := J.1.len.2
  obtain ⟨p, hqi, hvi, hrw, k9, hp1⟩ := J.at hvl hlt
  have hps := H.pas hp1
  obtain ⟨hx1, hx2⟩ := zm_sg_at (H.2.2.2.1.2 p (List.mem_of_getElem? hp1))
  have hxs := H.seg hx1
  rw [hx2] at hxs
  refine r_iload_n hX rfl 1 rfl dX0_fact_0 ?_
  refine r_if_lt (tgt := 15) hX dX0_fact_1 rfl (fun c => False.elim (nI_pos (by omega) c)) (fun _ => ?_)
  refine r_iload_n hX rfl 1 rfl dX0_fact_4 ?_
  refine r_aload_n hX rfl 0 rfl dX0_fact_5 ?_
  refine r_getf hX fl_X0_21 hbk rfl dX0_fact_6 ?_
  refine r_callVR (As := []) (rest := [.int (nI i)]) (rv := some (.int (nI rows.length))) (st1 := [.int (nI rows.length), .int (nI i)]) hX cs_X0_27 (by decide) (fun l => z_size hl6 l) hl61 rfl rfl rfl rfl (Nat.le_of_ble_eq_true rfl) dX0_fact_9 ?_
  refine r_icmp_lt (tgt := 17) hX dX0_fact_12 rfl (fun _ => ?_) (fun c => False.elim (absurd (nI_lt hlt (by omega)) c))
  refine r_aload_n hX rfl 0 rfl dX0_fact_17 ?_
  refine r_getf hX fl_X0_21 hbk rfl dX0_fact_18 ?_
  refine r_iload_n hX rfl 1 rfl dX0_fact_21 ?_
  refine r_callVR (As := [.int (nI i)]) (rest := []) (rv := some (.ref p.1)) (st1 := [.ref p.1]) hX cs_X0_55 (by decide) (fun l => z_get hl6 hlt hrw l) hl61 rfl rfl rfl rfl (Nat.le_of_ble_eq_true rfl) dX0_fact_22 ?_
  refine r_cast (ci := 3) hX rfl hps cl_X0_89 dX0_fact_25 ?_
  refine r_astore_n (lv' := [(3, .ref p.1), (0, .ref (z_b G + 11)), (1, .int (nI i)), (2, .int 3)]) hX rfl (by decide) rfl dX0_fact_28 ?_
  refine r_iload_n hX rfl 3 rfl dX0_fact_29 ?_
  refine r_tableIn (off := 48) (tgt := 78) hX (by decide) (by decide) (by decide) rfl dX0_fact_30 ?_
  refine r_aload_n hX rfl 0 rfl dX0_fact_78 ?_
  refine r_getf hX fl_X0_144 hps rfl dX0_fact_79 ?_
  exact r_iret hX hq ⟨by simp [zm_factAt, zm_fact, zm_q, hqi, hvi], rfl, rfl⟩ dX0_fact_82

set_option maxRecDepth 20000 in
set_option maxHeartbeats 4000000 in
theorem c_fact_4 (l : Launch) (G : zG) (h : zH) (top : Nat) (s : zS) (rch : Nat → Int32) (ct : Int32) (be : zB) (rows : List zQ) (RI : List Nat) (vals : List (Int32 × Int32)) (J : z_DC G s rch ct be rows RI vals h top) (hvl : vals.length = rows.length) (i : Nat) (hlt : i < rows.length) : z_Ct l yX0_fact cX0_fact 4 (some .int) 4 G [.ref (z_b G + 11), .int (nI i), .int 4] h top (z_R (some (.int (zm_factAt s rows vals i 4))) h top) := by
  refine z_of (own := RX0) (nm := "fact") (by decide) rfl rfl (by decide) (Nat.le_of_ble_eq_true rfl) (fun X hX hq => ?_)
  replace hX : z_ok X cX0_fact 4 RX0 (some .int) "fact" 4 G := hX
  show z_Z X h top 0 [(0, .ref (z_b G + 11)), (1, .int (nI i)), (2, .int 4)] []
  have H := J.1.1
  have hbk := H.bk
  have hl6 := H.l6
  rw [J.1.len.1] at hl6
  have hl61 := hl6.1
  have h225 := J.1.len.2
  obtain ⟨p, hqi, hvi, hrw, k9, hp1⟩ := J.at hvl hlt
  have hps := H.pas hp1
  obtain ⟨hx1, hx2⟩ := zm_sg_at (H.2.2.2.1.2 p (List.mem_of_getElem? hp1))
  have hxs := H.seg hx1
  rw [hx2] at hxs
  refine r_iload_n hX rfl 1 rfl dX0_fact_0 ?_
  refine r_if_lt (tgt := 15) hX dX0_fact_1 rfl (fun c => False.elim (nI_pos (by omega) c)) (fun _ => ?_)
  refine r_iload_n hX rfl 1 rfl dX0_fact_4 ?_
  refine r_aload_n hX rfl 0 rfl dX0_fact_5 ?_
  refine r_getf hX fl_X0_21 hbk rfl dX0_fact_6 ?_
  refine r_callVR (As := []) (rest := [.int (nI i)]) (rv := some (.int (nI rows.length))) (st1 := [.int (nI rows.length), .int (nI i)]) hX cs_X0_27 (by decide) (fun l => z_size hl6 l) hl61 rfl rfl rfl rfl (Nat.le_of_ble_eq_true rfl) dX0_fact_9 ?_
  refine r_icmp_lt (tgt := 17) hX dX0_fact_12 rfl (fun _ => ?_) (fun c => False.elim (absurd (nI_lt hlt (by omega)) c))
  refine r_aload_n hX rfl 0 rfl dX0_fact_17 ?_
  refine r_getf hX fl_X0_21 hbk rfl dX0_fact_18 ?_
  refine r_iload_n hX rfl 1 rfl dX0_fact_21 ?_
  refine r_callVR (As := [.int (nI i)]) (rest := []) (rv := some (.ref p.1)) (st1 := [.ref p.1]) hX cs_X0_55 (by decide) (fun l => z_get hl6 hlt hrw l) hl61 rfl rfl rfl rfl (Nat.le_of_ble_eq_true rfl) dX0_fact_22 ?_
  refine r_cast (ci := 3) hX rfl hps cl_X0_89 dX0_fact_25 ?_
  refine r_astore_n (lv' := [(3, .ref p.1), (0, .ref (z_b G + 11)), (1, .int (nI i)), (2, .int 4)]) hX rfl (by decide) rfl dX0_fact_28 ?_
  refine r_iload_n hX rfl 3 rfl dX0_fact_29 ?_
  refine r_tableOut (tgt := 83) hX (by decide) rfl dX0_fact_30 ?_
  refine r_aload_n hX rfl 0 rfl dX0_fact_83 ?_
  refine r_getf hX fl_X0_151 hps rfl dX0_fact_84 ?_
  exact r_iret hX hq ⟨by simp [zm_factAt, zm_fact, zm_q, hqi, hvi], rfl, rfl⟩ dX0_fact_87

