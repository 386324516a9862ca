/-! asking the book -/
def zm_dueStep (s : zS) (owner : Int32) (acc : Int32) (y : zQ × (Int32 × Int32)) : Int32 := if (zm_sg (s_segs s) y.1.1).2.2.2.2 = owner then acc + y.2.2 else acc
def zm_dueTo (s : zS) (owner : Int32) (rows : List zQ) (vals : List (Int32 × Int32)) : Int32 := (rows.zip vals).foldl (zm_dueStep s owner) 0
theorem z_DC.at {G : zG} {s : zS} {rch : Nat → Int32} {ct : Int32} {be : zB} {rows : List zQ} {RI : List Nat} {vals : List (Int32 × Int32)} {h : zH} {top : Nat} (J : z_DC G s rch ct be rows RI vals h top) (hvl : vals.length = rows.length) {i : Nat} (hi : i < rows.length) : ∃ p : zPas, rows[i]? = some (zm_q p) ∧ vals[i]? = some p.2.2.2.2.2 ∧ (b_rw be)[i]? = some p.1 ∧ ∃ k : Nat, (b_pool be)[k]? = some p := by
  obtain ⟨k, p, h1, h2, h3, h4⟩ := J.1.at (List.getElem?_eq_getElem hi)
  obtain ⟨p9, g1, g2⟩ := J.2 i k _ h1 (List.getElem?_eq_getElem (by omega : i < vals.length))
  rw [h2] at g1
  cases g1
  exact ⟨p, by rw [h3]; exact List.getElem?_eq_getElem hi, by rw [g2]; exact List.getElem?_eq_getElem _, h4, k, h2⟩
set_option maxRecDepth 20000 in
set_option maxHeartbeats 4000000 in
theorem f_due_step {X : zX} {G : zG} {h : zH} {top : Nat} {Post : Option Value → zH → Nat → Prop} (s : zS) (rch : Nat → Int32) (ct : Int32) (be : zB) (rows : List zQ) (RI : List Nat) (vals : List (Int32 × Int32)) (J : z_DC G s rch ct be rows RI vals h top) (hvl : vals.length = rows.length) (owner : Int32) (hp : ∀ {v : Int32}, v = zm_dueTo s owner rows vals → Post (some (.int v)) h top) (k i : Nat) (acc : Int32) (hk : rows.length - i < k + 1) (hi : i ≤ rows.length) (hinv : acc = ((rows.zip vals).take i).foldl (zm_dueStep s owner) 0) (ih : ∀ (i : Nat) (acc : Int32), rows.length - i < k → i ≤ rows.length → (acc = ((rows.zip vals).take i).foldl (zm_dueStep s owner) 0) → z_Z X h top 4 [(3, .int (nI i)), (2, .int acc), (0, .ref (z_b G + 11)), (1, .int owner)] []) (hX : z_ok X cX0_dueTo 5 RX0 (some .int) "dueTo" 4 G) (hq : z_mq X (Post)) : z_Z X h top 4 [(3, .int (nI i)), (2, .int acc), (0, .ref (z_b G + 11)), (1, .int owner)] [] := by
  have H := J.1.1
  have hbk := H.bk
  have hl6 := H.l6
  rw [J.1.len.1] at hl6
  have hl61 := hl6.1
  have h225 := J.1.len.2
  refine r_iload_n hX rfl 0 rfl dX0_dueTo_4 ?_
  refine r_aload_n hX rfl 2 rfl dX0_dueTo_5 ?_
  refine r_getf hX fl_X0_21 hbk rfl dX0_dueTo_6 ?_
  refine r_callVR (As := []) (rest := [.int (nI i)]) (rv := some (.int (nI rows.length))) (st1 := [.int (nI rows.length), .int (nI i)]) hX cs_X0_27 (by decide) (fun l => z_size hl6 l) hl61 rfl rfl rfl rfl (Nat.le_of_ble_eq_true rfl) dX0_dueTo_9 ?_
  refine r_icmp_ge (tgt := 54) hX dX0_dueTo_12 rfl (fun c12 => ?_) (fun c12 => ?_)
  · skip
    refine r_iload_n hX rfl 1 rfl dX0_dueTo_54 ?_
    exact r_iret hX hq (hp (hinv.trans (by rw [List.take_of_length_le (by rw [List.length_zip, hvl, Nat.min_self]; exact (nI_leI (by omega) (by omega)).mp c12)]; rfl))) dX0_dueTo_55
  · skip
    have hlt : i < rows.length := by
      rcases Nat.lt_or_ge i rows.length with q | q
      · exact q
      · exact absurd (nI_le q (by omega)) c12
    obtain ⟨p, hqi, hvi, hrw, k9, hp1⟩ := J.at hvl hlt
    have hps := H.pas hp1
    obtain ⟨hx1, hx2⟩ := zm_sg_at (H.2.2.2.1.2 p (List.mem_of_getElem? hp1))
    have hxs := H.seg hx1
    rw [hx2] at hxs
    refine r_aload_n hX rfl 2 rfl dX0_dueTo_15 ?_
    refine r_getf hX fl_X0_21 hbk rfl dX0_dueTo_16 ?_
    refine r_iload_n hX rfl 0 rfl dX0_dueTo_19 ?_
    refine r_callVR (As := [.int (nI i)]) (rest := []) (rv := some (.ref p.1)) (st1 := [.ref p.1]) hX cs_X0_55 (by decide) (fun l => z_get hl6 hlt hrw l) hl61 rfl rfl rfl rfl (Nat.le_of_ble_eq_true rfl) dX0_dueTo_20 ?_
    refine r_cast (ci := 3) hX rfl hps cl_X0_89 dX0_dueTo_23 ?_
    refine r_astore (lv' := [(4, .ref p.1), (3, .int (nI i)), (2, .int acc), (0, .ref (z_b G + 11)), (1, .int owner)]) hX (by decide) rfl dX0_dueTo_26 ?_
    refine r_aload hX 0 rfl dX0_dueTo_28 ?_
    refine r_getf hX fl_X0_102 hps rfl dX0_dueTo_30 ?_
    refine r_getf hX fl_X0_154 hxs rfl dX0_dueTo_33 ?_
    refine r_iload_n hX rfl 4 rfl dX0_dueTo_36 ?_
    refine r_icmp_ne (tgt := 48) hX dX0_dueTo_37 rfl (fun c37 => ?_) (fun c37 => ?_)
    · skip
      refine r_iinc (q := 1) (lv' := [(3, .int ((nI i) + 1)), (4, .ref p.1), (2, .int acc), (0, .ref (z_b G + 11)), (1, .int owner)]) hX rfl rfl (by decide) rfl dX0_dueTo_48 ?_
      refine r_goto (tgt := 4) hX rfl dX0_dueTo_51 ?_
      refine r_lv [0, 2, 3, 4] (lv2 := [(3, .int (nI i + 1)), (2, .int acc), (0, .ref (z_b G + 11)), (1, .int owner)]) rfl ?_
      rw [nI_1]
      exact ih (i + 1) _ (by omega) (by omega) (by rw [zm_take _ _ _ ((List.getElem?_zip_eq_some (z := (zm_q p, p.2.2.2.2.2))).mpr ⟨hqi, hvi⟩), ← hinv]; exact (if_neg c37).symm)
    · skip
      refine r_iload_n hX rfl 2 rfl dX0_dueTo_40 ?_
      refine r_aload hX 0 rfl dX0_dueTo_41 ?_
      refine r_getf hX fl_X0_151 hps rfl dX0_dueTo_43 ?_
      refine r_iadd hX dX0_dueTo_46 ?_
      refine r_istore_n (lv' := [(2, .int (acc + p.2.2.2.2.2.2)), (4, .ref p.1), (3, .int (nI i)), (0, .ref (z_b G + 11)), (1, .int owner)]) hX rfl (by decide) rfl dX0_dueTo_47 ?_
      refine r_iinc (q := 2) (lv' := [(3, .int ((nI i) + 1)), (2, .int (acc + p.2.2.2.2.2.2)), (4, .ref p.1), (0, .ref (z_b G + 11)), (1, .int owner)]) hX rfl rfl (by decide) rfl dX0_dueTo_48 ?_
      refine r_goto (tgt := 4) hX rfl dX0_dueTo_51 ?_
      refine r_lv [0, 1, 3, 4] (lv2 := [(3, .int (nI i + 1)), (2, .int (acc + p.2.2.2.2.2.2)), (0, .ref (z_b G + 11)), (1, .int owner)]) rfl ?_
      rw [nI_1]
      exact ih (i + 1) _ (by omega) (by omega) (by rw [zm_take _ _ _ ((List.getElem?_zip_eq_some (z := (zm_q p, p.2.2.2.2.2))).mpr ⟨hqi, hvi⟩), ← hinv]; exact (if_pos c37).symm)

theorem f_due {X : zX} {G : zG} {h : zH} {top : Nat} {Post : Option Value → zH → Nat → Prop} (s : zS) (rch : Nat → Int32) (ct : Int32) (be : zB) (rows : List zQ) (RI : List Nat) (vals : List (Int32 × Int32)) (J : z_DC G s rch ct be rows RI vals h top) (hvl : vals.length = rows.length) (owner : Int32) (hp : ∀ {v : Int32}, v = zm_dueTo s owner rows vals → Post (some (.int v)) h top) (hX : z_ok X cX0_dueTo 5 RX0 (some .int) "dueTo" 4 G) (hq : z_mq X Post) : ∀ (k i : Nat) (acc : Int32), rows.length - i < k → i ≤ rows.length → (acc = ((rows.zip vals).take i).foldl (zm_dueStep s owner) 0) → z_Z X h top 4 [(3, .int (nI i)), (2, .int acc), (0, .ref (z_b G + 11)), (1, .int owner)] [] := by
  intro k
  induction k with
  | zero => intros; omega
  | succ k ih => intro i acc hk hi hinv; exact f_due_step s rch ct be rows RI vals J hvl owner hp k i acc hk hi hinv ih hX hq
set_option maxRecDepth 20000 in
set_option maxHeartbeats 4000000 in
theorem c_X0_dueTo (l : Launch) (G : zG) (h : zH) (top : Nat) (s : zS) (rch : Nat → Int32) (ct : Int32) (be : zB) (rows : List zQ) (RI : List Nat) (vals : List (Int32 × Int32)) (J : z_DC G s rch ct be rows RI vals h top) (hvl : vals.length = rows.length) (owner : Int32) : z_Ct l yX0_dueTo cX0_dueTo 5 (some .int) 4 G [.ref (z_b G + 11), .int owner] h top (z_R (some (.int (zm_dueTo s owner rows vals))) h top) := by
  refine z_of (own := RX0) (nm := "dueTo") (by decide) rfl rfl (by decide) (Nat.le_of_ble_eq_true rfl) (fun X hX hq => ?_)
  replace hX : z_ok X cX0_dueTo 5 RX0 (some .int) "dueTo" 4 G := hX
  show z_Z X h top 0 [(0, .ref (z_b G + 11)), (1, .int owner)] []
  refine r_iconst (v := 0) hX (by decide) dX0_dueTo_0 ?_
  refine r_istore_n (lv' := [(2, .int 0), (0, .ref (z_b G + 11)), (1, .int owner)]) hX rfl (by decide) rfl dX0_dueTo_1 ?_
  refine r_iconst (v := 0) hX (by decide) dX0_dueTo_2 ?_
  refine r_istore_n (lv' := [(3, .int 0), (2, .int 0), (0, .ref (z_b G + 11)), (1, .int owner)]) hX rfl (by decide) rfl dX0_dueTo_3 ?_
  rw [← nI_0]
  refine r_lv [0, 1, 2, 3] (lv2 := [(3, .int (nI 0)), (2, .int (nI 0)), (0, .ref (z_b G + 11)), (1, .int owner)]) rfl ?_
  exact f_due s rch ct be rows RI vals J hvl owner (fun e => ⟨by rw [e], rfl, rfl⟩) hX hq (rows.length + 1) 0 (nI 0) (by omega) (by omega) (by rw [nI_0]; rfl)

def zm_fact (s : zS) (q : zQ) (v : Int32 × Int32) (what : Int32) : Int32 := if what = 0 then nI (zm_num (s_segs s) q.1) else if what = 1 then q.2.1 else if what = 2 then q.2.2.1 else if what = 3 then v.1 else v.2
def zm_factAt (s : zS) (rows : List zQ) (vals : List (Int32 × Int32)) (k : Nat) (what : Int32) : Int32 := zm_fact s ((rows[k]?).getD (0, 0, 0, 0)) ((vals[k]?).getD (0, 0)) what
set_option maxRecDepth 20000 in
set_option maxHeartbeats 4000000 in
theorem c_fact_0 (l : Launch) (G : zG) (h : zH) (top : Nat) (s : zS) (rch : Nat → Int32) (ct : Int32) (be : zB) (rows : List zQ) (RI : List Nat) (vals : List (Int32 × Int32)) (J : z_DC G s rch ct be rows RI vals h top) (hvl : vals.length = rows.length) (i : Nat) (hlt : i < rows.length) : z_Ct l yX0_fact cX0_fact 4 (some .int) 4 G [.ref (z_b G + 11), .int (nI i), .int 0] h top (z_R (some (.int (zm_factAt s rows vals i 0))) h top) := by
  refine z_of (own := RX0) (nm := "fact") (by decide) rfl rfl (by decide) (Nat.le_of_ble_eq_true rfl) (fun X hX hq => ?_)
  replace hX : z_ok X cX0_fact 4 RX0 (some .int) "fact" 4 G := hX
  show z_Z X h top 0 [(0, .ref (z_b G + 11)), (1, .int (nI i)), (2, .int 0)] []
  have H := J.1.1
  have hbk := H.bk
  have hl6 := H.l6
  rw [J.1.len.1] at hl6
  have hl61 := hl6.1
  have h225 := J.1.len.2
  obtain ⟨p, hqi, hvi, hrw, k9, hp1⟩ := J.at hvl hlt
  have hps := H.pas hp1
  obtain ⟨hx1, hx2⟩ := zm_sg_at (H.2.2.2.1.2 p (List.mem_of_getElem? hp1))
  have hxs := H.seg hx1
  rw [hx2] at hxs
  refine r_iload_n hX rfl 1 rfl dX0_fact_0 ?_
  refine r_if_lt (tgt := 15) hX dX0_fact_1 rfl (fun c => False.elim (nI_pos (by omega) c)) (fun _ => ?_)
  refine r_iload_n hX rfl 1 rfl dX0_fact_4 ?_
  refine r_aload_n hX rfl 0 rfl dX0_fact_5 ?_
  refine r_getf hX fl_X0_21 hbk rfl dX0_fact_6 ?_
  refine r_callVR (As := []) (rest := [.int (nI i)]) (rv := some (.int (nI rows.length))) (st1 := [.int (nI rows.length), .int (nI i)]) hX cs_X0_27 (by decide) (fun l => z_size hl6 l) hl61 rfl rfl rfl rfl (Nat.le_of_ble_eq_true rfl) dX0_fact_9 ?_
  refine r_icmp_lt (tgt := 17) hX dX0_fact_12 rfl (fun _ => ?_) (fun c => False.elim (absurd (nI_lt hlt (by omega)) c))
  refine r_aload_n hX rfl 0 rfl dX0_fact_17 ?_
  refine r_getf hX fl_X0_21 hbk rfl dX0_fact_18 ?_
  refine r_iload_n hX rfl 1 rfl dX0_fact_21 ?_
  refine r_callVR (As := [.int (nI i)]) (rest := []) (rv := some (.ref p.1)) (st1 := [.ref p.1]) hX cs_X0_55 (by decide) (fun l => z_get hl6 hlt hrw l) hl61 rfl rfl rfl rfl (Nat.le_of_ble_eq_true rfl) dX0_fact_22 ?_
  refine r_cast (ci := 3) hX rfl hps cl_X0_89 dX0_fact_25 ?_
  refine r_astore_n (lv' := [(3, .ref p.1), (0, .ref (z_b G + 11)), (1, .int (nI i)), (2, .int 0)]) hX rfl (by decide) rfl dX0_fact_28 ?_
  refine r_iload_n hX rfl 3 rfl dX0_fact_29 ?_
  refine r_tableIn (off := 30) (tgt := 60) hX (by decide) (by decide) (by decide) rfl dX0_fact_30 ?_
  refine r_aload_n hX rfl 0 rfl dX0_fact_60 ?_
  refine r_getf hX fl_X0_102 hps rfl dX0_fact_61 ?_
  refine r_getf hX fl_X0_171 hxs rfl dX0_fact_64 ?_
  exact r_iret hX hq ⟨by simp [zm_factAt, zm_fact, zm_q, hqi, hvi], rfl, rfl⟩ dX0_fact_67

set_option maxRecDepth 20000 in
set_option maxHeartbeats 4000000 in
theorem c_fact_1 (l : Launch) (G : zG) (h : zH) (top : Nat) (s : zS) (rch : Nat → Int32) (ct : Int32) (be : zB) (rows : List zQ) (RI : List Nat) (vals : List (Int32 × Int32)) (J : z_DC G s rch ct be rows RI vals h top) (hvl : vals.length = rows.length) (i : Nat) (hlt : i < rows.length) : z_Ct l yX0_fact cX0_fact 4 (some .int) 4 G [.ref (z_b G + 11), .int (nI i), .int 1] h top (z_R (some (.int (zm_factAt s rows vals i 1))) h top) := by
  refine z_of (own := RX0) (nm := "fact") (by decide) rfl rfl (by decide) (Nat.le_of_ble_eq_true rfl) (fun X hX hq => ?_)
  replace hX : z_ok X cX0_fact 4 RX0 (some .int) "fact" 4 G := hX
  show z_Z X h top 0 [(0, .ref (z_b G + 11)), (1, .int (nI i)), (2, .int 1)] []
  have H := J.1.1
  have hbk := H.bk
  have hl6 := H.l6
  rw [J.1.len.1] at hl6
  have hl61 := hl6.1
  have h225 := J.1.len.2
  obtain ⟨p, hqi, hvi, hrw, k9, hp1⟩ := J.at hvl hlt
  have hps := H.pas hp1
  obtain ⟨hx1, hx2⟩ := zm_sg_at (H.2.2.2.1.2 p (List.mem_of_getElem? hp1))
  have hxs := H.seg hx1
  rw [hx2] at hxs
  refine r_iload_n hX rfl 1 rfl dX0_fact_0 ?_
  refine r_if_lt (tgt := 15) hX dX0_fact_1 rfl (fun c => False.elim (nI_pos (by omega) c)) (fun _ => ?_)
  refine r_iload_n hX rfl 1 rfl dX0_fact_4 ?_
  refine r_aload_n hX rfl 0 rfl dX0_fact_5 ?_
  refine r_getf hX fl_X0_21 hbk rfl dX0_fact_6 ?_
  refine r_callVR (As := []) (rest := [.int (nI i)]) (rv := some (.int (nI rows.length))) (st1 := [.int (nI rows.length), .int (nI i)]) hX cs_X0_27 (by decide) (fun l => z_size hl6 l) hl61 rfl rfl rfl rfl (Nat.le_of_ble_eq_true rfl) dX0_fact_9 ?_
  refine r_icmp_lt (tgt := 17) hX dX0_fact_12 rfl (fun _ => ?_) (fun c => False.elim (absurd (nI_lt hlt (by omega)) c))
  refine r_aload_n hX rfl 0 rfl dX0_fact_17 ?_
  refine r_getf hX fl_X0_21 hbk rfl dX0_fact_18 ?_
  refine r_iload_n hX rfl 1 rfl dX0_fact_21 ?_
  refine r_callVR (As := [.int (nI i)]) (rest := []) (rv := some (.ref p.1)) (st1 := [.ref p.1]) hX cs_X0_55 (by decide) (fun l => z_get hl6 hlt hrw l) hl61 rfl rfl rfl rfl (Nat.le_of_ble_eq_true rfl) dX0_fact_22 ?_
  refine r_cast (ci := 3) hX rfl hps cl_X0_89 dX0_fact_25 ?_
  refine r_astore_n (lv' := [(3, .ref p.1), (0, .ref (z_b G + 11)), (1, .int (nI i)), (2, .int 1)]) hX rfl (by decide) rfl dX0_fact_28 ?_
  refine r_iload_n hX rfl 3 rfl dX0_fact_29 ?_
  refine r_tableIn (off := 38) (tgt := 68) hX (by decide) (by decide) (by decide) rfl dX0_fact_30 ?_
  refine r_aload_n hX rfl 0 rfl dX0_fact_68 ?_
  refine r_getf hX fl_X0_88 hps rfl dX0_fact_69 ?_
  exact r_iret hX hq ⟨by simp [zm_factAt, zm_fact, zm_q, hqi, hvi], rfl, rfl⟩ dX0_fact_72

set_option maxRecDepth 20000 in
set_option maxHeartbeats 4000000 in
theorem c_fact_2 (l : Launch) (G : zG) (h : zH) (top : Nat) (s : zS) (rch : Nat → Int32) (ct : Int32) (be : zB) (rows : List zQ) (RI : List Nat) (vals : List (Int32 × Int32)) (J : z_DC G s rch ct be rows RI vals h top) (hvl : vals.length = rows.length) (i : Nat) (hlt : i < rows.length) : z_Ct l yX0_fact cX0_fact 4 (some .int) 4 G [.ref (z_b G + 11), .int (nI i), .int 2] h top (z_R (some (.int (zm_factAt s rows vals i 2))) h top) := by
  refine z_of (own := RX0) (nm := "fact") (by decide) rfl rfl (by decide) (Nat.le_of_ble_eq_true rfl) (fun X hX hq => ?_)
  replace hX : z_ok X cX0_fact 4 RX0 (some .int) "fact" 4 G := hX
  show z_Z X h top 0 [(0, .ref (z_b G + 11)), (1, .int (nI i)), (2, .int 2)] []
  have H := J.1.1
  have hbk := H.bk
  have hl6 := H.l6
  rw [J.1.len.1] at hl6
  have hl61 := hl6.1
  have h225 := J.1.len.2
  obtain ⟨p, hqi, hvi, hrw, k9, hp1⟩ := J.at hvl hlt
  have hps := H.pas hp1
  obtain ⟨hx1, hx2⟩ := zm_sg_at (H.2.2.2.1.2 p (List.mem_of_getElem? hp1))
  have hxs := H.seg hx1
  rw [hx2] at hxs
  refine r_iload_n hX rfl 1 rfl dX0_fact_0 ?_
  refine r_if_lt (tgt := 15) hX dX0_fact_1 rfl (fun c => False.elim (nI_pos (by omega) c)) (fun _ => ?_)
  refine r_iload_n hX rfl 1 rfl dX0_fact_4 ?_
  refine r_aload_n hX rfl 0 rfl dX0_fact_5 ?_
  refine r_getf hX fl_X0_21 hbk rfl dX0_fact_6 ?_
  refine r_callVR (As := []) (rest := [.int (nI i)]) (rv := some (.int (nI rows.length))) (st1 := [.int (nI rows.length), .int (nI i)]) hX cs_X0_27 (by decide) (fun l => z_size hl6 l) hl61 rfl rfl rfl rfl (Nat.le_of_ble_eq_true rfl) dX0_fact_9 ?_
  refine r_icmp_lt (tgt := 17) hX dX0_fact_12 rfl (fun _ => ?_) (fun c => False.elim (absurd (nI_lt hlt (by omega)) c))
  refine r_aload_n hX rfl 0 rfl dX0_fact_17 ?_
  refine r_getf hX fl_X0_21 hbk rfl dX0_fact_18 ?_
  refine r_iload_n hX rfl 1 rfl dX0_fact_21 ?_
  refine r_callVR (As := [.int (nI i)]) (rest := []) (rv := some (.ref p.1)) (st1 := [.ref p.1]) hX cs_X0_55 (by decide) (fun l => z_get hl6 hlt hrw l) hl61 rfl rfl rfl rfl (Nat.le_of_ble_eq_true rfl) dX0_fact_22 ?_
  refine r_cast (ci := 3) hX rfl hps cl_X0_89 dX0_fact_25 ?_
  refine r_astore_n (lv' := [(3, .ref p.1), (0, .ref (z_b G + 11)), (1, .int (nI i)), (2, .int 2)]) hX rfl (by decide) rfl dX0_fact_28 ?_
  refine r_iload_n hX rfl 3 rfl dX0_fact_29 ?_
  refine r_tableIn (off := 43) (tgt := 73) hX (by decide) (by decide) (by decide) rfl dX0_fact_30 ?_
  refine r_aload_n hX rfl 0 rfl dX0_fact_73 ?_
  refine r_getf hX fl_X0_164 hps rfl dX0_fact_74 ?_
  exact r_iret hX hq ⟨by simp [zm_factAt, zm_fact, zm_q, hqi, hvi], rfl, rfl⟩ dX0_fact_77

set_option maxRecDepth 20000 in
set_option maxHeartbeats 4000000 in
theorem c_fact_3 (l : Launch) (G : zG) (h : zH) (top : Nat) (s : zS) (rch : Nat → Int32) (ct : Int32) (be : zB) (rows : List zQ) (RI : List Nat) (vals : List (Int32 × Int32)) (J : z_DC G s rch ct be rows RI vals h top) (hvl : vals.length = rows.length) (i : Nat) (hlt : i < rows.length) : z_Ct l yX0_fact cX0_fact 4 (some .int) 4 G [.ref (z_b G + 11), .int (nI i), .int 3] h top (z_R (some (.int (zm_factAt s rows vals i 3))) h top) := by
  refine z_of (own := RX0) (nm := "fact") (by decide) rfl rfl (by decide) (Nat.le_of_ble_eq_true rfl) (fun X hX hq => ?_)
  replace hX : z_ok X cX0_fact 4 RX0 (some .int) "fact" 4 G := hX
  show z_Z X h top 0 [(0, .ref (z_b G + 11)), (1, .int (nI i)), (2, .int 3)] []
  have H := J.1.1
  have hbk := H.bk
  have hl6 := H.l6
  rw [J.1.len.1] at hl6
  have hl61 := hl6.1
  have h225 := J.1.len.2
  obtain ⟨p, hqi, hvi, hrw, k9, hp1⟩ := J.at hvl hlt
  have hps := H.pas hp1
  obtain ⟨hx1, hx2⟩ := zm_sg_at (H.2.2.2.1.2 p (List.mem_of_getElem? hp1))
  have hxs := H.seg hx1
  rw [hx2] at hxs
  refine r_iload_n hX rfl 1 rfl dX0_fact_0 ?_
  refine r_if_lt (tgt := 15) hX dX0_fact_1 rfl (fun c => False.elim (nI_pos (by omega) c)) (fun _ => ?_)
  refine r_iload_n hX rfl 1 rfl dX0_fact_4 ?_
  refine r_aload_n hX rfl 0 rfl dX0_fact_5 ?_
  refine r_getf hX fl_X0_21 hbk rfl dX0_fact_6 ?_
  refine r_callVR (As := []) (rest := [.int (nI i)]) (rv := some (.int (nI rows.length))) (st1 := [.int (nI rows.length), .int (nI i)]) hX cs_X0_27 (by decide) (fun l => z_size hl6 l) hl61 rfl rfl rfl rfl (Nat.le_of_ble_eq_true rfl) dX0_fact_9 ?_
  refine r_icmp_lt (tgt := 17) hX dX0_fact_12 rfl (fun _ => ?_) (fun c => False.elim (absurd (nI_lt hlt (by omega)) c))
  refine r_aload_n hX rfl 0 rfl dX0_fact_17 ?_
  refine r_getf hX fl_X0_21 hbk rfl dX0_fact_18 ?_
  refine r_iload_n hX rfl 1 rfl dX0_fact_21 ?_
  refine r_callVR (As := [.int (nI i)]) (rest := []) (rv := some (.ref p.1)) (st1 := [.ref p.1]) hX cs_X0_55 (by decide) (fun l => z_get hl6 hlt hrw l) hl61 rfl rfl rfl rfl (Nat.le_of_ble_eq_true rfl) dX0_fact_22 ?_
  refine r_cast (ci := 3) hX rfl hps cl_X0_89 dX0_fact_25 ?_
  refine r_astore_n (lv' := [(3, .ref p.1), (0, .ref (z_b G + 11)), (1, .int (nI i)), (2, .int 3)]) hX rfl (by decide) rfl dX0_fact_28 ?_
  refine r_iload_n hX rfl 3 rfl dX0_fact_29 ?_
  refine r_tableIn (off := 48) (tgt := 78) hX (by decide) (by decide) (by decide) rfl dX0_fact_30 ?_
  refine r_aload_n hX rfl 0 rfl dX0_fact_78 ?_
  refine r_getf hX fl_X0_144 hps rfl dX0_fact_79 ?_
  exact r_iret hX hq ⟨by simp [zm_factAt, zm_fact, zm_q, hqi, hvi], rfl, rfl⟩ dX0_fact_82

set_option maxRecDepth 20000 in
set_option maxHeartbeats 4000000 in
theorem c_fact_4 (l : Launch) (G : zG) (h : zH) (top : Nat) (s : zS) (rch : Nat → Int32) (ct : Int32) (be : zB) (rows : List zQ) (RI : List Nat) (vals : List (Int32 × Int32)) (J : z_DC G s rch ct be rows RI vals h top) (hvl : vals.length = rows.length) (i : Nat) (hlt : i < rows.length) : z_Ct l yX0_fact cX0_fact 4 (some .int) 4 G [.ref (z_b G + 11), .int (nI i), .int 4] h top (z_R (some (.int (zm_factAt s rows vals i 4))) h top) := by
  refine z_of (own := RX0) (nm := "fact") (by decide) rfl rfl (by decide) (Nat.le_of_ble_eq_true rfl) (fun X hX hq => ?_)
  replace hX : z_ok X cX0_fact 4 RX0 (some .int) "fact" 4 G := hX
  show z_Z X h top 0 [(0, .ref (z_b G + 11)), (1, .int (nI i)), (2, .int 4)] []
  have H := J.1.1
  have hbk := H.bk
  have hl6 := H.l6
  rw [J.1.len.1] at hl6
  have hl61 := hl6.1
  have h225 := J.1.len.2
  obtain ⟨p, hqi, hvi, hrw, k9, hp1⟩ := J.at hvl hlt
  have hps := H.pas hp1
  obtain ⟨hx1, hx2⟩ := zm_sg_at (H.2.2.2.1.2 p (List.mem_of_getElem? hp1))
  have hxs := H.seg hx1
  rw [hx2] at hxs
  refine r_iload_n hX rfl 1 rfl dX0_fact_0 ?_
  refine r_if_lt (tgt := 15) hX dX0_fact_1 rfl (fun c => False.elim (nI_pos (by omega) c)) (fun _ => ?_)
  refine r_iload_n hX rfl 1 rfl dX0_fact_4 ?_
  refine r_aload_n hX rfl 0 rfl dX0_fact_5 ?_
  refine r_getf hX fl_X0_21 hbk rfl dX0_fact_6 ?_
  refine r_callVR (As := []) (rest := [.int (nI i)]) (rv := some (.int (nI rows.length))) (st1 := [.int (nI rows.length), .int (nI i)]) hX cs_X0_27 (by decide) (fun l => z_size hl6 l) hl61 rfl rfl rfl rfl (Nat.le_of_ble_eq_true rfl) dX0_fact_9 ?_
  refine r_icmp_lt (tgt := 17) hX dX0_fact_12 rfl (fun _ => ?_) (fun c => False.elim (absurd (nI_lt hlt (by omega)) c))
  refine r_aload_n hX rfl 0 rfl dX0_fact_17 ?_
  refine r_getf hX fl_X0_21 hbk rfl dX0_fact_18 ?_
  refine r_iload_n hX rfl 1 rfl dX0_fact_21 ?_
  refine r_callVR (As := [.int (nI i)]) (rest := []) (rv := some (.ref p.1)) (st1 := [.ref p.1]) hX cs_X0_55 (by decide) (fun l => z_get hl6 hlt hrw l) hl61 rfl rfl rfl rfl (Nat.le_of_ble_eq_true rfl) dX0_fact_22 ?_
  refine r_cast (ci := 3) hX rfl hps cl_X0_89 dX0_fact_25 ?_
  refine r_astore_n (lv' := [(3, .ref p.1), (0, .ref (z_b G + 11)), (1, .int (nI i)), (2, .int 4)]) hX rfl (by decide) rfl dX0_fact_28 ?_
  refine r_iload_n hX rfl 3 rfl dX0_fact_29 ?_
  refine r_tableOut (tgt := 83) hX (by decide) rfl dX0_fact_30 ?_
  refine r_aload_n hX rfl 0 rfl dX0_fact_83 ?_
  refine r_getf hX fl_X0_151 hps rfl dX0_fact_84 ?_
  exact r_iret hX hq ⟨by simp [zm_factAt, zm_fact, zm_q, hqi, hvi], rfl, rfl⟩ dX0_fact_87

theorem zm_what5 {x : Int32} (h1 : 0 ≤ x) (h2 : x ≤ 4) : x = 0 ∨ x = 1 ∨ x = 2 ∨ x = 3 ∨ x = 4 := by
  have e0 : (0 : Int32).toInt = 0 := by decide
  have e1 : (1 : Int32).toInt = 1 := by decide
  have e2 : (2 : Int32).toInt = 2 := by decide
  have e3 : (3 : Int32).toInt = 3 := by decide
  have e4 : (4 : Int32).toInt = 4 := by decide
  rw [Int32.le_iff_toInt_le, e0] at h1
  rw [Int32.le_iff_toInt_le, e4] at h2
  rcases (show x.toInt = 0 ∨ x.toInt = 1 ∨ x.toInt = 2 ∨ x.toInt = 3 ∨ x.toInt = 4 by omega) with w | w | w | w | w
  · exact Or.inl (Int32.toInt_inj.mp (w.trans e0.symm))
  · exact Or.inr (Or.inl (Int32.toInt_inj.mp (w.trans e1.symm)))
  · exact Or.inr (Or.inr (Or.inl (Int32.toInt_inj.mp (w.trans e2.symm))))
  · exact Or.inr (Or.inr (Or.inr (Or.inl (Int32.toInt_inj.mp (w.trans e3.symm)))))
  · exact Or.inr (Or.inr (Or.inr (Or.inr (Int32.toInt_inj.mp (w.trans e4.symm)))))
theorem c_fact (l : Launch) (G : zG) (h : zH) (top : Nat) (s : zS) (rch : Nat → Int32) (ct : Int32) (be : zB) (rows : List zQ) (RI : List Nat) (vals : List (Int32 × Int32)) (J : z_DC G s rch ct be rows RI vals h top) (hvl : vals.length = rows.length) (i : Nat) (hlt : i < rows.length) (what : Int32) (h0 : 0 ≤ what) (h4 : what ≤ 4) : z_Ct l yX0_fact cX0_fact 4 (some .int) 4 G [.ref (z_b G + 11), .int (nI i), .int what] h top (z_R (some (.int (zm_factAt s rows vals i what))) h top) := by
  rcases zm_what5 h0 h4 with rfl | rfl | rfl | rfl | rfl
  · exact c_fact_0 l G h top s rch ct be rows RI vals J hvl i hlt
  · exact c_fact_1 l G h top s rch ct be rows RI vals J hvl i hlt
  · exact c_fact_2 l G h top s rch ct be rows RI vals J hvl i hlt
  · exact c_fact_3 l G h top s rch ct be rows RI vals J hvl i hlt
  · exact c_fact_4 l G h top s rch ct be rows RI vals J hvl i hlt
def zm_jnew (s : zS) (o : Option zQ) (q : zQ) : Bool := match o with
  | none => true
  | some a => !(decide ((zm_sg (s_segs s) a.1).2.2.1 = (zm_sg (s_segs s) q.1).2.1) && decide (q.2.1 - a.2.1 ≤ 120))
def zm_jrStep (s : zS) (acc : Option zQ × Int32) (q : zQ) : Option zQ × Int32 := (some q, if zm_jnew s acc.1 q = true then acc.2 + 1 else acc.2)
def zm_jcount (s : zS) (c : Nat) (rows : List zQ) : Int32 := ((rows.take c).foldl (zm_jrStep s) (none, 0)).2
def zm_bg (sg : Nat) (minute : Int32) (q : zQ) : Bool := decide (q.1 = sg) && (decide (0 < q.2.2.1) && zf_isIn (minute - q.2.1) 0 15)
def zm_begun (c : Nat) (rows : List zQ) (sg : Nat) (minute : Int32) : Bool := (rows.take c).any (zm_bg sg minute)
set_option maxRecDepth 20000 in
set_option maxHeartbeats 4000000 in
theorem f_jrN {X : zX} {G : zG} {h : zH} {top : Nat} {Post : Option Value → zH → Nat → Prop} (s : zS) (rch : Nat → Int32) (c0 : Nat) (be : zB) (rows : List zQ) (RI : List Nat) (J : z_DK G s rch (nI c0) be rows RI h top) (hcr : c0 ≤ rows.length) (i : Nat) (hic : i < c0) (cnt : Int32) (ih : ∀ (p : zPas) (cnt2 : Int32), rows[i]? = some (zm_q p) → (∃ k : Nat, (b_pool be)[k]? = some p) → cnt2 = (zm_jrStep s (none, cnt) (zm_q p)).2 → z_Z X h top 6 [(3, .int (nI (i + 1))), (2, .ref p.1), (1, .int cnt2), (0, .ref (z_b G + 11))] []) (hX : z_ok X cX0_journeyCount 5 RX0 (some .int) "journeyCount" 4 G) (hq : z_mq X (Post)) : z_Z X h top 6 [(3, .int (nI i)), (2, .null), (1, .int cnt), (0, .ref (z_b G + 11))] [] := by
  have H := J.1
  have hbk : z_at G h top (z_b G + 11) (.inr (1, [.ref (z_b G + 12), .ref (z_b G + 13), .ref (z_b G + 14), .ref (z_b G + 15), .int (b_pu be), .int (nI c0)])) := by
    have q := J.1.bk
    unfold z_bkC at q
    rw [J.2.2.2] at q
    exact q
  have hl6 := H.l6
  rw [J.len.1] at hl6
  have hl61 := hl6.1
  have h225 := J.len.2
  have hlt : i < rows.length := by omega
  obtain ⟨k9, p, hRI, hp1, hpq, hrw⟩ := J.at (List.getElem?_eq_getElem hlt)
  have hps := H.pas hp1
  obtain ⟨hx1, hx2⟩ := zm_sg_at (H.2.2.2.1.2 p (List.mem_of_getElem? hp1))
  have hxs := H.seg hx1
  rw [hx2] at hxs
  have hqi : rows[i]? = some (zm_q p) := by rw [hpq]; exact List.getElem?_eq_getElem hlt
  refine r_iload_n hX rfl 0 rfl dX0_journeyCount_6 ?_
  refine r_aload_n hX rfl 3 rfl dX0_journeyCount_7 ?_
  refine r_getf hX fl_X0_49 hbk rfl dX0_journeyCount_8 ?_
  refine r_icmp_ge (tgt := 87) hX dX0_journeyCount_11 rfl (fun c => False.elim (absurd c (nI_ge hic (by omega)))) (fun _ => ?_)
  refine r_iload_n hX rfl 0 rfl dX0_journeyCount_14 ?_
  refine r_aload_n hX rfl 3 rfl dX0_journeyCount_15 ?_
  refine r_getf hX fl_X0_21 hbk rfl dX0_journeyCount_16 ?_
  refine r_callVR (As := []) (rest := [.int (nI i)]) (rv := some (.int (nI rows.length))) (st1 := [.int (nI rows.length), .int (nI i)]) hX cs_X0_27 (by decide) (fun l => z_size hl6 l) hl61 rfl rfl rfl rfl (Nat.le_of_ble_eq_true rfl) dX0_journeyCount_19 ?_
  refine r_icmp_ge (tgt := 87) hX dX0_journeyCount_22 rfl (fun c => False.elim (absurd c (nI_ge (show i < rows.length by omega) (by omega)))) (fun _ => ?_)
  refine r_aload_n hX rfl 3 rfl dX0_journeyCount_25 ?_
  refine r_getf hX fl_X0_21 hbk rfl dX0_journeyCount_26 ?_
  refine r_iload_n hX rfl 0 rfl dX0_journeyCount_29 ?_
  refine r_callVR (As := [.int (nI i)]) (rest := []) (rv := some (.ref p.1)) (st1 := [.ref p.1]) hX cs_X0_55 (by decide) (fun l => z_get hl6 hlt hrw l) hl61 rfl rfl rfl rfl (Nat.le_of_ble_eq_true rfl) dX0_journeyCount_30 ?_
  refine r_cast (ci := 3) hX rfl hps cl_X0_89 dX0_journeyCount_33 ?_
  refine r_astore (lv' := [(4, .ref p.1), (3, .int (nI i)), (2, .null), (1, .int cnt), (0, .ref (z_b G + 11))]) hX (by decide) rfl dX0_journeyCount_36 ?_
  refine r_aload_nN hX rfl 2 rfl dX0_journeyCount_38 ?_
  refine r_ifnullN (tgt := 75) hX rfl dX0_journeyCount_39 ?_
  refine r_iinc (q := 3) (lv' := [(1, .int (cnt + 1)), (4, .ref p.1), (3, .int (nI i)), (2, .null), (0, .ref (z_b G + 11))]) hX rfl rfl (by decide) rfl dX0_journeyCount_75 ?_
  refine r_aload hX 1 rfl dX0_journeyCount_78 ?_
  refine r_astore_n (lv' := [(2, .ref p.1), (1, .int (cnt + 1)), (4, .ref p.1), (3, .int (nI i)), (0, .ref (z_b G + 11))]) hX rfl (by decide) rfl dX0_journeyCount_80 ?_
  refine r_iinc (q := 3) (lv' := [(3, .int ((nI i) + 1)), (2, .ref p.1), (1, .int (cnt + 1)), (4, .ref p.1), (0, .ref (z_b G + 11))]) hX rfl rfl (by decide) rfl dX0_journeyCount_81 ?_
  refine r_goto (tgt := 6) hX rfl dX0_journeyCount_84 ?_
  refine r_lv [0, 1, 2, 4] (lv2 := [(3, .int (nI i + 1)), (2, .ref p.1), (1, .int (cnt + 1)), (0, .ref (z_b G + 11))]) rfl ?_
  rw [nI_1]
  exact ih p _ hqi ⟨k9, hp1⟩ rfl

set_option maxRecDepth 20000 in
set_option maxHeartbeats 4000000 in
theorem f_jrS {X : zX} {G : zG} {h : zH} {top : Nat} {Post : Option Value → zH → Nat → Prop} (s : zS) (rch : Nat → Int32) (c0 : Nat) (be : zB) (rows : List zQ) (RI : List Nat) (J : z_DK G s rch (nI c0) be rows RI h top) (hcr : c0 ≤ rows.length) (i : Nat) (hic : i < c0) (cnt : Int32) (pa : zPas) (ka : Nat) (hpa : (b_pool be)[ka]? = some pa) (ih : ∀ (p : zPas) (cnt2 : Int32), rows[i]? = some (zm_q p) → (∃ k : Nat, (b_pool be)[k]? = some p) → cnt2 = (zm_jrStep s (some (zm_q pa), cnt) (zm_q p)).2 → z_Z X h top 6 [(3, .int (nI (i + 1))), (2, .ref p.1), (1, .int cnt2), (0, .ref (z_b G + 11))] []) (hX : z_ok X cX0_journeyCount 5 RX0 (some .int) "journeyCount" 4 G) (hq : z_mq X (Post)) : z_Z X h top 6 [(3, .int (nI i)), (2, .ref pa.1), (1, .int cnt), (0, .ref (z_b G + 11))] [] := by
  have H := J.1
  have hbk : z_at G h top (z_b G + 11) (.inr (1, [.ref (z_b G + 12), .ref (z_b G + 13), .ref (z_b G + 14), .ref (z_b G + 15), .int (b_pu be), .int (nI c0)])) := by
    have q := J.1.bk
    unfold z_bkC at q
    rw [J.2.2.2] at q
    exact q
  have hl6 := H.l6
  rw [J.len.1] at hl6
  have hl61 := hl6.1
  have h225 := J.len.2
  have hlt : i < rows.length := by omega
  obtain ⟨k9, p, hRI, hp1, hpq, hrw⟩ := J.at (List.getElem?_eq_getElem hlt)
  have hps := H.pas hp1
  obtain ⟨hx1, hx2⟩ := zm_sg_at (H.2.2.2.1.2 p (List.mem_of_getElem? hp1))
  have hxs := H.seg hx1
  rw [hx2] at hxs
  have hqi : rows[i]? = some (zm_q p) := by rw [hpq]; exact List.getElem?_eq_getElem hlt
  have hpsa := H.pas hpa
  obtain ⟨hy1, hy2⟩ := zm_sg_at (H.2.2.2.1.2 pa (List.mem_of_getElem? hpa))
  have hys := H.seg hy1
  rw [hy2] at hys
  refine r_iload_n hX rfl 0 rfl dX0_journeyCount_6 ?_
  refine r_aload_n hX rfl 3 rfl dX0_journeyCount_7 ?_
  refine r_getf hX fl_X0_49 hbk rfl dX0_journeyCount_8 ?_
  refine r_icmp_ge (tgt := 87) hX dX0_journeyCount_11 rfl (fun c => False.elim (absurd c (nI_ge hic (by omega)))) (fun _ => ?_)
  refine r_iload_n hX rfl 0 rfl dX0_journeyCount_14 ?_
  refine r_aload_n hX rfl 3 rfl dX0_journeyCount_15 ?_
  refine r_getf hX fl_X0_21 hbk rfl dX0_journeyCount_16 ?_
  refine r_callVR (As := []) (rest := [.int (nI i)]) (rv := some (.int (nI rows.length))) (st1 := [.int (nI rows.length), .int (nI i)]) hX cs_X0_27 (by decide) (fun l => z_size hl6 l) hl61 rfl rfl rfl rfl (Nat.le_of_ble_eq_true rfl) dX0_journeyCount_19 ?_
  refine r_icmp_ge (tgt := 87) hX dX0_journeyCount_22 rfl (fun c => False.elim (absurd c (nI_ge (show i < rows.length by omega) (by omega)))) (fun _ => ?_)
  refine r_aload_n hX rfl 3 rfl dX0_journeyCount_25 ?_
  refine r_getf hX fl_X0_21 hbk rfl dX0_journeyCount_26 ?_
  refine r_iload_n hX rfl 0 rfl dX0_journeyCount_29 ?_
  refine r_callVR (As := [.int (nI i)]) (rest := []) (rv := some (.ref p.1)) (st1 := [.ref p.1]) hX cs_X0_55 (by decide) (fun l => z_get hl6 hlt hrw l) hl61 rfl rfl rfl rfl (Nat.le_of_ble_eq_true rfl) dX0_journeyCount_30 ?_
  refine r_cast (ci := 3) hX rfl hps cl_X0_89 dX0_journeyCount_33 ?_
  refine r_astore (lv' := [(4, .ref p.1), (3, .int (nI i)), (2, .ref pa.1), (1, .int cnt), (0, .ref (z_b G + 11))]) hX (by decide) rfl dX0_journeyCount_36 ?_
  refine r_aload_n hX rfl 2 rfl dX0_journeyCount_38 ?_
  refine r_ifnull hX dX0_journeyCount_39 ?_
  refine r_aload_n hX rfl 2 rfl dX0_journeyCount_42 ?_
  refine r_getf hX fl_X0_102 hpsa rfl dX0_journeyCount_43 ?_
  refine r_getf hX fl_X0_117 hys rfl dX0_journeyCount_46 ?_
  refine r_aload hX 0 rfl dX0_journeyCount_49 ?_
  refine r_getf hX fl_X0_102 hps rfl dX0_journeyCount_51 ?_
  refine r_getf hX fl_X0_122 hxs rfl dX0_journeyCount_54 ?_
  refine r_icmp_ne (tgt := 75) hX dX0_journeyCount_57 rfl (fun c57 => ?_) (fun c57 => ?_)
  · skip
    refine r_iinc (q := 3) (lv' := [(1, .int (cnt + 1)), (4, .ref p.1), (3, .int (nI i)), (2, .ref pa.1), (0, .ref (z_b G + 11))]) hX rfl rfl (by decide) rfl dX0_journeyCount_75 ?_
    refine r_aload hX 1 rfl dX0_journeyCount_78 ?_
    refine r_astore_n (lv' := [(2, .ref p.1), (1, .int (cnt + 1)), (4, .ref p.1), (3, .int (nI i)), (0, .ref (z_b G + 11))]) hX rfl (by decide) rfl dX0_journeyCount_80 ?_
    refine r_iinc (q := 3) (lv' := [(3, .int ((nI i) + 1)), (2, .ref p.1), (1, .int (cnt + 1)), (4, .ref p.1), (0, .ref (z_b G + 11))]) hX rfl rfl (by decide) rfl dX0_journeyCount_81 ?_
    refine r_goto (tgt := 6) hX rfl dX0_journeyCount_84 ?_
    refine r_lv [0, 1, 2, 4] (lv2 := [(3, .int (nI i + 1)), (2, .ref p.1), (1, .int (cnt + 1)), (0, .ref (z_b G + 11))]) rfl ?_
    rw [nI_1]
    exact ih p _ hqi ⟨k9, hp1⟩ (Eq.symm (if_pos (by simp only [zm_jnew, Bool.not_eq_true', Bool.and_eq_false_iff, decide_eq_false_iff_not]; first | exact Or.inl c57 | exact Or.inr c72)))
  · skip
    refine r_aload hX 0 rfl dX0_journeyCount_60 ?_
    refine r_getf hX fl_X0_88 hps rfl dX0_journeyCount_62 ?_
    refine r_aload_n hX rfl 2 rfl dX0_journeyCount_65 ?_
    refine r_getf hX fl_X0_88 hpsa rfl dX0_journeyCount_66 ?_
    refine r_isub hX dX0_journeyCount_69 ?_
    refine r_bipush (v := 120) hX (by decide) dX0_journeyCount_70 ?_
    refine r_icmp_le (tgt := 78) hX dX0_journeyCount_72 rfl (fun c72 => ?_) (fun c72 => ?_)
    · skip
      refine r_aload hX 0 rfl dX0_journeyCount_78 ?_
      refine r_astore_n (lv' := [(2, .ref p.1), (4, .ref p.1), (3, .int (nI i)), (1, .int cnt), (0, .ref (z_b G + 11))]) hX rfl (by decide) rfl dX0_journeyCount_80 ?_
      refine r_iinc (q := 2) (lv' := [(3, .int ((nI i) + 1)), (2, .ref p.1), (4, .ref p.1), (1, .int cnt), (0, .ref (z_b G + 11))]) hX rfl rfl (by decide) rfl dX0_journeyCount_81 ?_
      refine r_goto (tgt := 6) hX rfl dX0_journeyCount_84 ?_
      refine r_lv [0, 1, 3, 4] (lv2 := [(3, .int (nI i + 1)), (2, .ref p.1), (1, .int cnt), (0, .ref (z_b G + 11))]) rfl ?_
      rw [nI_1]
      exact ih p _ hqi ⟨k9, hp1⟩ (Eq.symm (if_neg (by simp only [zm_jnew, Bool.not_eq_true', Bool.and_eq_false_iff, decide_eq_false_iff_not, not_or, Decidable.not_not]; exact ⟨by first | exact c57 | exact Decidable.not_not.mp c57, c72⟩)))
    · skip
      refine r_iinc (q := 3) (lv' := [(1, .int (cnt + 1)), (4, .ref p.1), (3, .int (nI i)), (2, .ref pa.1), (0, .ref (z_b G + 11))]) hX rfl rfl (by decide) rfl dX0_journeyCount_75 ?_
      refine r_aload hX 1 rfl dX0_journeyCount_78 ?_
      refine r_astore_n (lv' := [(2, .ref p.1), (1, .int (cnt + 1)), (4, .ref p.1), (3, .int (nI i)), (0, .ref (z_b G + 11))]) hX rfl (by decide) rfl dX0_journeyCount_80 ?_
      refine r_iinc (q := 3) (lv' := [(3, .int ((nI i) + 1)), (2, .ref p.1), (1, .int (cnt + 1)), (4, .ref p.1), (0, .ref (z_b G + 11))]) hX rfl rfl (by decide) rfl dX0_journeyCount_81 ?_
      refine r_goto (tgt := 6) hX rfl dX0_journeyCount_84 ?_
      refine r_lv [0, 1, 2, 4] (lv2 := [(3, .int (nI i + 1)), (2, .ref p.1), (1, .int (cnt + 1)), (0, .ref (z_b G + 11))]) rfl ?_
      rw [nI_1]
      exact ih p _ hqi ⟨k9, hp1⟩ (Eq.symm (if_pos (by simp only [zm_jnew, Bool.not_eq_true', Bool.and_eq_false_iff, decide_eq_false_iff_not]; first | exact Or.inl c57 | exact Or.inr c72)))

set_option maxRecDepth 20000 in
set_option maxHeartbeats 4000000 in
theorem f_jrNe {X : zX} {G : zG} {h : zH} {top : Nat} {Post : Option Value → zH → Nat → Prop} (s : zS) (rch : Nat → Int32) (c0 : Nat) (be : zB) (rows : List zQ) (RI : List Nat) (J : z_DK G s rch (nI c0) be rows RI h top) (hcr : c0 ≤ rows.length) (i : Nat) (hic : c0 ≤ i) (hi : i ≤ 225) (cnt : Int32) (hp : Post (some (.int cnt)) h top) (hX : z_ok X cX0_journeyCount 5 RX0 (some .int) "journeyCount" 4 G) (hq : z_mq X (Post)) : z_Z X h top 6 [(3, .int (nI i)), (2, .null), (1, .int cnt), (0, .ref (z_b G + 11))] [] := by
  have H := J.1
  have hbk : z_at G h top (z_b G + 11) (.inr (1, [.ref (z_b G + 12), .ref (z_b G + 13), .ref (z_b G + 14), .ref (z_b G + 15), .int (b_pu be), .int (nI c0)])) := by
    have q := J.1.bk
    unfold z_bkC at q
    rw [J.2.2.2] at q
    exact q
  have hl6 := H.l6
  rw [J.len.1] at hl6
  have hl61 := hl6.1
  have h225 := J.len.2
  refine r_iload_n hX rfl 0 rfl dX0_journeyCount_6 ?_
  refine r_aload_n hX rfl 3 rfl dX0_journeyCount_7 ?_
  refine r_getf hX fl_X0_49 hbk rfl dX0_journeyCount_8 ?_
  refine r_icmp_ge (tgt := 87) hX dX0_journeyCount_11 rfl (fun _ => ?_) (fun c => False.elim (c (nI_le hic (by omega))))
  refine r_iload_n hX rfl 2 rfl dX0_journeyCount_87 ?_
  exact r_iret hX hq hp dX0_journeyCount_88

set_option maxRecDepth 20000 in
set_option maxHeartbeats 4000000 in
theorem f_jrSe {X : zX} {G : zG} {h : zH} {top : Nat} {Post : Option Value → zH → Nat → Prop} (s : zS) (rch : Nat → Int32) (c0 : Nat) (be : zB) (rows : List zQ) (RI : List Nat) (J : z_DK G s rch (nI c0) be rows RI h top) (hcr : c0 ≤ rows.length) (i : Nat) (hic : c0 ≤ i) (hi : i ≤ 225) (cnt : Int32) (a : Nat) (hp : Post (some (.int cnt)) h top) (hX : z_ok X cX0_journeyCount 5 RX0 (some .int) "journeyCount" 4 G) (hq : z_mq X (Post)) : z_Z X h top 6 [(3, .int (nI i)), (2, .ref a), (1, .int cnt), (0, .ref (z_b G + 11))] [] := by
  have H := J.1
  have hbk : z_at G h top (z_b G + 11) (.inr (1, [.ref (z_b G + 12), .ref (z_b G + 13), .ref (z_b G + 14), .ref (z_b G + 15), .int (b_pu be), .int (nI c0)])) := by
    have q := J.1.bk
    unfold z_bkC at q
    rw [J.2.2.2] at q
    exact q
  have hl6 := H.l6
  rw [J.len.1] at hl6
  have hl61 := hl6.1
  have h225 := J.len.2
  refine r_iload_n hX rfl 0 rfl dX0_journeyCount_6 ?_
  refine r_aload_n hX rfl 3 rfl dX0_journeyCount_7 ?_
  refine r_getf hX fl_X0_49 hbk rfl dX0_journeyCount_8 ?_
  refine r_icmp_ge (tgt := 87) hX dX0_journeyCount_11 rfl (fun _ => ?_) (fun c => False.elim (c (nI_le hic (by omega))))
  refine r_iload_n hX rfl 2 rfl dX0_journeyCount_87 ?_
  exact r_iret hX hq hp dX0_journeyCount_88

theorem f_journeys {X : zX} {G : zG} {h : zH} {top : Nat} {Post : Option Value → zH → Nat → Prop} (s : zS) (rch : Nat → Int32) (c0 : Nat) (be : zB) (rows : List zQ) (RI : List Nat) (J : z_DK G s rch (nI c0) be rows RI h top) (hcr : c0 ≤ rows.length) (hp : ∀ {v : Int32}, v = zm_jcount s c0 rows → Post (some (.int v)) h top) (hX : z_ok X cX0_journeyCount 5 RX0 (some .int) "journeyCount" 4 G) (hq : z_mq X Post) : ∀ (k i : Nat) (o : Option zPas) (cnt : Int32), c0 - i < k → i ≤ c0 → (∀ p, o = some p → ∃ k : Nat, (b_pool be)[k]? = some p) → (o.map zm_q, cnt) = (rows.take i).foldl (zm_jrStep s) (none, 0) → z_Z X h top 6 [(3, .int (nI i)), (2, va_rf (o.map (fun x => x.1))), (1, .int cnt), (0, .ref (z_b G + 11))] [] := by
  intro k
  induction k with
  | zero => intros; omega
  | succ k ih =>
    intro i o cnt hk hi ho hf
    have h225 := J.len.2
    rcases Nat.lt_or_ge i c0 with hlt | hge
    · have hnx : ∀ (p : zPas) (cnt2 : Int32), rows[i]? = some (zm_q p) → (∃ k : Nat, (b_pool be)[k]? = some p) → cnt2 = (zm_jrStep s (o.map zm_q, cnt) (zm_q p)).2 → z_Z X h top 6 [(3, .int (nI (i + 1))), (2, .ref p.1), (1, .int cnt2), (0, .ref (z_b G + 11))] [] := fun p cnt2 w1 w2 w3 => ih (i + 1) (some p) cnt2 (by omega) (by omega) (fun p9 e => by cases e; exact w2) (by rw [zm_take _ _ _ w1, ← hf, w3]; rfl)
      cases o with
      | none => exact f_jrN s rch c0 be rows RI J hcr i hlt cnt hnx hX hq
      | some pa =>
        obtain ⟨ka, hpa⟩ := ho pa rfl
        exact f_jrS s rch c0 be rows RI J hcr i hlt cnt pa ka hpa hnx hX hq
    · have e : i = c0 := by omega
      have hpp := hp (v := cnt) (by rw [zm_jcount, ← e, ← hf])
      cases o with
      | none => exact f_jrNe s rch c0 be rows RI J hcr i hge (by omega) cnt hpp hX hq
      | some pa => exact f_jrSe s rch c0 be rows RI J hcr i hge (by omega) cnt pa.1 hpp hX hq
set_option maxRecDepth 20000 in
set_option maxHeartbeats 4000000 in
theorem c_X0_journeyCount (l : Launch) (G : zG) (h : zH) (top : Nat) (s : zS) (rch : Nat → Int32) (c0 : Nat) (be : zB) (rows : List zQ) (RI : List Nat) (J : z_DK G s rch (nI c0) be rows RI h top) (hcr : c0 ≤ rows.length) : z_Ct l yX0_journeyCount cX0_journeyCount 5 (some .int) 4 G [.ref (z_b G + 11)] h top (z_R (some (.int (zm_jcount s c0 rows))) h top) := by
  refine z_of (own := RX0) (nm := "journeyCount") (by decide) rfl rfl (by decide) (Nat.le_of_ble_eq_true rfl) (fun X hX hq => ?_)
  replace hX : z_ok X cX0_journeyCount 5 RX0 (some .int) "journeyCount" 4 G := hX
  show z_Z X h top 0 [(0, .ref (z_b G + 11))] []
  refine r_iconst (v := 0) hX (by decide) dX0_journeyCount_0 ?_
  refine r_istore_n (lv' := [(1, .int 0), (0, .ref (z_b G + 11))]) hX rfl (by decide) rfl dX0_journeyCount_1 ?_
  refine r_null hX dX0_journeyCount_2 ?_
  refine r_astore_nN (lv' := [(2, .null), (1, .int 0), (0, .ref (z_b G + 11))]) hX rfl (by decide) rfl dX0_journeyCount_3 ?_
  refine r_iconst (v := 0) hX (by decide) dX0_journeyCount_4 ?_
  refine r_istore_n (lv' := [(3, .int 0), (2, .null), (1, .int 0), (0, .ref (z_b G + 11))]) hX rfl (by decide) rfl dX0_journeyCount_5 ?_
  rw [← nI_0]
  refine r_lv [0, 1, 2, 3] (lv2 := [(3, .int (nI 0)), (2, .null), (1, .int (nI 0)), (0, .ref (z_b G + 11))]) rfl ?_
  exact f_journeys s rch c0 be rows RI J hcr (fun e => ⟨by rw [e], rfl, rfl⟩) hX hq (c0 + 1) 0 none (nI 0) (by omega) (by omega) (fun p9 e => by cases e) (by rw [nI_0]; rfl)

set_option maxRecDepth 20000 in
set_option maxHeartbeats 4000000 in
theorem f_bg_step {X : zX} {G : zG} {h : zH} {top : Nat} {Post : Option Value → zH → Nat → Prop} (s : zS) (rch : Nat → Int32) (c0 : Nat) (be : zB) (rows : List zQ) (RI : List Nat) (J : z_DK G s rch (nI c0) be rows RI h top) (hcr : c0 ≤ rows.length) (sg : Nat) (minute : Int32) (hp : ∀ {v : Int32}, v = zf_b (zm_begun c0 rows sg minute) → Post (some (.int v)) h top) (k i : Nat)  (hk : c0 - i < k + 1) (hi : i ≤ c0) (hinv : ∀ (j : Nat) (q : zQ), j < i → rows[j]? = some q → zm_bg sg minute q = false) (ih : ∀ (i : Nat) , c0 - i < k → i ≤ c0 → (∀ (j : Nat) (q : zQ), j < i → rows[j]? = some q → zm_bg sg minute q = false) → z_Z X h top 2 [(3, .int (nI i)), (0, .ref (z_b G + 11)), (1, .ref sg), (2, .int minute)] []) (hX : z_ok X cX0_hasBegun 5 RX0 (some .boolean) "hasBegun" 4 G) (hq : z_mq X (Post)) : z_Z X h top 2 [(3, .int (nI i)), (0, .ref (z_b G + 11)), (1, .ref sg), (2, .int minute)] [] := by
  have H := J.1
  have hbk : z_at G h top (z_b G + 11) (.inr (1, [.ref (z_b G + 12), .ref (z_b G + 13), .ref (z_b G + 14), .ref (z_b G + 15), .int (b_pu be), .int (nI c0)])) := by
    have q := J.1.bk
    unfold z_bkC at q
    rw [J.2.2.2] at q
    exact q
  have hl6 := H.l6
  rw [J.len.1] at hl6
  have hl61 := hl6.1
  have h225 := J.len.2
  refine r_iload_n hX rfl 0 rfl dX0_hasBegun_2 ?_
  refine r_aload_n hX rfl 1 rfl dX0_hasBegun_3 ?_
  refine r_getf hX fl_X0_49 hbk rfl dX0_hasBegun_4 ?_
  refine r_icmp_ge (tgt := 75) hX dX0_hasBegun_7 rfl (fun c7 => ?_) (fun c7 => ?_)
  · skip
    refine r_iconst (v := 0) hX (by decide) dX0_hasBegun_75 ?_
    exact r_zret hX hq (by decide) (hp (by
        rw [zm_begun, List.any_eq_false.mpr (fun q hq2 => ?_)]
        · rfl
        · obtain ⟨j, hj⟩ := List.getElem?_of_mem hq2
          have hjl := (List.getElem?_eq_some_iff.mp hj).1
          rw [List.length_take] at hjl
          have hjc : j < c0 := by omega
          rw [List.getElem?_take_of_lt hjc] at hj
          have hci : c0 ≤ i := (nI_leI (by omega) (by omega)).mp c7
          rw [hinv j q (by omega) hj]
          decide)) dX0_hasBegun_76
  · skip
    have hic : i < c0 := by
      rcases Nat.lt_or_ge i c0 with q | q
      · exact q
      · exact absurd (nI_le q (by omega)) c7
    have hlt : i < rows.length := by omega
    obtain ⟨k9, p, hRI, hp1, hpq, hrw⟩ := J.at (List.getElem?_eq_getElem hlt)
    have hps := H.pas hp1
    obtain ⟨hx1, hx2⟩ := zm_sg_at (H.2.2.2.1.2 p (List.mem_of_getElem? hp1))
    have hxs := H.seg hx1
    rw [hx2] at hxs
    have hqi : rows[i]? = some (zm_q p) := by rw [hpq]; exact List.getElem?_eq_getElem hlt
    refine r_iload_n hX rfl 0 rfl dX0_hasBegun_10 ?_
    refine r_aload_n hX rfl 1 rfl dX0_hasBegun_11 ?_
    refine r_getf hX fl_X0_21 hbk rfl dX0_hasBegun_12 ?_
    refine r_callVR (As := []) (rest := [.int (nI i)]) (rv := some (.int (nI rows.length))) (st1 := [.int (nI rows.length), .int (nI i)]) hX cs_X0_27 (by decide) (fun l => z_size hl6 l) hl61 rfl rfl rfl rfl (Nat.le_of_ble_eq_true rfl) dX0_hasBegun_15 ?_
    refine r_icmp_ge (tgt := 75) hX dX0_hasBegun_18 rfl (fun c => False.elim (absurd c (nI_ge hlt (by omega)))) (fun _ => ?_)
    refine r_aload_n hX rfl 1 rfl dX0_hasBegun_21 ?_
    refine r_getf hX fl_X0_21 hbk rfl dX0_hasBegun_22 ?_
    refine r_iload_n hX rfl 0 rfl dX0_hasBegun_25 ?_
    refine r_callVR (As := [.int (nI i)]) (rest := []) (rv := some (.ref p.1)) (st1 := [.ref p.1]) hX cs_X0_55 (by decide) (fun l => z_get hl6 hlt hrw l) hl61 rfl rfl rfl rfl (Nat.le_of_ble_eq_true rfl) dX0_hasBegun_26 ?_
    refine r_cast (ci := 3) hX rfl hps cl_X0_89 dX0_hasBegun_29 ?_
    refine r_astore (lv' := [(4, .ref p.1), (3, .int (nI i)), (0, .ref (z_b G + 11)), (1, .ref sg), (2, .int minute)]) hX (by decide) rfl dX0_hasBegun_32 ?_
    refine r_aload hX 0 rfl dX0_hasBegun_34 ?_
    refine r_getf hX fl_X0_102 hps rfl dX0_hasBegun_36 ?_
    refine r_aload_n hX rfl 3 rfl dX0_hasBegun_39 ?_
    refine r_acmp_ne (tgt := 69) hX dX0_hasBegun_40 rfl (fun c40 => ?_) (fun c40 => ?_)
    · skip
      refine r_iinc (q := 1) (lv' := [(3, .int ((nI i) + 1)), (4, .ref p.1), (0, .ref (z_b G + 11)), (1, .ref sg), (2, .int minute)]) hX rfl rfl (by decide) rfl dX0_hasBegun_69 ?_
      refine r_goto (tgt := 2) hX rfl dX0_hasBegun_72 ?_
      refine r_lv [0, 2, 3, 4] (lv2 := [(3, .int (nI i + 1)), (0, .ref (z_b G + 11)), (1, .ref sg), (2, .int minute)]) rfl ?_
      rw [nI_1]
      exact ih (i + 1) (by omega) (by omega) (fun j q hj hq2 => by
        rcases Nat.lt_or_ge j i with v | v
        · exact hinv j q v hq2
        · obtain rfl : j = i := by omega
          rw [hqi] at hq2
          cases hq2
          simp only [zm_bg, Bool.and_eq_false_iff, decide_eq_false_iff_not]; exact Or.inl c40)
    · skip
      refine r_aload hX 0 rfl dX0_hasBegun_43 ?_
      refine r_getf hX fl_X0_164 hps rfl dX0_hasBegun_45 ?_
      refine r_if_le (tgt := 69) hX dX0_hasBegun_48 rfl (fun c48 => ?_) (fun c48 => ?_)
      · skip
        refine r_iinc (q := 1) (lv' := [(3, .int ((nI i) + 1)), (4, .ref p.1), (0, .ref (z_b G + 11)), (1, .ref sg), (2, .int minute)]) hX rfl rfl (by decide) rfl dX0_hasBegun_69 ?_
        refine r_goto (tgt := 2) hX rfl dX0_hasBegun_72 ?_
        refine r_lv [0, 2, 3, 4] (lv2 := [(3, .int (nI i + 1)), (0, .ref (z_b G + 11)), (1, .ref sg), (2, .int minute)]) rfl ?_
        rw [nI_1]
        exact ih (i + 1) (by omega) (by omega) (fun j q hj hq2 => by
          rcases Nat.lt_or_ge j i with v | v
          · exact hinv j q v hq2
          · obtain rfl : j = i := by omega
            rw [hqi] at hq2
            cases hq2
            simp only [zm_bg, Bool.and_eq_false_iff, decide_eq_false_iff_not]; exact Or.inr (Or.inl (Int32.not_lt.mpr c48)))
      · skip
        refine r_iload_n hX rfl 4 rfl dX0_hasBegun_51 ?_
        refine r_aload hX 0 rfl dX0_hasBegun_52 ?_
        refine r_getf hX fl_X0_88 hps rfl dX0_hasBegun_54 ?_
        refine r_isub hX dX0_hasBegun_57 ?_
        refine r_iconst (v := 0) hX (by decide) dX0_hasBegun_58 ?_
        refine r_bipush (v := 15) hX (by decide) dX0_hasBegun_59 ?_
        refine r_callSNR (As := [.int (minute - p.2.2.1), .int 0, .int 15]) (rest := []) (rv := some (.int (zf_b (zf_isIn (minute - p.2.2.1) 0 15)))) (st1 := [.int (zf_b (zf_isIn (minute - p.2.2.1) 0 15))]) hX cs_X0_167 (by decide) (fun l => c_X8_isIn l G h top (minute - p.2.2.1) 0 15) rfl rfl rfl (Nat.le_of_ble_eq_true rfl) dX0_hasBegun_61 ?_
        refine r_if_eq (tgt := 69) hX dX0_hasBegun_64 rfl (fun c64 => ?_) (fun c64 => ?_)
        · skip
          refine r_iinc (q := 1) (lv' := [(3, .int ((nI i) + 1)), (4, .ref p.1), (0, .ref (z_b G + 11)), (1, .ref sg), (2, .int minute)]) hX rfl rfl (by decide) rfl dX0_hasBegun_69 ?_
          refine r_goto (tgt := 2) hX rfl dX0_hasBegun_72 ?_
          refine r_lv [0, 2, 3, 4] (lv2 := [(3, .int (nI i + 1)), (0, .ref (z_b G + 11)), (1, .ref sg), (2, .int minute)]) rfl ?_
          rw [nI_1]
          exact ih (i + 1) (by omega) (by omega) (fun j q hj hq2 => by
            rcases Nat.lt_or_ge j i with v | v
            · exact hinv j q v hq2
            · obtain rfl : j = i := by omega
              rw [hqi] at hq2
              cases hq2
              simp only [zm_bg, Bool.and_eq_false_iff, decide_eq_false_iff_not]; exact Or.inr (Or.inr (zf_b_e c64)))
        · skip
          refine r_iconst (v := 1) hX (by decide) dX0_hasBegun_67 ?_
          exact r_zret hX hq (by decide) (hp (by rw [zm_begun, List.any_eq_true.mpr ⟨zm_q p, List.mem_of_getElem? (by rw [List.getElem?_take_of_lt hic]; exact hqi), by simp only [zm_bg, Bool.and_eq_true, decide_eq_true_eq]; exact ⟨by first | exact c40 | exact Decidable.not_not.mp c40, Int32.not_le.mp c48, zf_b_ne c64⟩⟩]; rfl)) dX0_hasBegun_68

theorem f_bg {X : zX} {G : zG} {h : zH} {top : Nat} {Post : Option Value → zH → Nat → Prop} (s : zS) (rch : Nat → Int32) (c0 : Nat) (be : zB) (rows : List zQ) (RI : List Nat) (J : z_DK G s rch (nI c0) be rows RI h top) (hcr : c0 ≤ rows.length) (sg : Nat) (minute : Int32) (hp : ∀ {v : Int32}, v = zf_b (zm_begun c0 rows sg minute) → Post (some (.int v)) h top) (hX : z_ok X cX0_hasBegun 5 RX0 (some .boolean) "hasBegun" 4 G) (hq : z_mq X Post) : ∀ (k i : Nat) , c0 - i < k → i ≤ c0 → (∀ (j : Nat) (q : zQ), j < i → rows[j]? = some q → zm_bg sg minute q = false) → z_Z X h top 2 [(3, .int (nI i)), (0, .ref (z_b G + 11)), (1, .ref sg), (2, .int minute)] [] := by
  intro k
  induction k with
  | zero => intros; omega
  | succ k ih => intro i  hk hi hinv; exact f_bg_step s rch c0 be rows RI J hcr sg minute hp k i  hk hi hinv ih hX hq
set_option maxRecDepth 20000 in
set_option maxHeartbeats 4000000 in
theorem c_X0_hasBegun (l : Launch) (G : zG) (h : zH) (top : Nat) (s : zS) (rch : Nat → Int32) (c0 : Nat) (be : zB) (rows : List zQ) (RI : List Nat) (J : z_DK G s rch (nI c0) be rows RI h top) (hcr : c0 ≤ rows.length) (sg : Nat) (minute : Int32) : z_Ct l yX0_hasBegun cX0_hasBegun 5 (some .boolean) 4 G [.ref (z_b G + 11), .ref sg, .int minute] h top (z_R (some (.int (zf_b (zm_begun c0 rows sg minute)))) h top) := by
  refine z_of (own := RX0) (nm := "hasBegun") (by decide) rfl rfl (by decide) (Nat.le_of_ble_eq_true rfl) (fun X hX hq => ?_)
  replace hX : z_ok X cX0_hasBegun 5 RX0 (some .boolean) "hasBegun" 4 G := hX
  show z_Z X h top 0 [(0, .ref (z_b G + 11)), (1, .ref sg), (2, .int minute)] []
  refine r_iconst (v := 0) hX (by decide) dX0_hasBegun_0 ?_
  refine r_istore_n (lv' := [(3, .int 0), (0, .ref (z_b G + 11)), (1, .ref sg), (2, .int minute)]) hX rfl (by decide) rfl dX0_hasBegun_1 ?_
  rw [← nI_0]
  refine r_lv [0, 1, 2, 3] (lv2 := [(3, .int (nI 0)), (0, .ref (z_b G + 11)), (1, .ref sg), (2, .int minute)]) rfl ?_
  exact f_bg s rch c0 be rows RI J hcr sg minute (fun e => ⟨by rw [e], rfl, rfl⟩) hX hq (c0 + 1) 0 (by omega) (by omega) (fun j q hj => by omega)

