/-! what is asked of the hall -/
def zm_bs (vehs : List zVeh) : Nat → Int32
  | 0 => 0
  | k + 1 => match vehs[k]? with
    | none => zm_bs vehs k
    | some v => if zm_blocked v.2.1.2.2 v.2.2.1 = true then zm_bs vehs k ||| (1 <<< (nI k &&& 31)) else zm_bs vehs k
theorem zm_bs_s {vehs : List zVeh} {k : Nat} {v : zVeh} (h : vehs[k]? = some v) : zm_bs vehs (k + 1) = if zm_blocked v.2.1.2.2 v.2.2.1 = true then zm_bs vehs k ||| (1 <<< (nI k &&& 31)) else zm_bs vehs k := by
  show (match vehs[k]? with
    | none => zm_bs vehs k
    | some v => if zm_blocked v.2.1.2.2 v.2.2.1 = true then zm_bs vehs k ||| (1 <<< (nI k &&& 31)) else zm_bs vehs k) = _
  rw [h]
def zm_bset (s : zS) : Int32 := zm_bs (s_vehs s) (s_vehs s).length
def zm_vnum (vehs : List zVeh) (a : Nat) : Nat := vehs.findIdx (fun x => x.1 == a)
theorem zm_vnum_at {s : zS} {a : Nat} (h : z_isVeh s a) : ∃ x : zVeh, (s_vehs s)[zm_vnum (s_vehs s) a]? = some x ∧ x.1 = a := by
  obtain ⟨i, x, h1, h2⟩ := h
  have hm : x ∈ s_vehs s := List.mem_of_getElem? h1
  have hl : zm_vnum (s_vehs s) a < (s_vehs s).length := List.findIdx_lt_length_of_exists ⟨x, hm, by simp [h2]⟩
  have hp : ((((s_vehs s)[zm_vnum (s_vehs s) a]'hl).1 == a) : Bool) = true := List.findIdx_getElem (w := hl)
  exact ⟨_, List.getElem?_eq_getElem hl, beq_iff_eq.mp hp⟩
def zm_ofSeg (x : zSeg) : Nat → Int32
  | 0 => x.2.1
  | 1 => x.2.2.1
  | 2 => x.2.2.2.1
  | 3 => x.2.2.2.2
  | _ => 0
def zm_ofVeh (v : zVeh) : Nat → Int32
  | 0 => v.2.1.1
  | 1 => v.2.1.2.1
  | 2 => v.2.1.2.2
  | 3 => v.2.2.1
  | 4 => zf_b (zm_blocked v.2.1.2.2 v.2.2.1)
  | 5 => v.2.2.2.1
  | 6 => v.2.2.2.2.1
  | _ => v.2.2.2.2.2
def zm_ofSgt (s : zS) (y : zSgt) : Nat → Int32
  | 4 => if y.2.2.2.2 = 0 then 0 else 1
  | 0 => if y.2.2.2.2 = 0 then nI (zm_vnum (s_vehs s) y.2.1.1) else -1
  | 1 => if y.2.2.2.2 = 0 then nI (zm_num (s_segs s) y.2.1.2) else -1
  | 2 => if y.2.2.2.2 = 0 then y.2.2.1 else -1
  | _ => if y.2.2.2.2 = 0 then y.2.2.2.1 else -1
def zm_ofOwn (s : zS) (o : Nat) : Nat → Int32
  | 0 => s_coins s (nI o).toNatClampNeg
  | k => match zm_inForce (s_tars s) (nI o) (s_now s / 1440) with
    | none => 0
    | some t => if k = 1 then t.2.2.1 else if k = 2 then t.2.2.2.1 else t.2.2.2.2.1
def zm_many (s : zS) : Nat → Int32
  | 0 => s_now s
  | 1 => nI (s_segs s).length
  | 2 => nI (s_vehs s).length
  | 3 => nI (s_sgts s).length
  | 4 => s_erased s
  | 5 => nI (s_tars s).length
  | 6 => 0
  | 7 => s_cap s
  | 8 => s_hall s
  | 9 => s_alarms s
  | 10 => s_catches s
  | 11 => s_taken s - s_gb s
  | 12 => s_gb s
  | 13 => s_listed s
  | _ => zm_bset s
set_option maxRecDepth 20000 in
set_option maxHeartbeats 4000000 in
theorem f_bset_step {X : zX} {G : zG} {h : zH} {top : Nat} {Post : Option Value → zH → Nat → Prop} (s : zS) (be : zB) (H : z_St G s be h top) (hp : ∀ {v : Int32}, v = zm_bset s → Post (some (.int v)) h top) (k i : Nat) (acc : Int32) (hk : (s_vehs s).length - i < k + 1) (hi : i ≤ (s_vehs s).length) (hinv : acc = zm_bs (s_vehs s) i) (ih : ∀ (i : Nat) (acc : Int32), (s_vehs s).length - i < k → i ≤ (s_vehs s).length → (acc = zm_bs (s_vehs s) i) → z_Z X h top 4 [(2, .int (nI i)), (1, .int acc), (0, .ref (z_b G))] []) (hX : z_ok X cX8_blockedSet 3 RX8 (some .int) "blockedSet" 4 G) (hq : z_mq X (Post)) : z_Z X h top 4 [(2, .int (nI i)), (1, .int acc), (0, .ref (z_b G))] [] := by
  have hha := H.hall
  have hbd := H.2.2.1.2.2
  have hl1 := H.l1
  have hl11 := hl1.1
  refine r_iload_n hX rfl 0 rfl dX8_blockedSet_4 ?_
  refine r_aload_n hX rfl 2 rfl dX8_blockedSet_5 ?_
  refine r_getf hX fl_X8_16 hha rfl dX8_blockedSet_6 ?_
  refine r_callVR (As := []) (rest := [.int (nI i)]) (rv := some (.int (nI (s_vehs s).length))) (st1 := [.int (nI (s_vehs s).length), .int (nI i)]) hX cs_X8_69 (by decide) (fun l => z_size hl1 l) hl11 rfl rfl rfl rfl (Nat.le_of_ble_eq_true rfl) dX8_blockedSet_9 ?_
  refine r_icmp_ge (tgt := 44) hX dX8_blockedSet_12 rfl (fun c12 => ?_) (fun c12 => ?_)
  · skip
    refine r_iload_n hX rfl 1 rfl dX8_blockedSet_44 ?_
    exact r_iret hX hq (hp (hinv.trans (by rw [zm_bset, show i = (s_vehs s).length from Nat.le_antisymm hi ((nI_leI (by omega) (by omega)).mp c12)]))) dX8_blockedSet_45
  · skip
    have hlt : i < (s_vehs s).length := by
      rcases Nat.lt_or_ge i (s_vehs s).length with q | q
      · exact q
      · exact absurd (nI_le q (by omega)) c12
    obtain ⟨v, hv⟩ : ∃ v, (s_vehs s)[i]? = some v := ⟨_, List.getElem?_eq_getElem hlt⟩
    have hvs := H.veh hv
    refine r_aload_n hX rfl 2 rfl dX8_blockedSet_15 ?_
    refine r_getf hX fl_X8_16 hha rfl dX8_blockedSet_16 ?_
    refine r_iload_n hX rfl 0 rfl dX8_blockedSet_19 ?_
    refine r_callVR (As := [.int (nI i)]) (rest := []) (rv := some (.ref v.1)) (st1 := [.ref v.1]) hX cs_X8_92 (by decide) (fun l => z_get hl1 hlt (z_mapget hv) l) hl11 rfl rfl rfl rfl (Nat.le_of_ble_eq_true rfl) dX8_blockedSet_20 ?_
    refine r_cast (ci := 8) hX rfl hvs cl_X8_121 dX8_blockedSet_23 ?_
    refine r_callVR (As := []) (rest := []) (rv := some (.int (zf_b (zm_blocked v.2.1.2.2 v.2.2.1)))) (st1 := [.int (zf_b (zm_blocked v.2.1.2.2 v.2.2.1))]) hX cs_X8_252 (by decide) (fun l => c_X7_isBlocked l G h top v i hvs) hvs rfl rfl rfl rfl (Nat.le_of_ble_eq_true rfl) dX8_blockedSet_26 ?_
    refine r_if_eq (tgt := 38) hX dX8_blockedSet_29 rfl (fun c29 => ?_) (fun c29 => ?_)
    · skip
      refine r_iinc (q := 0) (lv' := [(2, .int ((nI i) + 1)), (1, .int acc), (0, .ref (z_b G))]) hX rfl rfl (by decide) rfl dX8_blockedSet_38 ?_
      refine r_goto (tgt := 4) hX rfl dX8_blockedSet_41 ?_
      refine r_lv [0, 1, 2] (lv2 := [(2, .int (nI i + 1)), (1, .int acc), (0, .ref (z_b G))]) rfl ?_
      rw [nI_1]
      exact ih (i + 1) _ (by omega) (by omega) (by rw [hinv, zm_bs_s hv, if_neg (by rw [zf_b_e c29]; decide)])
    · skip
      refine r_iload_n hX rfl 1 rfl dX8_blockedSet_32 ?_
      refine r_iconst (v := 1) hX (by decide) dX8_blockedSet_33 ?_
      refine r_iload_n hX rfl 0 rfl dX8_blockedSet_34 ?_
      refine r_ishl hX dX8_blockedSet_35 ?_
      refine r_ior hX dX8_blockedSet_36 ?_
      refine r_istore_n (lv' := [(1, .int (acc ||| (1 <<< ((nI i) &&& 31)))), (2, .int (nI i)), (0, .ref (z_b G))]) hX rfl (by decide) rfl dX8_blockedSet_37 ?_
      refine r_iinc (q := 1) (lv' := [(2, .int ((nI i) + 1)), (1, .int (acc ||| (1 <<< ((nI i) &&& 31)))), (0, .ref (z_b G))]) hX rfl rfl (by decide) rfl dX8_blockedSet_38 ?_
      refine r_goto (tgt := 4) hX rfl dX8_blockedSet_41 ?_
      refine r_lv [0, 1, 2] (lv2 := [(2, .int (nI i + 1)), (1, .int (acc ||| (1 <<< ((nI i) &&& 31)))), (0, .ref (z_b G))]) rfl ?_
      rw [nI_1]
      exact ih (i + 1) _ (by omega) (by omega) (by rw [hinv, zm_bs_s hv, if_pos (zf_b_ne c29)])

theorem f_bset {X : zX} {G : zG} {h : zH} {top : Nat} {Post : Option Value → zH → Nat → Prop} (s : zS) (be : zB) (H : z_St G s be h top) (hp : ∀ {v : Int32}, v = zm_bset s → Post (some (.int v)) h top) (hX : z_ok X cX8_blockedSet 3 RX8 (some .int) "blockedSet" 4 G) (hq : z_mq X Post) : ∀ (k i : Nat) (acc : Int32), (s_vehs s).length - i < k → i ≤ (s_vehs s).length → (acc = zm_bs (s_vehs s) i) → z_Z X h top 4 [(2, .int (nI i)), (1, .int acc), (0, .ref (z_b G))] [] := by
  intro k
  induction k with
  | zero => intros; omega
  | succ k ih => intro i acc hk hi hinv; exact f_bset_step s be H hp k i acc hk hi hinv ih hX hq
set_option maxRecDepth 20000 in
set_option maxHeartbeats 4000000 in
theorem c_X8_blockedSet (l : Launch) (G : zG) (h : zH) (top : Nat) (s : zS) (be : zB) (H : z_St G s be h top) : z_Ct l yX8_blockedSet cX8_blockedSet 3 (some .int) 4 G [.ref (z_b G)] h top (z_R (some (.int (zm_bset s))) h top) := by
  refine z_of (own := RX8) (nm := "blockedSet") (by decide) rfl rfl (by decide) (Nat.le_of_ble_eq_true rfl) (fun X hX hq => ?_)
  replace hX : z_ok X cX8_blockedSet 3 RX8 (some .int) "blockedSet" 4 G := hX
  show z_Z X h top 0 [(0, .ref (z_b G))] []
  refine r_iconst (v := 0) hX (by decide) dX8_blockedSet_0 ?_
  refine r_istore_n (lv' := [(1, .int 0), (0, .ref (z_b G))]) hX rfl (by decide) rfl dX8_blockedSet_1 ?_
  refine r_iconst (v := 0) hX (by decide) dX8_blockedSet_2 ?_
  refine r_istore_n (lv' := [(2, .int 0), (1, .int 0), (0, .ref (z_b G))]) hX rfl (by decide) rfl dX8_blockedSet_3 ?_
  rw [← nI_0]
  refine r_lv [0, 1, 2] (lv2 := [(2, .int (nI 0)), (1, .int (nI 0)), (0, .ref (z_b G))]) rfl ?_
  exact f_bset s be H (fun e => ⟨by rw [e], rfl, rfl⟩) hX hq ((s_vehs s).length + 1) 0 (nI 0) (by omega) (by omega) (by rw [nI_0]; rfl)

set_option maxRecDepth 20000 in
set_option maxHeartbeats 4000000 in
theorem c_ofSeg_0 (l : Launch) (G : zG) (h : zH) (top : Nat) (s : zS) (be : zB) (H : z_St G s be h top) (i : Nat) (x : zSeg) (hx : (s_segs s)[i]? = some x) : z_Ct l yX8_ofSegment cX8_ofSegment 4 (some .int) 4 G [.ref (z_b G), .int (nI i), .int 0] h top (z_R (some (.int (zm_ofSeg x 0))) h top) := by
  refine z_of (own := RX8) (nm := "ofSegment") (by decide) rfl rfl (by decide) (Nat.le_of_ble_eq_true rfl) (fun X hX hq => ?_)
  replace hX : z_ok X cX8_ofSegment 4 RX8 (some .int) "ofSegment" 4 G := hX
  show z_Z X h top 0 [(0, .ref (z_b G)), (1, .int (nI i)), (2, .int 0)] []
  have hha := H.hall
  have hbd := H.2.2.1.2.2
  have hl0 := H.l0
  have hl01 := hl0.1
  have hil : i < (s_segs s).length := (List.getElem?_eq_some_iff.mp hx).1
  have hxs := H.seg hx
  refine r_aload_n hX rfl 0 rfl dX8_ofSegment_0 ?_
  refine r_iload_n hX rfl 1 rfl dX8_ofSegment_1 ?_
  refine r_callVR (As := [.int (nI i)]) (rest := []) (rv := some (.int 1)) (st1 := [.int 1]) hX cs_X8_85 (by decide) (fun l => c_X8_isSegment l G h top s be H i hil) hha rfl rfl rfl rfl (Nat.le_of_ble_eq_true rfl) dX8_ofSegment_2 ?_
  refine r_callSR (As := [.int 1]) (rest := []) (rv := none) (st1 := []) hX cs_X8_58 (by decide) (fun l => c_X8_needIndex l G h top) rfl rfl rfl (Nat.le_of_ble_eq_true rfl) dX8_ofSegment_5 ?_
  refine r_iload_n hX rfl 2 rfl dX8_ofSegment_8 ?_
  refine r_iconst (v := 0) hX (by decide) dX8_ofSegment_9 ?_
  refine r_iconst (v := 4) hX (by decide) dX8_ofSegment_10 ?_
  refine r_callSR (As := [.int 0, .int 0, .int 4]) (rest := []) (rv := some (.int 1)) (st1 := [.int 1]) hX cs_X8_62 (by decide) (fun l => c_isIn_1 l G h top (by decide)) rfl rfl rfl (Nat.le_of_ble_eq_true rfl) dX8_ofSegment_11 ?_
  refine r_callSR (As := [.int 1]) (rest := []) (rv := none) (st1 := []) hX cs_X8_66 (by decide) (fun l => c_X8_needArgument l G h top) rfl rfl rfl (Nat.le_of_ble_eq_true rfl) dX8_ofSegment_14 ?_
  refine r_aload_n hX rfl 0 rfl dX8_ofSegment_17 ?_
  refine r_getf hX fl_X8_10 hha rfl dX8_ofSegment_18 ?_
  refine r_iload_n hX rfl 1 rfl dX8_ofSegment_21 ?_
  refine r_callVR (As := [.int (nI i)]) (rest := []) (rv := some (.ref x.1)) (st1 := [.ref x.1]) hX cs_X8_92 (by decide) (fun l => z_get hl0 hil (z_mapget hx) l) hl01 rfl rfl rfl rfl (Nat.le_of_ble_eq_true rfl) dX8_ofSegment_22 ?_
  refine r_cast (ci := 4) hX rfl hxs cl_X8_76 dX8_ofSegment_25 ?_
  refine r_astore_n (lv' := [(3, .ref x.1), (0, .ref (z_b G)), (1, .int (nI i)), (2, .int 0)]) hX rfl (by decide) rfl dX8_ofSegment_28 ?_
  refine r_iload_n hX rfl 3 rfl dX8_ofSegment_29 ?_
  refine r_tableIn (off := 30) (tgt := 60) hX (by decide) (by decide) (by decide) rfl dX8_ofSegment_30 ?_
  refine r_aload_n hX rfl 0 rfl dX8_ofSegment_60 ?_
  refine r_getf hX fl_X8_231 hxs rfl dX8_ofSegment_61 ?_
  exact r_iret hX hq ⟨rfl, rfl, rfl⟩ dX8_ofSegment_64

set_option maxRecDepth 20000 in
set_option maxHeartbeats 4000000 in
theorem c_ofSeg_1 (l : Launch) (G : zG) (h : zH) (top : Nat) (s : zS) (be : zB) (H : z_St G s be h top) (i : Nat) (x : zSeg) (hx : (s_segs s)[i]? = some x) : z_Ct l yX8_ofSegment cX8_ofSegment 4 (some .int) 4 G [.ref (z_b G), .int (nI i), .int 1] h top (z_R (some (.int (zm_ofSeg x 1))) h top) := by
  refine z_of (own := RX8) (nm := "ofSegment") (by decide) rfl rfl (by decide) (Nat.le_of_ble_eq_true rfl) (fun X hX hq => ?_)
  replace hX : z_ok X cX8_ofSegment 4 RX8 (some .int) "ofSegment" 4 G := hX
  show z_Z X h top 0 [(0, .ref (z_b G)), (1, .int (nI i)), (2, .int 1)] []
  have hha := H.hall
  have hbd := H.2.2.1.2.2
  have hl0 := H.l0
  have hl01 := hl0.1
  have hil : i < (s_segs s).length := (List.getElem?_eq_some_iff.mp hx).1
  have hxs := H.seg hx
  refine r_aload_n hX rfl 0 rfl dX8_ofSegment_0 ?_
  refine r_iload_n hX rfl 1 rfl dX8_ofSegment_1 ?_
  refine r_callVR (As := [.int (nI i)]) (rest := []) (rv := some (.int 1)) (st1 := [.int 1]) hX cs_X8_85 (by decide) (fun l => c_X8_isSegment l G h top s be H i hil) hha rfl rfl rfl rfl (Nat.le_of_ble_eq_true rfl) dX8_ofSegment_2 ?_
  refine r_callSR (As := [.int 1]) (rest := []) (rv := none) (st1 := []) hX cs_X8_58 (by decide) (fun l => c_X8_needIndex l G h top) rfl rfl rfl (Nat.le_of_ble_eq_true rfl) dX8_ofSegment_5 ?_
  refine r_iload_n hX rfl 2 rfl dX8_ofSegment_8 ?_
  refine r_iconst (v := 0) hX (by decide) dX8_ofSegment_9 ?_
  refine r_iconst (v := 4) hX (by decide) dX8_ofSegment_10 ?_
  refine r_callSR (As := [.int 1, .int 0, .int 4]) (rest := []) (rv := some (.int 1)) (st1 := [.int 1]) hX cs_X8_62 (by decide) (fun l => c_isIn_1 l G h top (by decide)) rfl rfl rfl (Nat.le_of_ble_eq_true rfl) dX8_ofSegment_11 ?_
  refine r_callSR (As := [.int 1]) (rest := []) (rv := none) (st1 := []) hX cs_X8_66 (by decide) (fun l => c_X8_needArgument l G h top) rfl rfl rfl (Nat.le_of_ble_eq_true rfl) dX8_ofSegment_14 ?_
  refine r_aload_n hX rfl 0 rfl dX8_ofSegment_17 ?_
  refine r_getf hX fl_X8_10 hha rfl dX8_ofSegment_18 ?_
  refine r_iload_n hX rfl 1 rfl dX8_ofSegment_21 ?_
  refine r_callVR (As := [.int (nI i)]) (rest := []) (rv := some (.ref x.1)) (st1 := [.ref x.1]) hX cs_X8_92 (by decide) (fun l => z_get hl0 hil (z_mapget hx) l) hl01 rfl rfl rfl rfl (Nat.le_of_ble_eq_true rfl) dX8_ofSegment_22 ?_
  refine r_cast (ci := 4) hX rfl hxs cl_X8_76 dX8_ofSegment_25 ?_
  refine r_astore_n (lv' := [(3, .ref x.1), (0, .ref (z_b G)), (1, .int (nI i)), (2, .int 1)]) hX rfl (by decide) rfl dX8_ofSegment_28 ?_
  refine r_iload_n hX rfl 3 rfl dX8_ofSegment_29 ?_
  refine r_tableIn (off := 35) (tgt := 65) hX (by decide) (by decide) (by decide) rfl dX8_ofSegment_30 ?_
  refine r_aload_n hX rfl 0 rfl dX8_ofSegment_65 ?_
  refine r_getf hX fl_X8_234 hxs rfl dX8_ofSegment_66 ?_
  exact r_iret hX hq ⟨rfl, rfl, rfl⟩ dX8_ofSegment_69

set_option maxRecDepth 20000 in
set_option maxHeartbeats 4000000 in
theorem c_ofSeg_2 (l : Launch) (G : zG) (h : zH) (top : Nat) (s : zS) (be : zB) (H : z_St G s be h top) (i : Nat) (x : zSeg) (hx : (s_segs s)[i]? = some x) : z_Ct l yX8_ofSegment cX8_ofSegment 4 (some .int) 4 G [.ref (z_b G), .int (nI i), .int 2] h top (z_R (some (.int (zm_ofSeg x 2))) h top) := by
  refine z_of (own := RX8) (nm := "ofSegment") (by decide) rfl rfl (by decide) (Nat.le_of_ble_eq_true rfl) (fun X hX hq => ?_)
  replace hX : z_ok X cX8_ofSegment 4 RX8 (some .int) "ofSegment" 4 G := hX
  show z_Z X h top 0 [(0, .ref (z_b G)), (1, .int (nI i)), (2, .int 2)] []
  have hha := H.hall
  have hbd := H.2.2.1.2.2
  have hl0 := H.l0
  have hl01 := hl0.1
  have hil : i < (s_segs s).length := (List.getElem?_eq_some_iff.mp hx).1
  have hxs := H.seg hx
  refine r_aload_n hX rfl 0 rfl dX8_ofSegment_0 ?_
  refine r_iload_n hX rfl 1 rfl dX8_ofSegment_1 ?_
  refine r_callVR (As := [.int (nI i)]) (rest := []) (rv := some (.int 1)) (st1 := [.int 1]) hX cs_X8_85 (by decide) (fun l => c_X8_isSegment l G h top s be H i hil) hha rfl rfl rfl rfl (Nat.le_of_ble_eq_true rfl) dX8_ofSegment_2 ?_
  refine r_callSR (As := [.int 1]) (rest := []) (rv := none) (st1 := []) hX cs_X8_58 (by decide) (fun l => c_X8_needIndex l G h top) rfl rfl rfl (Nat.le_of_ble_eq_true rfl) dX8_ofSegment_5 ?_
  refine r_iload_n hX rfl 2 rfl dX8_ofSegment_8 ?_
  refine r_iconst (v := 0) hX (by decide) dX8_ofSegment_9 ?_
  refine r_iconst (v := 4) hX (by decide) dX8_ofSegment_10 ?_
  refine r_callSR (As := [.int 2, .int 0, .int 4]) (rest := []) (rv := some (.int 1)) (st1 := [.int 1]) hX cs_X8_62 (by decide) (fun l => c_isIn_1 l G h top (by decide)) rfl rfl rfl (Nat.le_of_ble_eq_true rfl) dX8_ofSegment_11 ?_
  refine r_callSR (As := [.int 1]) (rest := []) (rv := none) (st1 := []) hX cs_X8_66 (by decide) (fun l => c_X8_needArgument l G h top) rfl rfl rfl (Nat.le_of_ble_eq_true rfl) dX8_ofSegment_14 ?_
  refine r_aload_n hX rfl 0 rfl dX8_ofSegment_17 ?_
  refine r_getf hX fl_X8_10 hha rfl dX8_ofSegment_18 ?_
  refine r_iload_n hX rfl 1 rfl dX8_ofSegment_21 ?_
  refine r_callVR (As := [.int (nI i)]) (rest := []) (rv := some (.ref x.1)) (st1 := [.ref x.1]) hX cs_X8_92 (by decide) (fun l => z_get hl0 hil (z_mapget hx) l) hl01 rfl rfl rfl rfl (Nat.le_of_ble_eq_true rfl) dX8_ofSegment_22 ?_
  refine r_cast (ci := 4) hX rfl hxs cl_X8_76 dX8_ofSegment_25 ?_
  refine r_astore_n (lv' := [(3, .ref x.1), (0, .ref (z_b G)), (1, .int (nI i)), (2, .int 2)]) hX rfl (by decide) rfl dX8_ofSegment_28 ?_
  refine r_iload_n hX rfl 3 rfl dX8_ofSegment_29 ?_
  refine r_tableIn (off := 40) (tgt := 70) hX (by decide) (by decide) (by decide) rfl dX8_ofSegment_30 ?_
  refine r_aload_n hX rfl 0 rfl dX8_ofSegment_70 ?_
  refine r_getf hX fl_X8_237 hxs rfl dX8_ofSegment_71 ?_
  exact r_iret hX hq ⟨rfl, rfl, rfl⟩ dX8_ofSegment_74

set_option maxRecDepth 20000 in
set_option maxHeartbeats 4000000 in
theorem c_ofSeg_3 (l : Launch) (G : zG) (h : zH) (top : Nat) (s : zS) (be : zB) (H : z_St G s be h top) (i : Nat) (x : zSeg) (hx : (s_segs s)[i]? = some x) : z_Ct l yX8_ofSegment cX8_ofSegment 4 (some .int) 4 G [.ref (z_b G), .int (nI i), .int 3] h top (z_R (some (.int (zm_ofSeg x 3))) h top) := by
  refine z_of (own := RX8) (nm := "ofSegment") (by decide) rfl rfl (by decide) (Nat.le_of_ble_eq_true rfl) (fun X hX hq => ?_)
  replace hX : z_ok X cX8_ofSegment 4 RX8 (some .int) "ofSegment" 4 G := hX
  show z_Z X h top 0 [(0, .ref (z_b G)), (1, .int (nI i)), (2, .int 3)] []
  have hha := H.hall
  have hbd := H.2.2.1.2.2
  have hl0 := H.l0
  have hl01 := hl0.1
  have hil : i < (s_segs s).length := (List.getElem?_eq_some_iff.mp hx).1
  have hxs := H.seg hx
  refine r_aload_n hX rfl 0 rfl dX8_ofSegment_0 ?_
  refine r_iload_n hX rfl 1 rfl dX8_ofSegment_1 ?_
  refine r_callVR (As := [.int (nI i)]) (rest := []) (rv := some (.int 1)) (st1 := [.int 1]) hX cs_X8_85 (by decide) (fun l => c_X8_isSegment l G h top s be H i hil) hha rfl rfl rfl rfl (Nat.le_of_ble_eq_true rfl) dX8_ofSegment_2 ?_
  refine r_callSR (As := [.int 1]) (rest := []) (rv := none) (st1 := []) hX cs_X8_58 (by decide) (fun l => c_X8_needIndex l G h top) rfl rfl rfl (Nat.le_of_ble_eq_true rfl) dX8_ofSegment_5 ?_
  refine r_iload_n hX rfl 2 rfl dX8_ofSegment_8 ?_
  refine r_iconst (v := 0) hX (by decide) dX8_ofSegment_9 ?_
  refine r_iconst (v := 4) hX (by decide) dX8_ofSegment_10 ?_
  refine r_callSR (As := [.int 3, .int 0, .int 4]) (rest := []) (rv := some (.int 1)) (st1 := [.int 1]) hX cs_X8_62 (by decide) (fun l => c_isIn_1 l G h top (by decide)) rfl rfl rfl (Nat.le_of_ble_eq_true rfl) dX8_ofSegment_11 ?_
  refine r_callSR (As := [.int 1]) (rest := []) (rv := none) (st1 := []) hX cs_X8_66 (by decide) (fun l => c_X8_needArgument l G h top) rfl rfl rfl (Nat.le_of_ble_eq_true rfl) dX8_ofSegment_14 ?_
  refine r_aload_n hX rfl 0 rfl dX8_ofSegment_17 ?_
  refine r_getf hX fl_X8_10 hha rfl dX8_ofSegment_18 ?_
  refine r_iload_n hX rfl 1 rfl dX8_ofSegment_21 ?_
  refine r_callVR (As := [.int (nI i)]) (rest := []) (rv := some (.ref x.1)) (st1 := [.ref x.1]) hX cs_X8_92 (by decide) (fun l => z_get hl0 hil (z_mapget hx) l) hl01 rfl rfl rfl rfl (Nat.le_of_ble_eq_true rfl) dX8_ofSegment_22 ?_
  refine r_cast (ci := 4) hX rfl hxs cl_X8_76 dX8_ofSegment_25 ?_
  refine r_astore_n (lv' := [(3, .ref x.1), (0, .ref (z_b G)), (1, .int (nI i)), (2, .int 3)]) hX rfl (by decide) rfl dX8_ofSegment_28 ?_
  refine r_iload_n hX rfl 3 rfl dX8_ofSegment_29 ?_
  refine r_tableIn (off := 45) (tgt := 75) hX (by decide) (by decide) (by decide) rfl dX8_ofSegment_30 ?_
  refine r_aload_n hX rfl 0 rfl dX8_ofSegment_75 ?_
  refine r_getf hX fl_X8_240 hxs rfl dX8_ofSegment_76 ?_
  exact r_iret hX hq ⟨rfl, rfl, rfl⟩ dX8_ofSegment_79

set_option maxRecDepth 20000 in
set_option maxHeartbeats 4000000 in
theorem c_ofSeg_4 (l : Launch) (G : zG) (h : zH) (top : Nat) (s : zS) (be : zB) (H : z_St G s be h top) (i : Nat) (x : zSeg) (hx : (s_segs s)[i]? = some x) : z_Ct l yX8_ofSegment cX8_ofSegment 4 (some .int) 4 G [.ref (z_b G), .int (nI i), .int 4] h top (z_R (some (.int (zm_ofSeg x 4))) h top) := by
  refine z_of (own := RX8) (nm := "ofSegment") (by decide) rfl rfl (by decide) (Nat.le_of_ble_eq_true rfl) (fun X hX hq => ?_)
  replace hX : z_ok X cX8_ofSegment 4 RX8 (some .int) "ofSegment" 4 G := hX
  show z_Z X h top 0 [(0, .ref (z_b G)), (1, .int (nI i)), (2, .int 4)] []
  have hha := H.hall
  have hbd := H.2.2.1.2.2
  have hl0 := H.l0
  have hl01 := hl0.1
  have hil : i < (s_segs s).length := (List.getElem?_eq_some_iff.mp hx).1
  have hxs := H.seg hx
  refine r_aload_n hX rfl 0 rfl dX8_ofSegment_0 ?_
  refine r_iload_n hX rfl 1 rfl dX8_ofSegment_1 ?_
  refine r_callVR (As := [.int (nI i)]) (rest := []) (rv := some (.int 1)) (st1 := [.int 1]) hX cs_X8_85 (by decide) (fun l => c_X8_isSegment l G h top s be H i hil) hha rfl rfl rfl rfl (Nat.le_of_ble_eq_true rfl) dX8_ofSegment_2 ?_
  refine r_callSR (As := [.int 1]) (rest := []) (rv := none) (st1 := []) hX cs_X8_58 (by decide) (fun l => c_X8_needIndex l G h top) rfl rfl rfl (Nat.le_of_ble_eq_true rfl) dX8_ofSegment_5 ?_
  refine r_iload_n hX rfl 2 rfl dX8_ofSegment_8 ?_
  refine r_iconst (v := 0) hX (by decide) dX8_ofSegment_9 ?_
  refine r_iconst (v := 4) hX (by decide) dX8_ofSegment_10 ?_
  refine r_callSR (As := [.int 4, .int 0, .int 4]) (rest := []) (rv := some (.int 1)) (st1 := [.int 1]) hX cs_X8_62 (by decide) (fun l => c_isIn_1 l G h top (by decide)) rfl rfl rfl (Nat.le_of_ble_eq_true rfl) dX8_ofSegment_11 ?_
  refine r_callSR (As := [.int 1]) (rest := []) (rv := none) (st1 := []) hX cs_X8_66 (by decide) (fun l => c_X8_needArgument l G h top) rfl rfl rfl (Nat.le_of_ble_eq_true rfl) dX8_ofSegment_14 ?_
  refine r_aload_n hX rfl 0 rfl dX8_ofSegment_17 ?_
  refine r_getf hX fl_X8_10 hha rfl dX8_ofSegment_18 ?_
  refine r_iload_n hX rfl 1 rfl dX8_ofSegment_21 ?_
  refine r_callVR (As := [.int (nI i)]) (rest := []) (rv := some (.ref x.1)) (st1 := [.ref x.1]) hX cs_X8_92 (by decide) (fun l => z_get hl0 hil (z_mapget hx) l) hl01 rfl rfl rfl rfl (Nat.le_of_ble_eq_true rfl) dX8_ofSegment_22 ?_
  refine r_cast (ci := 4) hX rfl hxs cl_X8_76 dX8_ofSegment_25 ?_
  refine r_astore_n (lv' := [(3, .ref x.1), (0, .ref (z_b G)), (1, .int (nI i)), (2, .int 4)]) hX rfl (by decide) rfl dX8_ofSegment_28 ?_
  refine r_iload_n hX rfl 3 rfl dX8_ofSegment_29 ?_
  refine r_tableOut (tgt := 80) hX (by decide) rfl dX8_ofSegment_30 ?_
  refine r_aload_n hX rfl 0 rfl dX8_ofSegment_80 ?_
  refine r_aload_n hX rfl 1 rfl dX8_ofSegment_81 ?_
  refine r_getf hX fl_X8_139 hha rfl dX8_ofSegment_82 ?_
  refine r_callVR (As := [.int (s_now s)]) (rest := []) (rv := some (.int 0)) (st1 := [.int 0]) hX cs_X8_243 (by decide) (fun l => c_X3_isShut l G h top x i hxs (s_now s)) hxs rfl rfl rfl rfl (Nat.le_of_ble_eq_true rfl) dX8_ofSegment_85 ?_
  refine r_if_eq (tgt := 95) hX dX8_ofSegment_88 rfl (fun _ => ?_) (fun c => False.elim (absurd c (by decide)))
  refine r_iconst (v := 0) hX (by decide) dX8_ofSegment_95 ?_
  exact r_iret hX hq ⟨rfl, rfl, rfl⟩ dX8_ofSegment_96

theorem c_ofSeg (l : Launch) (G : zG) (h : zH) (top : Nat) (s : zS) (be : zB) (H : z_St G s be h top) (i : Nat) (x : zSeg) (hx : (s_segs s)[i]? = some x) : ∀ (k : Nat), k ≤ 4 → z_Ct l yX8_ofSegment cX8_ofSegment 4 (some .int) 4 G [.ref (z_b G), .int (nI i), .int (nI k)] h top (z_R (some (.int (zm_ofSeg x k))) h top)
  | 0, _ => c_ofSeg_0 l G h top s be H i x hx
  | 1, _ => c_ofSeg_1 l G h top s be H i x hx
  | 2, _ => c_ofSeg_2 l G h top s be H i x hx
  | 3, _ => c_ofSeg_3 l G h top s be H i x hx
  | 4, _ => c_ofSeg_4 l G h top s be H i x hx
  | k + 5, hk => absurd hk (by omega)
set_option maxRecDepth 20000 in
set_option maxHeartbeats 4000000 in
theorem c_ofVeh_0 (l : Launch) (G : zG) (h : zH) (top : Nat) (s : zS) (be : zB) (H : z_St G s be h top) (iv : Nat) (v : zVeh) (hv : (s_vehs s)[iv]? = some v) : z_Ct l yX8_ofVehicle cX8_ofVehicle 4 (some .int) 4 G [.ref (z_b G), .int (nI iv), .int 0] h top (z_R (some (.int (zm_ofVeh v 0))) h top) := by
  refine z_of (own := RX8) (nm := "ofVehicle") (by decide) rfl rfl (by decide) (Nat.le_of_ble_eq_true rfl) (fun X hX hq => ?_)
  replace hX : z_ok X cX8_ofVehicle 4 RX8 (some .int) "ofVehicle" 4 G := hX
  show z_Z X h top 0 [(0, .ref (z_b G)), (1, .int (nI iv)), (2, .int 0)] []
  have hha := H.hall
  have hbd := H.2.2.1.2.2
  have hl1 := H.l1
  have hl11 := hl1.1
  have hvl : iv < (s_vehs s).length := (List.getElem?_eq_some_iff.mp hv).1
  have hvs := H.veh hv
  refine r_aload_n hX rfl 0 rfl dX8_ofVehicle_0 ?_
  refine r_iload_n hX rfl 1 rfl dX8_ofVehicle_1 ?_
  refine r_callVR (As := [.int (nI iv)]) (rest := []) (rv := some (.int 1)) (st1 := [.int 1]) hX cs_X8_126 (by decide) (fun l => c_X8_isVehicle l G h top s be H iv hvl) hha rfl rfl rfl rfl (Nat.le_of_ble_eq_true rfl) dX8_ofVehicle_2 ?_
  refine r_callSR (As := [.int 1]) (rest := []) (rv := none) (st1 := []) hX cs_X8_58 (by decide) (fun l => c_X8_needIndex l G h top) rfl rfl rfl (Nat.le_of_ble_eq_true rfl) dX8_ofVehicle_5 ?_
  refine r_iload_n hX rfl 2 rfl dX8_ofVehicle_8 ?_
  refine r_iconst (v := 0) hX (by decide) dX8_ofVehicle_9 ?_
  refine r_bipush (v := 7) hX (by decide) dX8_ofVehicle_10 ?_
  refine r_callSR (As := [.int 0, .int 0, .int 7]) (rest := []) (rv := some (.int 1)) (st1 := [.int 1]) hX cs_X8_62 (by decide) (fun l => c_isIn_1 l G h top (by decide)) rfl rfl rfl (Nat.le_of_ble_eq_true rfl) dX8_ofVehicle_12 ?_
  refine r_callSR (As := [.int 1]) (rest := []) (rv := none) (st1 := []) hX cs_X8_66 (by decide) (fun l => c_X8_needArgument l G h top) rfl rfl rfl (Nat.le_of_ble_eq_true rfl) dX8_ofVehicle_15 ?_
  refine r_aload_n hX rfl 0 rfl dX8_ofVehicle_18 ?_
  refine r_getf hX fl_X8_16 hha rfl dX8_ofVehicle_19 ?_
  refine r_iload_n hX rfl 1 rfl dX8_ofVehicle_22 ?_
  refine r_callVR (As := [.int (nI iv)]) (rest := []) (rv := some (.ref v.1)) (st1 := [.ref v.1]) hX cs_X8_92 (by decide) (fun l => z_get hl1 hvl (z_mapget hv) l) hl11 rfl rfl rfl rfl (Nat.le_of_ble_eq_true rfl) dX8_ofVehicle_23 ?_
  refine r_cast (ci := 8) hX rfl hvs cl_X8_121 dX8_ofVehicle_26 ?_
  refine r_astore_n (lv' := [(3, .ref v.1), (0, .ref (z_b G)), (1, .int (nI iv)), (2, .int 0)]) hX rfl (by decide) rfl dX8_ofVehicle_29 ?_
  refine r_iload_n hX rfl 3 rfl dX8_ofVehicle_30 ?_
  refine r_tableIn (off := 41) (tgt := 72) hX (by decide) (by decide) (by decide) rfl dX8_ofVehicle_31 ?_
  refine r_aload_n hX rfl 0 rfl dX8_ofVehicle_72 ?_
  refine r_getf hX fl_X8_201 hvs rfl dX8_ofVehicle_73 ?_
  exact r_iret hX hq ⟨rfl, rfl, rfl⟩ dX8_ofVehicle_76

set_option maxRecDepth 20000 in
set_option maxHeartbeats 4000000 in
theorem c_ofVeh_1 (l : Launch) (G : zG) (h : zH) (top : Nat) (s : zS) (be : zB) (H : z_St G s be h top) (iv : Nat) (v : zVeh) (hv : (s_vehs s)[iv]? = some v) : z_Ct l yX8_ofVehicle cX8_ofVehicle 4 (some .int) 4 G [.ref (z_b G), .int (nI iv), .int 1] h top (z_R (some (.int (zm_ofVeh v 1))) h top) := by
  refine z_of (own := RX8) (nm := "ofVehicle") (by decide) rfl rfl (by decide) (Nat.le_of_ble_eq_true rfl) (fun X hX hq => ?_)
  replace hX : z_ok X cX8_ofVehicle 4 RX8 (some .int) "ofVehicle" 4 G := hX
  show z_Z X h top 0 [(0, .ref (z_b G)), (1, .int (nI iv)), (2, .int 1)] []
  have hha := H.hall
  have hbd := H.2.2.1.2.2
  have hl1 := H.l1
  have hl11 := hl1.1
  have hvl : iv < (s_vehs s).length := (List.getElem?_eq_some_iff.mp hv).1
  have hvs := H.veh hv
  refine r_aload_n hX rfl 0 rfl dX8_ofVehicle_0 ?_
  refine r_iload_n hX rfl 1 rfl dX8_ofVehicle_1 ?_
  refine r_callVR (As := [.int (nI iv)]) (rest := []) (rv := some (.int 1)) (st1 := [.int 1]) hX cs_X8_126 (by decide) (fun l => c_X8_isVehicle l G h top s be H iv hvl) hha rfl rfl rfl rfl (Nat.le_of_ble_eq_true rfl) dX8_ofVehicle_2 ?_
  refine r_callSR (As := [.int 1]) (rest := []) (rv := none) (st1 := []) hX cs_X8_58 (by decide) (fun l => c_X8_needIndex l G h top) rfl rfl rfl (Nat.le_of_ble_eq_true rfl) dX8_ofVehicle_5 ?_
  refine r_iload_n hX rfl 2 rfl dX8_ofVehicle_8 ?_
  refine r_iconst (v := 0) hX (by decide) dX8_ofVehicle_9 ?_
  refine r_bipush (v := 7) hX (by decide) dX8_ofVehicle_10 ?_
  refine r_callSR (As := [.int 1, .int 0, .int 7]) (rest := []) (rv := some (.int 1)) (st1 := [.int 1]) hX cs_X8_62 (by decide) (fun l => c_isIn_1 l G h top (by decide)) rfl rfl rfl (Nat.le_of_ble_eq_true rfl) dX8_ofVehicle_12 ?_
  refine r_callSR (As := [.int 1]) (rest := []) (rv := none) (st1 := []) hX cs_X8_66 (by decide) (fun l => c_X8_needArgument l G h top) rfl rfl rfl (Nat.le_of_ble_eq_true rfl) dX8_ofVehicle_15 ?_
  refine r_aload_n hX rfl 0 rfl dX8_ofVehicle_18 ?_
  refine r_getf hX fl_X8_16 hha rfl dX8_ofVehicle_19 ?_
  refine r_iload_n hX rfl 1 rfl dX8_ofVehicle_22 ?_
  refine r_callVR (As := [.int (nI iv)]) (rest := []) (rv := some (.ref v.1)) (st1 := [.ref v.1]) hX cs_X8_92 (by decide) (fun l => z_get hl1 hvl (z_mapget hv) l) hl11 rfl rfl rfl rfl (Nat.le_of_ble_eq_true rfl) dX8_ofVehicle_23 ?_
  refine r_cast (ci := 8) hX rfl hvs cl_X8_121 dX8_ofVehicle_26 ?_
  refine r_astore_n (lv' := [(3, .ref v.1), (0, .ref (z_b G)), (1, .int (nI iv)), (2, .int 1)]) hX rfl (by decide) rfl dX8_ofVehicle_29 ?_
  refine r_iload_n hX rfl 3 rfl dX8_ofVehicle_30 ?_
  refine r_tableIn (off := 46) (tgt := 77) hX (by decide) (by decide) (by decide) rfl dX8_ofVehicle_31 ?_
  refine r_aload_n hX rfl 0 rfl dX8_ofVehicle_77 ?_
  refine r_getf hX fl_X8_246 hvs rfl dX8_ofVehicle_78 ?_
  exact r_iret hX hq ⟨rfl, rfl, rfl⟩ dX8_ofVehicle_81

set_option maxRecDepth 20000 in
set_option maxHeartbeats 4000000 in
theorem c_ofVeh_2 (l : Launch) (G : zG) (h : zH) (top : Nat) (s : zS) (be : zB) (H : z_St G s be h top) (iv : Nat) (v : zVeh) (hv : (s_vehs s)[iv]? = some v) : z_Ct l yX8_ofVehicle cX8_ofVehicle 4 (some .int) 4 G [.ref (z_b G), .int (nI iv), .int 2] h top (z_R (some (.int (zm_ofVeh v 2))) h top) := by
  refine z_of (own := RX8) (nm := "ofVehicle") (by decide) rfl rfl (by decide) (Nat.le_of_ble_eq_true rfl) (fun X hX hq => ?_)
  replace hX : z_ok X cX8_ofVehicle 4 RX8 (some .int) "ofVehicle" 4 G := hX
  show z_Z X h top 0 [(0, .ref (z_b G)), (1, .int (nI iv)), (2, .int 2)] []
  have hha := H.hall
  have hbd := H.2.2.1.2.2
  have hl1 := H.l1
  have hl11 := hl1.1
  have hvl : iv < (s_vehs s).length := (List.getElem?_eq_some_iff.mp hv).1
  have hvs := H.veh hv
  refine r_aload_n hX rfl 0 rfl dX8_ofVehicle_0 ?_
  refine r_iload_n hX rfl 1 rfl dX8_ofVehicle_1 ?_
  refine r_callVR (As := [.int (nI iv)]) (rest := []) (rv := some (.int 1)) (st1 := [.int 1]) hX cs_X8_126 (by decide) (fun l => c_X8_isVehicle l G h top s be H iv hvl) hha rfl rfl rfl rfl (Nat.le_of_ble_eq_true rfl) dX8_ofVehicle_2 ?_
  refine r_callSR (As := [.int 1]) (rest := []) (rv := none) (st1 := []) hX cs_X8_58 (by decide) (fun l => c_X8_needIndex l G h top) rfl rfl rfl (Nat.le_of_ble_eq_true rfl) dX8_ofVehicle_5 ?_
  refine r_iload_n hX rfl 2 rfl dX8_ofVehicle_8 ?_
  refine r_iconst (v := 0) hX (by decide) dX8_ofVehicle_9 ?_
  refine r_bipush (v := 7) hX (by decide) dX8_ofVehicle_10 ?_
  refine r_callSR (As := [.int 2, .int 0, .int 7]) (rest := []) (rv := some (.int 1)) (st1 := [.int 1]) hX cs_X8_62 (by decide) (fun l => c_isIn_1 l G h top (by decide)) rfl rfl rfl (Nat.le_of_ble_eq_true rfl) dX8_ofVehicle_12 ?_
  refine r_callSR (As := [.int 1]) (rest := []) (rv := none) (st1 := []) hX cs_X8_66 (by decide) (fun l => c_X8_needArgument l G h top) rfl rfl rfl (Nat.le_of_ble_eq_true rfl) dX8_ofVehicle_15 ?_
  refine r_aload_n hX rfl 0 rfl dX8_ofVehicle_18 ?_
  refine r_getf hX fl_X8_16 hha rfl dX8_ofVehicle_19 ?_
  refine r_iload_n hX rfl 1 rfl dX8_ofVehicle_22 ?_
  refine r_callVR (As := [.int (nI iv)]) (rest := []) (rv := some (.ref v.1)) (st1 := [.ref v.1]) hX cs_X8_92 (by decide) (fun l => z_get hl1 hvl (z_mapget hv) l) hl11 rfl rfl rfl rfl (Nat.le_of_ble_eq_true rfl) dX8_ofVehicle_23 ?_
  refine r_cast (ci := 8) hX rfl hvs cl_X8_121 dX8_ofVehicle_26 ?_
  refine r_astore_n (lv' := [(3, .ref v.1), (0, .ref (z_b G)), (1, .int (nI iv)), (2, .int 2)]) hX rfl (by decide) rfl dX8_ofVehicle_29 ?_
  refine r_iload_n hX rfl 3 rfl dX8_ofVehicle_30 ?_
  refine r_tableIn (off := 51) (tgt := 82) hX (by decide) (by decide) (by decide) rfl dX8_ofVehicle_31 ?_
  refine r_aload_n hX rfl 0 rfl dX8_ofVehicle_82 ?_
  refine r_getf hX fl_X8_249 hvs rfl dX8_ofVehicle_83 ?_
  exact r_iret hX hq ⟨rfl, rfl, rfl⟩ dX8_ofVehicle_86

set_option maxRecDepth 20000 in
set_option maxHeartbeats 4000000 in
theorem c_ofVeh_3 (l : Launch) (G : zG) (h : zH) (top : Nat) (s : zS) (be : zB) (H : z_St G s be h top) (iv : Nat) (v : zVeh) (hv : (s_vehs s)[iv]? = some v) : z_Ct l yX8_ofVehicle cX8_ofVehicle 4 (some .int) 4 G [.ref (z_b G), .int (nI iv), .int 3] h top (z_R (some (.int (zm_ofVeh v 3))) h top) := by
  refine z_of (own := RX8) (nm := "ofVehicle") (by decide) rfl rfl (by decide) (Nat.le_of_ble_eq_true rfl) (fun X hX hq => ?_)
  replace hX : z_ok X cX8_ofVehicle 4 RX8 (some .int) "ofVehicle" 4 G := hX
  show z_Z X h top 0 [(0, .ref (z_b G)), (1, .int (nI iv)), (2, .int 3)] []
  have hha := H.hall
  have hbd := H.2.2.1.2.2
  have hl1 := H.l1
  have hl11 := hl1.1
  have hvl : iv < (s_vehs s).length := (List.getElem?_eq_some_iff.mp hv).1
  have hvs := H.veh hv
  refine r_aload_n hX rfl 0 rfl dX8_ofVehicle_0 ?_
  refine r_iload_n hX rfl 1 rfl dX8_ofVehicle_1 ?_
  refine r_callVR (As := [.int (nI iv)]) (rest := []) (rv := some (.int 1)) (st1 := [.int 1]) hX cs_X8_126 (by decide) (fun l => c_X8_isVehicle l G h top s be H iv hvl) hha rfl rfl rfl rfl (Nat.le_of_ble_eq_true rfl) dX8_ofVehicle_2 ?_
  refine r_callSR (As := [.int 1]) (rest := []) (rv := none) (st1 := []) hX cs_X8_58 (by decide) (fun l => c_X8_needIndex l G h top) rfl rfl rfl (Nat.le_of_ble_eq_true rfl) dX8_ofVehicle_5 ?_
  refine r_iload_n hX rfl 2 rfl dX8_ofVehicle_8 ?_
  refine r_iconst (v := 0) hX (by decide) dX8_ofVehicle_9 ?_
  refine r_bipush (v := 7) hX (by decide) dX8_ofVehicle_10 ?_
  refine r_callSR (As := [.int 3, .int 0, .int 7]) (rest := []) (rv := some (.int 1)) (st1 := [.int 1]) hX cs_X8_62 (by decide) (fun l => c_isIn_1 l G h top (by decide)) rfl rfl rfl (Nat.le_of_ble_eq_true rfl) dX8_ofVehicle_12 ?_
  refine r_callSR (As := [.int 1]) (rest := []) (rv := none) (st1 := []) hX cs_X8_66 (by decide) (fun l => c_X8_needArgument l G h top) rfl rfl rfl (Nat.le_of_ble_eq_true rfl) dX8_ofVehicle_15 ?_
  refine r_aload_n hX rfl 0 rfl dX8_ofVehicle_18 ?_
  refine r_getf hX fl_X8_16 hha rfl dX8_ofVehicle_19 ?_
  refine r_iload_n hX rfl 1 rfl dX8_ofVehicle_22 ?_
  refine r_callVR (As := [.int (nI iv)]) (rest := []) (rv := some (.ref v.1)) (st1 := [.ref v.1]) hX cs_X8_92 (by decide) (fun l => z_get hl1 hvl (z_mapget hv) l) hl11 rfl rfl rfl rfl (Nat.le_of_ble_eq_true rfl) dX8_ofVehicle_23 ?_
  refine r_cast (ci := 8) hX rfl hvs cl_X8_121 dX8_ofVehicle_26 ?_
  refine r_astore_n (lv' := [(3, .ref v.1), (0, .ref (z_b G)), (1, .int (nI iv)), (2, .int 3)]) hX rfl (by decide) rfl dX8_ofVehicle_29 ?_
  refine r_iload_n hX rfl 3 rfl dX8_ofVehicle_30 ?_
  refine r_tableIn (off := 56) (tgt := 87) hX (by decide) (by decide) (by decide) rfl dX8_ofVehicle_31 ?_
  refine r_aload_n hX rfl 0 rfl dX8_ofVehicle_87 ?_
  refine r_getf hX fl_X8_136 hvs rfl dX8_ofVehicle_88 ?_
  exact r_iret hX hq ⟨rfl, rfl, rfl⟩ dX8_ofVehicle_91

set_option maxRecDepth 20000 in
set_option maxHeartbeats 4000000 in
theorem c_ofVeh_4 (l : Launch) (G : zG) (h : zH) (top : Nat) (s : zS) (be : zB) (H : z_St G s be h top) (iv : Nat) (v : zVeh) (hv : (s_vehs s)[iv]? = some v) : z_Ct l yX8_ofVehicle cX8_ofVehicle 4 (some .int) 4 G [.ref (z_b G), .int (nI iv), .int 4] h top (z_R (some (.int (zm_ofVeh v 4))) h top) := by
  refine z_of (own := RX8) (nm := "ofVehicle") (by decide) rfl rfl (by decide) (Nat.le_of_ble_eq_true rfl) (fun X hX hq => ?_)
  replace hX : z_ok X cX8_ofVehicle 4 RX8 (some .int) "ofVehicle" 4 G := hX
  show z_Z X h top 0 [(0, .ref (z_b G)), (1, .int (nI iv)), (2, .int 4)] []
  have hha := H.hall
  have hbd := H.2.2.1.2.2
  have hl1 := H.l1
  have hl11 := hl1.1
  have hvl : iv < (s_vehs s).length := (List.getElem?_eq_some_iff.mp hv).1
  have hvs := H.veh hv
  refine r_aload_n hX rfl 0 rfl dX8_ofVehicle_0 ?_
  refine r_iload_n hX rfl 1 rfl dX8_ofVehicle_1 ?_
  refine r_callVR (As := [.int (nI iv)]) (rest := []) (rv := some (.int 1)) (st1 := [.int 1]) hX cs_X8_126 (by decide) (fun l => c_X8_isVehicle l G h top s be H iv hvl) hha rfl rfl rfl rfl (Nat.le_of_ble_eq_true rfl) dX8_ofVehicle_2 ?_
  refine r_callSR (As := [.int 1]) (rest := []) (rv := none) (st1 := []) hX cs_X8_58 (by decide) (fun l => c_X8_needIndex l G h top) rfl rfl rfl (Nat.le_of_ble_eq_true rfl) dX8_ofVehicle_5 ?_
  refine r_iload_n hX rfl 2 rfl dX8_ofVehicle_8 ?_
  refine r_iconst (v := 0) hX (by decide) dX8_ofVehicle_9 ?_
  refine r_bipush (v := 7) hX (by decide) dX8_ofVehicle_10 ?_
  refine r_callSR (As := [.int 4, .int 0, .int 7]) (rest := []) (rv := some (.int 1)) (st1 := [.int 1]) hX cs_X8_62 (by decide) (fun l => c_isIn_1 l G h top (by decide)) rfl rfl rfl (Nat.le_of_ble_eq_true rfl) dX8_ofVehicle_12 ?_
  refine r_callSR (As := [.int 1]) (rest := []) (rv := none) (st1 := []) hX cs_X8_66 (by decide) (fun l => c_X8_needArgument l G h top) rfl rfl rfl (Nat.le_of_ble_eq_true rfl) dX8_ofVehicle_15 ?_
  refine r_aload_n hX rfl 0 rfl dX8_ofVehicle_18 ?_
  refine r_getf hX fl_X8_16 hha rfl dX8_ofVehicle_19 ?_
  refine r_iload_n hX rfl 1 rfl dX8_ofVehicle_22 ?_
  refine r_callVR (As := [.int (nI iv)]) (rest := []) (rv := some (.ref v.1)) (st1 := [.ref v.1]) hX cs_X8_92 (by decide) (fun l => z_get hl1 hvl (z_mapget hv) l) hl11 rfl rfl rfl rfl (Nat.le_of_ble_eq_true rfl) dX8_ofVehicle_23 ?_
  refine r_cast (ci := 8) hX rfl hvs cl_X8_121 dX8_ofVehicle_26 ?_
  refine r_astore_n (lv' := [(3, .ref v.1), (0, .ref (z_b G)), (1, .int (nI iv)), (2, .int 4)]) hX rfl (by decide) rfl dX8_ofVehicle_29 ?_
  refine r_iload_n hX rfl 3 rfl dX8_ofVehicle_30 ?_
  refine r_tableIn (off := 61) (tgt := 92) hX (by decide) (by decide) (by decide) rfl dX8_ofVehicle_31 ?_
  refine r_aload_n hX rfl 0 rfl dX8_ofVehicle_92 ?_
  refine r_callVR (As := []) (rest := []) (rv := some (.int (zf_b (zm_blocked v.2.1.2.2 v.2.2.1)))) (st1 := [.int (zf_b (zm_blocked v.2.1.2.2 v.2.2.1))]) hX cs_X8_252 (by decide) (fun l => c_X7_isBlocked l G h top v iv hvs) hvs rfl rfl rfl rfl (Nat.le_of_ble_eq_true rfl) dX8_ofVehicle_93 ?_
  refine r_if_eq (tgt := 103) hX dX8_ofVehicle_96 rfl (fun c96 => ?_) (fun c96 => ?_)
  · skip
    refine r_iconst (v := 0) hX (by decide) dX8_ofVehicle_103 ?_
    exact r_iret hX hq ⟨by rw [zm_ofVeh, zf_b_e c96]; rfl, rfl, rfl⟩ dX8_ofVehicle_104
  · skip
    refine r_iconst (v := 1) hX (by decide) dX8_ofVehicle_99 ?_
    refine r_goto (tgt := 104) hX rfl dX8_ofVehicle_100 ?_
    exact r_iret hX hq ⟨by rw [zm_ofVeh, zf_b_ne c96]; rfl, rfl, rfl⟩ dX8_ofVehicle_104

set_option maxRecDepth 20000 in
set_option maxHeartbeats 4000000 in
theorem c_ofVeh_5 (l : Launch) (G : zG) (h : zH) (top : Nat) (s : zS) (be : zB) (H : z_St G s be h top) (iv : Nat) (v : zVeh) (hv : (s_vehs s)[iv]? = some v) : z_Ct l yX8_ofVehicle cX8_ofVehicle 4 (some .int) 4 G [.ref (z_b G), .int (nI iv), .int 5] h top (z_R (some (.int (zm_ofVeh v 5))) h top) := by
  refine z_of (own := RX8) (nm := "ofVehicle") (by decide) rfl rfl (by decide) (Nat.le_of_ble_eq_true rfl) (fun X hX hq => ?_)
  replace hX : z_ok X cX8_ofVehicle 4 RX8 (some .int) "ofVehicle" 4 G := hX
  show z_Z X h top 0 [(0, .ref (z_b G)), (1, .int (nI iv)), (2, .int 5)] []
  have hha := H.hall
  have hbd := H.2.2.1.2.2
  have hl1 := H.l1
  have hl11 := hl1.1
  have hvl : iv < (s_vehs s).length := (List.getElem?_eq_some_iff.mp hv).1
  have hvs := H.veh hv
  refine r_aload_n hX rfl 0 rfl dX8_ofVehicle_0 ?_
  refine r_iload_n hX rfl 1 rfl dX8_ofVehicle_1 ?_
  refine r_callVR (As := [.int (nI iv)]) (rest := []) (rv := some (.int 1)) (st1 := [.int 1]) hX cs_X8_126 (by decide) (fun l => c_X8_isVehicle l G h top s be H iv hvl) hha rfl rfl rfl rfl (Nat.le_of_ble_eq_true rfl) dX8_ofVehicle_2 ?_
  refine r_callSR (As := [.int 1]) (rest := []) (rv := none) (st1 := []) hX cs_X8_58 (by decide) (fun l => c_X8_needIndex l G h top) rfl rfl rfl (Nat.le_of_ble_eq_true rfl) dX8_ofVehicle_5 ?_
  refine r_iload_n hX rfl 2 rfl dX8_ofVehicle_8 ?_
  refine r_iconst (v := 0) hX (by decide) dX8_ofVehicle_9 ?_
  refine r_bipush (v := 7) hX (by decide) dX8_ofVehicle_10 ?_
  refine r_callSR (As := [.int 5, .int 0, .int 7]) (rest := []) (rv := some (.int 1)) (st1 := [.int 1]) hX cs_X8_62 (by decide) (fun l => c_isIn_1 l G h top (by decide)) rfl rfl rfl (Nat.le_of_ble_eq_true rfl) dX8_ofVehicle_12 ?_
  refine r_callSR (As := [.int 1]) (rest := []) (rv := none) (st1 := []) hX cs_X8_66 (by decide) (fun l => c_X8_needArgument l G h top) rfl rfl rfl (Nat.le_of_ble_eq_true rfl) dX8_ofVehicle_15 ?_
  refine r_aload_n hX rfl 0 rfl dX8_ofVehicle_18 ?_
  refine r_getf hX fl_X8_16 hha rfl dX8_ofVehicle_19 ?_
  refine r_iload_n hX rfl 1 rfl dX8_ofVehicle_22 ?_
  refine r_callVR (As := [.int (nI iv)]) (rest := []) (rv := some (.ref v.1)) (st1 := [.ref v.1]) hX cs_X8_92 (by decide) (fun l => z_get hl1 hvl (z_mapget hv) l) hl11 rfl rfl rfl rfl (Nat.le_of_ble_eq_true rfl) dX8_ofVehicle_23 ?_
  refine r_cast (ci := 8) hX rfl hvs cl_X8_121 dX8_ofVehicle_26 ?_
  refine r_astore_n (lv' := [(3, .ref v.1), (0, .ref (z_b G)), (1, .int (nI iv)), (2, .int 5)]) hX rfl (by decide) rfl dX8_ofVehicle_29 ?_
  refine r_iload_n hX rfl 3 rfl dX8_ofVehicle_30 ?_
  refine r_tableIn (off := 74) (tgt := 105) hX (by decide) (by decide) (by decide) rfl dX8_ofVehicle_31 ?_
  refine r_aload_n hX rfl 0 rfl dX8_ofVehicle_105 ?_
  refine r_getf hX fl_X8_256 hvs rfl dX8_ofVehicle_106 ?_
  exact r_iret hX hq ⟨rfl, rfl, rfl⟩ dX8_ofVehicle_109

set_option maxRecDepth 20000 in
set_option maxHeartbeats 4000000 in
theorem c_ofVeh_6 (l : Launch) (G : zG) (h : zH) (top : Nat) (s : zS) (be : zB) (H : z_St G s be h top) (iv : Nat) (v : zVeh) (hv : (s_vehs s)[iv]? = some v) : z_Ct l yX8_ofVehicle cX8_ofVehicle 4 (some .int) 4 G [.ref (z_b G), .int (nI iv), .int 6] h top (z_R (some (.int (zm_ofVeh v 6))) h top) := by
  refine z_of (own := RX8) (nm := "ofVehicle") (by decide) rfl rfl (by decide) (Nat.le_of_ble_eq_true rfl) (fun X hX hq => ?_)
  replace hX : z_ok X cX8_ofVehicle 4 RX8 (some .int) "ofVehicle" 4 G := hX
  show z_Z X h top 0 [(0, .ref (z_b G)), (1, .int (nI iv)), (2, .int 6)] []
  have hha := H.hall
  have hbd := H.2.2.1.2.2
  have hl1 := H.l1
  have hl11 := hl1.1
  have hvl : iv < (s_vehs s).length := (List.getElem?_eq_some_iff.mp hv).1
  have hvs := H.veh hv
  refine r_aload_n hX rfl 0 rfl dX8_ofVehicle_0 ?_
  refine r_iload_n hX rfl 1 rfl dX8_ofVehicle_1 ?_
  refine r_callVR (As := [.int (nI iv)]) (rest := []) (rv := some (.int 1)) (st1 := [.int 1]) hX cs_X8_126 (by decide) (fun l => c_X8_isVehicle l G h top s be H iv hvl) hha rfl rfl rfl rfl (Nat.le_of_ble_eq_true rfl) dX8_ofVehicle_2 ?_
  refine r_callSR (As := [.int 1]) (rest := []) (rv := none) (st1 := []) hX cs_X8_58 (by decide) (fun l => c_X8_needIndex l G h top) rfl rfl rfl (Nat.le_of_ble_eq_true rfl) dX8_ofVehicle_5 ?_
  refine r_iload_n hX rfl 2 rfl dX8_ofVehicle_8 ?_
  refine r_iconst (v := 0) hX (by decide) dX8_ofVehicle_9 ?_
  refine r_bipush (v := 7) hX (by decide) dX8_ofVehicle_10 ?_
  refine r_callSR (As := [.int 6, .int 0, .int 7]) (rest := []) (rv := some (.int 1)) (st1 := [.int 1]) hX cs_X8_62 (by decide) (fun l => c_isIn_1 l G h top (by decide)) rfl rfl rfl (Nat.le_of_ble_eq_true rfl) dX8_ofVehicle_12 ?_
  refine r_callSR (As := [.int 1]) (rest := []) (rv := none) (st1 := []) hX cs_X8_66 (by decide) (fun l => c_X8_needArgument l G h top) rfl rfl rfl (Nat.le_of_ble_eq_true rfl) dX8_ofVehicle_15 ?_
  refine r_aload_n hX rfl 0 rfl dX8_ofVehicle_18 ?_
  refine r_getf hX fl_X8_16 hha rfl dX8_ofVehicle_19 ?_
  refine r_iload_n hX rfl 1 rfl dX8_ofVehicle_22 ?_
  refine r_callVR (As := [.int (nI iv)]) (rest := []) (rv := some (.ref v.1)) (st1 := [.ref v.1]) hX cs_X8_92 (by decide) (fun l => z_get hl1 hvl (z_mapget hv) l) hl11 rfl rfl rfl rfl (Nat.le_of_ble_eq_true rfl) dX8_ofVehicle_23 ?_
  refine r_cast (ci := 8) hX rfl hvs cl_X8_121 dX8_ofVehicle_26 ?_
  refine r_astore_n (lv' := [(3, .ref v.1), (0, .ref (z_b G)), (1, .int (nI iv)), (2, .int 6)]) hX rfl (by decide) rfl dX8_ofVehicle_29 ?_
  refine r_iload_n hX rfl 3 rfl dX8_ofVehicle_30 ?_
  refine r_tableIn (off := 79) (tgt := 110) hX (by decide) (by decide) (by decide) rfl dX8_ofVehicle_31 ?_
  refine r_aload_n hX rfl 0 rfl dX8_ofVehicle_110 ?_
  refine r_getf hX fl_X8_219 hvs rfl dX8_ofVehicle_111 ?_
  exact r_iret hX hq ⟨rfl, rfl, rfl⟩ dX8_ofVehicle_114

set_option maxRecDepth 20000 in
set_option maxHeartbeats 4000000 in
theorem c_ofVeh_7 (l : Launch) (G : zG) (h : zH) (top : Nat) (s : zS) (be : zB) (H : z_St G s be h top) (iv : Nat) (v : zVeh) (hv : (s_vehs s)[iv]? = some v) : z_Ct l yX8_ofVehicle cX8_ofVehicle 4 (some .int) 4 G [.ref (z_b G), .int (nI iv), .int 7] h top (z_R (some (.int (zm_ofVeh v 7))) h top) := by
  refine z_of (own := RX8) (nm := "ofVehicle") (by decide) rfl rfl (by decide) (Nat.le_of_ble_eq_true rfl) (fun X hX hq => ?_)
  replace hX : z_ok X cX8_ofVehicle 4 RX8 (some .int) "ofVehicle" 4 G := hX
  show z_Z X h top 0 [(0, .ref (z_b G)), (1, .int (nI iv)), (2, .int 7)] []
  have hha := H.hall
  have hbd := H.2.2.1.2.2
  have hl1 := H.l1
  have hl11 := hl1.1
  have hvl : iv < (s_vehs s).length := (List.getElem?_eq_some_iff.mp hv).1
  have hvs := H.veh hv
  refine r_aload_n hX rfl 0 rfl dX8_ofVehicle_0 ?_
  refine r_iload_n hX rfl 1 rfl dX8_ofVehicle_1 ?_
  refine r_callVR (As := [.int (nI iv)]) (rest := []) (rv := some (.int 1)) (st1 := [.int 1]) hX cs_X8_126 (by decide) (fun l => c_X8_isVehicle l G h top s be H iv hvl) hha rfl rfl rfl rfl (Nat.le_of_ble_eq_true rfl) dX8_ofVehicle_2 ?_
  refine r_callSR (As := [.int 1]) (rest := []) (rv := none) (st1 := []) hX cs_X8_58 (by decide) (fun l => c_X8_needIndex l G h top) rfl rfl rfl (Nat.le_of_ble_eq_true rfl) dX8_ofVehicle_5 ?_
  refine r_iload_n hX rfl 2 rfl dX8_ofVehicle_8 ?_
  refine r_iconst (v := 0) hX (by decide) dX8_ofVehicle_9 ?_
  refine r_bipush (v := 7) hX (by decide) dX8_ofVehicle_10 ?_
  refine r_callSR (As := [.int 7, .int 0, .int 7]) (rest := []) (rv := some (.int 1)) (st1 := [.int 1]) hX cs_X8_62 (by decide) (fun l => c_isIn_1 l G h top (by decide)) rfl rfl rfl (Nat.le_of_ble_eq_true rfl) dX8_ofVehicle_12 ?_
  refine r_callSR (As := [.int 1]) (rest := []) (rv := none) (st1 := []) hX cs_X8_66 (by decide) (fun l => c_X8_needArgument l G h top) rfl rfl rfl (Nat.le_of_ble_eq_true rfl) dX8_ofVehicle_15 ?_
  refine r_aload_n hX rfl 0 rfl dX8_ofVehicle_18 ?_
  refine r_getf hX fl_X8_16 hha rfl dX8_ofVehicle_19 ?_
  refine r_iload_n hX rfl 1 rfl dX8_ofVehicle_22 ?_
  refine r_callVR (As := [.int (nI iv)]) (rest := []) (rv := some (.ref v.1)) (st1 := [.ref v.1]) hX cs_X8_92 (by decide) (fun l => z_get hl1 hvl (z_mapget hv) l) hl11 rfl rfl rfl rfl (Nat.le_of_ble_eq_true rfl) dX8_ofVehicle_23 ?_
  refine r_cast (ci := 8) hX rfl hvs cl_X8_121 dX8_ofVehicle_26 ?_
  refine r_astore_n (lv' := [(3, .ref v.1), (0, .ref (z_b G)), (1, .int (nI iv)), (2, .int 7)]) hX rfl (by decide) rfl dX8_ofVehicle_29 ?_
  refine r_iload_n hX rfl 3 rfl dX8_ofVehicle_30 ?_
  refine r_tableOut (tgt := 115) hX (by decide) rfl dX8_ofVehicle_31 ?_
  refine r_aload_n hX rfl 0 rfl dX8_ofVehicle_115 ?_
  refine r_getf hX fl_X8_185 hvs rfl dX8_ofVehicle_116 ?_
  exact r_iret hX hq ⟨rfl, rfl, rfl⟩ dX8_ofVehicle_119

theorem c_ofVeh (l : Launch) (G : zG) (h : zH) (top : Nat) (s : zS) (be : zB) (H : z_St G s be h top) (iv : Nat) (v : zVeh) (hv : (s_vehs s)[iv]? = some v) : ∀ (k : Nat), k ≤ 7 → z_Ct l yX8_ofVehicle cX8_ofVehicle 4 (some .int) 4 G [.ref (z_b G), .int (nI iv), .int (nI k)] h top (z_R (some (.int (zm_ofVeh v k))) h top)
  | 0, _ => c_ofVeh_0 l G h top s be H iv v hv
  | 1, _ => c_ofVeh_1 l G h top s be H iv v hv
  | 2, _ => c_ofVeh_2 l G h top s be H iv v hv
  | 3, _ => c_ofVeh_3 l G h top s be H iv v hv
  | 4, _ => c_ofVeh_4 l G h top s be H iv v hv
  | 5, _ => c_ofVeh_5 l G h top s be H iv v hv
  | 6, _ => c_ofVeh_6 l G h top s be H iv v hv
  | 7, _ => c_ofVeh_7 l G h top s be H iv v hv
  | k + 8, hk => absurd hk (by omega)
set_option maxRecDepth 20000 in
set_option maxHeartbeats 4000000 in
theorem c_ofSgt_0 (l : Launch) (G : zG) (h : zH) (top : Nat) (s : zS) (be : zB) (H : z_St G s be h top) (i : Nat) (y : zSgt) (hy : (s_sgts s)[i]? = some y) : z_Ct l yX8_ofSighting cX8_ofSighting 4 (some .int) 4 G [.ref (z_b G), .int (nI i), .int 0] h top (z_R (some (.int (zm_ofSgt s y 0))) h top) := by
  refine z_of (own := RX8) (nm := "ofSighting") (by decide) rfl rfl (by decide) (Nat.le_of_ble_eq_true rfl) (fun X hX hq => ?_)
  replace hX : z_ok X cX8_ofSighting 4 RX8 (some .int) "ofSighting" 4 G := hX
  show z_Z X h top 0 [(0, .ref (z_b G)), (1, .int (nI i)), (2, .int 0)] []
  have hha := H.hall
  have hbd := H.2.2.1.2.2
  have hl2 := H.l2
  have hl21 := hl2.1
  have hyl : i < (s_sgts s).length := (List.getElem?_eq_some_iff.mp hy).1
  have hys := H.sgt hy
  have hym := H.2.2.2.1.1 y (List.mem_of_getElem? hy)
  obtain ⟨v, hv, hva⟩ := zm_vnum_at hym.1
  have hvs := H.veh hv
  rw [hva] at hvs
  obtain ⟨x, hx, hxa⟩ := zm_num_at hym.2
  have hxs := H.seg hx
  rw [hxa] at hxs
  refine r_aload_n hX rfl 0 rfl dX8_ofSighting_0 ?_
  refine r_iload_n hX rfl 1 rfl dX8_ofSighting_1 ?_
  refine r_callVR (As := [.int (nI i)]) (rest := []) (rv := some (.int 1)) (st1 := [.int 1]) hX cs_X8_160 (by decide) (fun l => c_X8_isSighting l G h top s be H i hyl) hha rfl rfl rfl rfl (Nat.le_of_ble_eq_true rfl) dX8_ofSighting_2 ?_
  refine r_callSR (As := [.int 1]) (rest := []) (rv := none) (st1 := []) hX cs_X8_58 (by decide) (fun l => c_X8_needIndex l G h top) rfl rfl rfl (Nat.le_of_ble_eq_true rfl) dX8_ofSighting_5 ?_
  refine r_iload_n hX rfl 2 rfl dX8_ofSighting_8 ?_
  refine r_iconst (v := 0) hX (by decide) dX8_ofSighting_9 ?_
  refine r_iconst (v := 4) hX (by decide) dX8_ofSighting_10 ?_
  refine r_callSR (As := [.int 0, .int 0, .int 4]) (rest := []) (rv := some (.int 1)) (st1 := [.int 1]) hX cs_X8_62 (by decide) (fun l => c_isIn_1 l G h top (by decide)) rfl rfl rfl (Nat.le_of_ble_eq_true rfl) dX8_ofSighting_11 ?_
  refine r_callSR (As := [.int 1]) (rest := []) (rv := none) (st1 := []) hX cs_X8_66 (by decide) (fun l => c_X8_needArgument l G h top) rfl rfl rfl (Nat.le_of_ble_eq_true rfl) dX8_ofSighting_14 ?_
  refine r_aload_n hX rfl 0 rfl dX8_ofSighting_17 ?_
  refine r_getf hX fl_X8_19 hha rfl dX8_ofSighting_18 ?_
  refine r_iload_n hX rfl 1 rfl dX8_ofSighting_21 ?_
  refine r_callVR (As := [.int (nI i)]) (rest := []) (rv := some (.ref y.1)) (st1 := [.ref y.1]) hX cs_X8_92 (by decide) (fun l => z_get hl2 hyl (z_mapget hy) l) hl21 rfl rfl rfl rfl (Nat.le_of_ble_eq_true rfl) dX8_ofSighting_22 ?_
  refine r_cast (ci := 5) hX rfl hys cl_X8_145 dX8_ofSighting_25 ?_
  refine r_astore_n (lv' := [(3, .ref y.1), (0, .ref (z_b G)), (1, .int (nI i)), (2, .int 0)]) hX rfl (by decide) rfl dX8_ofSighting_28 ?_
  refine r_iload_n hX rfl 3 rfl dX8_ofSighting_29 ?_
  refine r_iconst (v := 4) hX (by decide) dX8_ofSighting_30 ?_
  refine r_icmp_ne (tgt := 47) hX dX8_ofSighting_31 rfl (fun _ => ?_) (fun c => False.elim (absurd c (by decide)))
  refine r_aload_n hX rfl 0 rfl dX8_ofSighting_47 ?_
  refine r_getf hX fl_X8_166 hys rfl dX8_ofSighting_48 ?_
  refine r_if_eq (tgt := 56) hX dX8_ofSighting_51 rfl (fun c51 => ?_) (fun c51 => ?_)
  · skip
    refine r_iload_n hX rfl 3 rfl dX8_ofSighting_56 ?_
    refine r_tableIn (off := 27) (tgt := 84) hX (by decide) (by decide) (by decide) rfl dX8_ofSighting_57 ?_
    refine r_aload_n hX rfl 0 rfl dX8_ofSighting_84 ?_
    refine r_getf hX fl_X8_170 hys rfl dX8_ofSighting_85 ?_
    refine r_getf hX fl_X8_174 hvs rfl dX8_ofSighting_88 ?_
    exact r_iret hX hq ⟨by show _ = some (Value.int (if y.2.2.2.2 = 0 then _ else _)); rw [if_pos c51], rfl, rfl⟩ dX8_ofSighting_91
  · skip
    refine r_iconst (v := (-1)) hX (by decide) dX8_ofSighting_54 ?_
    exact r_iret hX hq ⟨by show _ = some (Value.int (if y.2.2.2.2 = 0 then _ else _)); rw [if_neg c51], rfl, rfl⟩ dX8_ofSighting_55

set_option maxRecDepth 20000 in
set_option maxHeartbeats 4000000 in
theorem c_ofSgt_1 (l : Launch) (G : zG) (h : zH) (top : Nat) (s : zS) (be : zB) (H : z_St G s be h top) (i : Nat) (y : zSgt) (hy : (s_sgts s)[i]? = some y) : z_Ct l yX8_ofSighting cX8_ofSighting 4 (some .int) 4 G [.ref (z_b G), .int (nI i), .int 1] h top (z_R (some (.int (zm_ofSgt s y 1))) h top) := by
  refine z_of (own := RX8) (nm := "ofSighting") (by decide) rfl rfl (by decide) (Nat.le_of_ble_eq_true rfl) (fun X hX hq => ?_)
  replace hX : z_ok X cX8_ofSighting 4 RX8 (some .int) "ofSighting" 4 G := hX
  show z_Z X h top 0 [(0, .ref (z_b G)), (1, .int (nI i)), (2, .int 1)] []
  have hha := H.hall
  have hbd := H.2.2.1.2.2
  have hl2 := H.l2
  have hl21 := hl2.1
  have hyl : i < (s_sgts s).length := (List.getElem?_eq_some_iff.mp hy).1
  have hys := H.sgt hy
  have hym := H.2.2.2.1.1 y (List.mem_of_getElem? hy)
  obtain ⟨v, hv, hva⟩ := zm_vnum_at hym.1
  have hvs := H.veh hv
  rw [hva] at hvs
  obtain ⟨x, hx, hxa⟩ := zm_num_at hym.2
  have hxs := H.seg hx
  rw [hxa] at hxs
  refine r_aload_n hX rfl 0 rfl dX8_ofSighting_0 ?_
  refine r_iload_n hX rfl 1 rfl dX8_ofSighting_1 ?_
  refine r_callVR (As := [.int (nI i)]) (rest := []) (rv := some (.int 1)) (st1 := [.int 1]) hX cs_X8_160 (by decide) (fun l => c_X8_isSighting l G h top s be H i hyl) hha rfl rfl rfl rfl (Nat.le_of_ble_eq_true rfl) dX8_ofSighting_2 ?_
  refine r_callSR (As := [.int 1]) (rest := []) (rv := none) (st1 := []) hX cs_X8_58 (by decide) (fun l => c_X8_needIndex l G h top) rfl rfl rfl (Nat.le_of_ble_eq_true rfl) dX8_ofSighting_5 ?_
  refine r_iload_n hX rfl 2 rfl dX8_ofSighting_8 ?_
  refine r_iconst (v := 0) hX (by decide) dX8_ofSighting_9 ?_
  refine r_iconst (v := 4) hX (by decide) dX8_ofSighting_10 ?_
  refine r_callSR (As := [.int 1, .int 0, .int 4]) (rest := []) (rv := some (.int 1)) (st1 := [.int 1]) hX cs_X8_62 (by decide) (fun l => c_isIn_1 l G h top (by decide)) rfl rfl rfl (Nat.le_of_ble_eq_true rfl) dX8_ofSighting_11 ?_
  refine r_callSR (As := [.int 1]) (rest := []) (rv := none) (st1 := []) hX cs_X8_66 (by decide) (fun l => c_X8_needArgument l G h top) rfl rfl rfl (Nat.le_of_ble_eq_true rfl) dX8_ofSighting_14 ?_
  refine r_aload_n hX rfl 0 rfl dX8_ofSighting_17 ?_
  refine r_getf hX fl_X8_19 hha rfl dX8_ofSighting_18 ?_
  refine r_iload_n hX rfl 1 rfl dX8_ofSighting_21 ?_
  refine r_callVR (As := [.int (nI i)]) (rest := []) (rv := some (.ref y.1)) (st1 := [.ref y.1]) hX cs_X8_92 (by decide) (fun l => z_get hl2 hyl (z_mapget hy) l) hl21 rfl rfl rfl rfl (Nat.le_of_ble_eq_true rfl) dX8_ofSighting_22 ?_
  refine r_cast (ci := 5) hX rfl hys cl_X8_145 dX8_ofSighting_25 ?_
  refine r_astore_n (lv' := [(3, .ref y.1), (0, .ref (z_b G)), (1, .int (nI i)), (2, .int 1)]) hX rfl (by decide) rfl dX8_ofSighting_28 ?_
  refine r_iload_n hX rfl 3 rfl dX8_ofSighting_29 ?_
  refine r_iconst (v := 4) hX (by decide) dX8_ofSighting_30 ?_
  refine r_icmp_ne (tgt := 47) hX dX8_ofSighting_31 rfl (fun _ => ?_) (fun c => False.elim (absurd c (by decide)))
  refine r_aload_n hX rfl 0 rfl dX8_ofSighting_47 ?_
  refine r_getf hX fl_X8_166 hys rfl dX8_ofSighting_48 ?_
  refine r_if_eq (tgt := 56) hX dX8_ofSighting_51 rfl (fun c51 => ?_) (fun c51 => ?_)
  · skip
    refine r_iload_n hX rfl 3 rfl dX8_ofSighting_56 ?_
    refine r_tableIn (off := 35) (tgt := 92) hX (by decide) (by decide) (by decide) rfl dX8_ofSighting_57 ?_
    refine r_aload_n hX rfl 0 rfl dX8_ofSighting_92 ?_
    refine r_getf hX fl_X8_259 hys rfl dX8_ofSighting_93 ?_
    refine r_getf hX fl_X8_263 hxs rfl dX8_ofSighting_96 ?_
    exact r_iret hX hq ⟨by show _ = some (Value.int (if y.2.2.2.2 = 0 then _ else _)); rw [if_pos c51], rfl, rfl⟩ dX8_ofSighting_99
  · skip
    refine r_iconst (v := (-1)) hX (by decide) dX8_ofSighting_54 ?_
    exact r_iret hX hq ⟨by show _ = some (Value.int (if y.2.2.2.2 = 0 then _ else _)); rw [if_neg c51], rfl, rfl⟩ dX8_ofSighting_55

set_option maxRecDepth 20000 in
set_option maxHeartbeats 4000000 in
theorem c_ofSgt_2 (l : Launch) (G : zG) (h : zH) (top : Nat) (s : zS) (be : zB) (H : z_St G s be h top) (i : Nat) (y : zSgt) (hy : (s_sgts s)[i]? = some y) : z_Ct l yX8_ofSighting cX8_ofSighting 4 (some .int) 4 G [.ref (z_b G), .int (nI i), .int 2] h top (z_R (some (.int (zm_ofSgt s y 2))) h top) := by
  refine z_of (own := RX8) (nm := "ofSighting") (by decide) rfl rfl (by decide) (Nat.le_of_ble_eq_true rfl) (fun X hX hq => ?_)
  replace hX : z_ok X cX8_ofSighting 4 RX8 (some .int) "ofSighting" 4 G := hX
  show z_Z X h top 0 [(0, .ref (z_b G)), (1, .int (nI i)), (2, .int 2)] []
  have hha := H.hall
  have hbd := H.2.2.1.2.2
  have hl2 := H.l2
  have hl21 := hl2.1
  have hyl : i < (s_sgts s).length := (List.getElem?_eq_some_iff.mp hy).1
  have hys := H.sgt hy
  have hym := H.2.2.2.1.1 y (List.mem_of_getElem? hy)
  obtain ⟨v, hv, hva⟩ := zm_vnum_at hym.1
  have hvs := H.veh hv
  rw [hva] at hvs
  obtain ⟨x, hx, hxa⟩ := zm_num_at hym.2
  have hxs := H.seg hx
  rw [hxa] at hxs
  refine r_aload_n hX rfl 0 rfl dX8_ofSighting_0 ?_
  refine r_iload_n hX rfl 1 rfl dX8_ofSighting_1 ?_
  refine r_callVR (As := [.int (nI i)]) (rest := []) (rv := some (.int 1)) (st1 := [.int 1]) hX cs_X8_160 (by decide) (fun l => c_X8_isSighting l G h top s be H i hyl) hha rfl rfl rfl rfl (Nat.le_of_ble_eq_true rfl) dX8_ofSighting_2 ?_
  refine r_callSR (As := [.int 1]) (rest := []) (rv := none) (st1 := []) hX cs_X8_58 (by decide) (fun l => c_X8_needIndex l G h top) rfl rfl rfl (Nat.le_of_ble_eq_true rfl) dX8_ofSighting_5 ?_
  refine r_iload_n hX rfl 2 rfl dX8_ofSighting_8 ?_
  refine r_iconst (v := 0) hX (by decide) dX8_ofSighting_9 ?_
  refine r_iconst (v := 4) hX (by decide) dX8_ofSighting_10 ?_
  refine r_callSR (As := [.int 2, .int 0, .int 4]) (rest := []) (rv := some (.int 1)) (st1 := [.int 1]) hX cs_X8_62 (by decide) (fun l => c_isIn_1 l G h top (by decide)) rfl rfl rfl (Nat.le_of_ble_eq_true rfl) dX8_ofSighting_11 ?_
  refine r_callSR (As := [.int 1]) (rest := []) (rv := none) (st1 := []) hX cs_X8_66 (by decide) (fun l => c_X8_needArgument l G h top) rfl rfl rfl (Nat.le_of_ble_eq_true rfl) dX8_ofSighting_14 ?_
  refine r_aload_n hX rfl 0 rfl dX8_ofSighting_17 ?_
  refine r_getf hX fl_X8_19 hha rfl dX8_ofSighting_18 ?_
  refine r_iload_n hX rfl 1 rfl dX8_ofSighting_21 ?_
  refine r_callVR (As := [.int (nI i)]) (rest := []) (rv := some (.ref y.1)) (st1 := [.ref y.1]) hX cs_X8_92 (by decide) (fun l => z_get hl2 hyl (z_mapget hy) l) hl21 rfl rfl rfl rfl (Nat.le_of_ble_eq_true rfl) dX8_ofSighting_22 ?_
  refine r_cast (ci := 5) hX rfl hys cl_X8_145 dX8_ofSighting_25 ?_
  refine r_astore_n (lv' := [(3, .ref y.1), (0, .ref (z_b G)), (1, .int (nI i)), (2, .int 2)]) hX rfl (by decide) rfl dX8_ofSighting_28 ?_
  refine r_iload_n hX rfl 3 rfl dX8_ofSighting_29 ?_
  refine r_iconst (v := 4) hX (by decide) dX8_ofSighting_30 ?_
  refine r_icmp_ne (tgt := 47) hX dX8_ofSighting_31 rfl (fun _ => ?_) (fun c => False.elim (absurd c (by decide)))
  refine r_aload_n hX rfl 0 rfl dX8_ofSighting_47 ?_
  refine r_getf hX fl_X8_166 hys rfl dX8_ofSighting_48 ?_
  refine r_if_eq (tgt := 56) hX dX8_ofSighting_51 rfl (fun c51 => ?_) (fun c51 => ?_)
  · skip
    refine r_iload_n hX rfl 3 rfl dX8_ofSighting_56 ?_
    refine r_tableIn (off := 43) (tgt := 100) hX (by decide) (by decide) (by decide) rfl dX8_ofSighting_57 ?_
    refine r_aload_n hX rfl 0 rfl dX8_ofSighting_100 ?_
    refine r_getf hX fl_X8_264 hys rfl dX8_ofSighting_101 ?_
    exact r_iret hX hq ⟨by show _ = some (Value.int (if y.2.2.2.2 = 0 then _ else _)); rw [if_pos c51], rfl, rfl⟩ dX8_ofSighting_104
  · skip
    refine r_iconst (v := (-1)) hX (by decide) dX8_ofSighting_54 ?_
    exact r_iret hX hq ⟨by show _ = some (Value.int (if y.2.2.2.2 = 0 then _ else _)); rw [if_neg c51], rfl, rfl⟩ dX8_ofSighting_55

set_option maxRecDepth 20000 in
set_option maxHeartbeats 4000000 in
theorem c_ofSgt_3 (l : Launch) (G : zG) (h : zH) (top : Nat) (s : zS) (be : zB) (H : z_St G s be h top) (i : Nat) (y : zSgt) (hy : (s_sgts s)[i]? = some y) : z_Ct l yX8_ofSighting cX8_ofSighting 4 (some .int) 4 G [.ref (z_b G), .int (nI i), .int 3] h top (z_R (some (.int (zm_ofSgt s y 3))) h top) := by
  refine z_of (own := RX8) (nm := "ofSighting") (by decide) rfl rfl (by decide) (Nat.le_of_ble_eq_true rfl) (fun X hX hq => ?_)
  replace hX : z_ok X cX8_ofSighting 4 RX8 (some .int) "ofSighting" 4 G := hX
  show z_Z X h top 0 [(0, .ref (z_b G)), (1, .int (nI i)), (2, .int 3)] []
  have hha := H.hall
  have hbd := H.2.2.1.2.2
  have hl2 := H.l2
  have hl21 := hl2.1
  have hyl : i < (s_sgts s).length := (List.getElem?_eq_some_iff.mp hy).1
  have hys := H.sgt hy
  have hym := H.2.2.2.1.1 y (List.mem_of_getElem? hy)
  obtain ⟨v, hv, hva⟩ := zm_vnum_at hym.1
  have hvs := H.veh hv
  rw [hva] at hvs
  obtain ⟨x, hx, hxa⟩ := zm_num_at hym.2
  have hxs := H.seg hx
  rw [hxa] at hxs
  refine r_aload_n hX rfl 0 rfl dX8_ofSighting_0 ?_
  refine r_iload_n hX rfl 1 rfl dX8_ofSighting_1 ?_
  refine r_callVR (As := [.int (nI i)]) (rest := []) (rv := some (.int 1)) (st1 := [.int 1]) hX cs_X8_160 (by decide) (fun l => c_X8_isSighting l G h top s be H i hyl) hha rfl rfl rfl rfl (Nat.le_of_ble_eq_true rfl) dX8_ofSighting_2 ?_
  refine r_callSR (As := [.int 1]) (rest := []) (rv := none) (st1 := []) hX cs_X8_58 (by decide) (fun l => c_X8_needIndex l G h top) rfl rfl rfl (Nat.le_of_ble_eq_true rfl) dX8_ofSighting_5 ?_
  refine r_iload_n hX rfl 2 rfl dX8_ofSighting_8 ?_
  refine r_iconst (v := 0) hX (by decide) dX8_ofSighting_9 ?_
  refine r_iconst (v := 4) hX (by decide) dX8_ofSighting_10 ?_
  refine r_callSR (As := [.int 3, .int 0, .int 4]) (rest := []) (rv := some (.int 1)) (st1 := [.int 1]) hX cs_X8_62 (by decide) (fun l => c_isIn_1 l G h top (by decide)) rfl rfl rfl (Nat.le_of_ble_eq_true rfl) dX8_ofSighting_11 ?_
  refine r_callSR (As := [.int 1]) (rest := []) (rv := none) (st1 := []) hX cs_X8_66 (by decide) (fun l => c_X8_needArgument l G h top) rfl rfl rfl (Nat.le_of_ble_eq_true rfl) dX8_ofSighting_14 ?_
  refine r_aload_n hX rfl 0 rfl dX8_ofSighting_17 ?_
  refine r_getf hX fl_X8_19 hha rfl dX8_ofSighting_18 ?_
  refine r_iload_n hX rfl 1 rfl dX8_ofSighting_21 ?_
  refine r_callVR (As := [.int (nI i)]) (rest := []) (rv := some (.ref y.1)) (st1 := [.ref y.1]) hX cs_X8_92 (by decide) (fun l => z_get hl2 hyl (z_mapget hy) l) hl21 rfl rfl rfl rfl (Nat.le_of_ble_eq_true rfl) dX8_ofSighting_22 ?_
  refine r_cast (ci := 5) hX rfl hys cl_X8_145 dX8_ofSighting_25 ?_
  refine r_astore_n (lv' := [(3, .ref y.1), (0, .ref (z_b G)), (1, .int (nI i)), (2, .int 3)]) hX rfl (by decide) rfl dX8_ofSighting_28 ?_
  refine r_iload_n hX rfl 3 rfl dX8_ofSighting_29 ?_
  refine r_iconst (v := 4) hX (by decide) dX8_ofSighting_30 ?_
  refine r_icmp_ne (tgt := 47) hX dX8_ofSighting_31 rfl (fun _ => ?_) (fun c => False.elim (absurd c (by decide)))
  refine r_aload_n hX rfl 0 rfl dX8_ofSighting_47 ?_
  refine r_getf hX fl_X8_166 hys rfl dX8_ofSighting_48 ?_
  refine r_if_eq (tgt := 56) hX dX8_ofSighting_51 rfl (fun c51 => ?_) (fun c51 => ?_)
  · skip
    refine r_iload_n hX rfl 3 rfl dX8_ofSighting_56 ?_
    refine r_tableOut (tgt := 105) hX (by decide) rfl dX8_ofSighting_57 ?_
    refine r_aload_n hX rfl 0 rfl dX8_ofSighting_105 ?_
    refine r_getf hX fl_X8_163 hys rfl dX8_ofSighting_106 ?_
    exact r_iret hX hq ⟨by show _ = some (Value.int (if y.2.2.2.2 = 0 then _ else _)); rw [if_pos c51], rfl, rfl⟩ dX8_ofSighting_109
  · skip
    refine r_iconst (v := (-1)) hX (by decide) dX8_ofSighting_54 ?_
    exact r_iret hX hq ⟨by show _ = some (Value.int (if y.2.2.2.2 = 0 then _ else _)); rw [if_neg c51], rfl, rfl⟩ dX8_ofSighting_55

set_option maxRecDepth 20000 in
set_option maxHeartbeats 4000000 in
theorem c_ofSgt_4 (l : Launch) (G : zG) (h : zH) (top : Nat) (s : zS) (be : zB) (H : z_St G s be h top) (i : Nat) (y : zSgt) (hy : (s_sgts s)[i]? = some y) : z_Ct l yX8_ofSighting cX8_ofSighting 4 (some .int) 4 G [.ref (z_b G), .int (nI i), .int 4] h top (z_R (some (.int (zm_ofSgt s y 4))) h top) := by
  refine z_of (own := RX8) (nm := "ofSighting") (by decide) rfl rfl (by decide) (Nat.le_of_ble_eq_true rfl) (fun X hX hq => ?_)
  replace hX : z_ok X cX8_ofSighting 4 RX8 (some .int) "ofSighting" 4 G := hX
  show z_Z X h top 0 [(0, .ref (z_b G)), (1, .int (nI i)), (2, .int 4)] []
  have hha := H.hall
  have hbd := H.2.2.1.2.2
  have hl2 := H.l2
  have hl21 := hl2.1
  have hyl : i < (s_sgts s).length := (List.getElem?_eq_some_iff.mp hy).1
  have hys := H.sgt hy
  have hym := H.2.2.2.1.1 y (List.mem_of_getElem? hy)
  obtain ⟨v, hv, hva⟩ := zm_vnum_at hym.1
  have hvs := H.veh hv
  rw [hva] at hvs
  obtain ⟨x, hx, hxa⟩ := zm_num_at hym.2
  have hxs := H.seg hx
  rw [hxa] at hxs
  refine r_aload_n hX rfl 0 rfl dX8_ofSighting_0 ?_
  refine r_iload_n hX rfl 1 rfl dX8_ofSighting_1 ?_
  refine r_callVR (As := [.int (nI i)]) (rest := []) (rv := some (.int 1)) (st1 := [.int 1]) hX cs_X8_160 (by decide) (fun l => c_X8_isSighting l G h top s be H i hyl) hha rfl rfl rfl rfl (Nat.le_of_ble_eq_true rfl) dX8_ofSighting_2 ?_
  refine r_callSR (As := [.int 1]) (rest := []) (rv := none) (st1 := []) hX cs_X8_58 (by decide) (fun l => c_X8_needIndex l G h top) rfl rfl rfl (Nat.le_of_ble_eq_true rfl) dX8_ofSighting_5 ?_
  refine r_iload_n hX rfl 2 rfl dX8_ofSighting_8 ?_
  refine r_iconst (v := 0) hX (by decide) dX8_ofSighting_9 ?_
  refine r_iconst (v := 4) hX (by decide) dX8_ofSighting_10 ?_
  refine r_callSR (As := [.int 4, .int 0, .int 4]) (rest := []) (rv := some (.int 1)) (st1 := [.int 1]) hX cs_X8_62 (by decide) (fun l => c_isIn_1 l G h top (by decide)) rfl rfl rfl (Nat.le_of_ble_eq_true rfl) dX8_ofSighting_11 ?_
  refine r_callSR (As := [.int 1]) (rest := []) (rv := none) (st1 := []) hX cs_X8_66 (by decide) (fun l => c_X8_needArgument l G h top) rfl rfl rfl (Nat.le_of_ble_eq_true rfl) dX8_ofSighting_14 ?_
  refine r_aload_n hX rfl 0 rfl dX8_ofSighting_17 ?_
  refine r_getf hX fl_X8_19 hha rfl dX8_ofSighting_18 ?_
  refine r_iload_n hX rfl 1 rfl dX8_ofSighting_21 ?_
  refine r_callVR (As := [.int (nI i)]) (rest := []) (rv := some (.ref y.1)) (st1 := [.ref y.1]) hX cs_X8_92 (by decide) (fun l => z_get hl2 hyl (z_mapget hy) l) hl21 rfl rfl rfl rfl (Nat.le_of_ble_eq_true rfl) dX8_ofSighting_22 ?_
  refine r_cast (ci := 5) hX rfl hys cl_X8_145 dX8_ofSighting_25 ?_
  refine r_astore_n (lv' := [(3, .ref y.1), (0, .ref (z_b G)), (1, .int (nI i)), (2, .int 4)]) hX rfl (by decide) rfl dX8_ofSighting_28 ?_
  refine r_iload_n hX rfl 3 rfl dX8_ofSighting_29 ?_
  refine r_iconst (v := 4) hX (by decide) dX8_ofSighting_30 ?_
  refine r_icmp_ne (tgt := 47) hX dX8_ofSighting_31 rfl (fun c => False.elim (absurd c (by decide))) (fun _ => ?_)
  refine r_aload_n hX rfl 0 rfl dX8_ofSighting_34 ?_
  refine r_getf hX fl_X8_166 hys rfl dX8_ofSighting_35 ?_
  refine r_if_eq (tgt := 45) hX dX8_ofSighting_38 rfl (fun c38 => ?_) (fun c38 => ?_)
  · skip
    refine r_iconst (v := 0) hX (by decide) dX8_ofSighting_45 ?_
    exact r_iret hX hq ⟨by show _ = some (Value.int (if y.2.2.2.2 = 0 then _ else _)); rw [if_pos c38], rfl, rfl⟩ dX8_ofSighting_46
  · skip
    refine r_iconst (v := 1) hX (by decide) dX8_ofSighting_41 ?_
    refine r_goto (tgt := 46) hX rfl dX8_ofSighting_42 ?_
    exact r_iret hX hq ⟨by show _ = some (Value.int (if y.2.2.2.2 = 0 then _ else _)); rw [if_neg c38], rfl, rfl⟩ dX8_ofSighting_46

theorem c_ofSgt (l : Launch) (G : zG) (h : zH) (top : Nat) (s : zS) (be : zB) (H : z_St G s be h top) (i : Nat) (y : zSgt) (hy : (s_sgts s)[i]? = some y) : ∀ (k : Nat), k ≤ 4 → z_Ct l yX8_ofSighting cX8_ofSighting 4 (some .int) 4 G [.ref (z_b G), .int (nI i), .int (nI k)] h top (z_R (some (.int (zm_ofSgt s y k))) h top)
  | 0, _ => c_ofSgt_0 l G h top s be H i y hy
  | 1, _ => c_ofSgt_1 l G h top s be H i y hy
  | 2, _ => c_ofSgt_2 l G h top s be H i y hy
  | 3, _ => c_ofSgt_3 l G h top s be H i y hy
  | 4, _ => c_ofSgt_4 l G h top s be H i y hy
  | k + 5, hk => absurd hk (by omega)
set_option maxRecDepth 20000 in
set_option maxHeartbeats 4000000 in
theorem c_X6_size (l : Launch) (G : zG) (h : zH) (top : Nat) (s : zS) (be : zB) (H : z_St G s be h top) : z_Ct l yX6_size cX6_size 1 (some .int) 2 G [.ref (z_b G + 4)] h top (z_R (some (.int (nI (s_tars s).length))) h top) := by
  refine z_of (own := RX6) (nm := "size") (by decide) rfl rfl (by decide) (Nat.le_of_ble_eq_true rfl) (fun X hX hq => ?_)
  replace hX : z_ok X cX6_size 1 RX6 (some .int) "size" 2 G := hX
  show z_Z X h top 0 [(0, .ref (z_b G + 4))] []
  have hha := H.hall
  have hbd := H.2.2.1.2.2
  have hl3 := H.l3
  have hl31 := hl3.1
  have htf := H.tfs
  refine r_aload_n hX rfl 0 rfl dX6_size_0 ?_
  refine r_getf hX fl_X6_12 htf rfl dX6_size_1 ?_
  refine r_callVR (As := []) (rest := []) (rv := some (.int (nI (s_tars s).length))) (st1 := [.int (nI (s_tars s).length)]) hX cs_X6_22 (by decide) (fun l => z_size hl3 l) hl31 rfl rfl rfl rfl (Nat.le_of_ble_eq_true rfl) dX6_size_4 ?_
  exact r_iret hX hq ⟨rfl, rfl, rfl⟩ dX6_size_7

set_option maxRecDepth 20000 in
set_option maxHeartbeats 4000000 in
theorem c_ofOwn_0 (l : Launch) (G : zG) (h : zH) (top : Nat) (s : zS) (be : zB) (H : z_St G s be h top) (o : Nat) (ho : o < 4) : z_Ct l yX8_ofOwner cX8_ofOwner 4 (some .int) 5 G [.ref (z_b G), .int (nI o), .int 0] h top (z_R (some (.int (zm_ofOwn s o 0))) h top) := by
  refine z_of (own := RX8) (nm := "ofOwner") (by decide) rfl rfl (by decide) (Nat.le_of_ble_eq_true rfl) (fun X hX hq => ?_)
  replace hX : z_ok X cX8_ofOwner 4 RX8 (some .int) "ofOwner" 5 G := hX
  show z_Z X h top 0 [(0, .ref (z_b G)), (1, .int (nI o)), (2, .int 0)] []
  have hha := H.hall
  have hbd := H.2.2.1.2.2
  have htf := H.tfs
  have hlg := H.lg
  refine r_iload_n hX rfl 1 rfl dX8_ofOwner_0 ?_
  refine r_callSR (As := [.int (nI o)]) (rest := []) (rv := some (.int 1)) (st1 := [.int 1]) hX cs_X8_55 (by decide) (fun l => c_isOwner_1 l G h top ho) rfl rfl rfl (Nat.le_of_ble_eq_true rfl) dX8_ofOwner_1 ?_
  refine r_callSR (As := [.int 1]) (rest := []) (rv := none) (st1 := []) hX cs_X8_58 (by decide) (fun l => c_X8_needIndex l G h top) rfl rfl rfl (Nat.le_of_ble_eq_true rfl) dX8_ofOwner_4 ?_
  refine r_iload_n hX rfl 2 rfl dX8_ofOwner_7 ?_
  refine r_iconst (v := 0) hX (by decide) dX8_ofOwner_8 ?_
  refine r_iconst (v := 3) hX (by decide) dX8_ofOwner_9 ?_
  refine r_callSR (As := [.int 0, .int 0, .int 3]) (rest := []) (rv := some (.int 1)) (st1 := [.int 1]) hX cs_X8_62 (by decide) (fun l => c_isIn_1 l G h top (by decide)) rfl rfl rfl (Nat.le_of_ble_eq_true rfl) dX8_ofOwner_10 ?_
  refine r_callSR (As := [.int 1]) (rest := []) (rv := none) (st1 := []) hX cs_X8_66 (by decide) (fun l => c_X8_needArgument l G h top) rfl rfl rfl (Nat.le_of_ble_eq_true rfl) dX8_ofOwner_13 ?_
  refine r_iload_n hX rfl 2 rfl dX8_ofOwner_16 ?_
  refine r_if_ne (tgt := 29) hX dX8_ofOwner_17 rfl (fun c => False.elim (absurd c (by decide))) (fun _ => ?_)
  refine r_aload_n hX rfl 0 rfl dX8_ofOwner_20 ?_
  refine r_getf hX fl_X8_32 hha rfl dX8_ofOwner_21 ?_
  refine r_iload_n hX rfl 1 rfl dX8_ofOwner_24 ?_
  refine r_callVR (As := [.int (nI o)]) (rest := []) (rv := some (.int (s_coins s (nI o).toNatClampNeg))) (st1 := [.int (s_coins s (nI o).toNatClampNeg)]) hX cs_X8_267 (by decide) (fun l => c_X1_coinsOf l G h top s be H o ho) hlg rfl rfl rfl rfl (Nat.le_of_ble_eq_true rfl) dX8_ofOwner_25 ?_
  exact r_iret hX hq ⟨rfl, rfl, rfl⟩ dX8_ofOwner_28

set_option maxRecDepth 20000 in
set_option maxHeartbeats 4000000 in
theorem c_ofOwn_1n (l : Launch) (G : zG) (h : zH) (top : Nat) (s : zS) (be : zB) (H : z_St G s be h top) (o : Nat) (ho : o < 4) (hin : zm_inForce (s_tars s) (nI o) (s_now s / 1440) = none) : z_Ct l yX8_ofOwner cX8_ofOwner 4 (some .int) 5 G [.ref (z_b G), .int (nI o), .int 1] h top (z_R (some (.int (zm_ofOwn s o 1))) h top) := by
  refine z_of (own := RX8) (nm := "ofOwner") (by decide) rfl rfl (by decide) (Nat.le_of_ble_eq_true rfl) (fun X hX hq => ?_)
  replace hX : z_ok X cX8_ofOwner 4 RX8 (some .int) "ofOwner" 5 G := hX
  show z_Z X h top 0 [(0, .ref (z_b G)), (1, .int (nI o)), (2, .int 1)] []
  have hha := H.hall
  have hbd := H.2.2.1.2.2
  have htf := H.tfs
  have hlg := H.lg
  refine r_iload_n hX rfl 1 rfl dX8_ofOwner_0 ?_
  refine r_callSR (As := [.int (nI o)]) (rest := []) (rv := some (.int 1)) (st1 := [.int 1]) hX cs_X8_55 (by decide) (fun l => c_isOwner_1 l G h top ho) rfl rfl rfl (Nat.le_of_ble_eq_true rfl) dX8_ofOwner_1 ?_
  refine r_callSR (As := [.int 1]) (rest := []) (rv := none) (st1 := []) hX cs_X8_58 (by decide) (fun l => c_X8_needIndex l G h top) rfl rfl rfl (Nat.le_of_ble_eq_true rfl) dX8_ofOwner_4 ?_
  refine r_iload_n hX rfl 2 rfl dX8_ofOwner_7 ?_
  refine r_iconst (v := 0) hX (by decide) dX8_ofOwner_8 ?_
  refine r_iconst (v := 3) hX (by decide) dX8_ofOwner_9 ?_
  refine r_callSR (As := [.int 1, .int 0, .int 3]) (rest := []) (rv := some (.int 1)) (st1 := [.int 1]) hX cs_X8_62 (by decide) (fun l => c_isIn_1 l G h top (by decide)) rfl rfl rfl (Nat.le_of_ble_eq_true rfl) dX8_ofOwner_10 ?_
  refine r_callSR (As := [.int 1]) (rest := []) (rv := none) (st1 := []) hX cs_X8_66 (by decide) (fun l => c_X8_needArgument l G h top) rfl rfl rfl (Nat.le_of_ble_eq_true rfl) dX8_ofOwner_13 ?_
  refine r_iload_n hX rfl 2 rfl dX8_ofOwner_16 ?_
  refine r_if_ne (tgt := 29) hX dX8_ofOwner_17 rfl (fun _ => ?_) (fun c => False.elim (absurd c (by decide)))
  refine r_aload_n hX rfl 0 rfl dX8_ofOwner_29 ?_
  refine r_getf hX fl_X8_25 hha rfl dX8_ofOwner_30 ?_
  refine r_iload_n hX rfl 1 rfl dX8_ofOwner_33 ?_
  refine r_aload_n hX rfl 0 rfl dX8_ofOwner_34 ?_
  refine r_callVR (As := []) (rest := [.int (nI o), .ref (z_b G + 4)]) (rv := some (.int (s_now s / 1440))) (st1 := [.int (s_now s / 1440), .int (nI o), .ref (z_b G + 4)]) hX cs_X8_194 (by decide) (fun l => c_X8_today l G h top s be H) hha rfl rfl rfl rfl (Nat.le_of_ble_eq_true rfl) dX8_ofOwner_35 ?_
  refine r_callVR (As := [.int (nI o), .int (s_now s / 1440)]) (rest := []) (rv := some (.null)) (st1 := [.null]) hX cs_X8_270 (by decide) (fun l => c_inF_none l G h top (z_b G + 4) (z_b G + 5) (z_b G + 6) (s_tars s) (b_ls be 3).1 (b_ls be 3).2.1 (b_ls be 3).2.2 H.tfs H.l3 (fun i t ht => H.tar ht) (nI o) (s_now s / 1440) hin) htf rfl rfl rfl rfl (Nat.le_of_ble_eq_true rfl) dX8_ofOwner_38 ?_
  refine r_astore_nN (lv' := [(3, .null), (0, .ref (z_b G)), (1, .int (nI o)), (2, .int 1)]) hX rfl (by decide) rfl dX8_ofOwner_41 ?_
  refine r_aload_nN hX rfl 0 rfl dX8_ofOwner_42 ?_
  refine r_ifnonnullN hX dX8_ofOwner_43 ?_
  refine r_iconst (v := 0) hX (by decide) dX8_ofOwner_46 ?_
  exact r_iret hX hq ⟨by unfold zm_ofOwn; rw [hin]; rfl, rfl, rfl⟩ dX8_ofOwner_47

set_option maxRecDepth 20000 in
set_option maxHeartbeats 4000000 in
theorem c_ofOwn_1s (l : Launch) (G : zG) (h : zH) (top : Nat) (s : zS) (be : zB) (H : z_St G s be h top) (o : Nat) (ho : o < 4) (t : zTar) (hin : zm_inForce (s_tars s) (nI o) (s_now s / 1440) = some t) : z_Ct l yX8_ofOwner cX8_ofOwner 4 (some .int) 5 G [.ref (z_b G), .int (nI o), .int 1] h top (z_R (some (.int (zm_ofOwn s o 1))) h top) := by
  refine z_of (own := RX8) (nm := "ofOwner") (by decide) rfl rfl (by decide) (Nat.le_of_ble_eq_true rfl) (fun X hX hq => ?_)
  replace hX : z_ok X cX8_ofOwner 4 RX8 (some .int) "ofOwner" 5 G := hX
  show z_Z X h top 0 [(0, .ref (z_b G)), (1, .int (nI o)), (2, .int 1)] []
  have hha := H.hall
  have hbd := H.2.2.1.2.2
  have htf := H.tfs
  have hlg := H.lg
  have htt := zm_inF_mem (fun i t ht => H.tar ht) hin
  refine r_iload_n hX rfl 1 rfl dX8_ofOwner_0 ?_
  refine r_callSR (As := [.int (nI o)]) (rest := []) (rv := some (.int 1)) (st1 := [.int 1]) hX cs_X8_55 (by decide) (fun l => c_isOwner_1 l G h top ho) rfl rfl rfl (Nat.le_of_ble_eq_true rfl) dX8_ofOwner_1 ?_
  refine r_callSR (As := [.int 1]) (rest := []) (rv := none) (st1 := []) hX cs_X8_58 (by decide) (fun l => c_X8_needIndex l G h top) rfl rfl rfl (Nat.le_of_ble_eq_true rfl) dX8_ofOwner_4 ?_
  refine r_iload_n hX rfl 2 rfl dX8_ofOwner_7 ?_
  refine r_iconst (v := 0) hX (by decide) dX8_ofOwner_8 ?_
  refine r_iconst (v := 3) hX (by decide) dX8_ofOwner_9 ?_
  refine r_callSR (As := [.int 1, .int 0, .int 3]) (rest := []) (rv := some (.int 1)) (st1 := [.int 1]) hX cs_X8_62 (by decide) (fun l => c_isIn_1 l G h top (by decide)) rfl rfl rfl (Nat.le_of_ble_eq_true rfl) dX8_ofOwner_10 ?_
  refine r_callSR (As := [.int 1]) (rest := []) (rv := none) (st1 := []) hX cs_X8_66 (by decide) (fun l => c_X8_needArgument l G h top) rfl rfl rfl (Nat.le_of_ble_eq_true rfl) dX8_ofOwner_13 ?_
  refine r_iload_n hX rfl 2 rfl dX8_ofOwner_16 ?_
  refine r_if_ne (tgt := 29) hX dX8_ofOwner_17 rfl (fun _ => ?_) (fun c => False.elim (absurd c (by decide)))
  refine r_aload_n hX rfl 0 rfl dX8_ofOwner_29 ?_
  refine r_getf hX fl_X8_25 hha rfl dX8_ofOwner_30 ?_
  refine r_iload_n hX rfl 1 rfl dX8_ofOwner_33 ?_
  refine r_aload_n hX rfl 0 rfl dX8_ofOwner_34 ?_
  refine r_callVR (As := []) (rest := [.int (nI o), .ref (z_b G + 4)]) (rv := some (.int (s_now s / 1440))) (st1 := [.int (s_now s / 1440), .int (nI o), .ref (z_b G + 4)]) hX cs_X8_194 (by decide) (fun l => c_X8_today l G h top s be H) hha rfl rfl rfl rfl (Nat.le_of_ble_eq_true rfl) dX8_ofOwner_35 ?_
  refine r_callVR (As := [.int (nI o), .int (s_now s / 1440)]) (rest := []) (rv := some (.ref t.1)) (st1 := [.ref t.1]) hX cs_X8_270 (by decide) (fun l => c_inF_some l G h top (z_b G + 4) (z_b G + 5) (z_b G + 6) (s_tars s) (b_ls be 3).1 (b_ls be 3).2.1 (b_ls be 3).2.2 H.tfs H.l3 (fun i t ht => H.tar ht) (nI o) (s_now s / 1440) t hin) htf rfl rfl rfl rfl (Nat.le_of_ble_eq_true rfl) dX8_ofOwner_38 ?_
  refine r_astore_n (lv' := [(3, .ref t.1), (0, .ref (z_b G)), (1, .int (nI o)), (2, .int 1)]) hX rfl (by decide) rfl dX8_ofOwner_41 ?_
  refine r_aload_n hX rfl 0 rfl dX8_ofOwner_42 ?_
  refine r_ifnonnull (tgt := 48) hX rfl dX8_ofOwner_43 ?_
  refine r_iload_n hX rfl 3 rfl dX8_ofOwner_48 ?_
  refine r_lookup (off := 27) (tgt := 76) hX dX8_ofOwner_49 (by decide) (by decide) rfl ?_
  refine r_aload_n hX rfl 0 rfl dX8_ofOwner_76 ?_
  refine r_getf hX fl_X8_274 htt rfl dX8_ofOwner_77 ?_
  exact r_iret hX hq ⟨by unfold zm_ofOwn; rw [hin]; rfl, rfl, rfl⟩ dX8_ofOwner_80

theorem c_ofOwn_1 (l : Launch) (G : zG) (h : zH) (top : Nat) (s : zS) (be : zB) (H : z_St G s be h top) (o : Nat) (ho : o < 4) : z_Ct l yX8_ofOwner cX8_ofOwner 4 (some .int) 5 G [.ref (z_b G), .int (nI o), .int 1] h top (z_R (some (.int (zm_ofOwn s o 1))) h top) := by
  cases hin : zm_inForce (s_tars s) (nI o) (s_now s / 1440) with
  | none => exact c_ofOwn_1n l G h top s be H o ho hin
  | some t => exact c_ofOwn_1s l G h top s be H o ho t hin
set_option maxRecDepth 20000 in
set_option maxHeartbeats 4000000 in
theorem c_ofOwn_2n (l : Launch) (G : zG) (h : zH) (top : Nat) (s : zS) (be : zB) (H : z_St G s be h top) (o : Nat) (ho : o < 4) (hin : zm_inForce (s_tars s) (nI o) (s_now s / 1440) = none) : z_Ct l yX8_ofOwner cX8_ofOwner 4 (some .int) 5 G [.ref (z_b G), .int (nI o), .int 2] h top (z_R (some (.int (zm_ofOwn s o 2))) h top) := by
  refine z_of (own := RX8) (nm := "ofOwner") (by decide) rfl rfl (by decide) (Nat.le_of_ble_eq_true rfl) (fun X hX hq => ?_)
  replace hX : z_ok X cX8_ofOwner 4 RX8 (some .int) "ofOwner" 5 G := hX
  show z_Z X h top 0 [(0, .ref (z_b G)), (1, .int (nI o)), (2, .int 2)] []
  have hha := H.hall
  have hbd := H.2.2.1.2.2
  have htf := H.tfs
  have hlg := H.lg
  refine r_iload_n hX rfl 1 rfl dX8_ofOwner_0 ?_
  refine r_callSR (As := [.int (nI o)]) (rest := []) (rv := some (.int 1)) (st1 := [.int 1]) hX cs_X8_55 (by decide) (fun l => c_isOwner_1 l G h top ho) rfl rfl rfl (Nat.le_of_ble_eq_true rfl) dX8_ofOwner_1 ?_
  refine r_callSR (As := [.int 1]) (rest := []) (rv := none) (st1 := []) hX cs_X8_58 (by decide) (fun l => c_X8_needIndex l G h top) rfl rfl rfl (Nat.le_of_ble_eq_true rfl) dX8_ofOwner_4 ?_
  refine r_iload_n hX rfl 2 rfl dX8_ofOwner_7 ?_
  refine r_iconst (v := 0) hX (by decide) dX8_ofOwner_8 ?_
  refine r_iconst (v := 3) hX (by decide) dX8_ofOwner_9 ?_
  refine r_callSR (As := [.int 2, .int 0, .int 3]) (rest := []) (rv := some (.int 1)) (st1 := [.int 1]) hX cs_X8_62 (by decide) (fun l => c_isIn_1 l G h top (by decide)) rfl rfl rfl (Nat.le_of_ble_eq_true rfl) dX8_ofOwner_10 ?_
  refine r_callSR (As := [.int 1]) (rest := []) (rv := none) (st1 := []) hX cs_X8_66 (by decide) (fun l => c_X8_needArgument l G h top) rfl rfl rfl (Nat.le_of_ble_eq_true rfl) dX8_ofOwner_13 ?_
  refine r_iload_n hX rfl 2 rfl dX8_ofOwner_16 ?_
  refine r_if_ne (tgt := 29) hX dX8_ofOwner_17 rfl (fun _ => ?_) (fun c => False.elim (absurd c (by decide)))
  refine r_aload_n hX rfl 0 rfl dX8_ofOwner_29 ?_
  refine r_getf hX fl_X8_25 hha rfl dX8_ofOwner_30 ?_
  refine r_iload_n hX rfl 1 rfl dX8_ofOwner_33 ?_
  refine r_aload_n hX rfl 0 rfl dX8_ofOwner_34 ?_
  refine r_callVR (As := []) (rest := [.int (nI o), .ref (z_b G + 4)]) (rv := some (.int (s_now s / 1440))) (st1 := [.int (s_now s / 1440), .int (nI o), .ref (z_b G + 4)]) hX cs_X8_194 (by decide) (fun l => c_X8_today l G h top s be H) hha rfl rfl rfl rfl (Nat.le_of_ble_eq_true rfl) dX8_ofOwner_35 ?_
  refine r_callVR (As := [.int (nI o), .int (s_now s / 1440)]) (rest := []) (rv := some (.null)) (st1 := [.null]) hX cs_X8_270 (by decide) (fun l => c_inF_none l G h top (z_b G + 4) (z_b G + 5) (z_b G + 6) (s_tars s) (b_ls be 3).1 (b_ls be 3).2.1 (b_ls be 3).2.2 H.tfs H.l3 (fun i t ht => H.tar ht) (nI o) (s_now s / 1440) hin) htf rfl rfl rfl rfl (Nat.le_of_ble_eq_true rfl) dX8_ofOwner_38 ?_
  refine r_astore_nN (lv' := [(3, .null), (0, .ref (z_b G)), (1, .int (nI o)), (2, .int 2)]) hX rfl (by decide) rfl dX8_ofOwner_41 ?_
  refine r_aload_nN hX rfl 0 rfl dX8_ofOwner_42 ?_
  refine r_ifnonnullN hX dX8_ofOwner_43 ?_
  refine r_iconst (v := 0) hX (by decide) dX8_ofOwner_46 ?_
  exact r_iret hX hq ⟨by unfold zm_ofOwn; rw [hin]; rfl, rfl, rfl⟩ dX8_ofOwner_47

set_option maxRecDepth 20000 in
set_option maxHeartbeats 4000000 in
theorem c_ofOwn_2s (l : Launch) (G : zG) (h : zH) (top : Nat) (s : zS) (be : zB) (H : z_St G s be h top) (o : Nat) (ho : o < 4) (t : zTar) (hin : zm_inForce (s_tars s) (nI o) (s_now s / 1440) = some t) : z_Ct l yX8_ofOwner cX8_ofOwner 4 (some .int) 5 G [.ref (z_b G), .int (nI o), .int 2] h top (z_R (some (.int (zm_ofOwn s o 2))) h top) := by
  refine z_of (own := RX8) (nm := "ofOwner") (by decide) rfl rfl (by decide) (Nat.le_of_ble_eq_true rfl) (fun X hX hq => ?_)
  replace hX : z_ok X cX8_ofOwner 4 RX8 (some .int) "ofOwner" 5 G := hX
  show z_Z X h top 0 [(0, .ref (z_b G)), (1, .int (nI o)), (2, .int 2)] []
  have hha := H.hall
  have hbd := H.2.2.1.2.2
  have htf := H.tfs
  have hlg := H.lg
  have htt := zm_inF_mem (fun i t ht => H.tar ht) hin
  refine r_iload_n hX rfl 1 rfl dX8_ofOwner_0 ?_
  refine r_callSR (As := [.int (nI o)]) (rest := []) (rv := some (.int 1)) (st1 := [.int 1]) hX cs_X8_55 (by decide) (fun l => c_isOwner_1 l G h top ho) rfl rfl rfl (Nat.le_of_ble_eq_true rfl) dX8_ofOwner_1 ?_
  refine r_callSR (As := [.int 1]) (rest := []) (rv := none) (st1 := []) hX cs_X8_58 (by decide) (fun l => c_X8_needIndex l G h top) rfl rfl rfl (Nat.le_of_ble_eq_true rfl) dX8_ofOwner_4 ?_
  refine r_iload_n hX rfl 2 rfl dX8_ofOwner_7 ?_
  refine r_iconst (v := 0) hX (by decide) dX8_ofOwner_8 ?_
  refine r_iconst (v := 3) hX (by decide) dX8_ofOwner_9 ?_
  refine r_callSR (As := [.int 2, .int 0, .int 3]) (rest := []) (rv := some (.int 1)) (st1 := [.int 1]) hX cs_X8_62 (by decide) (fun l => c_isIn_1 l G h top (by decide)) rfl rfl rfl (Nat.le_of_ble_eq_true rfl) dX8_ofOwner_10 ?_
  refine r_callSR (As := [.int 1]) (rest := []) (rv := none) (st1 := []) hX cs_X8_66 (by decide) (fun l => c_X8_needArgument l G h top) rfl rfl rfl (Nat.le_of_ble_eq_true rfl) dX8_ofOwner_13 ?_
  refine r_iload_n hX rfl 2 rfl dX8_ofOwner_16 ?_
  refine r_if_ne (tgt := 29) hX dX8_ofOwner_17 rfl (fun _ => ?_) (fun c => False.elim (absurd c (by decide)))
  refine r_aload_n hX rfl 0 rfl dX8_ofOwner_29 ?_
  refine r_getf hX fl_X8_25 hha rfl dX8_ofOwner_30 ?_
  refine r_iload_n hX rfl 1 rfl dX8_ofOwner_33 ?_
  refine r_aload_n hX rfl 0 rfl dX8_ofOwner_34 ?_
  refine r_callVR (As := []) (rest := [.int (nI o), .ref (z_b G + 4)]) (rv := some (.int (s_now s / 1440))) (st1 := [.int (s_now s / 1440), .int (nI o), .ref (z_b G + 4)]) hX cs_X8_194 (by decide) (fun l => c_X8_today l G h top s be H) hha rfl rfl rfl rfl (Nat.le_of_ble_eq_true rfl) dX8_ofOwner_35 ?_
  refine r_callVR (As := [.int (nI o), .int (s_now s / 1440)]) (rest := []) (rv := some (.ref t.1)) (st1 := [.ref t.1]) hX cs_X8_270 (by decide) (fun l => c_inF_some l G h top (z_b G + 4) (z_b G + 5) (z_b G + 6) (s_tars s) (b_ls be 3).1 (b_ls be 3).2.1 (b_ls be 3).2.2 H.tfs H.l3 (fun i t ht => H.tar ht) (nI o) (s_now s / 1440) t hin) htf rfl rfl rfl rfl (Nat.le_of_ble_eq_true rfl) dX8_ofOwner_38 ?_
  refine r_astore_n (lv' := [(3, .ref t.1), (0, .ref (z_b G)), (1, .int (nI o)), (2, .int 2)]) hX rfl (by decide) rfl dX8_ofOwner_41 ?_
  refine r_aload_n hX rfl 0 rfl dX8_ofOwner_42 ?_
  refine r_ifnonnull (tgt := 48) hX rfl dX8_ofOwner_43 ?_
  refine r_iload_n hX rfl 3 rfl dX8_ofOwner_48 ?_
  refine r_lookup (off := 32) (tgt := 81) hX dX8_ofOwner_49 (by decide) (by decide) rfl ?_
  refine r_aload_n hX rfl 0 rfl dX8_ofOwner_81 ?_
  refine r_getf hX fl_X8_277 htt rfl dX8_ofOwner_82 ?_
  exact r_iret hX hq ⟨by unfold zm_ofOwn; rw [hin]; rfl, rfl, rfl⟩ dX8_ofOwner_85

theorem c_ofOwn_2 (l : Launch) (G : zG) (h : zH) (top : Nat) (s : zS) (be : zB) (H : z_St G s be h top) (o : Nat) (ho : o < 4) : z_Ct l yX8_ofOwner cX8_ofOwner 4 (some .int) 5 G [.ref (z_b G), .int (nI o), .int 2] h top (z_R (some (.int (zm_ofOwn s o 2))) h top) := by
  cases hin : zm_inForce (s_tars s) (nI o) (s_now s / 1440) with
  | none => exact c_ofOwn_2n l G h top s be H o ho hin
  | some t => exact c_ofOwn_2s l G h top s be H o ho t hin
set_option maxRecDepth 20000 in
set_option maxHeartbeats 4000000 in
theorem c_ofOwn_3n (l : Launch) (G : zG) (h : zH) (top : Nat) (s : zS) (be : zB) (H : z_St G s be h top) (o : Nat) (ho : o < 4) (hin : zm_inForce (s_tars s) (nI o) (s_now s / 1440) = none) : z_Ct l yX8_ofOwner cX8_ofOwner 4 (some .int) 5 G [.ref (z_b G), .int (nI o), .int 3] h top (z_R (some (.int (zm_ofOwn s o 3))) h top) := by
  refine z_of (own := RX8) (nm := "ofOwner") (by decide) rfl rfl (by decide) (Nat.le_of_ble_eq_true rfl) (fun X hX hq => ?_)
  replace hX : z_ok X cX8_ofOwner 4 RX8 (some .int) "ofOwner" 5 G := hX
  show z_Z X h top 0 [(0, .ref (z_b G)), (1, .int (nI o)), (2, .int 3)] []
  have hha := H.hall
  have hbd := H.2.2.1.2.2
  have htf := H.tfs
  have hlg := H.lg
  refine r_iload_n hX rfl 1 rfl dX8_ofOwner_0 ?_
  refine r_callSR (As := [.int (nI o)]) (rest := []) (rv := some (.int 1)) (st1 := [.int 1]) hX cs_X8_55 (by decide) (fun l => c_isOwner_1 l G h top ho) rfl rfl rfl (Nat.le_of_ble_eq_true rfl) dX8_ofOwner_1 ?_
  refine r_callSR (As := [.int 1]) (rest := []) (rv := none) (st1 := []) hX cs_X8_58 (by decide) (fun l => c_X8_needIndex l G h top) rfl rfl rfl (Nat.le_of_ble_eq_true rfl) dX8_ofOwner_4 ?_
  refine r_iload_n hX rfl 2 rfl dX8_ofOwner_7 ?_
  refine r_iconst (v := 0) hX (by decide) dX8_ofOwner_8 ?_
  refine r_iconst (v := 3) hX (by decide) dX8_ofOwner_9 ?_
  refine r_callSR (As := [.int 3, .int 0, .int 3]) (rest := []) (rv := some (.int 1)) (st1 := [.int 1]) hX cs_X8_62 (by decide) (fun l => c_isIn_1 l G h top (by decide)) rfl rfl rfl (Nat.le_of_ble_eq_true rfl) dX8_ofOwner_10 ?_
  refine r_callSR (As := [.int 1]) (rest := []) (rv := none) (st1 := []) hX cs_X8_66 (by decide) (fun l => c_X8_needArgument l G h top) rfl rfl rfl (Nat.le_of_ble_eq_true rfl) dX8_ofOwner_13 ?_
  refine r_iload_n hX rfl 2 rfl dX8_ofOwner_16 ?_
  refine r_if_ne (tgt := 29) hX dX8_ofOwner_17 rfl (fun _ => ?_) (fun c => False.elim (absurd c (by decide)))
  refine r_aload_n hX rfl 0 rfl dX8_ofOwner_29 ?_
  refine r_getf hX fl_X8_25 hha rfl dX8_ofOwner_30 ?_
  refine r_iload_n hX rfl 1 rfl dX8_ofOwner_33 ?_
  refine r_aload_n hX rfl 0 rfl dX8_ofOwner_34 ?_
  refine r_callVR (As := []) (rest := [.int (nI o), .ref (z_b G + 4)]) (rv := some (.int (s_now s / 1440))) (st1 := [.int (s_now s / 1440), .int (nI o), .ref (z_b G + 4)]) hX cs_X8_194 (by decide) (fun l => c_X8_today l G h top s be H) hha rfl rfl rfl rfl (Nat.le_of_ble_eq_true rfl) dX8_ofOwner_35 ?_
  refine r_callVR (As := [.int (nI o), .int (s_now s / 1440)]) (rest := []) (rv := some (.null)) (st1 := [.null]) hX cs_X8_270 (by decide) (fun l => c_inF_none l G h top (z_b G + 4) (z_b G + 5) (z_b G + 6) (s_tars s) (b_ls be 3).1 (b_ls be 3).2.1 (b_ls be 3).2.2 H.tfs H.l3 (fun i t ht => H.tar ht) (nI o) (s_now s / 1440) hin) htf rfl rfl rfl rfl (Nat.le_of_ble_eq_true rfl) dX8_ofOwner_38 ?_
  refine r_astore_nN (lv' := [(3, .null), (0, .ref (z_b G)), (1, .int (nI o)), (2, .int 3)]) hX rfl (by decide) rfl dX8_ofOwner_41 ?_
  refine r_aload_nN hX rfl 0 rfl dX8_ofOwner_42 ?_
  refine r_ifnonnullN hX dX8_ofOwner_43 ?_
  refine r_iconst (v := 0) hX (by decide) dX8_ofOwner_46 ?_
  exact r_iret hX hq ⟨by unfold zm_ofOwn; rw [hin]; rfl, rfl, rfl⟩ dX8_ofOwner_47

set_option maxRecDepth 20000 in
set_option maxHeartbeats 4000000 in
theorem c_ofOwn_3s (l : Launch) (G : zG) (h : zH) (top : Nat) (s : zS) (be : zB) (H : z_St G s be h top) (o : Nat) (ho : o < 4) (t : zTar) (hin : zm_inForce (s_tars s) (nI o) (s_now s / 1440) = some t) : z_Ct l yX8_ofOwner cX8_ofOwner 4 (some .int) 5 G [.ref (z_b G), .int (nI o), .int 3] h top (z_R (some (.int (zm_ofOwn s o 3))) h top) := by
  refine z_of (own := RX8) (nm := "ofOwner") (by decide) rfl rfl (by decide) (Nat.le_of_ble_eq_true rfl) (fun X hX hq => ?_)
  replace hX : z_ok X cX8_ofOwner 4 RX8 (some .int) "ofOwner" 5 G := hX
  show z_Z X h top 0 [(0, .ref (z_b G)), (1, .int (nI o)), (2, .int 3)] []
  have hha := H.hall
  have hbd := H.2.2.1.2.2
  have htf := H.tfs
  have hlg := H.lg
  have htt := zm_inF_mem (fun i t ht => H.tar ht) hin
  refine r_iload_n hX rfl 1 rfl dX8_ofOwner_0 ?_
  refine r_callSR (As := [.int (nI o)]) (rest := []) (rv := some (.int 1)) (st1 := [.int 1]) hX cs_X8_55 (by decide) (fun l => c_isOwner_1 l G h top ho) rfl rfl rfl (Nat.le_of_ble_eq_true rfl) dX8_ofOwner_1 ?_
  refine r_callSR (As := [.int 1]) (rest := []) (rv := none) (st1 := []) hX cs_X8_58 (by decide) (fun l => c_X8_needIndex l G h top) rfl rfl rfl (Nat.le_of_ble_eq_true rfl) dX8_ofOwner_4 ?_
  refine r_iload_n hX rfl 2 rfl dX8_ofOwner_7 ?_
  refine r_iconst (v := 0) hX (by decide) dX8_ofOwner_8 ?_
  refine r_iconst (v := 3) hX (by decide) dX8_ofOwner_9 ?_
  refine r_callSR (As := [.int 3, .int 0, .int 3]) (rest := []) (rv := some (.int 1)) (st1 := [.int 1]) hX cs_X8_62 (by decide) (fun l => c_isIn_1 l G h top (by decide)) rfl rfl rfl (Nat.le_of_ble_eq_true rfl) dX8_ofOwner_10 ?_
  refine r_callSR (As := [.int 1]) (rest := []) (rv := none) (st1 := []) hX cs_X8_66 (by decide) (fun l => c_X8_needArgument l G h top) rfl rfl rfl (Nat.le_of_ble_eq_true rfl) dX8_ofOwner_13 ?_
  refine r_iload_n hX rfl 2 rfl dX8_ofOwner_16 ?_
  refine r_if_ne (tgt := 29) hX dX8_ofOwner_17 rfl (fun _ => ?_) (fun c => False.elim (absurd c (by decide)))
  refine r_aload_n hX rfl 0 rfl dX8_ofOwner_29 ?_
  refine r_getf hX fl_X8_25 hha rfl dX8_ofOwner_30 ?_
  refine r_iload_n hX rfl 1 rfl dX8_ofOwner_33 ?_
  refine r_aload_n hX rfl 0 rfl dX8_ofOwner_34 ?_
  refine r_callVR (As := []) (rest := [.int (nI o), .ref (z_b G + 4)]) (rv := some (.int (s_now s / 1440))) (st1 := [.int (s_now s / 1440), .int (nI o), .ref (z_b G + 4)]) hX cs_X8_194 (by decide) (fun l => c_X8_today l G h top s be H) hha rfl rfl rfl rfl (Nat.le_of_ble_eq_true rfl) dX8_ofOwner_35 ?_
  refine r_callVR (As := [.int (nI o), .int (s_now s / 1440)]) (rest := []) (rv := some (.ref t.1)) (st1 := [.ref t.1]) hX cs_X8_270 (by decide) (fun l => c_inF_some l G h top (z_b G + 4) (z_b G + 5) (z_b G + 6) (s_tars s) (b_ls be 3).1 (b_ls be 3).2.1 (b_ls be 3).2.2 H.tfs H.l3 (fun i t ht => H.tar ht) (nI o) (s_now s / 1440) t hin) htf rfl rfl rfl rfl (Nat.le_of_ble_eq_true rfl) dX8_ofOwner_38 ?_
  refine r_astore_n (lv' := [(3, .ref t.1), (0, .ref (z_b G)), (1, .int (nI o)), (2, .int 3)]) hX rfl (by decide) rfl dX8_ofOwner_41 ?_
  refine r_aload_n hX rfl 0 rfl dX8_ofOwner_42 ?_
  refine r_ifnonnull (tgt := 48) hX rfl dX8_ofOwner_43 ?_
  refine r_iload_n hX rfl 3 rfl dX8_ofOwner_48 ?_
  refine r_lookup (off := 37) (tgt := 86) hX dX8_ofOwner_49 (by decide) (by decide) rfl ?_
  refine r_aload_n hX rfl 0 rfl dX8_ofOwner_86 ?_
  refine r_getf hX fl_X8_280 htt rfl dX8_ofOwner_87 ?_
  exact r_iret hX hq ⟨by unfold zm_ofOwn; rw [hin]; rfl, rfl, rfl⟩ dX8_ofOwner_90

theorem c_ofOwn_3 (l : Launch) (G : zG) (h : zH) (top : Nat) (s : zS) (be : zB) (H : z_St G s be h top) (o : Nat) (ho : o < 4) : z_Ct l yX8_ofOwner cX8_ofOwner 4 (some .int) 5 G [.ref (z_b G), .int (nI o), .int 3] h top (z_R (some (.int (zm_ofOwn s o 3))) h top) := by
  cases hin : zm_inForce (s_tars s) (nI o) (s_now s / 1440) with
  | none => exact c_ofOwn_3n l G h top s be H o ho hin
  | some t => exact c_ofOwn_3s l G h top s be H o ho t hin
theorem c_ofOwn (l : Launch) (G : zG) (h : zH) (top : Nat) (s : zS) (be : zB) (H : z_St G s be h top) (o : Nat) (ho : o < 4) : ∀ (k : Nat), k ≤ 3 → z_Ct l yX8_ofOwner cX8_ofOwner 4 (some .int) 5 G [.ref (z_b G), .int (nI o), .int (nI k)] h top (z_R (some (.int (zm_ofOwn s o k))) h top)
  | 0, _ => c_ofOwn_0 l G h top s be H o ho
  | 1, _ => c_ofOwn_1 l G h top s be H o ho
  | 2, _ => c_ofOwn_2 l G h top s be H o ho
  | 3, _ => c_ofOwn_3 l G h top s be H o ho
  | k + 4, hk => absurd hk (by omega)
set_option maxRecDepth 20000 in
set_option maxHeartbeats 4000000 in
theorem c_many_0 (l : Launch) (G : zG) (h : zH) (top : Nat) (s : zS) (be : zB) (H : z_St G s be h top) : z_Ct l yX8_many cX8_many 2 (some .int) 5 G [.ref (z_b G), .int 0] h top (z_R (some (.int (zm_many s 0))) h top) := by
  refine z_of (own := RX8) (nm := "many") (by decide) rfl rfl (by decide) (Nat.le_of_ble_eq_true rfl) (fun X hX hq => ?_)
  replace hX : z_ok X cX8_many 2 RX8 (some .int) "many" 5 G := hX
  show z_Z X h top 0 [(0, .ref (z_b G)), (1, .int 0)] []
  have hha := H.hall
  have hbd := H.2.2.1.2.2
  have hl0 := H.l0
  have hl01 := hl0.1
  have hl1 := H.l1
  have hl11 := hl1.1
  have hl2 := H.l2
  have hl21 := hl2.1
  have htf := H.tfs
  have hlg := H.lg
  refine r_iload_n hX rfl 1 rfl dX8_many_0 ?_
  refine r_iconst (v := 0) hX (by decide) dX8_many_1 ?_
  refine r_bipush (v := 14) hX (by decide) dX8_many_2 ?_
  refine r_callSR (As := [.int 0, .int 0, .int 14]) (rest := []) (rv := some (.int 1)) (st1 := [.int 1]) hX cs_X8_62 (by decide) (fun l => c_isIn_1 l G h top (by decide)) rfl rfl rfl (Nat.le_of_ble_eq_true rfl) dX8_many_4 ?_
  refine r_callSR (As := [.int 1]) (rest := []) (rv := none) (st1 := []) hX cs_X8_66 (by decide) (fun l => c_X8_needArgument l G h top) rfl rfl rfl (Nat.le_of_ble_eq_true rfl) dX8_many_7 ?_
  refine r_iload_n hX rfl 1 rfl dX8_many_10 ?_
  refine r_tableIn (off := 69) (tgt := 80) hX (by decide) (by decide) (by decide) rfl dX8_many_11 ?_
  refine r_aload_n hX rfl 0 rfl dX8_many_80 ?_
  refine r_getf hX fl_X8_139 hha rfl dX8_many_81 ?_
  exact r_iret hX hq ⟨rfl, rfl, rfl⟩ dX8_many_84

set_option maxRecDepth 20000 in
set_option maxHeartbeats 4000000 in
theorem c_many_1 (l : Launch) (G : zG) (h : zH) (top : Nat) (s : zS) (be : zB) (H : z_St G s be h top) : z_Ct l yX8_many cX8_many 2 (some .int) 5 G [.ref (z_b G), .int 1] h top (z_R (some (.int (zm_many s 1))) h top) := by
  refine z_of (own := RX8) (nm := "many") (by decide) rfl rfl (by decide) (Nat.le_of_ble_eq_true rfl) (fun X hX hq => ?_)
  replace hX : z_ok X cX8_many 2 RX8 (some .int) "many" 5 G := hX
  show z_Z X h top 0 [(0, .ref (z_b G)), (1, .int 1)] []
  have hha := H.hall
  have hbd := H.2.2.1.2.2
  have hl0 := H.l0
  have hl01 := hl0.1
  have hl1 := H.l1
  have hl11 := hl1.1
  have hl2 := H.l2
  have hl21 := hl2.1
  have htf := H.tfs
  have hlg := H.lg
  refine r_iload_n hX rfl 1 rfl dX8_many_0 ?_
  refine r_iconst (v := 0) hX (by decide) dX8_many_1 ?_
  refine r_bipush (v := 14) hX (by decide) dX8_many_2 ?_
  refine r_callSR (As := [.int 1, .int 0, .int 14]) (rest := []) (rv := some (.int 1)) (st1 := [.int 1]) hX cs_X8_62 (by decide) (fun l => c_isIn_1 l G h top (by decide)) rfl rfl rfl (Nat.le_of_ble_eq_true rfl) dX8_many_4 ?_
  refine r_callSR (As := [.int 1]) (rest := []) (rv := none) (st1 := []) hX cs_X8_66 (by decide) (fun l => c_X8_needArgument l G h top) rfl rfl rfl (Nat.le_of_ble_eq_true rfl) dX8_many_7 ?_
  refine r_iload_n hX rfl 1 rfl dX8_many_10 ?_
  refine r_tableIn (off := 74) (tgt := 85) hX (by decide) (by decide) (by decide) rfl dX8_many_11 ?_
  refine r_aload_n hX rfl 0 rfl dX8_many_85 ?_
  refine r_getf hX fl_X8_10 hha rfl dX8_many_86 ?_
  refine r_callVR (As := []) (rest := []) (rv := some (.int (nI (s_segs s).length))) (st1 := [.int (nI (s_segs s).length)]) hX cs_X8_69 (by decide) (fun l => z_size hl0 l) hl01 rfl rfl rfl rfl (Nat.le_of_ble_eq_true rfl) dX8_many_89 ?_
  exact r_iret hX hq ⟨rfl, rfl, rfl⟩ dX8_many_92

set_option maxRecDepth 20000 in
set_option maxHeartbeats 4000000 in
theorem c_many_2 (l : Launch) (G : zG) (h : zH) (top : Nat) (s : zS) (be : zB) (H : z_St G s be h top) : z_Ct l yX8_many cX8_many 2 (some .int) 5 G [.ref (z_b G), .int 2] h top (z_R (some (.int (zm_many s 2))) h top) := by
  refine z_of (own := RX8) (nm := "many") (by decide) rfl rfl (by decide) (Nat.le_of_ble_eq_true rfl) (fun X hX hq => ?_)
  replace hX : z_ok X cX8_many 2 RX8 (some .int) "many" 5 G := hX
  show z_Z X h top 0 [(0, .ref (z_b G)), (1, .int 2)] []
  have hha := H.hall
  have hbd := H.2.2.1.2.2
  have hl0 := H.l0
  have hl01 := hl0.1
  have hl1 := H.l1
  have hl11 := hl1.1
  have hl2 := H.l2
  have hl21 := hl2.1
  have htf := H.tfs
  have hlg := H.lg
  refine r_iload_n hX rfl 1 rfl dX8_many_0 ?_
  refine r_iconst (v := 0) hX (by decide) dX8_many_1 ?_
  refine r_bipush (v := 14) hX (by decide) dX8_many_2 ?_
  refine r_callSR (As := [.int 2, .int 0, .int 14]) (rest := []) (rv := some (.int 1)) (st1 := [.int 1]) hX cs_X8_62 (by decide) (fun l => c_isIn_1 l G h top (by decide)) rfl rfl rfl (Nat.le_of_ble_eq_true rfl) dX8_many_4 ?_
  refine r_callSR (As := [.int 1]) (rest := []) (rv := none) (st1 := []) hX cs_X8_66 (by decide) (fun l => c_X8_needArgument l G h top) rfl rfl rfl (Nat.le_of_ble_eq_true rfl) dX8_many_7 ?_
  refine r_iload_n hX rfl 1 rfl dX8_many_10 ?_
  refine r_tableIn (off := 82) (tgt := 93) hX (by decide) (by decide) (by decide) rfl dX8_many_11 ?_
  refine r_aload_n hX rfl 0 rfl dX8_many_93 ?_
  refine r_getf hX fl_X8_16 hha rfl dX8_many_94 ?_
  refine r_callVR (As := []) (rest := []) (rv := some (.int (nI (s_vehs s).length))) (st1 := [.int (nI (s_vehs s).length)]) hX cs_X8_69 (by decide) (fun l => z_size hl1 l) hl11 rfl rfl rfl rfl (Nat.le_of_ble_eq_true rfl) dX8_many_97 ?_
  exact r_iret hX hq ⟨rfl, rfl, rfl⟩ dX8_many_100

set_option maxRecDepth 20000 in
set_option maxHeartbeats 4000000 in
theorem c_many_3 (l : Launch) (G : zG) (h : zH) (top : Nat) (s : zS) (be : zB) (H : z_St G s be h top) : z_Ct l yX8_many cX8_many 2 (some .int) 5 G [.ref (z_b G), .int 3] h top (z_R (some (.int (zm_many s 3))) h top) := by
  refine z_of (own := RX8) (nm := "many") (by decide) rfl rfl (by decide) (Nat.le_of_ble_eq_true rfl) (fun X hX hq => ?_)
  replace hX : z_ok X cX8_many 2 RX8 (some .int) "many" 5 G := hX
  show z_Z X h top 0 [(0, .ref (z_b G)), (1, .int 3)] []
  have hha := H.hall
  have hbd := H.2.2.1.2.2
  have hl0 := H.l0
  have hl01 := hl0.1
  have hl1 := H.l1
  have hl11 := hl1.1
  have hl2 := H.l2
  have hl21 := hl2.1
  have htf := H.tfs
  have hlg := H.lg
  refine r_iload_n hX rfl 1 rfl dX8_many_0 ?_
  refine r_iconst (v := 0) hX (by decide) dX8_many_1 ?_
  refine r_bipush (v := 14) hX (by decide) dX8_many_2 ?_
  refine r_callSR (As := [.int 3, .int 0, .int 14]) (rest := []) (rv := some (.int 1)) (st1 := [.int 1]) hX cs_X8_62 (by decide) (fun l => c_isIn_1 l G h top (by decide)) rfl rfl rfl (Nat.le_of_ble_eq_true rfl) dX8_many_4 ?_
  refine r_callSR (As := [.int 1]) (rest := []) (rv := none) (st1 := []) hX cs_X8_66 (by decide) (fun l => c_X8_needArgument l G h top) rfl rfl rfl (Nat.le_of_ble_eq_true rfl) dX8_many_7 ?_
  refine r_iload_n hX rfl 1 rfl dX8_many_10 ?_
  refine r_tableIn (off := 90) (tgt := 101) hX (by decide) (by decide) (by decide) rfl dX8_many_11 ?_
  refine r_aload_n hX rfl 0 rfl dX8_many_101 ?_
  refine r_getf hX fl_X8_19 hha rfl dX8_many_102 ?_
  refine r_callVR (As := []) (rest := []) (rv := some (.int (nI (s_sgts s).length))) (st1 := [.int (nI (s_sgts s).length)]) hX cs_X8_69 (by decide) (fun l => z_size hl2 l) hl21 rfl rfl rfl rfl (Nat.le_of_ble_eq_true rfl) dX8_many_105 ?_
  exact r_iret hX hq ⟨rfl, rfl, rfl⟩ dX8_many_108

set_option maxRecDepth 20000 in
set_option maxHeartbeats 4000000 in
theorem c_many_4 (l : Launch) (G : zG) (h : zH) (top : Nat) (s : zS) (be : zB) (H : z_St G s be h top) : z_Ct l yX8_many cX8_many 2 (some .int) 5 G [.ref (z_b G), .int 4] h top (z_R (some (.int (zm_many s 4))) h top) := by
  refine z_of (own := RX8) (nm := "many") (by decide) rfl rfl (by decide) (Nat.le_of_ble_eq_true rfl) (fun X hX hq => ?_)
  replace hX : z_ok X cX8_many 2 RX8 (some .int) "many" 5 G := hX
  show z_Z X h top 0 [(0, .ref (z_b G)), (1, .int 4)] []
  have hha := H.hall
  have hbd := H.2.2.1.2.2
  have hl0 := H.l0
  have hl01 := hl0.1
  have hl1 := H.l1
  have hl11 := hl1.1
  have hl2 := H.l2
  have hl21 := hl2.1
  have htf := H.tfs
  have hlg := H.lg
  refine r_iload_n hX rfl 1 rfl dX8_many_0 ?_
  refine r_iconst (v := 0) hX (by decide) dX8_many_1 ?_
  refine r_bipush (v := 14) hX (by decide) dX8_many_2 ?_
  refine r_callSR (As := [.int 4, .int 0, .int 14]) (rest := []) (rv := some (.int 1)) (st1 := [.int 1]) hX cs_X8_62 (by decide) (fun l => c_isIn_1 l G h top (by decide)) rfl rfl rfl (Nat.le_of_ble_eq_true rfl) dX8_many_4 ?_
  refine r_callSR (As := [.int 1]) (rest := []) (rv := none) (st1 := []) hX cs_X8_66 (by decide) (fun l => c_X8_needArgument l G h top) rfl rfl rfl (Nat.le_of_ble_eq_true rfl) dX8_many_7 ?_
  refine r_iload_n hX rfl 1 rfl dX8_many_10 ?_
  refine r_tableIn (off := 98) (tgt := 109) hX (by decide) (by decide) (by decide) rfl dX8_many_11 ?_
  refine r_aload_n hX rfl 0 rfl dX8_many_109 ?_
  refine r_getf hX fl_X8_291 hha rfl dX8_many_110 ?_
  exact r_iret hX hq ⟨rfl, rfl, rfl⟩ dX8_many_113

set_option maxRecDepth 20000 in
set_option maxHeartbeats 4000000 in
theorem c_many_5 (l : Launch) (G : zG) (h : zH) (top : Nat) (s : zS) (be : zB) (H : z_St G s be h top) : z_Ct l yX8_many cX8_many 2 (some .int) 5 G [.ref (z_b G), .int 5] h top (z_R (some (.int (zm_many s 5))) h top) := by
  refine z_of (own := RX8) (nm := "many") (by decide) rfl rfl (by decide) (Nat.le_of_ble_eq_true rfl) (fun X hX hq => ?_)
  replace hX : z_ok X cX8_many 2 RX8 (some .int) "many" 5 G := hX
  show z_Z X h top 0 [(0, .ref (z_b G)), (1, .int 5)] []
  have hha := H.hall
  have hbd := H.2.2.1.2.2
  have hl0 := H.l0
  have hl01 := hl0.1
  have hl1 := H.l1
  have hl11 := hl1.1
  have hl2 := H.l2
  have hl21 := hl2.1
  have htf := H.tfs
  have hlg := H.lg
  refine r_iload_n hX rfl 1 rfl dX8_many_0 ?_
  refine r_iconst (v := 0) hX (by decide) dX8_many_1 ?_
  refine r_bipush (v := 14) hX (by decide) dX8_many_2 ?_
  refine r_callSR (As := [.int 5, .int 0, .int 14]) (rest := []) (rv := some (.int 1)) (st1 := [.int 1]) hX cs_X8_62 (by decide) (fun l => c_isIn_1 l G h top (by decide)) rfl rfl rfl (Nat.le_of_ble_eq_true rfl) dX8_many_4 ?_
  refine r_callSR (As := [.int 1]) (rest := []) (rv := none) (st1 := []) hX cs_X8_66 (by decide) (fun l => c_X8_needArgument l G h top) rfl rfl rfl (Nat.le_of_ble_eq_true rfl) dX8_many_7 ?_
  refine r_iload_n hX rfl 1 rfl dX8_many_10 ?_
  refine r_tableIn (off := 103) (tgt := 114) hX (by decide) (by decide) (by decide) rfl dX8_many_11 ?_
  refine r_aload_n hX rfl 0 rfl dX8_many_114 ?_
  refine r_getf hX fl_X8_25 hha rfl dX8_many_115 ?_
  refine r_callVR (As := []) (rest := []) (rv := some (.int (nI (s_tars s).length))) (st1 := [.int (nI (s_tars s).length)]) hX cs_X8_103 (by decide) (fun l => c_X6_size l G h top s be H) htf rfl rfl rfl rfl (Nat.le_of_ble_eq_true rfl) dX8_many_118 ?_
  exact r_iret hX hq ⟨rfl, rfl, rfl⟩ dX8_many_121

set_option maxRecDepth 20000 in
set_option maxHeartbeats 4000000 in
theorem c_many_6 (l : Launch) (G : zG) (h : zH) (top : Nat) (s : zS) (be : zB) (H : z_St G s be h top) : z_Ct l yX8_many cX8_many 2 (some .int) 5 G [.ref (z_b G), .int 6] h top (z_R (some (.int (zm_many s 6))) h top) := by
  refine z_of (own := RX8) (nm := "many") (by decide) rfl rfl (by decide) (Nat.le_of_ble_eq_true rfl) (fun X hX hq => ?_)
  replace hX : z_ok X cX8_many 2 RX8 (some .int) "many" 5 G := hX
  show z_Z X h top 0 [(0, .ref (z_b G)), (1, .int 6)] []
  have hha := H.hall
  have hbd := H.2.2.1.2.2
  have hl0 := H.l0
  have hl01 := hl0.1
  have hl1 := H.l1
  have hl11 := hl1.1
  have hl2 := H.l2
  have hl21 := hl2.1
  have htf := H.tfs
  have hlg := H.lg
  refine r_iload_n hX rfl 1 rfl dX8_many_0 ?_
  refine r_iconst (v := 0) hX (by decide) dX8_many_1 ?_
  refine r_bipush (v := 14) hX (by decide) dX8_many_2 ?_
  refine r_callSR (As := [.int 6, .int 0, .int 14]) (rest := []) (rv := some (.int 1)) (st1 := [.int 1]) hX cs_X8_62 (by decide) (fun l => c_isIn_1 l G h top (by decide)) rfl rfl rfl (Nat.le_of_ble_eq_true rfl) dX8_many_4 ?_
  refine r_callSR (As := [.int 1]) (rest := []) (rv := none) (st1 := []) hX cs_X8_66 (by decide) (fun l => c_X8_needArgument l G h top) rfl rfl rfl (Nat.le_of_ble_eq_true rfl) dX8_many_7 ?_
  refine r_iload_n hX rfl 1 rfl dX8_many_10 ?_
  refine r_tableIn (off := 111) (tgt := 122) hX (by decide) (by decide) (by decide) rfl dX8_many_11 ?_
  refine r_aload_n hX rfl 0 rfl dX8_many_122 ?_
  refine r_getf hX fl_X8_25 hha rfl dX8_many_123 ?_
  refine r_getf hX fl_X8_114 htf rfl dX8_many_126 ?_
  exact r_iret hX hq ⟨rfl, rfl, rfl⟩ dX8_many_129

set_option maxRecDepth 20000 in
set_option maxHeartbeats 4000000 in
theorem c_many_7 (l : Launch) (G : zG) (h : zH) (top : Nat) (s : zS) (be : zB) (H : z_St G s be h top) : z_Ct l yX8_many cX8_many 2 (some .int) 5 G [.ref (z_b G), .int 7] h top (z_R (some (.int (zm_many s 7))) h top) := by
  refine z_of (own := RX8) (nm := "many") (by decide) rfl rfl (by decide) (Nat.le_of_ble_eq_true rfl) (fun X hX hq => ?_)
  replace hX : z_ok X cX8_many 2 RX8 (some .int) "many" 5 G := hX
  show z_Z X h top 0 [(0, .ref (z_b G)), (1, .int 7)] []
  have hha := H.hall
  have hbd := H.2.2.1.2.2
  have hl0 := H.l0
  have hl01 := hl0.1
  have hl1 := H.l1
  have hl11 := hl1.1
  have hl2 := H.l2
  have hl21 := hl2.1
  have htf := H.tfs
  have hlg := H.lg
  refine r_iload_n hX rfl 1 rfl dX8_many_0 ?_
  refine r_iconst (v := 0) hX (by decide) dX8_many_1 ?_
  refine r_bipush (v := 14) hX (by decide) dX8_many_2 ?_
  refine r_callSR (As := [.int 7, .int 0, .int 14]) (rest := []) (rv := some (.int 1)) (st1 := [.int 1]) hX cs_X8_62 (by decide) (fun l => c_isIn_1 l G h top (by decide)) rfl rfl rfl (Nat.le_of_ble_eq_true rfl) dX8_many_4 ?_
  refine r_callSR (As := [.int 1]) (rest := []) (rv := none) (st1 := []) hX cs_X8_66 (by decide) (fun l => c_X8_needArgument l G h top) rfl rfl rfl (Nat.le_of_ble_eq_true rfl) dX8_many_7 ?_
  refine r_iload_n hX rfl 1 rfl dX8_many_10 ?_
  refine r_tableIn (off := 119) (tgt := 130) hX (by decide) (by decide) (by decide) rfl dX8_many_11 ?_
  refine r_aload_n hX rfl 0 rfl dX8_many_130 ?_
  refine r_getf hX fl_X8_47 hha rfl dX8_many_131 ?_
  exact r_iret hX hq ⟨rfl, rfl, rfl⟩ dX8_many_134

set_option maxRecDepth 20000 in
set_option maxHeartbeats 4000000 in
theorem c_many_8 (l : Launch) (G : zG) (h : zH) (top : Nat) (s : zS) (be : zB) (H : z_St G s be h top) : z_Ct l yX8_many cX8_many 2 (some .int) 5 G [.ref (z_b G), .int 8] h top (z_R (some (.int (zm_many s 8))) h top) := by
  refine z_of (own := RX8) (nm := "many") (by decide) rfl rfl (by decide) (Nat.le_of_ble_eq_true rfl) (fun X hX hq => ?_)
  replace hX : z_ok X cX8_many 2 RX8 (some .int) "many" 5 G := hX
  show z_Z X h top 0 [(0, .ref (z_b G)), (1, .int 8)] []
  have hha := H.hall
  have hbd := H.2.2.1.2.2
  have hl0 := H.l0
  have hl01 := hl0.1
  have hl1 := H.l1
  have hl11 := hl1.1
  have hl2 := H.l2
  have hl21 := hl2.1
  have htf := H.tfs
  have hlg := H.lg
  refine r_iload_n hX rfl 1 rfl dX8_many_0 ?_
  refine r_iconst (v := 0) hX (by decide) dX8_many_1 ?_
  refine r_bipush (v := 14) hX (by decide) dX8_many_2 ?_
  refine r_callSR (As := [.int 8, .int 0, .int 14]) (rest := []) (rv := some (.int 1)) (st1 := [.int 1]) hX cs_X8_62 (by decide) (fun l => c_isIn_1 l G h top (by decide)) rfl rfl rfl (Nat.le_of_ble_eq_true rfl) dX8_many_4 ?_
  refine r_callSR (As := [.int 1]) (rest := []) (rv := none) (st1 := []) hX cs_X8_66 (by decide) (fun l => c_X8_needArgument l G h top) rfl rfl rfl (Nat.le_of_ble_eq_true rfl) dX8_many_7 ?_
  refine r_iload_n hX rfl 1 rfl dX8_many_10 ?_
  refine r_tableIn (off := 124) (tgt := 135) hX (by decide) (by decide) (by decide) rfl dX8_many_11 ?_
  refine r_aload_n hX rfl 0 rfl dX8_many_135 ?_
  refine r_getf hX fl_X8_32 hha rfl dX8_many_136 ?_
  refine r_getf hX fl_X8_188 hlg rfl dX8_many_139 ?_
  exact r_iret hX hq ⟨rfl, rfl, rfl⟩ dX8_many_142

set_option maxRecDepth 20000 in
set_option maxHeartbeats 4000000 in
theorem c_many_9 (l : Launch) (G : zG) (h : zH) (top : Nat) (s : zS) (be : zB) (H : z_St G s be h top) : z_Ct l yX8_many cX8_many 2 (some .int) 5 G [.ref (z_b G), .int 9] h top (z_R (some (.int (zm_many s 9))) h top) := by
  refine z_of (own := RX8) (nm := "many") (by decide) rfl rfl (by decide) (Nat.le_of_ble_eq_true rfl) (fun X hX hq => ?_)
  replace hX : z_ok X cX8_many 2 RX8 (some .int) "many" 5 G := hX
  show z_Z X h top 0 [(0, .ref (z_b G)), (1, .int 9)] []
  have hha := H.hall
  have hbd := H.2.2.1.2.2
  have hl0 := H.l0
  have hl01 := hl0.1
  have hl1 := H.l1
  have hl11 := hl1.1
  have hl2 := H.l2
  have hl21 := hl2.1
  have htf := H.tfs
  have hlg := H.lg
  refine r_iload_n hX rfl 1 rfl dX8_many_0 ?_
  refine r_iconst (v := 0) hX (by decide) dX8_many_1 ?_
  refine r_bipush (v := 14) hX (by decide) dX8_many_2 ?_
  refine r_callSR (As := [.int 9, .int 0, .int 14]) (rest := []) (rv := some (.int 1)) (st1 := [.int 1]) hX cs_X8_62 (by decide) (fun l => c_isIn_1 l G h top (by decide)) rfl rfl rfl (Nat.le_of_ble_eq_true rfl) dX8_many_4 ?_
  refine r_callSR (As := [.int 1]) (rest := []) (rv := none) (st1 := []) hX cs_X8_66 (by decide) (fun l => c_X8_needArgument l G h top) rfl rfl rfl (Nat.le_of_ble_eq_true rfl) dX8_many_7 ?_
  refine r_iload_n hX rfl 1 rfl dX8_many_10 ?_
  refine r_tableIn (off := 132) (tgt := 143) hX (by decide) (by decide) (by decide) rfl dX8_many_11 ?_
  refine r_aload_n hX rfl 0 rfl dX8_many_143 ?_
  refine r_getf hX fl_X8_157 hha rfl dX8_many_144 ?_
  exact r_iret hX hq ⟨rfl, rfl, rfl⟩ dX8_many_147

set_option maxRecDepth 20000 in
set_option maxHeartbeats 4000000 in
theorem c_many_10 (l : Launch) (G : zG) (h : zH) (top : Nat) (s : zS) (be : zB) (H : z_St G s be h top) : z_Ct l yX8_many cX8_many 2 (some .int) 5 G [.ref (z_b G), .int 10] h top (z_R (some (.int (zm_many s 10))) h top) := by
  refine z_of (own := RX8) (nm := "many") (by decide) rfl rfl (by decide) (Nat.le_of_ble_eq_true rfl) (fun X hX hq => ?_)
  replace hX : z_ok X cX8_many 2 RX8 (some .int) "many" 5 G := hX
  show z_Z X h top 0 [(0, .ref (z_b G)), (1, .int 10)] []
  have hha := H.hall
  have hbd := H.2.2.1.2.2
  have hl0 := H.l0
  have hl01 := hl0.1
  have hl1 := H.l1
  have hl11 := hl1.1
  have hl2 := H.l2
  have hl21 := hl2.1
  have htf := H.tfs
  have hlg := H.lg
  refine r_iload_n hX rfl 1 rfl dX8_many_0 ?_
  refine r_iconst (v := 0) hX (by decide) dX8_many_1 ?_
  refine r_bipush (v := 14) hX (by decide) dX8_many_2 ?_
  refine r_callSR (As := [.int 10, .int 0, .int 14]) (rest := []) (rv := some (.int 1)) (st1 := [.int 1]) hX cs_X8_62 (by decide) (fun l => c_isIn_1 l G h top (by decide)) rfl rfl rfl (Nat.le_of_ble_eq_true rfl) dX8_many_4 ?_
  refine r_callSR (As := [.int 1]) (rest := []) (rv := none) (st1 := []) hX cs_X8_66 (by decide) (fun l => c_X8_needArgument l G h top) rfl rfl rfl (Nat.le_of_ble_eq_true rfl) dX8_many_7 ?_
  refine r_iload_n hX rfl 1 rfl dX8_many_10 ?_
  refine r_tableIn (off := 137) (tgt := 148) hX (by decide) (by decide) (by decide) rfl dX8_many_11 ?_
  refine r_aload_n hX rfl 0 rfl dX8_many_148 ?_
  refine r_getf hX fl_X8_191 hha rfl dX8_many_149 ?_
  exact r_iret hX hq ⟨rfl, rfl, rfl⟩ dX8_many_152

set_option maxRecDepth 20000 in
set_option maxHeartbeats 4000000 in
theorem c_many_11 (l : Launch) (G : zG) (h : zH) (top : Nat) (s : zS) (be : zB) (H : z_St G s be h top) : z_Ct l yX8_many cX8_many 2 (some .int) 5 G [.ref (z_b G), .int 11] h top (z_R (some (.int (zm_many s 11))) h top) := by
  refine z_of (own := RX8) (nm := "many") (by decide) rfl rfl (by decide) (Nat.le_of_ble_eq_true rfl) (fun X hX hq => ?_)
  replace hX : z_ok X cX8_many 2 RX8 (some .int) "many" 5 G := hX
  show z_Z X h top 0 [(0, .ref (z_b G)), (1, .int 11)] []
  have hha := H.hall
  have hbd := H.2.2.1.2.2
  have hl0 := H.l0
  have hl01 := hl0.1
  have hl1 := H.l1
  have hl11 := hl1.1
  have hl2 := H.l2
  have hl21 := hl2.1
  have htf := H.tfs
  have hlg := H.lg
  refine r_iload_n hX rfl 1 rfl dX8_many_0 ?_
  refine r_iconst (v := 0) hX (by decide) dX8_many_1 ?_
  refine r_bipush (v := 14) hX (by decide) dX8_many_2 ?_
  refine r_callSR (As := [.int 11, .int 0, .int 14]) (rest := []) (rv := some (.int 1)) (st1 := [.int 1]) hX cs_X8_62 (by decide) (fun l => c_isIn_1 l G h top (by decide)) rfl rfl rfl (Nat.le_of_ble_eq_true rfl) dX8_many_4 ?_
  refine r_callSR (As := [.int 1]) (rest := []) (rv := none) (st1 := []) hX cs_X8_66 (by decide) (fun l => c_X8_needArgument l G h top) rfl rfl rfl (Nat.le_of_ble_eq_true rfl) dX8_many_7 ?_
  refine r_iload_n hX rfl 1 rfl dX8_many_10 ?_
  refine r_tableIn (off := 142) (tgt := 153) hX (by decide) (by decide) (by decide) rfl dX8_many_11 ?_
  refine r_aload_n hX rfl 0 rfl dX8_many_153 ?_
  refine r_getf hX fl_X8_32 hha rfl dX8_many_154 ?_
  refine r_getf hX fl_X8_294 hlg rfl dX8_many_157 ?_
  refine r_aload_n hX rfl 0 rfl dX8_many_160 ?_
  refine r_getf hX fl_X8_32 hha rfl dX8_many_161 ?_
  refine r_getf hX fl_X8_295 hlg rfl dX8_many_164 ?_
  refine r_isub hX dX8_many_167 ?_
  exact r_iret hX hq ⟨rfl, rfl, rfl⟩ dX8_many_168

set_option maxRecDepth 20000 in
set_option maxHeartbeats 4000000 in
theorem c_many_12 (l : Launch) (G : zG) (h : zH) (top : Nat) (s : zS) (be : zB) (H : z_St G s be h top) : z_Ct l yX8_many cX8_many 2 (some .int) 5 G [.ref (z_b G), .int 12] h top (z_R (some (.int (zm_many s 12))) h top) := by
  refine z_of (own := RX8) (nm := "many") (by decide) rfl rfl (by decide) (Nat.le_of_ble_eq_true rfl) (fun X hX hq => ?_)
  replace hX : z_ok X cX8_many 2 RX8 (some .int) "many" 5 G := hX
  show z_Z X h top 0 [(0, .ref (z_b G)), (1, .int 12)] []
  have hha := H.hall
  have hbd := H.2.2.1.2.2
  have hl0 := H.l0
  have hl01 := hl0.1
  have hl1 := H.l1
  have hl11 := hl1.1
  have hl2 := H.l2
  have hl21 := hl2.1
  have htf := H.tfs
  have hlg := H.lg
  refine r_iload_n hX rfl 1 rfl dX8_many_0 ?_
  refine r_iconst (v := 0) hX (by decide) dX8_many_1 ?_
  refine r_bipush (v := 14) hX (by decide) dX8_many_2 ?_
  refine r_callSR (As := [.int 12, .int 0, .int 14]) (rest := []) (rv := some (.int 1)) (st1 := [.int 1]) hX cs_X8_62 (by decide) (fun l => c_isIn_1 l G h top (by decide)) rfl rfl rfl (Nat.le_of_ble_eq_true rfl) dX8_many_4 ?_
  refine r_callSR (As := [.int 1]) (rest := []) (rv := none) (st1 := []) hX cs_X8_66 (by decide) (fun l => c_X8_needArgument l G h top) rfl rfl rfl (Nat.le_of_ble_eq_true rfl) dX8_many_7 ?_
  refine r_iload_n hX rfl 1 rfl dX8_many_10 ?_
  refine r_tableIn (off := 158) (tgt := 169) hX (by decide) (by decide) (by decide) rfl dX8_many_11 ?_
  refine r_aload_n hX rfl 0 rfl dX8_many_169 ?_
  refine r_getf hX fl_X8_32 hha rfl dX8_many_170 ?_
  refine r_getf hX fl_X8_295 hlg rfl dX8_many_173 ?_
  exact r_iret hX hq ⟨rfl, rfl, rfl⟩ dX8_many_176

set_option maxRecDepth 20000 in
set_option maxHeartbeats 4000000 in
theorem c_many_13 (l : Launch) (G : zG) (h : zH) (top : Nat) (s : zS) (be : zB) (H : z_St G s be h top) : z_Ct l yX8_many cX8_many 2 (some .int) 5 G [.ref (z_b G), .int 13] h top (z_R (some (.int (zm_many s 13))) h top) := by
  refine z_of (own := RX8) (nm := "many") (by decide) rfl rfl (by decide) (Nat.le_of_ble_eq_true rfl) (fun X hX hq => ?_)
  replace hX : z_ok X cX8_many 2 RX8 (some .int) "many" 5 G := hX
  show z_Z X h top 0 [(0, .ref (z_b G)), (1, .int 13)] []
  have hha := H.hall
  have hbd := H.2.2.1.2.2
  have hl0 := H.l0
  have hl01 := hl0.1
  have hl1 := H.l1
  have hl11 := hl1.1
  have hl2 := H.l2
  have hl21 := hl2.1
  have htf := H.tfs
  have hlg := H.lg
  refine r_iload_n hX rfl 1 rfl dX8_many_0 ?_
  refine r_iconst (v := 0) hX (by decide) dX8_many_1 ?_
  refine r_bipush (v := 14) hX (by decide) dX8_many_2 ?_
  refine r_callSR (As := [.int 13, .int 0, .int 14]) (rest := []) (rv := some (.int 1)) (st1 := [.int 1]) hX cs_X8_62 (by decide) (fun l => c_isIn_1 l G h top (by decide)) rfl rfl rfl (Nat.le_of_ble_eq_true rfl) dX8_many_4 ?_
  refine r_callSR (As := [.int 1]) (rest := []) (rv := none) (st1 := []) hX cs_X8_66 (by decide) (fun l => c_X8_needArgument l G h top) rfl rfl rfl (Nat.le_of_ble_eq_true rfl) dX8_many_7 ?_
  refine r_iload_n hX rfl 1 rfl dX8_many_10 ?_
  refine r_tableIn (off := 166) (tgt := 177) hX (by decide) (by decide) (by decide) rfl dX8_many_11 ?_
  refine r_aload_n hX rfl 0 rfl dX8_many_177 ?_
  refine r_getf hX fl_X8_150 hha rfl dX8_many_178 ?_
  exact r_iret hX hq ⟨rfl, rfl, rfl⟩ dX8_many_181

set_option maxRecDepth 20000 in
set_option maxHeartbeats 4000000 in
theorem c_many_14 (l : Launch) (G : zG) (h : zH) (top : Nat) (s : zS) (be : zB) (H : z_St G s be h top) : z_Ct l yX8_many cX8_many 2 (some .int) 5 G [.ref (z_b G), .int 14] h top (z_R (some (.int (zm_many s 14))) h top) := by
  refine z_of (own := RX8) (nm := "many") (by decide) rfl rfl (by decide) (Nat.le_of_ble_eq_true rfl) (fun X hX hq => ?_)
  replace hX : z_ok X cX8_many 2 RX8 (some .int) "many" 5 G := hX
  show z_Z X h top 0 [(0, .ref (z_b G)), (1, .int 14)] []
  have hha := H.hall
  have hbd := H.2.2.1.2.2
  have hl0 := H.l0
  have hl01 := hl0.1
  have hl1 := H.l1
  have hl11 := hl1.1
  have hl2 := H.l2
  have hl21 := hl2.1
  have htf := H.tfs
  have hlg := H.lg
  refine r_iload_n hX rfl 1 rfl dX8_many_0 ?_
  refine r_iconst (v := 0) hX (by decide) dX8_many_1 ?_
  refine r_bipush (v := 14) hX (by decide) dX8_many_2 ?_
  refine r_callSR (As := [.int 14, .int 0, .int 14]) (rest := []) (rv := some (.int 1)) (st1 := [.int 1]) hX cs_X8_62 (by decide) (fun l => c_isIn_1 l G h top (by decide)) rfl rfl rfl (Nat.le_of_ble_eq_true rfl) dX8_many_4 ?_
  refine r_callSR (As := [.int 1]) (rest := []) (rv := none) (st1 := []) hX cs_X8_66 (by decide) (fun l => c_X8_needArgument l G h top) rfl rfl rfl (Nat.le_of_ble_eq_true rfl) dX8_many_7 ?_
  refine r_iload_n hX rfl 1 rfl dX8_many_10 ?_
  refine r_tableOut (tgt := 182) hX (by decide) rfl dX8_many_11 ?_
  refine r_aload_n hX rfl 0 rfl dX8_many_182 ?_
  refine r_callVR (As := []) (rest := []) (rv := some (.int (zm_bset s))) (st1 := [.int (zm_bset s)]) hX cs_X8_225 (by decide) (fun l => c_X8_blockedSet l G h top s be H) hha rfl rfl rfl rfl (Nat.le_of_ble_eq_true rfl) dX8_many_183 ?_
  exact r_iret hX hq ⟨rfl, rfl, rfl⟩ dX8_many_186

theorem c_many (l : Launch) (G : zG) (h : zH) (top : Nat) (s : zS) (be : zB) (H : z_St G s be h top) : ∀ (k : Nat), k ≤ 14 → z_Ct l yX8_many cX8_many 2 (some .int) 5 G [.ref (z_b G), .int (nI k)] h top (z_R (some (.int (zm_many s k))) h top)
  | 0, _ => c_many_0 l G h top s be H
  | 1, _ => c_many_1 l G h top s be H
  | 2, _ => c_many_2 l G h top s be H
  | 3, _ => c_many_3 l G h top s be H
  | 4, _ => c_many_4 l G h top s be H
  | 5, _ => c_many_5 l G h top s be H
  | 6, _ => c_many_6 l G h top s be H
  | 7, _ => c_many_7 l G h top s be H
  | 8, _ => c_many_8 l G h top s be H
  | 9, _ => c_many_9 l G h top s be H
  | 10, _ => c_many_10 l G h top s be H
  | 11, _ => c_many_11 l G h top s be H
  | 12, _ => c_many_12 l G h top s be H
  | 13, _ => c_many_13 l G h top s be H
  | 14, _ => c_many_14 l G h top s be H
  | k + 15, hk => absurd hk (by omega)
