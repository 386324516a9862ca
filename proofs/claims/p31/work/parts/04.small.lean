/-! small static methods -/
def zf_b (c : Bool) : Int32 := if c then 1 else 0
theorem zf_b01 (c : Bool) : zf_b c = 0 ∨ zf_b c = 1 := by cases c <;> simp [zf_b]
def zf_isIn (x lo hi : Int32) : Bool := decide (lo ≤ x) && decide (x ≤ hi)
def zf_hasBit (set place : Int32) : Bool := ((set >>> (place &&& 31)) &&& 1) == 1
def zf_fold (d : Int64) (v : Int32) : Int64 := d * 31 + v.toInt64
set_option maxRecDepth 20000 in
set_option maxHeartbeats 4000000 in
theorem c_X8_isIn (l : Launch) (G : zG) (h : zH) (top : Nat) (x lo hi : Int32) : z_Ct l yX8_isIn cX8_isIn 3 (some .boolean) 1 G [.int x, .int lo, .int hi] h top (z_R (some (.int (zf_b (zf_isIn x lo hi)))) h top) := by
  refine z_of (own := RX8) (nm := "isIn") (by decide) rfl rfl (by decide) (Nat.le_of_ble_eq_true rfl) (fun X hX hq => ?_)
  replace hX : z_ok X cX8_isIn 3 RX8 (some .boolean) "isIn" 1 G := hX
  show z_Z X h top 0 [(0, .int x), (1, .int lo), (2, .int hi)] []
  refine r_iload_n hX rfl 0 rfl dX8_isIn_0 ?_
  refine r_iload_n hX rfl 1 rfl dX8_isIn_1 ?_
  refine r_icmp_lt (tgt := 14) hX dX8_isIn_2 rfl (fun c2 => ?_) (fun c2 => ?_)
  · skip
    refine r_iconst (v := 0) hX (by decide) dX8_isIn_14 ?_
    exact r_zret hX hq (by decide) ⟨by rw [show zf_isIn x lo hi = false from by simp only [zf_isIn, Bool.and_eq_false_iff, Bool.and_eq_true, decide_eq_false_iff_not, decide_eq_true_eq, Int32.lt_iff_toInt_lt, Int32.le_iff_toInt_le] at *; omega]; rfl, rfl, rfl⟩ dX8_isIn_15
  · skip
    refine r_iload_n hX rfl 0 rfl dX8_isIn_5 ?_
    refine r_iload_n hX rfl 2 rfl dX8_isIn_6 ?_
    refine r_icmp_gt (tgt := 14) hX dX8_isIn_7 rfl (fun c7 => ?_) (fun c7 => ?_)
    · skip
      refine r_iconst (v := 0) hX (by decide) dX8_isIn_14 ?_
      exact r_zret hX hq (by decide) ⟨by rw [show zf_isIn x lo hi = false from by simp only [zf_isIn, Bool.and_eq_false_iff, Bool.and_eq_true, decide_eq_false_iff_not, decide_eq_true_eq, Int32.lt_iff_toInt_lt, Int32.le_iff_toInt_le] at *; omega]; rfl, rfl, rfl⟩ dX8_isIn_15
    · skip
      refine r_iconst (v := 1) hX (by decide) dX8_isIn_10 ?_
      refine r_goto (tgt := 15) hX rfl dX8_isIn_11 ?_
      exact r_zret hX hq (by decide) ⟨by rw [show zf_isIn x lo hi = true from by simp only [zf_isIn, Bool.and_eq_false_iff, Bool.and_eq_true, decide_eq_false_iff_not, decide_eq_true_eq, Int32.lt_iff_toInt_lt, Int32.le_iff_toInt_le] at *; omega]; rfl, rfl, rfl⟩ dX8_isIn_15

set_option maxRecDepth 20000 in
set_option maxHeartbeats 4000000 in
theorem c_X8_isKnot (l : Launch) (G : zG) (h : zH) (top : Nat) (x : Int32) : z_Ct l yX8_isKnot cX8_isKnot 1 (some .boolean) 2 G [.int x] h top (z_R (some (.int (zf_b (zf_isIn x 0 7)))) h top) := by
  refine z_of (own := RX8) (nm := "isKnot") (by decide) rfl rfl (by decide) (Nat.le_of_ble_eq_true rfl) (fun X hX hq => ?_)
  replace hX : z_ok X cX8_isKnot 1 RX8 (some .boolean) "isKnot" 2 G := hX
  show z_Z X h top 0 [(0, .int x)] []
  refine r_iload_n hX rfl 0 rfl dX8_isKnot_0 ?_
  refine r_iconst (v := 0) hX (by decide) dX8_isKnot_1 ?_
  refine r_bipush (v := 7) hX (by decide) dX8_isKnot_2 ?_
  refine r_callSR (As := [.int x, .int 0, .int 7]) (rest := []) (rv := some (.int (zf_b (zf_isIn x 0 7)))) (st1 := [.int (zf_b (zf_isIn x 0 7))]) hX cs_X8_62 (by decide) (fun l => c_X8_isIn l G h top x 0 7) rfl rfl rfl (Nat.le_of_ble_eq_true rfl) dX8_isKnot_4 ?_
  exact r_zret hX hq (zf_b01 _) ⟨rfl, rfl, rfl⟩ dX8_isKnot_7

set_option maxRecDepth 20000 in
set_option maxHeartbeats 4000000 in
theorem c_X8_isOwner (l : Launch) (G : zG) (h : zH) (top : Nat) (x : Int32) : z_Ct l yX8_isOwner cX8_isOwner 1 (some .boolean) 2 G [.int x] h top (z_R (some (.int (zf_b (zf_isIn x 0 3)))) h top) := by
  refine z_of (own := RX8) (nm := "isOwner") (by decide) rfl rfl (by decide) (Nat.le_of_ble_eq_true rfl) (fun X hX hq => ?_)
  replace hX : z_ok X cX8_isOwner 1 RX8 (some .boolean) "isOwner" 2 G := hX
  show z_Z X h top 0 [(0, .int x)] []
  refine r_iload_n hX rfl 0 rfl dX8_isOwner_0 ?_
  refine r_iconst (v := 0) hX (by decide) dX8_isOwner_1 ?_
  refine r_iconst (v := 3) hX (by decide) dX8_isOwner_2 ?_
  refine r_callSR (As := [.int x, .int 0, .int 3]) (rest := []) (rv := some (.int (zf_b (zf_isIn x 0 3)))) (st1 := [.int (zf_b (zf_isIn x 0 3))]) hX cs_X8_62 (by decide) (fun l => c_X8_isIn l G h top x 0 3) rfl rfl rfl (Nat.le_of_ble_eq_true rfl) dX8_isOwner_3 ?_
  exact r_zret hX hq (by first | assumption | exact zf_b01 _) ⟨rfl, rfl, rfl⟩ dX8_isOwner_6

set_option maxRecDepth 20000 in
set_option maxHeartbeats 4000000 in
theorem c_X8_hasBit (l : Launch) (G : zG) (h : zH) (top : Nat) (set place : Int32) : z_Ct l yX8_hasBit cX8_hasBit 2 (some .boolean) 1 G [.int set, .int place] h top (z_R (some (.int (zf_b (zf_hasBit set place)))) h top) := by
  refine z_of (own := RX8) (nm := "hasBit") (by decide) rfl rfl (by decide) (Nat.le_of_ble_eq_true rfl) (fun X hX hq => ?_)
  replace hX : z_ok X cX8_hasBit 2 RX8 (some .boolean) "hasBit" 1 G := hX
  show z_Z X h top 0 [(0, .int set), (1, .int place)] []
  refine r_iload_n hX rfl 0 rfl dX8_hasBit_0 ?_
  refine r_iload_n hX rfl 1 rfl dX8_hasBit_1 ?_
  refine r_ishr hX dX8_hasBit_2 ?_
  refine r_iconst (v := 1) hX (by decide) dX8_hasBit_3 ?_
  refine r_iand hX dX8_hasBit_4 ?_
  refine r_iconst (v := 1) hX (by decide) dX8_hasBit_5 ?_
  refine r_icmp_ne (tgt := 13) hX dX8_hasBit_6 rfl (fun c6 => ?_) (fun c6 => ?_)
  · skip
    refine r_iconst (v := 0) hX (by decide) dX8_hasBit_13 ?_
    exact r_zret hX hq (by decide) ⟨by simp [zf_b, zf_hasBit, *], rfl, rfl⟩ dX8_hasBit_14
  · skip
    refine r_iconst (v := 1) hX (by decide) dX8_hasBit_9 ?_
    refine r_goto (tgt := 14) hX rfl dX8_hasBit_10 ?_
    exact r_zret hX hq (by decide) ⟨by simp [zf_b, zf_hasBit, *], rfl, rfl⟩ dX8_hasBit_14

set_option maxRecDepth 20000 in
set_option maxHeartbeats 4000000 in
theorem c_X8_fold (l : Launch) (G : zG) (h : zH) (top : Nat) (dd : Int64) (v : Int32) : z_Ct l yX8_fold cX8_fold 3 (some .long) 1 G [.long dd, .int v] h top (z_R (some (.long (zf_fold dd v))) h top) := by
  refine z_of (own := RX8) (nm := "fold") (by decide) rfl rfl (by decide) (Nat.le_of_ble_eq_true rfl) (fun X hX hq => ?_)
  replace hX : z_ok X cX8_fold 3 RX8 (some .long) "fold" 1 G := hX
  show z_Z X h top 0 [(0, .long dd), (2, .int v)] []
  refine r_lload_n hX rfl 0 rfl dX8_fold_0 ?_
  refine r_ldc2 hX kc_X8_361 dX8_fold_1 ?_
  refine r_lmul hX dX8_fold_4 ?_
  refine r_iload_n hX rfl 1 rfl dX8_fold_5 ?_
  refine r_i2l hX dX8_fold_6 ?_
  refine r_ladd hX dX8_fold_7 ?_
  exact r_lret hX hq ⟨rfl, rfl, rfl⟩ dX8_fold_8

set_option maxRecDepth 20000 in
set_option maxHeartbeats 4000000 in
theorem c_X8_needIndex (l : Launch) (G : zG) (h : zH) (top : Nat)  : z_Ct l yX8_needIndex cX8_needIndex 1 none 1 G [.int 1] h top (z_R none h top) := by
  refine z_of (own := RX8) (nm := "needIndex") (by decide) rfl rfl (by decide) (Nat.le_of_ble_eq_true rfl) (fun X hX hq => ?_)
  replace hX : z_ok X cX8_needIndex 1 RX8 none "needIndex" 1 G := hX
  show z_Z X h top 0 [(0, .int 1)] []
  refine r_iload_n hX rfl 0 rfl dX8_needIndex_0 ?_
  refine r_if_ne (tgt := 15) hX dX8_needIndex_1 rfl (fun _ => ?_) (fun c => False.elim (absurd c (by decide)))
  exact r_vret hX hq ⟨rfl, rfl, rfl⟩ dX8_needIndex_15

set_option maxRecDepth 20000 in
set_option maxHeartbeats 4000000 in
theorem c_X8_needArgument (l : Launch) (G : zG) (h : zH) (top : Nat)  : z_Ct l yX8_needArgument cX8_needArgument 1 none 1 G [.int 1] h top (z_R none h top) := by
  refine z_of (own := RX8) (nm := "needArgument") (by decide) rfl rfl (by decide) (Nat.le_of_ble_eq_true rfl) (fun X hX hq => ?_)
  replace hX : z_ok X cX8_needArgument 1 RX8 none "needArgument" 1 G := hX
  show z_Z X h top 0 [(0, .int 1)] []
  refine r_iload_n hX rfl 0 rfl dX8_needArgument_0 ?_
  refine r_if_ne (tgt := 15) hX dX8_needArgument_1 rfl (fun _ => ?_) (fun c => False.elim (absurd c (by decide)))
  exact r_vret hX hq ⟨rfl, rfl, rfl⟩ dX8_needArgument_15

set_option maxRecDepth 20000 in
set_option maxHeartbeats 4000000 in
theorem c_X8_needState (l : Launch) (G : zG) (h : zH) (top : Nat)  : z_Ct l yX8_needState cX8_needState 1 none 1 G [.int 1] h top (z_R none h top) := by
  refine z_of (own := RX8) (nm := "needState") (by decide) rfl rfl (by decide) (Nat.le_of_ble_eq_true rfl) (fun X hX hq => ?_)
  replace hX : z_ok X cX8_needState 1 RX8 none "needState" 1 G := hX
  show z_Z X h top 0 [(0, .int 1)] []
  refine r_iload_n hX rfl 0 rfl dX8_needState_0 ?_
  refine r_if_ne (tgt := 15) hX dX8_needState_1 rfl (fun _ => ?_) (fun c => False.elim (absurd c (by decide)))
  exact r_vret hX hq ⟨rfl, rfl, rfl⟩ dX8_needState_15

