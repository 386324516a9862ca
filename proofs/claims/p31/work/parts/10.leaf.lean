/-! leaf methods -/
def zm_blocked (acc bal : Int32) : Bool := (acc == 0 && decide (bal < 0)) || (acc == 1 && decide (bal < -500))
def zm_hour (minute : Int32) : Int32 := minute / 60 - minute / 60 / 24 * 24
def zm_peak (minute : Int32) : Bool := (!decide (zm_hour minute < 7) && !decide (9 < zm_hour minute)) || (!decide (zm_hour minute < 16) && !decide (18 < zm_hour minute))
/-- the TARIFF in force: the last told of the first k -/
def zm_inF (tars : List zTar) (owner day : Int32) : Nat → Option zTar
  | 0 => none
  | k + 1 => match tars[k]? with
    | none => none
    | some t => if t.2.1 = owner ∧ t.2.2.2.2.2 ≤ day then some t else zm_inF tars owner day k
theorem zm_inF_s {tars : List zTar} {owner day : Int32} {k : Nat} {t : zTar} (h : tars[k]? = some t) : zm_inF tars owner day (k + 1) = if t.2.1 = owner ∧ t.2.2.2.2.2 ≤ day then some t else zm_inF tars owner day k := by
  show (match tars[k]? with
    | none => none
    | some t => if t.2.1 = owner ∧ t.2.2.2.2.2 ≤ day then some t else zm_inF tars owner day k) = _
  rw [h]
def zm_inForce (tars : List zTar) (owner day : Int32) : Option zTar := zm_inF tars owner day tars.length
def zm_price1 (len rate step peak rank em minute : Int32) : Int32 :=
  let p := len * (rate + step * rank) * (10 + em) / 10
  if zm_peak minute then p + p * peak / 100 else p
def zm_price (tars : List zTar) (owner len rank em minute : Int32) : Int32 := match zm_inForce tars owner (minute / 1440) with
  | none => 0
  | some t => zm_price1 len t.2.2.1 t.2.2.2.1 t.2.2.2.2.1 rank em minute
def zm_toll (tars : List zTar) (x : zSeg) (v : zVeh) (minute : Int32) : Int32 := if zf_hasBit v.2.2.2.1 x.2.2.2.2 then 0 else zm_price tars x.2.2.2.2 x.2.2.2.1 v.2.1.1 v.2.1.2.1 minute
theorem z_get {G : zG} {h : zH} {top a x e n cap i : Nat} {m : Int32} {f : Nat → Option Nat} (hA : z_AL G h top a m e n cap f) (hi : i < n) (hf : f i = some x) (l : Launch) : z_Ct l yJx4a65c_get_915e3 cJx4a65c_get_915e3 2 (some (.object "java/lang/Object")) 3 G [.ref a, .int (nI i)] h top (z_R (some (.ref x)) h top) := by
  obtain ⟨h1, h2, h3, h4, h5⟩ := hA
  rcases h5 with h5 | ⟨h5, he⟩
  · omega
  · exact c_Jx4a65c_get_915e3 l G h top a e cap x m (nI n) (nI i) f h1 he (nI_pos (by omega)) (nI_lt hi (by omega)) (vp_in_nI (by omega) (by omega)) (by rw [nI_clamp (by omega), hf]; rfl)
theorem z_size {G : zG} {h : zH} {top a e n cap : Nat} {m : Int32} {f : Nat → Option Nat} (hA : z_AL G h top a m e n cap f) (l : Launch) : z_Ct l yJx4a65c_size_8abf5 cJx4a65c_size_8abf5 1 (some .int) 1 G [.ref a] h top (z_R (some (.int (nI n))) h top) := c_Jx4a65c_size_8abf5 l G h top a e m (nI n) hA.1

set_option maxRecDepth 20000 in
set_option maxHeartbeats 4000000 in
theorem c_X3_isShut (l : Launch) (G : zG) (h : zH) (top : Nat) (x : zSeg) (i : Nat) (hx : z_at G h top x.1 (z_segC i x)) (minute : Int32) : z_Ct l yX3_isShut cX3_isShut 3 (some .boolean) 1 G [.ref x.1, .int minute] h top (z_R (some (.int 0)) h top) := by
  refine z_of (own := RX3) (nm := "isShut") (by decide) rfl rfl (by decide) (Nat.le_of_ble_eq_true rfl) (fun X hX hq => ?_)
  replace hX : z_ok X cX3_isShut 3 RX3 (some .boolean) "isShut" 1 G := hX
  show z_Z X h top 0 [(0, .ref x.1), (1, .int minute)] []
  refine r_iconst (v := 0) hX (by decide) dX3_isShut_0 ?_
  refine r_istore_n (lv' := [(2, .int 0), (0, .ref x.1), (1, .int minute)]) hX rfl (by decide) rfl dX3_isShut_1 ?_
  refine r_iload_n hX rfl 0 rfl dX3_isShut_2 ?_
  refine r_aload_n hX rfl 1 rfl dX3_isShut_3 ?_
  refine r_getf hX fl_X3_34 hx rfl dX3_isShut_4 ?_
  refine r_icmp_ge (tgt := 56) hX dX3_isShut_7 rfl (fun _ => ?_) (fun c => False.elim (absurd c (by decide)))
  refine r_iconst (v := 0) hX (by decide) dX3_isShut_56 ?_
  exact r_zret hX hq (by decide) ⟨rfl, rfl, rfl⟩ dX3_isShut_57

set_option maxRecDepth 20000 in
set_option maxHeartbeats 4000000 in
theorem c_X7_isBlocked (l : Launch) (G : zG) (h : zH) (top : Nat) (v : zVeh) (iv : Nat) (hv : z_at G h top v.1 (z_vehC iv v)) : z_Ct l yX7_isBlocked cX7_isBlocked 1 (some .boolean) 1 G [.ref v.1] h top (z_R (some (.int (zf_b (zm_blocked v.2.1.2.2 v.2.2.1)))) h top) := by
  refine z_of (own := RX7) (nm := "isBlocked") (by decide) rfl rfl (by decide) (Nat.le_of_ble_eq_true rfl) (fun X hX hq => ?_)
  replace hX : z_ok X cX7_isBlocked 1 RX7 (some .boolean) "isBlocked" 1 G := hX
  show z_Z X h top 0 [(0, .ref v.1)] []
  refine r_aload_n hX rfl 0 rfl dX7_isBlocked_0 ?_
  refine r_getf hX fl_X7_21 hv rfl dX7_isBlocked_1 ?_
  refine r_if_ne (tgt := 14) hX dX7_isBlocked_4 rfl (fun c4 => ?_) (fun c4 => ?_)
  · skip
    refine r_aload_n hX rfl 0 rfl dX7_isBlocked_14 ?_
    refine r_getf hX fl_X7_21 hv rfl dX7_isBlocked_15 ?_
    refine r_iconst (v := 1) hX (by decide) dX7_isBlocked_18 ?_
    refine r_icmp_ne (tgt := 36) hX dX7_isBlocked_19 rfl (fun c19 => ?_) (fun c19 => ?_)
    · skip
      refine r_iconst (v := 0) hX (by decide) dX7_isBlocked_36 ?_
      exact r_zret hX hq (by decide) ⟨by simp [zf_b, zm_blocked, c4, c19] <;> first | decide | simp_all, rfl, rfl⟩ dX7_isBlocked_37
    · skip
      refine r_aload_n hX rfl 0 rfl dX7_isBlocked_22 ?_
      refine r_getf hX fl_X7_24 hv rfl dX7_isBlocked_23 ?_
      refine r_sipush (v := (-500)) hX (by decide) dX7_isBlocked_26 ?_
      refine r_icmp_ge (tgt := 36) hX dX7_isBlocked_29 rfl (fun c29 => ?_) (fun c29 => ?_)
      · skip
        refine r_iconst (v := 0) hX (by decide) dX7_isBlocked_36 ?_
        exact r_zret hX hq (by decide) ⟨by simp [zf_b, zm_blocked, c4, c19, c29] <;> first | decide | simp_all, rfl, rfl⟩ dX7_isBlocked_37
      · skip
        refine r_iconst (v := 1) hX (by decide) dX7_isBlocked_32 ?_
        refine r_goto (tgt := 37) hX rfl dX7_isBlocked_33 ?_
        exact r_zret hX hq (by decide) ⟨by simp [zf_b, zm_blocked, c4, c19, c29] <;> first | decide | simp_all, rfl, rfl⟩ dX7_isBlocked_37
  · skip
    refine r_aload_n hX rfl 0 rfl dX7_isBlocked_7 ?_
    refine r_getf hX fl_X7_24 hv rfl dX7_isBlocked_8 ?_
    refine r_if_lt (tgt := 32) hX dX7_isBlocked_11 rfl (fun c11 => ?_) (fun c11 => ?_)
    · skip
      refine r_iconst (v := 1) hX (by decide) dX7_isBlocked_32 ?_
      refine r_goto (tgt := 37) hX rfl dX7_isBlocked_33 ?_
      exact r_zret hX hq (by decide) ⟨by simp [zf_b, zm_blocked, c4, c11] <;> first | decide | simp_all, rfl, rfl⟩ dX7_isBlocked_37
    · skip
      refine r_aload_n hX rfl 0 rfl dX7_isBlocked_14 ?_
      refine r_getf hX fl_X7_21 hv rfl dX7_isBlocked_15 ?_
      refine r_iconst (v := 1) hX (by decide) dX7_isBlocked_18 ?_
      refine r_icmp_ne (tgt := 36) hX dX7_isBlocked_19 rfl (fun c19 => ?_) (fun c19 => ?_)
      · skip
        refine r_iconst (v := 0) hX (by decide) dX7_isBlocked_36 ?_
        exact r_zret hX hq (by decide) ⟨by simp [zf_b, zm_blocked, c4, c11, c19] <;> first | decide | simp_all, rfl, rfl⟩ dX7_isBlocked_37
      · skip
        refine r_aload_n hX rfl 0 rfl dX7_isBlocked_22 ?_
        refine r_getf hX fl_X7_24 hv rfl dX7_isBlocked_23 ?_
        refine r_sipush (v := (-500)) hX (by decide) dX7_isBlocked_26 ?_
        refine r_icmp_ge (tgt := 36) hX dX7_isBlocked_29 rfl (fun c29 => ?_) (fun c29 => ?_)
        · skip
          refine r_iconst (v := 0) hX (by decide) dX7_isBlocked_36 ?_
          exact r_zret hX hq (by decide) ⟨by simp [zf_b, zm_blocked, c4, c11, c19, c29] <;> first | decide | simp_all, rfl, rfl⟩ dX7_isBlocked_37
        · skip
          refine r_iconst (v := 1) hX (by decide) dX7_isBlocked_32 ?_
          refine r_goto (tgt := 37) hX rfl dX7_isBlocked_33 ?_
          exact r_zret hX hq (by decide) ⟨by simp [zf_b, zm_blocked, c4, c11, c19, c29] <;> first | decide | simp_all, rfl, rfl⟩ dX7_isBlocked_37

set_option maxRecDepth 20000 in
set_option maxHeartbeats 4000000 in
theorem c_X7_isExempt (l : Launch) (G : zG) (h : zH) (top : Nat) (v : zVeh) (iv : Nat) (hv : z_at G h top v.1 (z_vehC iv v)) (owner : Int32) : z_Ct l yX7_isExempt cX7_isExempt 2 (some .boolean) 2 G [.ref v.1, .int owner] h top (z_R (some (.int (zf_b (zf_hasBit v.2.2.2.1 owner)))) h top) := by
  refine z_of (own := RX7) (nm := "isExempt") (by decide) rfl rfl (by decide) (Nat.le_of_ble_eq_true rfl) (fun X hX hq => ?_)
  replace hX : z_ok X cX7_isExempt 2 RX7 (some .boolean) "isExempt" 2 G := hX
  show z_Z X h top 0 [(0, .ref v.1), (1, .int owner)] []
  refine r_aload_n hX rfl 0 rfl dX7_isExempt_0 ?_
  refine r_getf hX fl_X7_27 hv rfl dX7_isExempt_1 ?_
  refine r_iload_n hX rfl 1 rfl dX7_isExempt_4 ?_
  refine r_callSNR (As := [.int v.2.2.2.1, .int owner]) (rest := []) (rv := some (.int (zf_b (zf_hasBit v.2.2.2.1 owner)))) (st1 := [.int (zf_b (zf_hasBit v.2.2.2.1 owner))]) hX cs_X7_30 (by decide) (fun l => c_X8_hasBit l G h top v.2.2.2.1 owner) rfl rfl rfl (Nat.le_of_ble_eq_true rfl) dX7_isExempt_5 ?_
  exact r_zret hX hq (by first | assumption | exact zf_b01 _) ⟨rfl, rfl, rfl⟩ dX7_isExempt_8

set_option maxRecDepth 20000 in
set_option maxHeartbeats 4000000 in
theorem c_X6_isPeakHour (l : Launch) (G : zG) (h : zH) (top : Nat) (minute : Int32) : z_Ct l yX6_isPeakHour cX6_isPeakHour 2 (some .boolean) 1 G [.int minute] h top (z_R (some (.int (zf_b (zm_peak minute)))) h top) := by
  refine z_of (own := RX6) (nm := "isPeakHour") (by decide) rfl rfl (by decide) (Nat.le_of_ble_eq_true rfl) (fun X hX hq => ?_)
  replace hX : z_ok X cX6_isPeakHour 2 RX6 (some .boolean) "isPeakHour" 1 G := hX
  show z_Z X h top 0 [(0, .int minute)] []
  refine r_iload_n hX rfl 0 rfl dX6_isPeakHour_0 ?_
  refine r_bipush (v := 60) hX (by decide) dX6_isPeakHour_1 ?_
  refine r_idiv hX (by decide) dX6_isPeakHour_3 ?_
  refine r_bipush (v := 24) hX (by decide) dX6_isPeakHour_4 ?_
  refine r_irem hX (by decide) dX6_isPeakHour_6 ?_
  obtain ⟨hr, ehr⟩ : ∃ z, z = zm_hour minute := ⟨_, rfl⟩
  rw [show minute / 60 - minute / 60 / 24 * 24 = hr from ehr.symm]
  refine r_istore_n (lv' := [(1, .int hr), (0, .int minute)]) hX rfl (by decide) rfl dX6_isPeakHour_7 ?_
  refine r_iload_n hX rfl 0 rfl dX6_isPeakHour_8 ?_
  refine r_bipush (v := 7) hX (by decide) dX6_isPeakHour_9 ?_
  refine r_icmp_lt (tgt := 20) hX dX6_isPeakHour_11 rfl (fun c11 => ?_) (fun c11 => ?_)
  · skip
    refine r_iload_n hX rfl 0 rfl dX6_isPeakHour_20 ?_
    refine r_bipush (v := 16) hX (by decide) dX6_isPeakHour_21 ?_
    refine r_icmp_lt (tgt := 36) hX dX6_isPeakHour_23 rfl (fun c23 => ?_) (fun c23 => ?_)
    · skip
      refine r_iconst (v := 0) hX (by decide) dX6_isPeakHour_36 ?_
      exact r_zret hX hq (by decide) ⟨by simp [zf_b, zm_peak, ← ehr, c11, c23], rfl, rfl⟩ dX6_isPeakHour_37
    · skip
      refine r_iload_n hX rfl 0 rfl dX6_isPeakHour_26 ?_
      refine r_bipush (v := 18) hX (by decide) dX6_isPeakHour_27 ?_
      refine r_icmp_gt (tgt := 36) hX dX6_isPeakHour_29 rfl (fun c29 => ?_) (fun c29 => ?_)
      · skip
        refine r_iconst (v := 0) hX (by decide) dX6_isPeakHour_36 ?_
        exact r_zret hX hq (by decide) ⟨by simp [zf_b, zm_peak, ← ehr, c11, c23, c29], rfl, rfl⟩ dX6_isPeakHour_37
      · skip
        refine r_iconst (v := 1) hX (by decide) dX6_isPeakHour_32 ?_
        refine r_goto (tgt := 37) hX rfl dX6_isPeakHour_33 ?_
        exact r_zret hX hq (by decide) ⟨by simp [zf_b, zm_peak, ← ehr, c11, c23, c29], rfl, rfl⟩ dX6_isPeakHour_37
  · skip
    refine r_iload_n hX rfl 0 rfl dX6_isPeakHour_14 ?_
    refine r_bipush (v := 9) hX (by decide) dX6_isPeakHour_15 ?_
    refine r_icmp_le (tgt := 32) hX dX6_isPeakHour_17 rfl (fun c17 => ?_) (fun c17 => ?_)
    · skip
      refine r_iconst (v := 1) hX (by decide) dX6_isPeakHour_32 ?_
      refine r_goto (tgt := 37) hX rfl dX6_isPeakHour_33 ?_
      exact r_zret hX hq (by decide) ⟨by simp [zf_b, zm_peak, ← ehr, c11, c17], rfl, rfl⟩ dX6_isPeakHour_37
    · skip
      refine r_iload_n hX rfl 0 rfl dX6_isPeakHour_20 ?_
      refine r_bipush (v := 16) hX (by decide) dX6_isPeakHour_21 ?_
      refine r_icmp_lt (tgt := 36) hX dX6_isPeakHour_23 rfl (fun c23 => ?_) (fun c23 => ?_)
      · skip
        refine r_iconst (v := 0) hX (by decide) dX6_isPeakHour_36 ?_
        exact r_zret hX hq (by decide) ⟨by simp [zf_b, zm_peak, ← ehr, c11, c17, c23], rfl, rfl⟩ dX6_isPeakHour_37
      · skip
        refine r_iload_n hX rfl 0 rfl dX6_isPeakHour_26 ?_
        refine r_bipush (v := 18) hX (by decide) dX6_isPeakHour_27 ?_
        refine r_icmp_gt (tgt := 36) hX dX6_isPeakHour_29 rfl (fun c29 => ?_) (fun c29 => ?_)
        · skip
          refine r_iconst (v := 0) hX (by decide) dX6_isPeakHour_36 ?_
          exact r_zret hX hq (by decide) ⟨by simp [zf_b, zm_peak, ← ehr, c11, c17, c23, c29], rfl, rfl⟩ dX6_isPeakHour_37
        · skip
          refine r_iconst (v := 1) hX (by decide) dX6_isPeakHour_32 ?_
          refine r_goto (tgt := 37) hX rfl dX6_isPeakHour_33 ?_
          exact r_zret hX hq (by decide) ⟨by simp [zf_b, zm_peak, ← ehr, c11, c17, c23, c29], rfl, rfl⟩ dX6_isPeakHour_37

set_option maxRecDepth 20000 in
set_option maxHeartbeats 4000000 in
theorem c_X6_isHoliday (l : Launch) (G : zG) (h : zH) (top : Nat) (t0 lst hol : Nat) (day : Int32) (ht : z_at G h top t0 (.inr (7, [.ref lst, .ref hol, .int 0]))) (hh : z_at G h top hol (.inl (z_aZ G, 51, .inl (fun _ => 0)))) : z_Ct l yX6_isHoliday cX6_isHoliday 2 (some .boolean) 1 G [.ref t0, .int day] h top (z_R (some (.int 0)) h top) := by
  refine z_of (own := RX6) (nm := "isHoliday") (by decide) rfl rfl (by decide) (Nat.le_of_ble_eq_true rfl) (fun X hX hq => ?_)
  replace hX : z_ok X cX6_isHoliday 2 RX6 (some .boolean) "isHoliday" 1 G := hX
  show z_Z X h top 0 [(0, .ref t0), (1, .int day)] []
  refine r_iload_n hX rfl 1 rfl dX6_isHoliday_0 ?_
  refine r_if_lt (tgt := 26) hX dX6_isHoliday_1 rfl (fun c1 => ?_) (fun c1 => ?_)
  · skip
    refine r_iconst (v := 0) hX (by decide) dX6_isHoliday_26 ?_
    exact r_zret hX hq (by decide) ⟨rfl, rfl, rfl⟩ dX6_isHoliday_27
  · skip
    refine r_iload_n hX rfl 1 rfl dX6_isHoliday_4 ?_
    refine r_aload_n hX rfl 0 rfl dX6_isHoliday_5 ?_
    refine r_getf hX fl_X6_18 ht rfl dX6_isHoliday_6 ?_
    refine r_alenZ (v := 51) hX hh rfl dX6_isHoliday_9 ?_
    refine r_icmp_ge (tgt := 26) hX dX6_isHoliday_10 rfl (fun c10 => ?_) (fun c10 => ?_)
    · skip
      refine r_iconst (v := 0) hX (by decide) dX6_isHoliday_26 ?_
      exact r_zret hX hq (by decide) ⟨rfl, rfl, rfl⟩ dX6_isHoliday_27
    · skip
      have hin : vp_in day 51 := by
        intro z
        rcases z with z | z
        · simp only [Int32.lt_iff_toInt_lt, Int32.le_iff_toInt_le] at z c1
          omega
        · have e51 : (51 : Int32).toInt = 51 := by decide
          have e0 : (0 : Int32).toInt = 0 := by decide
          simp only [Int32.lt_iff_toInt_lt, Int32.le_iff_toInt_le, e51, e0] at c1 c10
          have : day.toNatClampNeg = day.toInt.toNat := rfl
          omega
      refine r_aload_n hX rfl 0 rfl dX6_isHoliday_13 ?_
      refine r_getf hX fl_X6_18 ht rfl dX6_isHoliday_14 ?_
      refine r_iload_n hX rfl 1 rfl dX6_isHoliday_17 ?_
      refine r_zald (v := 0) hX hh hin rfl dX6_isHoliday_18 ?_
      refine r_if_eq (tgt := 26) hX dX6_isHoliday_19 rfl (fun _ => ?_) (fun c => False.elim (absurd c (by decide)))
      refine r_iconst (v := 0) hX (by decide) dX6_isHoliday_26 ?_
      exact r_zret hX hq (by decide) ⟨rfl, rfl, rfl⟩ dX6_isHoliday_27

set_option maxRecDepth 20000 in
set_option maxHeartbeats 4000000 in
theorem f_inF_step {X : zX} {G : zG} {h : zH} {top : Nat} {Post : Option Value → zH → Nat → Prop} (t0 lst hol : Nat) (tars : List zTar) (m : Int32) (e cap : Nat) (ht : z_at G h top t0 (.inr (7, [.ref lst, .ref hol, .int 0]))) (hA : z_AL G h top lst m e tars.length cap (fun i : Nat => (tars.map (fun x => x.1))[i]?)) (htar : ∀ (i : Nat) (t : zTar), tars[i]? = some t → z_at G h top t.1 (z_tarC t)) (k : Nat) (owner day : Int32) (r : Option zTar) (hk : k < tars.length) (hp2 : zm_inF tars owner day (k + 1) = r) (hp : ∀ r2 : Option zTar, r2 = r → Post (some (va_rf (r2.map (fun t => t.1)))) h top) (ih : zm_inF tars owner day k = r → z_Z X h top 10 [(3, .int (nI k + (-1))), (0, .ref t0), (1, .int owner), (2, .int day)] []) (hX : z_ok X cX6_inForce 5 RX6 (some (.object "GantryHall$Tariff")) "inForce" 4 G) (hq : z_mq X (Post)) : z_Z X h top 10 [(3, .int (nI k)), (0, .ref t0), (1, .int owner), (2, .int day)] [] := by
  refine r_iload_n hX rfl 0 rfl dX6_inForce_10 ?_
  refine r_if_lt (tgt := 54) hX dX6_inForce_11 rfl (fun c => False.elim (absurd c (nI_pos (show k < 2 ^ 31 by have := hA.2.1; have := hA.2.2.1; omega)))) (fun _ => ?_)
  obtain ⟨t, ht2⟩ : ∃ t, tars[k]? = some t := ⟨tars[k], List.getElem?_eq_getElem hk⟩
  have htt := htar k t ht2
  refine r_aload_n hX rfl 1 rfl dX6_inForce_14 ?_
  refine r_getf hX fl_X6_12 ht rfl dX6_inForce_15 ?_
  refine r_iload_n hX rfl 0 rfl dX6_inForce_18 ?_
  refine r_callVR (As := [.int (nI k)]) (rest := []) (rv := some (.ref t.1)) (st1 := [.ref t.1]) hX cs_X6_34 (by decide) (fun l => z_get hA hk (by show (tars.map (fun x => x.1))[k]? = _; rw [List.getElem?_map, ht2]; rfl) l) hA.1 rfl rfl rfl rfl (Nat.le_of_ble_eq_true rfl) dX6_inForce_19 ?_
  refine r_cast (ci := 6) hX rfl htt cl_X6_38 dX6_inForce_22 ?_
  refine r_astore (lv' := [(4, .ref t.1), (3, .int (nI k)), (0, .ref t0), (1, .int owner), (2, .int day)]) hX (by decide) rfl dX6_inForce_25 ?_
  refine r_aload hX 0 rfl dX6_inForce_27 ?_
  refine r_getf hX fl_X6_40 htt rfl dX6_inForce_29 ?_
  refine r_iload_n hX rfl 3 rfl dX6_inForce_32 ?_
  refine r_icmp_ne (tgt := 48) hX dX6_inForce_33 rfl (fun c33 => ?_) (fun c33 => ?_)
  · skip
    refine r_iinc (q := 1) (lv' := [(3, .int ((nI k) + (-1))), (4, .ref t.1), (0, .ref t0), (1, .int owner), (2, .int day)]) hX rfl (congrArg (HAdd.hAdd (nI k)) (show Int32.ofInt (-1) = (-1 : Int32) by decide)) (by decide) rfl dX6_inForce_48 ?_
    refine r_goto (tgt := 10) hX rfl dX6_inForce_51 ?_
    refine r_lv [0, 2, 3, 4] (lv2 := [(3, .int (nI k + (-1))), (0, .ref t0), (1, .int owner), (2, .int day)]) rfl ?_
    exact ih ((if_neg (by intro z; first | exact c33 z.1 | exact absurd z.2 (Int32.not_le.mpr c42))).symm.trans ((zm_inF_s ht2).symm.trans hp2))
  · skip
    refine r_aload hX 0 rfl dX6_inForce_36 ?_
    refine r_getf hX fl_X6_43 htt rfl dX6_inForce_38 ?_
    refine r_iload_n hX rfl 4 rfl dX6_inForce_41 ?_
    refine r_icmp_gt (tgt := 48) hX dX6_inForce_42 rfl (fun c42 => ?_) (fun c42 => ?_)
    · skip
      refine r_iinc (q := 1) (lv' := [(3, .int ((nI k) + (-1))), (4, .ref t.1), (0, .ref t0), (1, .int owner), (2, .int day)]) hX rfl (congrArg (HAdd.hAdd (nI k)) (show Int32.ofInt (-1) = (-1 : Int32) by decide)) (by decide) rfl dX6_inForce_48 ?_
      refine r_goto (tgt := 10) hX rfl dX6_inForce_51 ?_
      refine r_lv [0, 2, 3, 4] (lv2 := [(3, .int (nI k + (-1))), (0, .ref t0), (1, .int owner), (2, .int day)]) rfl ?_
      exact ih ((if_neg (by intro z; first | exact c33 z.1 | exact absurd z.2 (Int32.not_le.mpr c42))).symm.trans ((zm_inF_s ht2).symm.trans hp2))
    · skip
      refine r_aload hX 0 rfl dX6_inForce_45 ?_
      exact r_aret hX rfl (Or.inl ⟨_, rfl⟩) hq (Or.inr ⟨_, rfl⟩) (hp (some t) (by rw [← hp2, zm_inF_s ht2, if_pos ⟨c33, Int32.not_lt.mp c42⟩])) dX6_inForce_47

set_option maxRecDepth 20000 in
set_option maxHeartbeats 4000000 in
theorem f_inF_end {X : zX} {G : zG} {h : zH} {top : Nat} {Post : Option Value → zH → Nat → Prop} (t0 : Nat) (owner day : Int32) (r : Option zTar) (hp2 : none = r) (hp : ∀ r2 : Option zTar, r2 = r → Post (some (va_rf (r2.map (fun t => t.1)))) h top) (hX : z_ok X cX6_inForce 5 RX6 (some (.object "GantryHall$Tariff")) "inForce" 4 G) (hq : z_mq X (Post)) : z_Z X h top 10 [(3, .int (-1)), (0, .ref t0), (1, .int owner), (2, .int day)] [] := by
  refine r_iload_n hX rfl 0 rfl dX6_inForce_10 ?_
  refine r_if_lt (tgt := 54) hX dX6_inForce_11 rfl (fun _ => ?_) (fun c => False.elim (absurd c (by decide)))
  refine r_null hX dX6_inForce_54 ?_
  exact r_aret hX rfl (Or.inl ⟨_, rfl⟩) hq (Or.inl rfl) (hp none hp2) dX6_inForce_55

theorem f_inF_loop {X : zX} {G : zG} {h : zH} {top : Nat} {Post : Option Value → zH → Nat → Prop} (t0 lst hol : Nat) (tars : List zTar) (m : Int32) (e cap : Nat) (ht : z_at G h top t0 (.inr (7, [.ref lst, .ref hol, .int 0]))) (hA : z_AL G h top lst m e tars.length cap (fun i : Nat => (tars.map (fun x => x.1))[i]?)) (htar : ∀ (i : Nat) (t : zTar), tars[i]? = some t → z_at G h top t.1 (z_tarC t)) (owner day : Int32) (r : Option zTar) (hp : ∀ r2 : Option zTar, r2 = r → Post (some (va_rf (r2.map (fun t => t.1)))) h top) (hX : z_ok X cX6_inForce 5 RX6 (some (.object "GantryHall$Tariff")) "inForce" 4 G) (hq : z_mq X Post) : ∀ k : Nat, k ≤ tars.length → zm_inF tars owner day k = r → z_Z X h top 10 [(3, .int (nI k + (-1))), (0, .ref t0), (1, .int owner), (2, .int day)] [] := by
  intro k
  induction k with
  | zero =>
    intro hk hp2
    rw [show nI 0 + (-1) = (-1 : Int32) by decide]
    exact f_inF_end t0 owner day r hp2 hp hX hq
  | succ k ih =>
    intro hk hp2
    rw [pk_m1]
    exact f_inF_step t0 lst hol tars m e cap ht hA htar k owner day r (by omega) hp2 hp (ih (by omega)) hX hq
set_option maxRecDepth 20000 in
set_option maxHeartbeats 4000000 in
theorem c_X6_inForce (l : Launch) (G : zG) (h : zH) (top : Nat) (t0 lst hol : Nat) (tars : List zTar) (m : Int32) (e cap : Nat) (ht : z_at G h top t0 (.inr (7, [.ref lst, .ref hol, .int 0]))) (hA : z_AL G h top lst m e tars.length cap (fun i : Nat => (tars.map (fun x => x.1))[i]?)) (htar : ∀ (i : Nat) (t : zTar), tars[i]? = some t → z_at G h top t.1 (z_tarC t)) (owner day : Int32) : z_Ct l yX6_inForce cX6_inForce 5 (some (.object "GantryHall$Tariff")) 4 G [.ref t0, .int owner, .int day] h top (z_R (some (va_rf ((zm_inForce tars owner day).map (fun t => t.1)))) h top) := by
  refine z_of (own := RX6) (nm := "inForce") (by decide) rfl rfl (by decide) (Nat.le_of_ble_eq_true rfl) (fun X hX hq => ?_)
  replace hX : z_ok X cX6_inForce 5 RX6 (some (.object "GantryHall$Tariff")) "inForce" 4 G := hX
  show z_Z X h top 0 [(0, .ref t0), (1, .int owner), (2, .int day)] []
  refine r_aload_n hX rfl 0 rfl dX6_inForce_0 ?_
  refine r_getf hX fl_X6_12 ht rfl dX6_inForce_1 ?_
  refine r_callVR (As := []) (rest := []) (rv := some (.int (nI tars.length))) (st1 := [.int (nI tars.length)]) hX cs_X6_22 (by decide) (fun l => z_size hA l) hA.1 rfl rfl rfl rfl (Nat.le_of_ble_eq_true rfl) dX6_inForce_4 ?_
  refine r_iconst (v := 1) hX (by decide) dX6_inForce_7 ?_
  refine r_isub hX dX6_inForce_8 ?_
  refine r_istore_n (lv' := [(3, .int ((nI tars.length) - 1)), (0, .ref t0), (1, .int owner), (2, .int day)]) hX rfl (by decide) rfl dX6_inForce_9 ?_
  refine r_lv [0, 1, 2, 3] (lv2 := [(3, .int (nI tars.length + (-1))), (0, .ref t0), (1, .int owner), (2, .int day)]) (by rw [Int32.sub_eq_add_neg]; rfl) ?_
  exact f_inF_loop t0 lst hol tars m e cap ht hA htar owner day (zm_inForce tars owner day) (fun r2 e => ⟨by rw [e], rfl, rfl⟩) hX hq tars.length (Nat.le_refl _) rfl

theorem c_inF_none (l : Launch) (G : zG) (h : zH) (top : Nat) (t0 lst hol : Nat) (tars : List zTar) (m : Int32) (e cap : Nat) (ht : z_at G h top t0 (.inr (7, [.ref lst, .ref hol, .int 0]))) (hA : z_AL G h top lst m e tars.length cap (fun i : Nat => (tars.map (fun x => x.1))[i]?)) (htar : ∀ (i : Nat) (t : zTar), tars[i]? = some t → z_at G h top t.1 (z_tarC t)) (owner day : Int32) (hq : zm_inForce tars owner day = none) : z_Ct l yX6_inForce cX6_inForce 5 (some (.object "GantryHall$Tariff")) 4 G [.ref t0, .int owner, .int day] h top (z_R (some .null) h top) := by
  have q := c_X6_inForce l G h top t0 lst hol tars m e cap ht hA htar owner day
  rw [hq] at q
  exact q
theorem c_inF_some (l : Launch) (G : zG) (h : zH) (top : Nat) (t0 lst hol : Nat) (tars : List zTar) (m : Int32) (e cap : Nat) (ht : z_at G h top t0 (.inr (7, [.ref lst, .ref hol, .int 0]))) (hA : z_AL G h top lst m e tars.length cap (fun i : Nat => (tars.map (fun x => x.1))[i]?)) (htar : ∀ (i : Nat) (t : zTar), tars[i]? = some t → z_at G h top t.1 (z_tarC t)) (owner day : Int32) (t : zTar) (hq : zm_inForce tars owner day = some t) : z_Ct l yX6_inForce cX6_inForce 5 (some (.object "GantryHall$Tariff")) 4 G [.ref t0, .int owner, .int day] h top (z_R (some (.ref t.1)) h top) := by
  have q := c_X6_inForce l G h top t0 lst hol tars m e cap ht hA htar owner day
  rw [hq] at q
  exact q
theorem zm_inF_mem {G : zG} {h : zH} {top : Nat} {tars : List zTar} (htar : ∀ (i : Nat) (t : zTar), tars[i]? = some t → z_at G h top t.1 (z_tarC t)) {owner day : Int32} {t : zTar} (hq : zm_inForce tars owner day = some t) : z_at G h top t.1 (z_tarC t) := by
  have key : ∀ k, zm_inF tars owner day k = some t → ∃ i : Nat, tars[i]? = some t := by
    intro k
    induction k with
    | zero => intro q; cases q
    | succ k ih =>
      intro q
      simp only [zm_inF] at q
      split at q
      · cases q
      · rename_i u hu
        split at q
        · cases q; exact ⟨k, hu⟩
        · exact ih q
  obtain ⟨i, hi⟩ := key _ hq
  exact htar i t hi
set_option maxRecDepth 20000 in
set_option maxHeartbeats 4000000 in
theorem c_price_0 (l : Launch) (G : zG) (h : zH) (top : Nat) (t0 lst hol : Nat) (tars : List zTar) (m : Int32) (e cap : Nat) (ht : z_at G h top t0 (.inr (7, [.ref lst, .ref hol, .int 0]))) (hA : z_AL G h top lst m e tars.length cap (fun i : Nat => (tars.map (fun x => x.1))[i]?)) (htar : ∀ (i : Nat) (t : zTar), tars[i]? = some t → z_at G h top t.1 (z_tarC t)) (hh : z_at G h top hol (.inl (z_aZ G, 51, .inl (fun _ => 0)))) (x : zSeg) (i : Nat) (hx : z_at G h top x.1 (z_segC i x)) (rank em minute : Int32) (hno : zm_inForce tars x.2.2.2.2 (minute / 1440) = none) : z_Ct l yX6_price cX6_price 9 (some .int) 5 G [.ref t0, .ref x.1, .int rank, .int em, .int minute] h top (z_R (some (.int 0)) h top) := by
  refine z_of (own := RX6) (nm := "price") (by decide) rfl rfl (by decide) (Nat.le_of_ble_eq_true rfl) (fun X hX hq => ?_)
  replace hX : z_ok X cX6_price 9 RX6 (some .int) "price" 5 G := hX
  show z_Z X h top 0 [(0, .ref t0), (1, .ref x.1), (2, .int rank), (3, .int em), (4, .int minute)] []
  refine r_iload hX 4 rfl dX6_price_0 ?_
  refine r_sipush (v := 1440) hX (by decide) dX6_price_2 ?_
  refine r_idiv hX (by decide) dX6_price_5 ?_
  refine r_istore (lv' := [(5, .int (minute / 1440)), (0, .ref t0), (1, .ref x.1), (2, .int rank), (3, .int em), (4, .int minute)]) hX (by decide) rfl dX6_price_6 ?_
  refine r_aload_n hX rfl 1 rfl dX6_price_8 ?_
  refine r_aload_n hX rfl 2 rfl dX6_price_9 ?_
  refine r_getf hX fl_X6_46 hx rfl dX6_price_10 ?_
  refine r_iload hX 0 rfl dX6_price_13 ?_
  refine r_callVR (As := [.int x.2.2.2.2, .int (minute / 1440)]) (rest := []) (rv := some (.null)) (st1 := [.null]) hX cs_X6_49 (by decide) (fun l => c_inF_none l G h top t0 lst hol tars m e cap ht hA htar x.2.2.2.2 (minute / 1440) hno) ht rfl rfl rfl rfl (Nat.le_of_ble_eq_true rfl) dX6_price_15 ?_
  refine r_astoreN (lv' := [(6, .null), (5, .int (minute / 1440)), (0, .ref t0), (1, .ref x.1), (2, .int rank), (3, .int em), (4, .int minute)]) hX (by decide) rfl dX6_price_18 ?_
  refine r_aloadN hX 0 rfl dX6_price_20 ?_
  refine r_ifnonnullN hX dX6_price_22 ?_
  refine r_iconst (v := 0) hX (by decide) dX6_price_25 ?_
  exact r_iret hX hq ⟨rfl, rfl, rfl⟩ dX6_price_26

set_option maxRecDepth 20000 in
set_option maxHeartbeats 4000000 in
theorem c_price_1 (l : Launch) (G : zG) (h : zH) (top : Nat) (t0 lst hol : Nat) (tars : List zTar) (m : Int32) (e cap : Nat) (ht : z_at G h top t0 (.inr (7, [.ref lst, .ref hol, .int 0]))) (hA : z_AL G h top lst m e tars.length cap (fun i : Nat => (tars.map (fun x => x.1))[i]?)) (htar : ∀ (i : Nat) (t : zTar), tars[i]? = some t → z_at G h top t.1 (z_tarC t)) (hh : z_at G h top hol (.inl (z_aZ G, 51, .inl (fun _ => 0)))) (x : zSeg) (i : Nat) (hx : z_at G h top x.1 (z_segC i x)) (rank em minute : Int32) (t : zTar) (hso : zm_inForce tars x.2.2.2.2 (minute / 1440) = some t) (htt : z_at G h top t.1 (z_tarC t)) : z_Ct l yX6_price cX6_price 9 (some .int) 5 G [.ref t0, .ref x.1, .int rank, .int em, .int minute] h top (z_R (some (.int (zm_price1 x.2.2.2.1 t.2.2.1 t.2.2.2.1 t.2.2.2.2.1 rank em minute))) h top) := by
  refine z_of (own := RX6) (nm := "price") (by decide) rfl rfl (by decide) (Nat.le_of_ble_eq_true rfl) (fun X hX hq => ?_)
  replace hX : z_ok X cX6_price 9 RX6 (some .int) "price" 5 G := hX
  show z_Z X h top 0 [(0, .ref t0), (1, .ref x.1), (2, .int rank), (3, .int em), (4, .int minute)] []
  refine r_iload hX 4 rfl dX6_price_0 ?_
  refine r_sipush (v := 1440) hX (by decide) dX6_price_2 ?_
  refine r_idiv hX (by decide) dX6_price_5 ?_
  refine r_istore (lv' := [(5, .int (minute / 1440)), (0, .ref t0), (1, .ref x.1), (2, .int rank), (3, .int em), (4, .int minute)]) hX (by decide) rfl dX6_price_6 ?_
  refine r_aload_n hX rfl 1 rfl dX6_price_8 ?_
  refine r_aload_n hX rfl 2 rfl dX6_price_9 ?_
  refine r_getf hX fl_X6_46 hx rfl dX6_price_10 ?_
  refine r_iload hX 0 rfl dX6_price_13 ?_
  refine r_callVR (As := [.int x.2.2.2.2, .int (minute / 1440)]) (rest := []) (rv := some (.ref t.1)) (st1 := [.ref t.1]) hX cs_X6_49 (by decide) (fun l => c_inF_some l G h top t0 lst hol tars m e cap ht hA htar x.2.2.2.2 (minute / 1440) t hso) ht rfl rfl rfl rfl (Nat.le_of_ble_eq_true rfl) dX6_price_15 ?_
  refine r_astore (lv' := [(6, .ref t.1), (5, .int (minute / 1440)), (0, .ref t0), (1, .ref x.1), (2, .int rank), (3, .int em), (4, .int minute)]) hX (by decide) rfl dX6_price_18 ?_
  refine r_aload hX 0 rfl dX6_price_20 ?_
  refine r_ifnonnull (tgt := 27) hX rfl dX6_price_22 ?_
  refine r_aload_n hX rfl 3 rfl dX6_price_27 ?_
  refine r_getf hX fl_X6_53 hx rfl dX6_price_28 ?_
  refine r_aload hX 0 rfl dX6_price_31 ?_
  refine r_getf hX fl_X6_56 htt rfl dX6_price_33 ?_
  refine r_aload hX 0 rfl dX6_price_36 ?_
  refine r_getf hX fl_X6_59 htt rfl dX6_price_38 ?_
  refine r_iload_n hX rfl 4 rfl dX6_price_41 ?_
  refine r_imul hX dX6_price_42 ?_
  refine r_iadd hX dX6_price_43 ?_
  refine r_imul hX dX6_price_44 ?_
  refine r_istore (lv' := [(7, .int (x.2.2.2.1 * (t.2.2.1 + (t.2.2.2.1 * rank)))), (6, .ref t.1), (5, .int (minute / 1440)), (0, .ref t0), (1, .ref x.1), (2, .int rank), (3, .int em), (4, .int minute)]) hX (by decide) rfl dX6_price_45 ?_
  refine r_iload hX 0 rfl dX6_price_47 ?_
  refine r_bipush (v := 10) hX (by decide) dX6_price_49 ?_
  refine r_iload_n hX rfl 6 rfl dX6_price_51 ?_
  refine r_iadd hX dX6_price_52 ?_
  refine r_imul hX dX6_price_53 ?_
  refine r_bipush (v := 10) hX (by decide) dX6_price_54 ?_
  refine r_idiv hX (by decide) dX6_price_56 ?_
  refine r_istore (lv' := [(8, .int (((x.2.2.2.1 * (t.2.2.1 + (t.2.2.2.1 * rank))) * (10 + em)) / 10)), (7, .int (x.2.2.2.1 * (t.2.2.1 + (t.2.2.2.1 * rank)))), (6, .ref t.1), (5, .int (minute / 1440)), (0, .ref t0), (1, .ref x.1), (2, .int rank), (3, .int em), (4, .int minute)]) hX (by decide) rfl dX6_price_57 ?_
  refine r_iload hX 8 rfl dX6_price_59 ?_
  refine r_callSR (As := [.int minute]) (rest := []) (rv := some (.int (zf_b (zm_peak minute)))) (st1 := [.int (zf_b (zm_peak minute))]) hX cs_X6_62 (by decide) (fun l => c_X6_isPeakHour l G h top minute) rfl rfl rfl (Nat.le_of_ble_eq_true rfl) dX6_price_61 ?_
  refine r_if_eq (tgt := 92) hX dX6_price_64 rfl (fun c64 => ?_) (fun c64 => ?_)
  · skip
    refine r_iload hX 0 rfl dX6_price_92 ?_
    exact r_iret hX hq ⟨by simp [zm_price1, show zm_peak minute = false from by revert c64; cases zm_peak minute <;> simp [zf_b]], rfl, rfl⟩ dX6_price_94
  · skip
    refine r_aload_n hX rfl 4 rfl dX6_price_67 ?_
    refine r_iload hX 3 rfl dX6_price_68 ?_
    refine r_callVR (As := [.int (minute / 1440)]) (rest := []) (rv := some (.int 0)) (st1 := [.int 0]) hX cs_X6_66 (by decide) (fun l => c_X6_isHoliday l G h top t0 lst hol (minute / 1440) ht hh) ht rfl rfl rfl rfl (Nat.le_of_ble_eq_true rfl) dX6_price_70 ?_
    refine r_if_ne (tgt := 92) hX dX6_price_73 rfl (fun c => False.elim (absurd c (by decide))) (fun _ => ?_)
    refine r_iload hX 0 rfl dX6_price_76 ?_
    refine r_iload hX 0 rfl dX6_price_78 ?_
    refine r_aload hX 2 rfl dX6_price_80 ?_
    refine r_getf hX fl_X6_69 htt rfl dX6_price_82 ?_
    refine r_imul hX dX6_price_85 ?_
    refine r_bipush (v := 100) hX (by decide) dX6_price_86 ?_
    refine r_idiv hX (by decide) dX6_price_88 ?_
    refine r_iadd hX dX6_price_89 ?_
    refine r_istore (lv' := [(8, .int ((((x.2.2.2.1 * (t.2.2.1 + (t.2.2.2.1 * rank))) * (10 + em)) / 10) + (((((x.2.2.2.1 * (t.2.2.1 + (t.2.2.2.1 * rank))) * (10 + em)) / 10) * t.2.2.2.2.1) / 100))), (7, .int (x.2.2.2.1 * (t.2.2.1 + (t.2.2.2.1 * rank)))), (6, .ref t.1), (5, .int (minute / 1440)), (0, .ref t0), (1, .ref x.1), (2, .int rank), (3, .int em), (4, .int minute)]) hX (by decide) rfl dX6_price_90 ?_
    refine r_iload hX 0 rfl dX6_price_92 ?_
    exact r_iret hX hq ⟨by simp [zm_price1, show zm_peak minute = true from by revert c64; cases zm_peak minute <;> simp [zf_b]], rfl, rfl⟩ dX6_price_94

theorem c_price (l : Launch) (G : zG) (h : zH) (top : Nat) (t0 lst hol : Nat) (tars : List zTar) (m : Int32) (e cap : Nat) (ht : z_at G h top t0 (.inr (7, [.ref lst, .ref hol, .int 0]))) (hA : z_AL G h top lst m e tars.length cap (fun i : Nat => (tars.map (fun x => x.1))[i]?)) (htar : ∀ (i : Nat) (t : zTar), tars[i]? = some t → z_at G h top t.1 (z_tarC t)) (hh : z_at G h top hol (.inl (z_aZ G, 51, .inl (fun _ => 0)))) (x : zSeg) (i : Nat) (hx : z_at G h top x.1 (z_segC i x)) (rank em minute : Int32) : z_Ct l yX6_price cX6_price 9 (some .int) 5 G [.ref t0, .ref x.1, .int rank, .int em, .int minute] h top (z_R (some (.int (zm_price tars x.2.2.2.2 x.2.2.2.1 rank em minute))) h top) := by
  unfold zm_price
  cases q : zm_inForce tars x.2.2.2.2 (minute / 1440) with
  | none => exact c_price_0 l G h top t0 lst hol tars m e cap ht hA htar hh x i hx rank em minute q
  | some t => exact c_price_1 l G h top t0 lst hol tars m e cap ht hA htar hh x i hx rank em minute t q (zm_inF_mem htar q)
def zm_isOf (y : zSgt) (va : Nat) (day : Int32) : Bool := decide (y.2.1.1 = va) && (decide (y.2.2.1 / 1440 = day) && decide (y.2.2.2.2 = 0))
def zm_ahead (m1 : Int32) (n1 : Nat) (m2 : Int32) (n2 : Nat) : Bool := decide (m1 < m2) || (decide (m1 = m2) && decide (nI n1 < nI n2))
set_option maxRecDepth 20000 in
set_option maxHeartbeats 4000000 in
theorem c_X4_isOf (l : Launch) (G : zG) (h : zH) (top : Nat) (y : zSgt) (va : Nat) (day : Int32) (hy : z_at G h top y.1 (z_sgtC y)) : z_Ct l yX4_isOf cX4_isOf 3 (some .boolean) 1 G [.ref y.1, .ref va, .int day] h top (z_R (some (.int (zf_b (zm_isOf y va day)))) h top) := by
  refine z_of (own := RX4) (nm := "isOf") (by decide) rfl rfl (by decide) (Nat.le_of_ble_eq_true rfl) (fun X hX hq => ?_)
  replace hX : z_ok X cX4_isOf 3 RX4 (some .boolean) "isOf" 1 G := hX
  show z_Z X h top 0 [(0, .ref y.1), (1, .ref va), (2, .int day)] []
  refine r_aload_n hX rfl 0 rfl dX4_isOf_0 ?_
  refine r_getf hX fl_X4_9 hy rfl dX4_isOf_1 ?_
  refine r_aload_n hX rfl 1 rfl dX4_isOf_4 ?_
  refine r_acmp_ne (tgt := 31) hX dX4_isOf_5 rfl (fun c5 => ?_) (fun c5 => ?_)
  · skip
    refine r_iconst (v := 0) hX (by decide) dX4_isOf_31 ?_
    exact r_zret hX hq (by decide) ⟨by simp [zf_b, zm_isOf, c5] <;> first | decide | simp_all, rfl, rfl⟩ dX4_isOf_32
  · skip
    refine r_aload_n hX rfl 0 rfl dX4_isOf_8 ?_
    refine r_getf hX fl_X4_19 hy rfl dX4_isOf_9 ?_
    refine r_sipush (v := 1440) hX (by decide) dX4_isOf_12 ?_
    refine r_idiv hX (by decide) dX4_isOf_15 ?_
    refine r_iload_n hX rfl 2 rfl dX4_isOf_16 ?_
    refine r_icmp_ne (tgt := 31) hX dX4_isOf_17 rfl (fun c17 => ?_) (fun c17 => ?_)
    · skip
      refine r_iconst (v := 0) hX (by decide) dX4_isOf_31 ?_
      exact r_zret hX hq (by decide) ⟨by simp [zf_b, zm_isOf, c5, c17] <;> first | decide | simp_all, rfl, rfl⟩ dX4_isOf_32
    · skip
      refine r_aload_n hX rfl 0 rfl dX4_isOf_20 ?_
      refine r_getf hX fl_X4_26 hy rfl dX4_isOf_21 ?_
      refine r_if_ne (tgt := 31) hX dX4_isOf_24 rfl (fun c24 => ?_) (fun c24 => ?_)
      · skip
        refine r_iconst (v := 0) hX (by decide) dX4_isOf_31 ?_
        exact r_zret hX hq (by decide) ⟨by simp [zf_b, zm_isOf, c5, c17, c24] <;> first | decide | simp_all, rfl, rfl⟩ dX4_isOf_32
      · skip
        refine r_iconst (v := 1) hX (by decide) dX4_isOf_27 ?_
        refine r_goto (tgt := 32) hX rfl dX4_isOf_28 ?_
        exact r_zret hX hq (by decide) ⟨by simp [zf_b, zm_isOf, c5, c17, c24] <;> first | decide | simp_all, rfl, rfl⟩ dX4_isOf_32

set_option maxRecDepth 20000 in
set_option maxHeartbeats 4000000 in
theorem c_X4_isAheadOf (l : Launch) (G : zG) (h : zH) (top : Nat) (y z : zSgt) (x1 x2 : zSeg) (i1 i2 : Nat) (hy : z_at G h top y.1 (z_sgtC y)) (hz : z_at G h top z.1 (z_sgtC z)) (e1 : y.2.1.2 = x1.1) (e2 : z.2.1.2 = x2.1) (hx1 : z_at G h top x1.1 (z_segC i1 x1)) (hx2 : z_at G h top x2.1 (z_segC i2 x2)) : z_Ct l yX4_isAheadOf cX4_isAheadOf 2 (some .boolean) 1 G [.ref y.1, .ref z.1] h top (z_R (some (.int (zf_b (zm_ahead y.2.2.1 i1 z.2.2.1 i2)))) h top) := by
  refine z_of (own := RX4) (nm := "isAheadOf") (by decide) rfl rfl (by decide) (Nat.le_of_ble_eq_true rfl) (fun X hX hq => ?_)
  replace hX : z_ok X cX4_isAheadOf 2 RX4 (some .boolean) "isAheadOf" 1 G := hX
  show z_Z X h top 0 [(0, .ref y.1), (1, .ref z.1)] []
  rw [← e1] at hx1
  rw [← e2] at hx2
  refine r_aload_n hX rfl 0 rfl dX4_isAheadOf_0 ?_
  refine r_getf hX fl_X4_19 hy rfl dX4_isAheadOf_1 ?_
  refine r_aload_n hX rfl 1 rfl dX4_isAheadOf_4 ?_
  refine r_getf hX fl_X4_19 hz rfl dX4_isAheadOf_5 ?_
  refine r_icmp_lt (tgt := 39) hX dX4_isAheadOf_8 rfl (fun c8 => ?_) (fun c8 => ?_)
  · skip
    refine r_iconst (v := 1) hX (by decide) dX4_isAheadOf_39 ?_
    refine r_goto (tgt := 44) hX rfl dX4_isAheadOf_40 ?_
    exact r_zret hX hq (by decide) ⟨by simp [zf_b, zm_ahead, c8], rfl, rfl⟩ dX4_isAheadOf_44
  · skip
    refine r_aload_n hX rfl 0 rfl dX4_isAheadOf_11 ?_
    refine r_getf hX fl_X4_19 hy rfl dX4_isAheadOf_12 ?_
    refine r_aload_n hX rfl 1 rfl dX4_isAheadOf_15 ?_
    refine r_getf hX fl_X4_19 hz rfl dX4_isAheadOf_16 ?_
    refine r_icmp_ne (tgt := 43) hX dX4_isAheadOf_19 rfl (fun c19 => ?_) (fun c19 => ?_)
    · skip
      refine r_iconst (v := 0) hX (by decide) dX4_isAheadOf_43 ?_
      exact r_zret hX hq (by decide) ⟨by simp [zf_b, zm_ahead, c8, c19], rfl, rfl⟩ dX4_isAheadOf_44
    · skip
      refine r_aload_n hX rfl 0 rfl dX4_isAheadOf_22 ?_
      refine r_getf hX fl_X4_15 hy rfl dX4_isAheadOf_23 ?_
      refine r_getf hX fl_X4_30 hx1 rfl dX4_isAheadOf_26 ?_
      refine r_aload_n hX rfl 1 rfl dX4_isAheadOf_29 ?_
      refine r_getf hX fl_X4_15 hz rfl dX4_isAheadOf_30 ?_
      refine r_getf hX fl_X4_30 hx2 rfl dX4_isAheadOf_33 ?_
      refine r_icmp_ge (tgt := 43) hX dX4_isAheadOf_36 rfl (fun c36 => ?_) (fun c36 => ?_)
      · skip
        refine r_iconst (v := 0) hX (by decide) dX4_isAheadOf_43 ?_
        exact r_zret hX hq (by decide) ⟨by simp only [zf_b, zm_ahead, c8, c19, decide_true, decide_false, Bool.true_and, Bool.false_or]; first | simp [c36] | simp [Int32.not_le.mp c36] | simp [Int32.not_lt.mpr c36], rfl, rfl⟩ dX4_isAheadOf_44
      · skip
        refine r_iconst (v := 1) hX (by decide) dX4_isAheadOf_39 ?_
        refine r_goto (tgt := 44) hX rfl dX4_isAheadOf_40 ?_
        exact r_zret hX hq (by decide) ⟨by simp only [zf_b, zm_ahead, c8, c19, decide_true, decide_false, Bool.true_and, Bool.false_or]; first | simp [c36] | simp [Int32.not_le.mp c36] | simp [Int32.not_lt.mpr c36], rfl, rfl⟩ dX4_isAheadOf_44

