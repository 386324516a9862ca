/-! the law's small methods -/
theorem nI_mod {a k : Nat} (ha : a < 2 ^ 31) (hk : 0 < k) (hk2 : k < 2 ^ 31) : nI a - nI a / nI k * nI k = nI (a % k) := by
  rw [nI_divN ha hk hk2, nI_mul, nI_sub (Nat.div_mul_le_self a k)]
  congr 1
  have := Nat.div_add_mod a k
  rw [Nat.mul_comm] at this
  omega
theorem zl_and (v : Int32) : ¬ (v &&& 2147483647) < 0 := by
  rw [Int32.lt_iff_toInt_lt, Int32.toInt_zero]
  have h : (v &&& 2147483647).toBitVec.msb = false := by
    rw [Int32.toBitVec_and, BitVec.msb_and, show (2147483647 : Int32).toBitVec.msb = false by decide, Bool.and_false]
  have h2 : (v &&& 2147483647).toInt = ((v &&& 2147483647).toBitVec.toNat : Int) := by
    show (v &&& 2147483647).toBitVec.toInt = _
    rw [BitVec.toInt_eq_msb_cond, h]
    rfl
  omega
def zn_below (v : Int32) (k : Nat) : Nat := (v &&& 2147483647).toNatClampNeg % k
theorem zn_lt (v : Int32) {k : Nat} (hk : 0 < k) : zn_below v k < k := Nat.mod_lt _ hk
theorem zn_eq (v : Int32) {k : Nat} (hk : 0 < k) (hk2 : k < 2 ^ 31) : (v &&& 2147483647) - (v &&& 2147483647) / nI k * nI k = nI (zn_below v k) := by
  obtain ⟨a, ha, ea⟩ := nI_of (zl_and v)
  unfold zn_below
  rw [ea, nI_clamp ha]
  exact nI_mod ha hk hk2
theorem zf_in2 {a lo hi : Nat} (h1 : lo ≤ a) (h2 : a ≤ hi) (hh : hi < 2 ^ 31) : zf_isIn (nI a) (nI lo) (nI hi) = true := by
  unfold zf_isIn
  rw [decide_eq_true (nI_le h1 (by omega)), decide_eq_true (nI_le h2 hh)]
  rfl
set_option maxRecDepth 20000 in
set_option maxHeartbeats 4000000 in
theorem c_L_below (l : Launch) (G : zG) (h : zH) (top : Nat) (v : Int32) {k : Nat} (hk : 0 < k) (hk2 : k < 2 ^ 31) : z_Ct l yL_below cL_below 2 (some .int) 1 G [.int v, .int (nI k)] h top (z_R (some (.int (nI (zn_below v k)))) h top) := by
  refine z_of (own := RL) (nm := "below") (by decide) rfl rfl (by decide) (Nat.le_of_ble_eq_true rfl) (fun X hX hq => ?_)
  replace hX : z_ok X cL_below 2 RL (some .int) "below" 1 G := hX
  show z_Z X h top 0 [(0, .int v), (1, .int (nI k))] []
  refine r_iload_n hX rfl 0 rfl dL_below_0 ?_
  refine r_ldc hX kc_L_7 dL_below_1 ?_
  refine r_iand hX dL_below_3 ?_
  refine r_iload_n hX rfl 1 rfl dL_below_4 ?_
  refine r_irem hX (nI_ne0 hk (by omega)) dL_below_5 ?_
  exact r_iret hX hq ⟨by rw [zn_eq v hk hk2], rfl, rfl⟩ dL_below_6

def zn_cell (G : zG) (a : Nat) : Int32 := if nI (z_L G) ≤ nI a then (790386105) * (nI a + 3) else z_xs G (nI a).toNatClampNeg
set_option maxRecDepth 20000 in
set_option maxHeartbeats 4000000 in
theorem c_L_cell (l : Launch) (G : zG) (h : zH) (top : Nat) (hL : z_L G ≤ 260) (a : Nat) (ha : a < 2 ^ 20) : z_Ct l yL_cell cL_cell 2 (some .int) 1 G [.ref (z_bs G), .int (nI a)] h top (z_R (some (.int (zn_cell G a))) h top) := by
  refine z_of (own := RL) (nm := "cell") (by decide) rfl rfl (by decide) (Nat.le_of_ble_eq_true rfl) (fun X hX hq => ?_)
  replace hX : z_ok X cL_cell 2 RL (some .int) "cell" 1 G := hX
  show z_Z X h top 0 [(0, .ref (z_bs G)), (1, .int (nI a))] []
  refine r_iload_n hX rfl 1 rfl dL_cell_0 ?_
  refine r_aload_n hX rfl 0 rfl dL_cell_1 ?_
  refine r_slen hX dL_cell_2 ?_
  refine r_icmp_ge (tgt := 12) hX dL_cell_3 rfl (fun c3 => ?_) (fun c3 => ?_)
  · skip
    refine r_ldc hX kc_L_8 dL_cell_12 ?_
    refine r_iload_n hX rfl 1 rfl dL_cell_14 ?_
    refine r_iconst (v := 3) hX (by decide) dL_cell_15 ?_
    refine r_iadd hX dL_cell_16 ?_
    refine r_imul hX dL_cell_17 ?_
    exact r_iret hX hq ⟨by rw [zn_cell, if_pos (show nI (z_L G) ≤ nI a from c3)], rfl, rfl⟩ dL_cell_18
  · skip
    have hlt : a < z_L G := by
      rcases Nat.lt_or_ge a (z_L G) with q | q
      · exact q
      · exact absurd (show nI (z_L G) ≤ nI a from nI_le q (by omega)) c3
    refine r_aload_n hX rfl 0 rfl dL_cell_6 ?_
    refine r_iload_n hX rfl 1 rfl dL_cell_7 ?_
    refine r_sald hX (vp_in_nI hlt (by omega)) dL_cell_8 ?_
    refine r_goto (tgt := 18) hX rfl dL_cell_9 ?_
    exact r_iret hX hq ⟨by rw [zn_cell, if_neg (show ¬ nI (z_L G) ≤ nI a from c3)], rfl, rfl⟩ dL_cell_18

/-- what holds of the hall all the while -/
def zI (s : zS) (K : Int32) (n : Nat) : Prop := zg_cfg s ∧ zm_K s = K ∧ (s_segs s).length = 8 ∧ (s_vehs s).length = 3 ∧ s_cap s = nI 300 ∧ s_now s = nI n ∧ (s_sgts s).length ≤ 60
theorem zI.of {s s2 : zS} {K K2 : Int32} {n n2 : Nat} (h : zI s K n) (e : zm_cf s2 = zm_cf s) (eK : zm_K s2 = K2) (en : s_now s2 = nI n2) : zI s2 K2 n2 := by
  obtain ⟨h1, h2, h3, h4, h5, h6, h7⟩ := h
  have e1 : s_segs s2 = s_segs s := congrArg (fun z => z.1) e
  have e3 : s_cap s2 = s_cap s := congrArg (fun z => z.2.2.1) e
  have e5 : (s_sgts s2).length = (s_sgts s).length := congrArg (fun z => z.2.2.2.2) e
  exact ⟨zm_cf_cfg e h1, eK, by rw [e1]; exact h3, by rw [zm_cf_vl e]; exact h4, by rw [e3]; exact h5, en, by rw [e5]; exact h7⟩
/-- while the hall is written -/
def zJ (s : zS) (i j k : Nat) : Prop := zg_cfg s ∧ zm_K s = 0 ∧ (s_segs s).length = i ∧ (s_tars s).length = j ∧ (s_vehs s).length = k ∧ s_cap s = nI 300 ∧ s_now s = nI 0 ∧ (s_sgts s).length = 0
theorem zJ_0 : zJ z_s0 0 0 0 := ⟨⟨fun _ h => absurd h List.not_mem_nil, fun _ h => absurd h List.not_mem_nil, fun _ h => absurd h List.not_mem_nil⟩, by decide, rfl, rfl, rfl, rfl, nI_0.symm, rfl⟩
theorem zJ.seg {s : zS} {i j k : Nat} (h : zJ s i j k) (a9 : Nat) {f t o b : Nat} (hf : f < 8) (ht : t < 8) (ho : o < 4) (hb : b ≤ 60) : zJ (zs_segs s (s_segs s ++ [(a9, nI f, nI t, nI b, nI o)])) (i + 1) j k := by
  obtain ⟨h1, h2, h3, h4, h5, h6, h7, h8⟩ := h
  refine ⟨⟨fun x hx => ?_, h1.2.1, h1.2.2⟩, h2, by show (s_segs s ++ [_]).length = _; rw [List.length_append, h3]; rfl, h4, h5, h6, h7, h8⟩
  rcases List.mem_append.mp hx with w | w
  · exact h1.1 x w
  · rw [List.mem_singleton.mp w]
    exact ⟨⟨f, hf, rfl⟩, ⟨t, ht, rfl⟩, ⟨o, ho, rfl⟩, b, hb, rfl⟩
theorem zJ.tar {s : zS} {i j k : Nat} (h : zJ s i j k) (a9 : Nat) {o a b c : Nat} (d : Int32) (ha : a ≤ 30) (hb : b ≤ 9) (hc : c ≤ 100) : zJ (zs_tars s (s_tars s ++ [(a9, nI o, nI a, nI b, nI c, d)])) i (j + 1) k := by
  obtain ⟨h1, h2, h3, h4, h5, h6, h7, h8⟩ := h
  refine ⟨⟨h1.1, h1.2.1, fun t ht => ?_⟩, h2, h3, by show (s_tars s ++ [_]).length = _; rw [List.length_append, h4]; rfl, h5, h6, h7, h8⟩
  rcases List.mem_append.mp ht with w | w
  · exact h1.2.2 t w
  · rw [List.mem_singleton.mp w]
    exact ⟨a, b, c, ⟨ha, hb, hc⟩, rfl, rfl, rfl⟩
theorem zm_bal_app : ∀ (l : List zVeh) (v : zVeh), zm_bal (l ++ [v]) = zm_bal l + v.2.2.1 := by
  intro l v
  induction l with
  | nil => show v.2.2.1 + 0 = 0 + v.2.2.1; grind
  | cons u us ih => show u.2.2.1 + zm_bal (us ++ [v]) = u.2.2.1 + zm_bal us + v.2.2.1; rw [ih]; grind
theorem zJ.veh {s : zS} {i j k : Nat} (h : zJ s i j k) (a9 : Nat) {a b : Nat} (c : Int32) (ha : a ≤ 2) (hb : b ≤ 3) : zJ (zs_vehs s (s_vehs s ++ [(a9, (nI a, nI b, c), (0, 0, 0, 0))])) i j (k + 1) := by
  obtain ⟨h1, h2, h3, h4, h5, h6, h7, h8⟩ := h
  refine ⟨⟨h1.1, fun v hv => ?_, h1.2.2⟩, ?_, h3, h4, by show (s_vehs s ++ [_]).length = _; rw [List.length_append, h5]; rfl, h6, h7, h8⟩
  · rcases List.mem_append.mp hv with w | w
    · exact h1.2.1 v w
    · rw [List.mem_singleton.mp w]
      exact ⟨⟨a, ha, rfl⟩, b, hb, rfl⟩
  · show zm_KL s.2.1 + zm_bal (s_vehs s ++ [_]) = 0
    rw [zm_bal_app]
    have : zm_KL s.2.1 + zm_bal (s_vehs s) = 0 := h2
    dsimp only
    grind
theorem zJ.of {s s2 : zS} {i j k : Nat} (h : zJ s i j k) (e : zm_cf s2 = zm_cf s) (eK : zm_K s2 = zm_K s) (en : s_now s2 = s_now s) : zJ s2 i j k := by
  obtain ⟨h1, h2, h3, h4, h5, h6, h7, h8⟩ := h
  have e1 : s_segs s2 = s_segs s := congrArg (fun z => z.1) e
  have e2 : s_tars s2 = s_tars s := congrArg (fun z => z.2.1) e
  have e3 : s_cap s2 = s_cap s := congrArg (fun z => z.2.2.1) e
  have e5 : (s_sgts s2).length = (s_sgts s).length := congrArg (fun z => z.2.2.2.2) e
  exact ⟨zm_cf_cfg e h1, eK.trans h2, by rw [e1]; exact h3, by rw [e2]; exact h4, by rw [zm_cf_vl e]; exact h5, by rw [e3]; exact h6, en.trans h7, by rw [e5]; exact h8⟩
theorem zl_open (d : Nat) (hd : d < 2 ^ 20) : ¬ nI d ≤ nI d - 2 := by
  rcases (show d = 0 ∨ d = 1 ∨ 2 ≤ d by omega) with rfl | rfl | h
  · decide
  · decide
  · rw [show nI d - 2 = nI (d - 2) from nI_sub (b := 2) h]
    exact nI_ge (by omega) (by omega)
theorem zl_closed (d : Nat) (h : 2 ≤ d) : nI (d - 2) ≤ nI d - 2 := by
  rw [show nI d - 2 = nI (d - 2) from nI_sub (b := 2) h]
  exact Int32.le_refl _
