/-! coins are kept -/
def zm_bal : List zVeh → Int32
  | [] => 0
  | v :: l => v.2.2.1 + zm_bal l
theorem zm_bal_set {v v2 : zVeh} : ∀ {l : List zVeh} {i : Nat}, l[i]? = some v → zm_bal (l.set i v2) = zm_bal l + (v2.2.2.1 - v.2.2.1) := by
  intro l
  induction l with
  | nil => intro i h; cases h
  | cons u us ih =>
    intro i h
    cases i with
    | zero =>
      cases h
      show v2.2.2.1 + zm_bal us = v.2.2.1 + zm_bal us + (v2.2.2.1 - v.2.2.1)
      grind
    | succ i =>
      show u.2.2.1 + zm_bal (us.set i v2) = u.2.2.1 + zm_bal us + (v2.2.2.1 - v.2.2.1)
      rw [ih h]
      grind
def zm_cn (f : Nat → Int32) : Int32 := f 0 + f 1 + f 2 + f 3
/-- hall and owners -/
def zm_KL (l : zL6) : Int32 := l.2.2.2.1 + zm_cn l.1
def zm_K (s : zS) : Int32 := zm_KL s.2.1 + zm_bal (s_vehs s)
theorem zm_cn_upd (f : Nat → Int32) {o : Nat} (ho : o < 4) (x : Int32) : zm_cn (upd f (nI o).toNatClampNeg x) = zm_cn f + (x - f (nI o).toNatClampNeg) := by
  rw [nI_clamp (by omega)]
  rcases (show o = 0 ∨ o = 1 ∨ o = 2 ∨ o = 3 by omega) with rfl | rfl | rfl | rfl <;> simp [zm_cn, upd] <;> grind
theorem zm_KL_share (l : zL6) {o : Nat} (ho : o < 4) (c sg : Int32) : zm_KL (zm_share l o c sg) = zm_KL l + sg * c := by
  unfold zm_KL
  show l.2.2.2.1 + sg * (c / 20) + zm_cn (upd l.1 (nI o).toNatClampNeg (l.1 (nI o).toNatClampNeg + sg * (c - c / 20))) = _
  rw [zm_cn_upd _ ho]
  grind
theorem zm_KL_receive (l : zL6) (k : Nat) {o : Nat} (ho : o < 4) (c : Int32) : zm_KL (zm_receive l k o c) = zm_KL l + c := by
  unfold zm_receive
  rw [zm_KL_share _ ho, Int32.one_mul]
  rfl
theorem zm_KL_back (l : zL6) (k : Nat) {o : Nat} (ho : o < 4) (c : Int32) : zm_KL (zm_giveBack l k o c).2 + (zm_giveBack l k o c).1 = zm_KL l := by
  unfold zm_giveBack
  split
  · show zm_KL (zm_share (zm_share l o (l.2.2.1 (nI k).toNatClampNeg) (-1)) o c 1) + (l.2.2.1 (nI k).toNatClampNeg - c) = _
    rw [zm_KL_share _ ho, zm_KL_share _ ho]
    grind
  · show zm_KL l + 0 = _
    grind
theorem zm_sumN_0 (f : Nat → Int32) : ∀ n : Nat, zm_sumN f (n + 1) = f 0 + zm_sumN (fun i => f (i + 1)) n := by
  intro n
  induction n with
  | zero => show 0 + f 0 = f 0 + 0; grind
  | succ n ih =>
    show zm_sumN f (n + 1) + f (n + 1) = f 0 + (zm_sumN (fun i => f (i + 1)) n + f (n + 1))
    rw [ih]
    grind
theorem zm_vs_cons (x : Int32 × Int32) (l : List (Int32 × Int32)) : zm_vs (x :: l) = x.2 + zm_vs l := zm_sumN_0 _ l.length
/-- what is due to the four owners is the bill -/
theorem zp_due4 {s : zS} (h : zg_cfg s) : ∀ (L : List (zQ × (Int32 × Int32))) (a0 a1 a2 a3 : Int32), L.foldl (zm_dueStep s (nI 0)) a0 + L.foldl (zm_dueStep s (nI 1)) a1 + L.foldl (zm_dueStep s (nI 2)) a2 + L.foldl (zm_dueStep s (nI 3)) a3 = a0 + a1 + a2 + a3 + zm_vs (L.map (fun y => y.2)) := by
  intro L
  induction L with
  | nil => intro a0 a1 a2 a3; show a0 + a1 + a2 + a3 = a0 + a1 + a2 + a3 + 0; grind
  | cons y ys ih =>
    intro a0 a1 a2 a3
    obtain ⟨⟨o, ho, eo⟩, -⟩ := h.sg y.1.1
    have e5 : zm_vs ((y :: ys).map (fun y => y.2)) = y.2.2 + zm_vs (ys.map (fun y => y.2)) := zm_vs_cons _ _
    rw [e5, List.foldl_cons, List.foldl_cons, List.foldl_cons, List.foldl_cons, ih]
    have st : ∀ (p : Nat) (a : Int32), p < 4 → zm_dueStep s (nI p) a y = if o = p then a + y.2.2 else a := fun p a hp => by
      unfold zm_dueStep
      rw [eo]
      by_cases e : o = p
      · rw [if_pos e, if_pos (by rw [e])]
      · rw [if_neg e, if_neg (fun z => e ((nI_eq (by omega) (by omega)).mp z))]
    rw [st 0 _ (by decide), st 1 _ (by decide), st 2 _ (by decide), st 3 _ (by decide)]
    rcases (show o = 0 ∨ o = 1 ∨ o = 2 ∨ o = 3 by omega) with rfl | rfl | rfl | rfl <;> simp <;> grind
theorem zp_owners {s : zS} (h : zg_cfg s) (v : zVeh) (rank cap : Int32) (rows : List zQ) : zm_dueTo s (nI 0) rows (zm_charge s v rank cap rows).2 + zm_dueTo s (nI 1) rows (zm_charge s v rank cap rows).2 + zm_dueTo s (nI 2) rows (zm_charge s v rank cap rows).2 + zm_dueTo s (nI 3) rows (zm_charge s v rank cap rows).2 = (zm_charge s v rank cap rows).1 := by
  have e := zp_due4 h (rows.zip (zm_charge s v rank cap rows).2) 0 0 0 0
  rw [List.map_snd_zip (by rw [zm_charge_len]; exact Nat.le_refl _)] at e
  have h2 : zm_vs (zm_charge s v rank cap rows).2 = (zm_charge s v rank cap rows).1 := zp_vs s v rank cap rows (0, []) rfl
  rw [h2] at e
  unfold zm_dueTo
  rw [e]
  grind
/-- the settings, and how many sightings -/
def zm_cf (s : zS) : List zSeg × List zTar × Int32 × List (Nat × (Int32 × Int32 × Int32)) × Nat := (s_segs s, s_tars s, s_cap s, (s_vehs s).map (fun v => (v.1, v.2.1)), (s_sgts s).length)
theorem zm_cf_cfg {s s2 : zS} (e : zm_cf s2 = zm_cf s) (h : zg_cfg s) : zg_cfg s2 := by
  have e1 : s_segs s2 = s_segs s := congrArg (fun z => z.1) e
  have e2 : s_tars s2 = s_tars s := congrArg (fun z => z.2.1) e
  have e3 : (s_vehs s2).map (fun v => (v.1, v.2.1)) = (s_vehs s).map (fun v => (v.1, v.2.1)) := congrArg (fun z => z.2.2.2.1) e
  refine ⟨by rw [e1]; exact h.1, fun v hv => ?_, by rw [e2]; exact h.2.2⟩
  have hm : (v.1, v.2.1) ∈ (s_vehs s2).map (fun v => (v.1, v.2.1)) := List.mem_map.mpr ⟨v, hv, rfl⟩
  rw [e3] at hm
  obtain ⟨u, hu, eu⟩ := List.mem_map.mp hm
  have := h.2.1 u hu
  have e4 : u.2.1 = v.2.1 := congrArg Prod.snd eu
  rw [e4] at this
  exact this
theorem zm_cf_vl {s s2 : zS} (e : zm_cf s2 = zm_cf s) : (s_vehs s2).length = (s_vehs s).length := by
  have e3 : (s_vehs s2).map (fun v => (v.1, v.2.1)) = (s_vehs s).map (fun v => (v.1, v.2.1)) := congrArg (fun z => z.2.2.2.1) e
  have := congrArg List.length e3
  rw [List.length_map, List.length_map] at this
  exact this
theorem zm_map_set {l : List zVeh} {i : Nat} {v v2 : zVeh} (h : l[i]? = some v) (e : (v2.1, v2.2.1) = (v.1, v.2.1)) : (l.set i v2).map (fun v => (v.1, v.2.1)) = l.map (fun v => (v.1, v.2.1)) := by
  apply List.ext_getElem?
  intro k
  rw [List.getElem?_map, List.getElem?_map]
  by_cases q : i = k
  · subst q
    rw [List.getElem?_set_self (List.getElem?_eq_some_iff.mp h).1, h]
    show some (v2.1, v2.2.1) = some (v.1, v.2.1)
    rw [e]
  · rw [List.getElem?_set_ne q]
/-- a bill taken -/
theorem zp_takeBill {s : zS} (h : zg_cfg s) {iv : Nat} {v : zVeh} (hv : (s_vehs s)[iv]? = some v) (d : Nat) : zm_K (zm_takeBill s iv v d).2 = zm_K s ∧ zm_cf (zm_takeBill s iv v d).2 = zm_cf s ∧ s_now (zm_takeBill s iv v d).2 = s_now s := by
  have hl := (List.getElem?_eq_some_iff.mp hv).1
  have hown := zp_owners h v v.2.1.1 (s_cap s) (zm_day s v.1 (nI d))
  unfold zm_takeBill
  generalize zm_charge s v v.2.1.1 (s_cap s) (zm_day s v.1 (nI d)) = C at hown
  dsimp only
  have hL : zm_KL (zm_recv s.2.1 d iv (fun o => zm_dueTo s (nI o) (zm_day s v.1 (nI d)) C.2) 4) = zm_KL s.2.1 + C.1 := by
    show zm_KL (zm_receive (zm_receive (zm_receive (zm_receive s.2.1 (zm_pl d iv 0) 0 _) (zm_pl d iv 1) 1 _) (zm_pl d iv 2) 2 _) (zm_pl d iv 3) 3 _) = _
    rw [zm_KL_receive _ _ (by decide), zm_KL_receive _ _ (by decide), zm_KL_receive _ _ (by decide), zm_KL_receive _ _ (by decide), ← hown]
    grind
  generalize zm_recv s.2.1 d iv (fun o => zm_dueTo s (nI o) (zm_day s v.1 (nI d)) C.2) 4 = L at hL
  have hs1 : ((s_vehs s).set iv (v.1, v.2.1, v.2.2.1 - C.1, v.2.2.2.1, v.2.2.2.2.1 + C.1, v.2.2.2.2.2))[iv]? = some (v.1, v.2.1, v.2.2.1 - C.1, v.2.2.2.1, v.2.2.2.2.1 + C.1, v.2.2.2.2.2) := List.getElem?_set_self hl
  unfold zm_guest
  split
  · refine ⟨?_, ?_, rfl⟩
    · show (L.2.2.2.1 + 10 + zm_cn L.1) + zm_bal (((s_vehs s).set iv _).set iv _) = _
      rw [zm_bal_set hs1, zm_bal_set hv]
      have : L.2.2.2.1 + zm_cn L.1 = zm_KL s.2.1 + C.1 := hL
      unfold zm_K
      dsimp only
      grind
    · show (s_segs s, s_tars s, s_cap s, (((s_vehs s).set iv _).set iv _).map _, (s_sgts s).length) = zm_cf s
      rw [zm_map_set hs1, zm_map_set hv] <;> rfl
  · refine ⟨?_, ?_, rfl⟩
    · show zm_KL L + zm_bal ((s_vehs s).set iv _) = _
      rw [zm_bal_set hv, hL]
      unfold zm_K
      dsimp only
      grind
    · show (s_segs s, s_tars s, s_cap s, ((s_vehs s).set iv _).map _, (s_sgts s).length) = zm_cf s
      rw [zm_map_set hv] <;> rfl
theorem zp_closeF {s : zS} (h : zg_cfg s) (d : Nat) : ∀ k : Nat, zm_K (zm_closeF s d k).2 = zm_K s ∧ zm_cf (zm_closeF s d k).2 = zm_cf s ∧ s_now (zm_closeF s d k).2 = s_now s := by
  intro k
  induction k with
  | zero => exact ⟨rfl, rfl, rfl⟩
  | succ k ih =>
    cases hv : (s_vehs (zm_closeF s d k).2)[k]? with
    | none =>
      have e : zm_closeF s d (k + 1) = zm_closeF s d k := by
        show (match (s_vehs (zm_closeF s d k).2)[k]? with
          | none => zm_closeF s d k
          | some v => ((zm_closeF s d k).1 + (zm_takeBill (zm_closeF s d k).2 k v d).1, (zm_takeBill (zm_closeF s d k).2 k v d).2)) = _
        rw [hv]
      rw [e]
      exact ih
    | some v =>
      rw [zm_closeF_s hv]
      obtain ⟨h1, h2, h3⟩ := zp_takeBill (zm_cf_cfg ih.2.1 h) hv d
      exact ⟨h1.trans ih.1, h2.trans ih.2.1, h3.trans ih.2.2⟩
theorem zp_closeD {s : zS} (h : zg_cfg s) (t : Nat) : zm_K (zm_closeD s t).2 = zm_K s ∧ zm_cf (zm_closeD s t).2 = zm_cf s ∧ s_now (zm_closeD s t).2 = s_now s := by
  unfold zm_closeD
  split
  · exact ⟨rfl, rfl, rfl⟩
  · unfold zm_close
    obtain ⟨h1, h2, h3⟩ := zp_closeF (s := zm_kept s (t - 2)) (zm_cf_cfg (show zm_cf (zm_kept s (t - 2)) = zm_cf s from rfl) h) (t - 2) (s_vehs s).length
    exact ⟨h1, h2, h3⟩
theorem zp_eraseF (s : zS) (d : Int32) : ∀ k : Nat, zm_K (zm_eraseF s d k) = zm_K s ∧ zm_cf (zm_eraseF s d k) = zm_cf s ∧ s_now (zm_eraseF s d k) = s_now s := by
  intro k
  induction k with
  | zero => exact ⟨rfl, rfl, rfl⟩
  | succ k ih =>
    cases hy : (s_sgts (zm_eraseF s d k))[k]? with
    | none =>
      have e : zm_eraseF s d (k + 1) = zm_eraseF s d k := by
        show (match (s_sgts (zm_eraseF s d k))[k]? with
          | none => zm_eraseF s d k
          | some y => if y.2.2.1 / 1440 = d then zm_erase1 (zm_eraseF s d k) k y else zm_eraseF s d k) = _
        rw [hy]
      rw [e]
      exact ih
    | some y =>
      rw [zm_eraseF_s hy]
      split
      · refine ⟨ih.1, ?_, ih.2.2⟩
        rw [← ih.2.1]
        show (s_segs (zm_eraseF s d k), s_tars (zm_eraseF s d k), s_cap (zm_eraseF s d k), (s_vehs (zm_eraseF s d k)).map _, ((s_sgts (zm_eraseF s d k)).set k _).length) = _
        rw [List.length_set]
        rfl
      · exact ih
theorem zp_passF {s : zS} (h : zg_cfg s) (t0 : Nat) : ∀ k : Nat, zm_K (zm_passF s t0 k).2 = zm_K s ∧ zm_cf (zm_passF s t0 k).2 = zm_cf s := by
  intro k
  induction k with
  | zero => exact ⟨rfl, rfl⟩
  | succ k ih =>
    obtain ⟨h1, h2, -⟩ := zp_closeD (zm_cf_cfg ih.2 h) (t0 + 1 + k)
    show zm_K (zm_erase _ _) = _ ∧ zm_cf (zm_erase _ _) = _
    unfold zm_erase
    obtain ⟨g1, g2, -⟩ := zp_eraseF (zs_listed (zm_closeD (zm_passF s t0 k).2 (t0 + 1 + k)).2 (zm_bset (zm_closeD (zm_passF s t0 k).2 (t0 + 1 + k)).2)) (nI (t0 + 1 + k) - 5) (s_sgts (zs_listed (zm_closeD (zm_passF s t0 k).2 (t0 + 1 + k)).2 (zm_bset (zm_closeD (zm_passF s t0 k).2 (t0 + 1 + k)).2))).length
    exact ⟨g1.trans (h1.trans ih.1), g2.trans (h2.trans ih.2)⟩
theorem zp_pass {s : zS} (h : zg_cfg s) (n m : Nat) : zm_K (zm_pass s n m).2 = zm_K s ∧ zm_cf (zm_pass s n m).2 = zm_cf s ∧ s_now (zm_pass s n m).2 = nI (n + m) := by
  obtain ⟨h1, h2⟩ := zp_passF h (n / 1440) ((n + m) / 1440 - n / 1440)
  exact ⟨h1, h2, rfl⟩
theorem zp_pay {s : zS} {iv : Nat} {v : zVeh} (hv : (s_vehs s)[iv]? = some v) (c : Int32) : zm_K (zm_pay s iv v c) = zm_K s + c ∧ zm_cf (zm_pay s iv v c) = zm_cf s ∧ s_now (zm_pay s iv v c) = s_now s := by
  refine ⟨?_, ?_, rfl⟩
  · show zm_KL s.2.1 + zm_bal ((s_vehs s).set iv _) = _
    rw [zm_bal_set hv]
    unfold zm_K
    dsimp only
    grind
  · show (s_segs s, s_tars s, s_cap s, ((s_vehs s).set iv _).map _, (s_sgts s).length) = zm_cf s
    rw [zm_map_set hv] <;> rfl
theorem zp_exempt {s : zS} {iv : Nat} {v : zVeh} (hv : (s_vehs s)[iv]? = some v) (c : Int32) : zm_K (zm_exempt s iv v c) = zm_K s ∧ zm_cf (zm_exempt s iv v c) = zm_cf s ∧ s_now (zm_exempt s iv v c) = s_now s := by
  refine ⟨?_, ?_, rfl⟩
  · show zm_KL s.2.1 + zm_bal ((s_vehs s).set iv _) = _
    rw [zm_bal_set hv]
    unfold zm_K
    dsimp only
    grind
  · show (s_segs s, s_tars s, s_cap s, ((s_vehs s).set iv _).map _, (s_sgts s).length) = zm_cf s
    rw [zm_map_set hv] <;> rfl
theorem zp_control {s : zS} {iv : Nat} {v : zVeh} (hv : (s_vehs s)[iv]? = some v) (x : zSeg) (m : Int32) : zm_K (zm_control s iv v x m).2 = zm_K s ∧ zm_cf (zm_control s iv v x m).2 = zm_cf s ∧ s_now (zm_control s iv v x m).2 = s_now s := by
  unfold zm_control
  split
  · exact ⟨rfl, rfl, rfl⟩
  · refine ⟨?_, ?_, rfl⟩
    · show (s_hall s + 2 * zm_toll (s_tars s) x v m + zm_cn (s_coins s)) + zm_bal ((s_vehs s).set iv _) = (s_hall s + zm_cn (s_coins s)) + zm_bal (s_vehs s)
      rw [zm_bal_set hv]
      dsimp only
      grind
    · show (s_segs s, s_tars s, s_cap s, ((s_vehs s).set iv _).map _, (s_sgts s).length) = zm_cf s
      rw [zm_map_set hv] <;> rfl
theorem zp_back {s : zS} {iv : Nat} {v : zVeh} (hv : (s_vehs s)[iv]? = some v) (d : Nat) : zm_K (zs_back s iv v (zm_back s iv v d)) = zm_K s ∧ zm_cf (zs_back s iv v (zm_back s iv v d)) = zm_cf s ∧ s_now (zs_back s iv v (zm_back s iv v d)) = s_now s := by
  refine ⟨?_, ?_, rfl⟩
  · have key : ∀ (due : Nat → Int32) (l : zL6) (k : Nat), k ≤ 4 → zm_KL (zm_backF l d iv due k).2 + (zm_backF l d iv due k).1 = zm_KL l := by
      intro due l k
      induction k with
      | zero => intro _; show zm_KL l + 0 = zm_KL l; grind
      | succ k ih =>
        intro hk
        have h1 := ih (by omega)
        have h2 := zm_KL_back (zm_backF l d iv due k).2 (zm_pl d iv k) (o := k) (by omega) (due k)
        show zm_KL (zm_giveBack (zm_backF l d iv due k).2 (zm_pl d iv k) k (due k)).2 + ((zm_backF l d iv due k).1 + (zm_giveBack (zm_backF l d iv due k).2 (zm_pl d iv k) k (due k)).1) = _
        grind
    unfold zm_back
    generalize (fun o => zm_dueTo s (nI o) (zm_day s v.1 (nI d)) (zm_charge s v v.2.1.1 (s_caps s (nI d).toNatClampNeg) (zm_day s v.1 (nI d))).2) = due
    have h4 := key due s.2.1 4 (Nat.le_refl _)
    generalize zm_backF s.2.1 d iv due 4 = Pb at h4 ⊢
    show zm_KL Pb.2 + zm_bal ((s_vehs s).set iv (v.1, v.2.1, v.2.2.1 + Pb.1, v.2.2.2.1, v.2.2.2.2.1 - Pb.1, v.2.2.2.2.2)) = zm_KL s.2.1 + zm_bal (s_vehs s)
    rw [zm_bal_set hv]
    dsimp only
    grind
  · show (s_segs s, s_tars s, s_cap s, ((s_vehs s).set iv _).map _, (s_sgts s).length) = zm_cf s
    rw [zm_map_set hv] <;> rfl
theorem zp_see (s : zS) (iv : Nat) (p : zSgt) : zm_K (zm_see s iv p) = zm_K s ∧ (s_segs (zm_see s iv p) = s_segs s ∧ s_tars (zm_see s iv p) = s_tars s ∧ s_cap (zm_see s iv p) = s_cap s ∧ s_vehs (zm_see s iv p) = s_vehs s) ∧ s_now (zm_see s iv p) = s_now s ∧ s_sgts (zm_see s iv p) = s_sgts s ++ [p] := by
  unfold zm_see
  split <;> exact ⟨rfl, ⟨rfl, rfl, rfl, rfl⟩, rfl, rfl⟩
