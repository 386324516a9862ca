/-! A LAYER OF MY OWN: the heap behind the law's entry as a plain function (address -> object), contiguous from the base; a judgement z_Z over it, a row an instruction, without worlds to cut and join; room by the heap's own size. -/
/-- (base, (classes' numbers, slots), (int[], boolean[], Object[]), (the empty Object[], the mirror of Object[]), (the script's cell, length, values)) -/
abbrev zG : Type := Nat × va_G × (ClassId × ClassId × ClassId) × (Nat × Nat) × (Nat × Nat × (Nat → Int32))
abbrev zH : Type := Nat → va_E
abbrev z_b (G : zG) : Nat := G.1
abbrev z_D (G : zG) : va_G := G.2.1
abbrev z_aI (G : zG) : ClassId := G.2.2.1.1
abbrev z_aZ (G : zG) : ClassId := G.2.2.1.2.1
abbrev z_aO (G : zG) : ClassId := G.2.2.1.2.2
abbrev z_tE (G : zG) : Nat := G.2.2.2.1.1
abbrev z_mO (G : zG) : Nat := G.2.2.2.1.2
abbrev z_bs (G : zG) : Nat := G.2.2.2.2.1
abbrev z_L (G : zG) : Nat := G.2.2.2.2.2.1
abbrev z_xs (G : zG) : Nat → Int32 := G.2.2.2.2.2.2
def z_tys (G : zG) : List (ClassId × FieldType) := [(z_aI G, .int), (z_aZ G, .boolean), (z_aO G, .object "java/lang/Object")]
def z_wl (b top : Nat) (h : zH) : va_W := (List.range (top - b)).map (fun i => (b + i, h (b + i)))
theorem z_wl_len (b top : Nat) (h : zH) : (z_wl b top h).length = top - b := by simp [z_wl]
theorem z_wl_i {b top i : Nat} {h : zH} (hi : i < top - b) : (z_wl b top h)[i]? = some (b + i, h (b + i)) := by
  simp [z_wl, hi]
theorem z_wl_at {b top i : Nat} {h : zH} {p : Nat × va_E} (hp : (z_wl b top h)[i]? = some p) : i < top - b ∧ p = (b + i, h (b + i)) := by
  have hl := (List.getElem?_eq_some_iff.mp hp).1
  rw [z_wl_len] at hl
  rw [z_wl_i hl] at hp
  exact ⟨hl, (Option.some.inj hp).symm⟩
theorem z_wl_get {b top a : Nat} {h : zH} (h1 : b ≤ a) (h2 : a < top) : (z_wl b top h)[a - b]? = some (a, h a) := by
  rw [z_wl_i (by omega), show b + (a - b) = a by omega]
theorem z_wl_set {b top a : Nat} {h : zH} {e : va_E} (h1 : b ≤ a) (h2 : a < top) : (z_wl b top h).set (a - b) (a, e) = z_wl b top (va_up h a e) := by
  apply List.ext_getElem?
  intro i
  by_cases hi : i < top - b
  · rw [z_wl_i hi]
    by_cases hia : i = a - b
    · subst hia
      rw [List.getElem?_set_self (by rw [z_wl_len]; omega), show b + (a - b) = a by omega]
      simp [va_up]
    · rw [List.getElem?_set_ne (fun z => hia z.symm), z_wl_i hi]
      simp [va_up, show b + i ≠ a by omega]
  · rw [List.getElem?_eq_none (by rw [List.length_set, z_wl_len]; omega), List.getElem?_eq_none (by rw [z_wl_len]; omega)]
theorem z_wl_push {b top : Nat} {h : zH} {e : va_E} (h1 : b ≤ top) : z_wl b top h ++ [(top, e)] = z_wl b (top + 1) (va_up h top e) := by
  unfold z_wl
  rw [show top + 1 - b = (top - b) + 1 by omega, List.range_succ, List.map_append]
  congr 1
  · apply List.map_congr_left
    intro i hi
    have := List.mem_range.mp hi
    simp [va_up, show b + i ≠ top by omega]
  · simp [va_up, show b + (top - b) = top by omega]
theorem z_wl_D {b top : Nat} {h : zH} : va_D (fun q => b ≤ q) (z_wl b top h) := by
  refine ⟨fun i j p q hi hj hpq => ?_, fun k q hk => ?_⟩
  · obtain ⟨-, rfl⟩ := z_wl_at hi
    obtain ⟨-, rfl⟩ := z_wl_at hj
    have : b + i = b + j := hpq
    omega
  · obtain ⟨-, rfl⟩ := z_wl_at hk
    show b ≤ b + k
    omega
/-- the heap is what h says, from the base on -/
def z_HI (G : zG) (h : zH) (top : Nat) (H : Heap) : Prop := H.size = top ∧ z_b G ≤ top ∧ top ≤ z_b G + 320 ∧ va_P (z_D G) vwCl (z_wl (z_b G) top h) H
/-- words that a warming keeps, though they are not among the good ones -/
def zNW : List Cond := [.castable RX3 "java/lang/Object", .castable RX5 "java/lang/Object", .castable RX7 "java/lang/Object", .castable RX2 "java/lang/Object", .castable RX4 "java/lang/Object", .methodLinkNest RX0 167 yX8_isIn "GantryHall", .methodLinkNest RX7 30 yX8_hasBit "GantryHall", .methodLinkNest RX8 24 yX6_init "GantryHall", .methodLinkNest RX8 31 yX1_init "GantryHall", .methodLinkNest RX8 38 yX0_init "GantryHall", .declares ⟨"java/lang/Object", "getClass", "()Ljava/lang/Class;"⟩]
theorem z_nw_warm {w : Cond} (hm : w ∈ zNW) {s U : State} (hW : s.WarmedH U.vm) (h : va_Nw w s) : va_Nw w U := by
  simp only [zNW, List.mem_cons, List.not_mem_nil, or_false] at hm
  rcases hm with rfl | rfl | rfl | rfl | rfl | rfl | rfl | rfl | rfl | rfl | rfl
  all_goals first | exact va_Nw.warmC hW h | exact va_Nw.warmM hW h | exact va_Nw.warmD hW h
/-- what stays all the while -/
def z_EN (G : zG) (U : State) : Prop := va_K (z_D G) vwCl (z_tys G) U ∧ va_Z "java/util/ArrayList" "DEFAULTCAPACITY_EMPTY_ELEMENTDATA" "[Ljava/lang/Object;" (.ref (z_tE G)) (fun q => z_b G ≤ q) U U.heap ∧ va_T (.object "java/lang/Object") (z_tE G) 0 (fun _ => .null) (fun q => z_b G ≤ q) U U.heap ∧ (va_Mi "[Ljava/lang/Object;" (z_mO G) U ∧ va_AO "java/lang/Object" U ∧ ∀ w ∈ zNW, va_Nw w U) ∧ va_X (z_bs G) (z_L G) (z_xs G) U U.heap ∧ z_bs G < z_b G ∧ z_b G ≤ U.heap.size
theorem z_EN.to {G : zG} {s U : State} {H : Heap} {locs : List Loc} (h : z_EN G s) (hS : va_S (fun q => z_b G ≤ q) s.heap H locs) (hU : U.heap = H) (hW : s.WarmedH U.vm) : z_EN G U := by
  have hvm := hW.alike
  obtain ⟨h1, h2, h3, h4, h5, h6, h7⟩ := h
  refine ⟨va_K.moved hvm h1, ?_, ?_, ⟨va_Mi.moved hvm h4.1, h4.2.1.moved hvm, fun w hw => z_nw_warm hw hW (h4.2.2 w hw)⟩, ?_, h6, by rw [hU]; exact Nat.le_trans h7 hS.1⟩
  · rw [hU]; exact (va_Z.moved hvm h2).kept (fun a h8 h9 => hS.2.1 a h8 h9)
  · rw [hU]; exact (va_T.moved hvm h3).kept (fun a h8 h9 => hS.2.1 a h8 h9)
  · rw [hU]; exact (va_X.moved hvm h5).kept (hS.2.1 _ (by omega) (by omega))
theorem z_EN.calling {G : zG} {U : State} {g : JFrame} {mk : MethodId} {a : Array Value} (h : z_EN G U) : z_EN G (U.calling g mk a) := h.to (H := U.heap) (locs := []) va_S.rf rfl (State.WarmedH.refl U)
def z_rm (d : Nat) : Room := { frames := d, cells := 320 * d, slots := 419840 * d, locals := 41 * d }
/-- the slots of the cells behind n -/
def z_ss (n : Nat) (H : Heap) : Nat := ((H.toList.drop n).map (fun c => c.slots.size)).sum
def z_F (A B : Heap) (k : Nat) : Prop := A.size ≤ B.size ∧ (∀ (q : Nat) (c : Cell), A[q]? = some c → ∃ c' : Cell, B[q]? = some c' ∧ c'.slots.size = c.slots.size) ∧ z_ss A.size B ≤ k
theorem z_F.trans {A B C : Heap} {k1 k2 : Nat} (h1 : z_F A B k1) (h2 : z_F B C k2) : z_F A C (k1 + k2) := by
  obtain ⟨l1, p1, s1⟩ := h1
  obtain ⟨l2, p2, s2⟩ := h2
  refine ⟨Nat.le_trans l1 l2, fun q c hq => ?_, ?_⟩
  · obtain ⟨c1, e1, z1⟩ := p1 q c hq
    obtain ⟨c2, e2, z2⟩ := p2 q c1 e1
    exact ⟨c2, e2, z2.trans z1⟩
  · have e : (C.toList.map (fun c => c.slots.size)).take B.size = B.toList.map (fun c => c.slots.size) := by
      apply List.ext_getElem?
      intro i
      by_cases hi : i < B.size
      · rw [List.getElem?_take_of_lt hi, List.getElem?_map, List.getElem?_map, Array.getElem?_toList, Array.getElem?_toList]
        obtain ⟨c2, e2, z2⟩ := p2 i B[i] (Array.getElem?_eq_getElem hi)
        rw [e2, Array.getElem?_eq_getElem hi]
        simp [z2]
      · rw [List.getElem?_eq_none (by simp; omega), List.getElem?_eq_none (by simp; omega)]
    have e2 : C.toList.map (fun c => c.slots.size) = B.toList.map (fun c => c.slots.size) ++ (C.toList.map (fun c => c.slots.size)).drop B.size := by
      rw [← e, List.take_append_drop]
    unfold z_ss at *
    rw [List.map_drop] at *
    rw [e2, List.drop_append_of_le_length (by simp; omega), List.sum_append]
    omega
section ZW
variable {p : Program} {l : Launch} {e : Env} {R : Room} {s : State} {m : MethodId} {args : Array Value} {below : List Frame} {meth : Method} {c : Code} {H : Heap} {locs : List Loc} {cells slots : Nat} {Q : State → Prop} {g : JFrame}
theorem z_stF {T : State} (X : Stand p l e R s m args below meth c T locs cells slots) : z_F s.heap T.heap slots := by
  obtain ⟨h1, h2, h3, h4, h5, h6⟩ := X.same
  exact ⟨h2, fun q c hq => by obtain ⟨c', a, b, d, f⟩ := h6 q c hq; exact ⟨c', a, d⟩, h5⟩
theorem z_facts (k : z_F s.heap H slots → H.size ≤ s.heap.size + cells → W p l e R s m args below meth c H locs cells slots Q g) : W p l e R s m args below meth c H locs cells slots Q g := by
  intro T hT X
  exact k (by rw [← hT]; exact z_stF X) (by rw [← hT]; exact X.heapSize) T hT X
theorem z_stT {T : State} {k n : Nat} (X : Stand p l e R s m args below meth c T locs cells slots) (h1 : T.heap.size ≤ s.heap.size + k) (h2 : z_ss s.heap.size T.heap ≤ n) : Stand p l e R s m args below meth c T locs k n := by
  obtain ⟨g1, g2, g3, g4, g5, g6⟩ := X.same
  exact { X with same := ⟨g1, g2, h1, g4, h2, g6⟩ }
theorem z_tight {k n : Nat} (h1 : H.size ≤ s.heap.size + k) (h2 : z_ss s.heap.size H ≤ n) (kk : W p l e R s m args below meth c H locs k n Q g) : W p l e R s m args below meth c H locs cells slots Q g := by
  intro T hT X
  exact kk T hT (z_stT X (by rw [hT]; exact h1) (by rw [hT]; exact h2))
end ZW
/-- a method's end -/
def z_Qc (G : zG) (Post : Option Value → zH → Nat → Prop) : Array Value → State → Outcome → State → Prop := fun _ st oc t =>
  ∃ (r : Option Value) (h' : zH) (top' : Nat), oc = .returned r ∧ Post r h' top' ∧ z_HI G h' top' t.heap ∧ z_F st.heap t.heap ((top' - st.heap.size) * 1312) ∧ ∀ q : Nat, q < st.heap.size → ¬ z_b G ≤ q → t.heap[q]? = st.heap[q]?
/-- A CONTRACT: from the heap h (up to top) and the arguments av the method returns, and Post holds of its answer and of the heap behind it -/
def z_Ct (l : Launch) (y : MethodName) (cc : ByteArray) (maxL : Nat) (ret : Option FieldType) (d : Nat) (G : zG) (av : List Value) (h : zH) (top : Nat) (Post : Option Value → zH → Nat → Prop) : Prop :=
  Met l y (Cond.code y cc maxL ret :: zGT) (z_rm d) (va_Pc av (fun U => z_EN G U ∧ z_HI G h top U.heap)) (z_Qc G Post) (320 * d) (419840 * d) (fun q => z_b G ≤ q)
/-- an answer, and nothing changed -/
def z_R (v : Option Value) (h : zH) (top : Nat) : Option Value → zH → Nat → Prop := fun r h' top' => r = v ∧ h' = h ∧ top' = top
abbrev zX : Type := Program × Launch × Env × Room × State × MethodId × Array Value × List Frame × Method × Code × (State → Prop) × zG
def z_Z : zX → zH → Nat → Nat → List (Nat × Value) → List Value → Prop
  | (p, l, e, R, s, m, args, below, meth, c, Q, G), h, top, pc, lv, st => ∀ (H : Heap) (locs : List Loc) (ls : Array Slot), z_HI G h top H → va_S (fun q => z_b G ≤ q) s.heap H locs → s.heap.size ≤ top → lv_has ls c.maxLocals lv →
      W p l e R s m args below meth c H locs (top - s.heap.size) ((top - s.heap.size) * 1312) Q (F0 m pc ls st)
/-- the code that stands here, and all that a row asks of the frame -/
def z_ok : zX → ByteArray → Nat → String → Option FieldType → String → Nat → zG → Prop
  | (p, l, e, R, s, m, args, below, meth, c, Q, G'), cc, nL, own, ret, nm, d, G => p.tables.exec = Jvm.exec ∧ c.code = cc ∧ c.maxLocals = nL ∧ s.vm.findClass own = some m.cls ∧ (∀ w ∈ zGT, w.before args s = true) ∧ meth.sig.returnType = ret ∧ meth.locks = false ∧ meth.name = nm ∧ z_EN G s ∧ (d ≤ R.frames ∧ 41 * d ≤ R.locals ∧ 320 * d ≤ R.cells ∧ 419840 * d ≤ R.slots ∧ 1 ≤ d) ∧ G' = G
/-- its end is that of a contract -/
def z_mq : zX → (Option Value → zH → Nat → Prop) → Prop
  | (p, l, e, R, s, m, args, below, meth, c, Q, G), Post => Q = MQ below (z_Qc G Post) args s R.cells R.slots (fun q => z_b G ≤ q)
/-- an object of the heap -/
def z_at (G : zG) (h : zH) (top a : Nat) (e : va_E) : Prop := z_b G ≤ a ∧ a < top ∧ h a = e
theorem z_of {l : Launch} {y : MethodName} {cc : ByteArray} {maxL d : Nat} {ret : Option FieldType} {G : zG} {av : List Value} {h : zH} {top : Nat} {Post : Option Value → zH → Nat → Prop} {own nm : String} (hy : plainName y.cls = true) (ho : y.cls = own) (hnm : y.name = nm) (hd : 1 ≤ d) (hlen : (lg_sl av).length ≤ maxL)
    (k : ∀ X : zX, z_ok X cc maxL own ret nm d G → z_mq X Post → z_Z X h top 0 (lv_args 0 av) []) : z_Ct l y cc maxL ret d G av h top Post := by
  subst ho hnm
  refine Met.ofW (cc := cc) (maxL := maxL) (ret := ret) hy rfl ?_
  intro p e s m args below meth c s₁ B hml hv
  obtain ⟨rfl, hen, hH⟩ := hv
  have hts := atoms_spec (ws := Cond.code y cc maxL ret :: zGT) B.pre
  have hsz := hH.1
  have hl := lv_entry av (n := maxL) hlen
  rw [lg_entry_eq]
  generalize (lg_sl av ++ List.replicate (maxL - (lg_sl av).length) Slot.unset).toArray = ls at hl ⊢
  have K := k (p, l, e, (headSpec (Cond.code y cc maxL ret :: zGT) (z_rm d)).room, s, m, av.toArray, below, meth, c, MQ below (z_Qc G Post) av.toArray s (320 * d) (419840 * d) (fun q => z_b G ≤ q), G)
    ⟨B.exec, B.bytes, hml, findClass_of_methodNamed B.named, fun w hw => hts w (List.mem_cons_of_mem _ hw), B.returns, B.notSynchronized, (name_of_methodNamed B.named B.method).1, hen, ⟨Nat.le_refl _, Nat.le_refl _, Nat.le_refl _, Nat.le_refl _, hd⟩, rfl⟩ rfl
    s.heap [] ls hH va_S.rf (by omega) (by rw [hml]; exact hl)
  rw [show top - s.heap.size = 0 by omega] at K
  exact K

section ZR
variable {X : zX} {cc : ByteArray} {nL d : Nat} {own nm : String} {ret : Option FieldType} {G : zG} {h : zH} {top pc : Nat} {lv : List (Nat × Value)} {rest : List Value}
theorem r_iconst (hX : z_ok X cc nL own ret nm d G) {n : Int} {v : Int32} (hv : Int32.ofInt n = v) (hd : decode cc pc = .ok (.iconst n, 1)) (k : z_Z X h top (pc + 1) lv (.int v :: rest)) : z_Z X h top pc lv (rest) := by
  obtain ⟨p, l, e, R, s, m, args, below, meth, c, Q, G0⟩ := X
  obtain ⟨hx, hb, hml, hown, hts, hr, hlk, hnm, hen, hR, rfl⟩ := hX
  intro H locs ls a1 a2 a3 hl
  exact lv_iconst hx hb hd hv (k H locs ls a1 a2 a3 hl)
theorem r_bipush (hX : z_ok X cc nL own ret nm d G) {n : Int} {v : Int32} (hv : (Int8.ofInt n).toInt32 = v) (hd : decode cc pc = .ok (.bipush n, 2)) (k : z_Z X h top (pc + 2) lv (.int v :: rest)) : z_Z X h top pc lv (rest) := by
  obtain ⟨p, l, e, R, s, m, args, below, meth, c, Q, G0⟩ := X
  obtain ⟨hx, hb, hml, hown, hts, hr, hlk, hnm, hen, hR, rfl⟩ := hX
  intro H locs ls a1 a2 a3 hl
  exact lv_bipush hx hb hd hv (k H locs ls a1 a2 a3 hl)
theorem r_sipush (hX : z_ok X cc nL own ret nm d G) {n : Int} {v : Int32} (hv : (Int16.ofInt n).toInt32 = v) (hd : decode cc pc = .ok (.sipush n, 3)) (k : z_Z X h top (pc + 3) lv (.int v :: rest)) : z_Z X h top pc lv (rest) := by
  obtain ⟨p, l, e, R, s, m, args, below, meth, c, Q, G0⟩ := X
  obtain ⟨hx, hb, hml, hown, hts, hr, hlk, hnm, hen, hR, rfl⟩ := hX
  intro H locs ls a1 a2 a3 hl
  exact lv_sipush hx hb hd hv (k H locs ls a1 a2 a3 hl)
theorem r_null (hX : z_ok X cc nL own ret nm d G)  (hd : decode cc pc = .ok (.aconst_null, 1)) (k : z_Z X h top (pc + 1) lv (.null :: rest)) : z_Z X h top pc lv (rest) := by
  obtain ⟨p, l, e, R, s, m, args, below, meth, c, Q, G0⟩ := X
  obtain ⟨hx, hb, hml, hown, hts, hr, hlk, hnm, hen, hR, rfl⟩ := hX
  intro H locs ls a1 a2 a3 hl
  exact lv_null hx hb hd (k H locs ls a1 a2 a3 hl)
theorem r_iload_n (hX : z_ok X cc nL own ret nm d G) {k4 : Fin 4} {i : Nat} {x : Int32} (hi : (k4 : Nat) = i) (q : Nat) (hq : lv[q]? = some (i, .int x)) (hd : decode cc pc = .ok (.iload_n k4, 1)) (k : z_Z X h top (pc + 1) lv (.int x :: rest)) : z_Z X h top pc lv (rest) := by
  obtain ⟨p, l, e, R, s, m, args, below, meth, c, Q, G0⟩ := X
  obtain ⟨hx, hb, hml, hown, hts, hr, hlk, hnm, hen, hR, rfl⟩ := hX
  intro H locs ls a1 a2 a3 hl
  exact lv_iload_n hx hb hd hi (lv_at hl q hq) (k H locs ls a1 a2 a3 hl)
theorem r_iload (hX : z_ok X cc nL own ret nm d G) {i : Nat} {x : Int32} (q : Nat) (hq : lv[q]? = some (i, .int x)) (hd : decode cc pc = .ok (.iload i, 2)) (k : z_Z X h top (pc + 2) lv (.int x :: rest)) : z_Z X h top pc lv (rest) := by
  obtain ⟨p, l, e, R, s, m, args, below, meth, c, Q, G0⟩ := X
  obtain ⟨hx, hb, hml, hown, hts, hr, hlk, hnm, hen, hR, rfl⟩ := hX
  intro H locs ls a1 a2 a3 hl
  exact lv_iload hx hb hd (lv_at hl q hq) (k H locs ls a1 a2 a3 hl)
theorem r_aload_n (hX : z_ok X cc nL own ret nm d G) {k4 : Fin 4} {i : Nat} {x : Nat} (hi : (k4 : Nat) = i) (q : Nat) (hq : lv[q]? = some (i, .ref x)) (hd : decode cc pc = .ok (.aload_n k4, 1)) (k : z_Z X h top (pc + 1) lv (.ref x :: rest)) : z_Z X h top pc lv (rest) := by
  obtain ⟨p, l, e, R, s, m, args, below, meth, c, Q, G0⟩ := X
  obtain ⟨hx, hb, hml, hown, hts, hr, hlk, hnm, hen, hR, rfl⟩ := hX
  intro H locs ls a1 a2 a3 hl
  exact lv_aload_n hx hb hd hi (lv_at hl q hq) (k H locs ls a1 a2 a3 hl)
theorem r_aload (hX : z_ok X cc nL own ret nm d G) {i : Nat} {x : Nat} (q : Nat) (hq : lv[q]? = some (i, .ref x)) (hd : decode cc pc = .ok (.aload i, 2)) (k : z_Z X h top (pc + 2) lv (.ref x :: rest)) : z_Z X h top pc lv (rest) := by
  obtain ⟨p, l, e, R, s, m, args, below, meth, c, Q, G0⟩ := X
  obtain ⟨hx, hb, hml, hown, hts, hr, hlk, hnm, hen, hR, rfl⟩ := hX
  intro H locs ls a1 a2 a3 hl
  exact lv_aload hx hb hd (lv_at hl q hq) (k H locs ls a1 a2 a3 hl)
theorem r_lload_n (hX : z_ok X cc nL own ret nm d G) {k4 : Fin 4} {i : Nat} {x : Int64} (hi : (k4 : Nat) = i) (q : Nat) (hq : lv[q]? = some (i, .long x)) (hd : decode cc pc = .ok (.lload_n k4, 1)) (k : z_Z X h top (pc + 1) lv (.long x :: rest)) : z_Z X h top pc lv (rest) := by
  obtain ⟨p, l, e, R, s, m, args, below, meth, c, Q, G0⟩ := X
  obtain ⟨hx, hb, hml, hown, hts, hr, hlk, hnm, hen, hR, rfl⟩ := hX
  intro H locs ls a1 a2 a3 hl
  exact lv_lload_n hx hb hd hi (lv_at hl q hq) (k H locs ls a1 a2 a3 hl)
theorem r_lload (hX : z_ok X cc nL own ret nm d G) {i : Nat} {x : Int64} (q : Nat) (hq : lv[q]? = some (i, .long x)) (hd : decode cc pc = .ok (.lload i, 2)) (k : z_Z X h top (pc + 2) lv (.long x :: rest)) : z_Z X h top pc lv (rest) := by
  obtain ⟨p, l, e, R, s, m, args, below, meth, c, Q, G0⟩ := X
  obtain ⟨hx, hb, hml, hown, hts, hr, hlk, hnm, hen, hR, rfl⟩ := hX
  intro H locs ls a1 a2 a3 hl
  exact lv_lload hx hb hd (lv_at hl q hq) (k H locs ls a1 a2 a3 hl)
theorem r_aload_nN (hX : z_ok X cc nL own ret nm d G) {k4 : Fin 4} {i : Nat} (hi : (k4 : Nat) = i) (q : Nat) (hq : lv[q]? = some (i, .null)) (hd : decode cc pc = .ok (.aload_n k4, 1)) (k : z_Z X h top (pc + 1) lv (.null :: rest)) : z_Z X h top pc lv (rest) := by
  obtain ⟨p, l, e, R, s, m, args, below, meth, c, Q, G0⟩ := X
  obtain ⟨hx, hb, hml, hown, hts, hr, hlk, hnm, hen, hR, rfl⟩ := hX
  intro H locs ls a1 a2 a3 hl
  exact lv_aload_nN hx hb hd hi (lv_at hl q hq) (k H locs ls a1 a2 a3 hl)
theorem r_aloadN (hX : z_ok X cc nL own ret nm d G) {i : Nat} (q : Nat) (hq : lv[q]? = some (i, .null)) (hd : decode cc pc = .ok (.aload i, 2)) (k : z_Z X h top (pc + 2) lv (.null :: rest)) : z_Z X h top pc lv (rest) := by
  obtain ⟨p, l, e, R, s, m, args, below, meth, c, Q, G0⟩ := X
  obtain ⟨hx, hb, hml, hown, hts, hr, hlk, hnm, hen, hR, rfl⟩ := hX
  intro H locs ls a1 a2 a3 hl
  exact lv_aloadN hx hb hd (lv_at hl q hq) (k H locs ls a1 a2 a3 hl)
theorem r_istore_n (hX : z_ok X cc nL own ret nm d G) {k4 : Fin 4} {i : Nat} {x : Int32} {lv' : List (Nat × Value)} (hi : (k4 : Nat) = i) (hn : i < nL) (hlv : (i, Value.int x) :: lv.filter (fun q => !(q.1 == i) && !(q.1 + 1 == i && q.2.category == 2)) = lv') (hd : decode cc pc = .ok (.istore_n k4, 1)) (k : z_Z X h top (pc + 1) lv' rest) : z_Z X h top pc lv (.int x :: rest) := by
  obtain ⟨p, l, e, R, s, m, args, below, meth, c, Q, G0⟩ := X
  obtain ⟨hx, hb, hml, hown, hts, hr, hlk, hnm, hen, hR, rfl⟩ := hX
  intro H locs ls a1 a2 a3 hl
  exact lv_istore_n hx hb hd hi hl (by rw [hml]; exact hn) hlv (fun ls' hl' => k H locs ls' a1 a2 a3 hl')
theorem r_istore (hX : z_ok X cc nL own ret nm d G) {i : Nat} {x : Int32} {lv' : List (Nat × Value)} (hn : i < nL) (hlv : (i, Value.int x) :: lv.filter (fun q => !(q.1 == i) && !(q.1 + 1 == i && q.2.category == 2)) = lv') (hd : decode cc pc = .ok (.istore i, 2)) (k : z_Z X h top (pc + 2) lv' rest) : z_Z X h top pc lv (.int x :: rest) := by
  obtain ⟨p, l, e, R, s, m, args, below, meth, c, Q, G0⟩ := X
  obtain ⟨hx, hb, hml, hown, hts, hr, hlk, hnm, hen, hR, rfl⟩ := hX
  intro H locs ls a1 a2 a3 hl
  exact lv_istore hx hb hd hl (by rw [hml]; exact hn) hlv (fun ls' hl' => k H locs ls' a1 a2 a3 hl')
theorem r_astore_n (hX : z_ok X cc nL own ret nm d G) {k4 : Fin 4} {i : Nat} {x : Nat} {lv' : List (Nat × Value)} (hi : (k4 : Nat) = i) (hn : i < nL) (hlv : (i, Value.ref x) :: lv.filter (fun q => !(q.1 == i) && !(q.1 + 1 == i && q.2.category == 2)) = lv') (hd : decode cc pc = .ok (.astore_n k4, 1)) (k : z_Z X h top (pc + 1) lv' rest) : z_Z X h top pc lv (.ref x :: rest) := by
  obtain ⟨p, l, e, R, s, m, args, below, meth, c, Q, G0⟩ := X
  obtain ⟨hx, hb, hml, hown, hts, hr, hlk, hnm, hen, hR, rfl⟩ := hX
  intro H locs ls a1 a2 a3 hl
  exact lv_astore_n hx hb hd hi hl (by rw [hml]; exact hn) hlv (fun ls' hl' => k H locs ls' a1 a2 a3 hl')
theorem r_astore (hX : z_ok X cc nL own ret nm d G) {i : Nat} {x : Nat} {lv' : List (Nat × Value)} (hn : i < nL) (hlv : (i, Value.ref x) :: lv.filter (fun q => !(q.1 == i) && !(q.1 + 1 == i && q.2.category == 2)) = lv') (hd : decode cc pc = .ok (.astore i, 2)) (k : z_Z X h top (pc + 2) lv' rest) : z_Z X h top pc lv (.ref x :: rest) := by
  obtain ⟨p, l, e, R, s, m, args, below, meth, c, Q, G0⟩ := X
  obtain ⟨hx, hb, hml, hown, hts, hr, hlk, hnm, hen, hR, rfl⟩ := hX
  intro H locs ls a1 a2 a3 hl
  exact lv_astore hx hb hd hl (by rw [hml]; exact hn) hlv (fun ls' hl' => k H locs ls' a1 a2 a3 hl')
theorem r_lstore_n (hX : z_ok X cc nL own ret nm d G) {k4 : Fin 4} {i : Nat} {x : Int64} {lv' : List (Nat × Value)} (hi : (k4 : Nat) = i) (hn : i + 1 < nL) (hlv : (i, Value.long x) :: lv.filter (fun q => !(q.1 == i) && (!(q.1 == i + 1) && !(q.1 + 1 == i && q.2.category == 2))) = lv') (hd : decode cc pc = .ok (.lstore_n k4, 1)) (k : z_Z X h top (pc + 1) lv' rest) : z_Z X h top pc lv (.long x :: rest) := by
  obtain ⟨p, l, e, R, s, m, args, below, meth, c, Q, G0⟩ := X
  obtain ⟨hx, hb, hml, hown, hts, hr, hlk, hnm, hen, hR, rfl⟩ := hX
  intro H locs ls a1 a2 a3 hl
  exact lv_lstore_n hx hb hd hi hl (by rw [hml]; exact hn) hlv (fun ls' hl' => k H locs ls' a1 a2 a3 hl')
theorem r_lstore (hX : z_ok X cc nL own ret nm d G) {i : Nat} {x : Int64} {lv' : List (Nat × Value)} (hn : i + 1 < nL) (hlv : (i, Value.long x) :: lv.filter (fun q => !(q.1 == i) && (!(q.1 == i + 1) && !(q.1 + 1 == i && q.2.category == 2))) = lv') (hd : decode cc pc = .ok (.lstore i, 2)) (k : z_Z X h top (pc + 2) lv' rest) : z_Z X h top pc lv (.long x :: rest) := by
  obtain ⟨p, l, e, R, s, m, args, below, meth, c, Q, G0⟩ := X
  obtain ⟨hx, hb, hml, hown, hts, hr, hlk, hnm, hen, hR, rfl⟩ := hX
  intro H locs ls a1 a2 a3 hl
  exact lv_lstore hx hb hd hl (by rw [hml]; exact hn) hlv (fun ls' hl' => k H locs ls' a1 a2 a3 hl')
theorem r_astore_nN (hX : z_ok X cc nL own ret nm d G) {k4 : Fin 4} {i : Nat} {lv' : List (Nat × Value)} (hi : (k4 : Nat) = i) (hn : i < nL) (hlv : (i, Value.null) :: lv.filter (fun q => !(q.1 == i) && !(q.1 + 1 == i && q.2.category == 2)) = lv') (hd : decode cc pc = .ok (.astore_n k4, 1)) (k : z_Z X h top (pc + 1) lv' rest) : z_Z X h top pc lv (.null :: rest) := by
  obtain ⟨p, l, e, R, s, m, args, below, meth, c, Q, G0⟩ := X
  obtain ⟨hx, hb, hml, hown, hts, hr, hlk, hnm, hen, hR, rfl⟩ := hX
  intro H locs ls a1 a2 a3 hl
  exact lv_astore_nN hx hb hd hi hl (by rw [hml]; exact hn) hlv (fun ls' hl' => k H locs ls' a1 a2 a3 hl')
theorem r_astoreN (hX : z_ok X cc nL own ret nm d G) {i : Nat} {lv' : List (Nat × Value)} (hn : i < nL) (hlv : (i, Value.null) :: lv.filter (fun q => !(q.1 == i) && !(q.1 + 1 == i && q.2.category == 2)) = lv') (hd : decode cc pc = .ok (.astore i, 2)) (k : z_Z X h top (pc + 2) lv' rest) : z_Z X h top pc lv (.null :: rest) := by
  obtain ⟨p, l, e, R, s, m, args, below, meth, c, Q, G0⟩ := X
  obtain ⟨hx, hb, hml, hown, hts, hr, hlk, hnm, hen, hR, rfl⟩ := hX
  intro H locs ls a1 a2 a3 hl
  exact lv_astoreN hx hb hd hl (by rw [hml]; exact hn) hlv (fun ls' hl' => k H locs ls' a1 a2 a3 hl')
theorem r_iinc (hX : z_ok X cc nL own ret nm d G) {i q : Nat} {n : Int} {x v : Int32} {lv' : List (Nat × Value)} (hq : lv[q]? = some (i, .int x)) (hv : x + Int32.ofInt n = v) (hn : i < nL) (hlv : (i, Value.int v) :: lv.filter (fun q => !(q.1 == i) && !(q.1 + 1 == i && q.2.category == 2)) = lv') (hd : decode cc pc = .ok (.iinc i n, 3)) (k : z_Z X h top (pc + 3) lv' rest) : z_Z X h top pc lv rest := by
  obtain ⟨p, l, e, R, s, m, args, below, meth, c, Q, G0⟩ := X
  obtain ⟨hx, hb, hml, hown, hts, hr, hlk, hnm, hen, hR, rfl⟩ := hX
  intro H locs ls a1 a2 a3 hl
  exact lv_iinc hx hb hd hl hq hv (by rw [hml]; exact hn) hlv (fun ls' hl' => k H locs ls' a1 a2 a3 hl')
theorem r_iadd (hX : z_ok X cc nL own ret nm d G) {x y : Int32} (hd : decode cc pc = .ok (.iadd, 1)) (k : z_Z X h top (pc + 1) lv (.int (x + y) :: rest)) : z_Z X h top pc lv (.int y :: .int x :: rest) := by
  obtain ⟨p, l, e, R, s, m, args, below, meth, c, Q, G0⟩ := X
  obtain ⟨hx, hb, hml, hown, hts, hr, hlk, hnm, hen, hR, rfl⟩ := hX
  intro H locs ls a1 a2 a3 hl
  exact lv_iadd hx hb hd (k H locs ls a1 a2 a3 hl)
theorem r_isub (hX : z_ok X cc nL own ret nm d G) {x y : Int32} (hd : decode cc pc = .ok (.isub, 1)) (k : z_Z X h top (pc + 1) lv (.int (x - y) :: rest)) : z_Z X h top pc lv (.int y :: .int x :: rest) := by
  obtain ⟨p, l, e, R, s, m, args, below, meth, c, Q, G0⟩ := X
  obtain ⟨hx, hb, hml, hown, hts, hr, hlk, hnm, hen, hR, rfl⟩ := hX
  intro H locs ls a1 a2 a3 hl
  exact lv_isub hx hb hd (k H locs ls a1 a2 a3 hl)
theorem r_imul (hX : z_ok X cc nL own ret nm d G) {x y : Int32} (hd : decode cc pc = .ok (.imul, 1)) (k : z_Z X h top (pc + 1) lv (.int (x * y) :: rest)) : z_Z X h top pc lv (.int y :: .int x :: rest) := by
  obtain ⟨p, l, e, R, s, m, args, below, meth, c, Q, G0⟩ := X
  obtain ⟨hx, hb, hml, hown, hts, hr, hlk, hnm, hen, hR, rfl⟩ := hX
  intro H locs ls a1 a2 a3 hl
  exact lv_imul hx hb hd (k H locs ls a1 a2 a3 hl)
theorem r_iand (hX : z_ok X cc nL own ret nm d G) {x y : Int32} (hd : decode cc pc = .ok (.iand, 1)) (k : z_Z X h top (pc + 1) lv (.int (x &&& y) :: rest)) : z_Z X h top pc lv (.int y :: .int x :: rest) := by
  obtain ⟨p, l, e, R, s, m, args, below, meth, c, Q, G0⟩ := X
  obtain ⟨hx, hb, hml, hown, hts, hr, hlk, hnm, hen, hR, rfl⟩ := hX
  intro H locs ls a1 a2 a3 hl
  exact lv_iand hx hb hd (k H locs ls a1 a2 a3 hl)
theorem r_ior (hX : z_ok X cc nL own ret nm d G) {x y : Int32} (hd : decode cc pc = .ok (.ior, 1)) (k : z_Z X h top (pc + 1) lv (.int (x ||| y) :: rest)) : z_Z X h top pc lv (.int y :: .int x :: rest) := by
  obtain ⟨p, l, e, R, s, m, args, below, meth, c, Q, G0⟩ := X
  obtain ⟨hx, hb, hml, hown, hts, hr, hlk, hnm, hen, hR, rfl⟩ := hX
  intro H locs ls a1 a2 a3 hl
  exact lv_ior hx hb hd (k H locs ls a1 a2 a3 hl)
theorem r_ixor (hX : z_ok X cc nL own ret nm d G) {x y : Int32} (hd : decode cc pc = .ok (.ixor, 1)) (k : z_Z X h top (pc + 1) lv (.int (x ^^^ y) :: rest)) : z_Z X h top pc lv (.int y :: .int x :: rest) := by
  obtain ⟨p, l, e, R, s, m, args, below, meth, c, Q, G0⟩ := X
  obtain ⟨hx, hb, hml, hown, hts, hr, hlk, hnm, hen, hR, rfl⟩ := hX
  intro H locs ls a1 a2 a3 hl
  exact lv_ixor hx hb hd (k H locs ls a1 a2 a3 hl)
theorem r_ishl (hX : z_ok X cc nL own ret nm d G) {x y : Int32} (hd : decode cc pc = .ok (.ishl, 1)) (k : z_Z X h top (pc + 1) lv (.int (x <<< (y &&& 31)) :: rest)) : z_Z X h top pc lv (.int y :: .int x :: rest) := by
  obtain ⟨p, l, e, R, s, m, args, below, meth, c, Q, G0⟩ := X
  obtain ⟨hx, hb, hml, hown, hts, hr, hlk, hnm, hen, hR, rfl⟩ := hX
  intro H locs ls a1 a2 a3 hl
  exact lv_ishl hx hb hd (k H locs ls a1 a2 a3 hl)
theorem r_ishr (hX : z_ok X cc nL own ret nm d G) {x y : Int32} (hd : decode cc pc = .ok (.ishr, 1)) (k : z_Z X h top (pc + 1) lv (.int (x >>> (y &&& 31)) :: rest)) : z_Z X h top pc lv (.int y :: .int x :: rest) := by
  obtain ⟨p, l, e, R, s, m, args, below, meth, c, Q, G0⟩ := X
  obtain ⟨hx, hb, hml, hown, hts, hr, hlk, hnm, hen, hR, rfl⟩ := hX
  intro H locs ls a1 a2 a3 hl
  exact lv_ishr hx hb hd (k H locs ls a1 a2 a3 hl)
theorem r_idiv (hX : z_ok X cc nL own ret nm d G) {x y : Int32} (hne : ¬ y = 0) (hd : decode cc pc = .ok (.idiv, 1)) (k : z_Z X h top (pc + 1) lv (.int (x / y) :: rest)) : z_Z X h top pc lv (.int y :: .int x :: rest) := by
  obtain ⟨p, l, e, R, s, m, args, below, meth, c, Q, G0⟩ := X
  obtain ⟨hx, hb, hml, hown, hts, hr, hlk, hnm, hen, hR, rfl⟩ := hX
  intro H locs ls a1 a2 a3 hl
  exact lv_idiv hx hb hd hne (k H locs ls a1 a2 a3 hl)
theorem r_irem (hX : z_ok X cc nL own ret nm d G) {x y : Int32} (hne : ¬ y = 0) (hd : decode cc pc = .ok (.irem, 1)) (k : z_Z X h top (pc + 1) lv (.int (x - x / y * y) :: rest)) : z_Z X h top pc lv (.int y :: .int x :: rest) := by
  obtain ⟨p, l, e, R, s, m, args, below, meth, c, Q, G0⟩ := X
  obtain ⟨hx, hb, hml, hown, hts, hr, hlk, hnm, hen, hR, rfl⟩ := hX
  intro H locs ls a1 a2 a3 hl
  exact lv_irem hx hb hd hne (k H locs ls a1 a2 a3 hl)
theorem r_ladd (hX : z_ok X cc nL own ret nm d G) {x y : Int64} (hd : decode cc pc = .ok (.ladd, 1)) (k : z_Z X h top (pc + 1) lv (.long (x + y) :: rest)) : z_Z X h top pc lv (.long y :: .long x :: rest) := by
  obtain ⟨p, l, e, R, s, m, args, below, meth, c, Q, G0⟩ := X
  obtain ⟨hx, hb, hml, hown, hts, hr, hlk, hnm, hen, hR, rfl⟩ := hX
  intro H locs ls a1 a2 a3 hl
  exact lv_ladd hx hb hd (k H locs ls a1 a2 a3 hl)
theorem r_lmul (hX : z_ok X cc nL own ret nm d G) {x y : Int64} (hd : decode cc pc = .ok (.lmul, 1)) (k : z_Z X h top (pc + 1) lv (.long (x * y) :: rest)) : z_Z X h top pc lv (.long y :: .long x :: rest) := by
  obtain ⟨p, l, e, R, s, m, args, below, meth, c, Q, G0⟩ := X
  obtain ⟨hx, hb, hml, hown, hts, hr, hlk, hnm, hen, hR, rfl⟩ := hX
  intro H locs ls a1 a2 a3 hl
  exact lv_lmul hx hb hd (k H locs ls a1 a2 a3 hl)
theorem r_i2l (hX : z_ok X cc nL own ret nm d G) {x : Int32} (hd : decode cc pc = .ok (.i2l, 1)) (k : z_Z X h top (pc + 1) lv (.long x.toInt64 :: rest)) : z_Z X h top pc lv (.int x :: rest) := by
  obtain ⟨p, l, e, R, s, m, args, below, meth, c, Q, G0⟩ := X
  obtain ⟨hx, hb, hml, hown, hts, hr, hlk, hnm, hen, hR, rfl⟩ := hX
  intro H locs ls a1 a2 a3 hl
  exact lv_i2l hx hb hd rfl (k H locs ls a1 a2 a3 hl)
theorem r_lcmp (hX : z_ok X cc nL own ret nm d G) {x y : Int64} (hd : decode cc pc = .ok (.lcmp, 1)) (k : z_Z X h top (pc + 1) lv (.int (lg_cmp x y) :: rest)) : z_Z X h top pc lv (.long y :: .long x :: rest) := by
  obtain ⟨p, l, e, R, s, m, args, below, meth, c, Q, G0⟩ := X
  obtain ⟨hx, hb, hml, hown, hts, hr, hlk, hnm, hen, hR, rfl⟩ := hX
  intro H locs ls a1 a2 a3 hl
  exact W.lcmp hx hb hd (k H locs ls a1 a2 a3 hl)
theorem r_dup (hX : z_ok X cc nL own ret nm d G) {va : Value} (hva : va.category = 1) (hd : decode cc pc = .ok (.dup, 1)) (k : z_Z X h top (pc + 1) lv (va :: va :: rest)) : z_Z X h top pc lv (va :: rest) := by
  obtain ⟨p, l, e, R, s, m, args, below, meth, c, Q, G0⟩ := X
  obtain ⟨hx, hb, hml, hown, hts, hr, hlk, hnm, hen, hR, rfl⟩ := hX
  intro H locs ls a1 a2 a3 hl
  exact lv_dup hx hb hd hva (k H locs ls a1 a2 a3 hl)
theorem r_pop (hX : z_ok X cc nL own ret nm d G) {va : Value} (hva : va.category = 1) (hd : decode cc pc = .ok (.pop, 1)) (k : z_Z X h top (pc + 1) lv (rest)) : z_Z X h top pc lv (va :: rest) := by
  obtain ⟨p, l, e, R, s, m, args, below, meth, c, Q, G0⟩ := X
  obtain ⟨hx, hb, hml, hown, hts, hr, hlk, hnm, hen, hR, rfl⟩ := hX
  intro H locs ls a1 a2 a3 hl
  exact lv_pop hx hb hd hva (k H locs ls a1 a2 a3 hl)
theorem r_dup_x1 (hX : z_ok X cc nL own ret nm d G) {va vb : Value} (hva : va.category = 1) (hvb : vb.category = 1) (hd : decode cc pc = .ok (.dup_x1, 1)) (k : z_Z X h top (pc + 1) lv (va :: vb :: va :: rest)) : z_Z X h top pc lv (va :: vb :: rest) := by
  obtain ⟨p, l, e, R, s, m, args, below, meth, c, Q, G0⟩ := X
  obtain ⟨hx, hb, hml, hown, hts, hr, hlk, hnm, hen, hR, rfl⟩ := hX
  intro H locs ls a1 a2 a3 hl
  exact lv_dup_x1 hx hb hd hva hvb (k H locs ls a1 a2 a3 hl)
theorem r_dup2_11 (hX : z_ok X cc nL own ret nm d G) {va vb : Value} (hva : va.category = 1) (hvb : vb.category = 1) (hd : decode cc pc = .ok (.dup2, 1)) (k : z_Z X h top (pc + 1) lv (va :: vb :: va :: vb :: rest)) : z_Z X h top pc lv (va :: vb :: rest) := by
  obtain ⟨p, l, e, R, s, m, args, below, meth, c, Q, G0⟩ := X
  obtain ⟨hx, hb, hml, hown, hts, hr, hlk, hnm, hen, hR, rfl⟩ := hX
  intro H locs ls a1 a2 a3 hl
  exact lv_dup2_11 hx hb hd hva hvb (k H locs ls a1 a2 a3 hl)
theorem r_castN (hX : z_ok X cc nL own ret nm d G) {idx : Nat} (hd : decode cc pc = .ok (.checkcast idx, 3)) (k : z_Z X h top (pc + 3) lv (.null :: rest)) : z_Z X h top pc lv (.null :: rest) := by
  obtain ⟨p, l, e, R, s, m, args, below, meth, c, Q, G0⟩ := X
  obtain ⟨hx, hb, hml, hown, hts, hr, hlk, hnm, hen, hR, rfl⟩ := hX
  intro H locs ls a1 a2 a3 hl
  exact lv_castN hx hb hd (k H locs ls a1 a2 a3 hl)
theorem r_ifnull (hX : z_ok X cc nL own ret nm d G) {x : Nat} {off : Int} (hd : decode cc pc = .ok (.ifnull off, 3)) (k : z_Z X h top (pc + 3) lv (rest)) : z_Z X h top pc lv (.ref x :: rest) := by
  obtain ⟨p, l, e, R, s, m, args, below, meth, c, Q, G0⟩ := X
  obtain ⟨hx, hb, hml, hown, hts, hr, hlk, hnm, hen, hR, rfl⟩ := hX
  intro H locs ls a1 a2 a3 hl
  exact lv_ifnull hx hb hd (k H locs ls a1 a2 a3 hl)
theorem r_ifnonnullN (hX : z_ok X cc nL own ret nm d G) {off : Int} (hd : decode cc pc = .ok (.ifnonnull off, 3)) (k : z_Z X h top (pc + 3) lv (rest)) : z_Z X h top pc lv (.null :: rest) := by
  obtain ⟨p, l, e, R, s, m, args, below, meth, c, Q, G0⟩ := X
  obtain ⟨hx, hb, hml, hown, hts, hr, hlk, hnm, hen, hR, rfl⟩ := hX
  intro H locs ls a1 a2 a3 hl
  exact lv_ifnonnullN hx hb hd (k H locs ls a1 a2 a3 hl)
theorem r_ifnonnull (hX : z_ok X cc nL own ret nm d G) {x : Nat} {off : Int} {tgt : Nat} (ht : (pc : Int) + off = (tgt : Int)) (hd : decode cc pc = .ok (.ifnonnull off, 3)) (k : z_Z X h top (tgt) lv (rest)) : z_Z X h top pc lv (.ref x :: rest) := by
  obtain ⟨p, l, e, R, s, m, args, below, meth, c, Q, G0⟩ := X
  obtain ⟨hx, hb, hml, hown, hts, hr, hlk, hnm, hen, hR, rfl⟩ := hX
  intro H locs ls a1 a2 a3 hl
  exact lv_ifnonnull hx hb hd ht (k H locs ls a1 a2 a3 hl)
theorem r_ifnullN (hX : z_ok X cc nL own ret nm d G) {off : Int} {tgt : Nat} (ht : (pc : Int) + off = (tgt : Int)) (hd : decode cc pc = .ok (.ifnull off, 3)) (k : z_Z X h top (tgt) lv (rest)) : z_Z X h top pc lv (.null :: rest) := by
  obtain ⟨p, l, e, R, s, m, args, below, meth, c, Q, G0⟩ := X
  obtain ⟨hx, hb, hml, hown, hts, hr, hlk, hnm, hen, hR, rfl⟩ := hX
  intro H locs ls a1 a2 a3 hl
  exact lv_ifnullN hx hb hd ht (k H locs ls a1 a2 a3 hl)
theorem r_goto (hX : z_ok X cc nL own ret nm d G) {off : Int} {tgt : Nat} (ht : (pc : Int) + off = (tgt : Int)) (hd : decode cc pc = .ok (.goto off, 3)) (k : z_Z X h top (tgt) lv (rest)) : z_Z X h top pc lv (rest) := by
  obtain ⟨p, l, e, R, s, m, args, below, meth, c, Q, G0⟩ := X
  obtain ⟨hx, hb, hml, hown, hts, hr, hlk, hnm, hen, hR, rfl⟩ := hX
  intro H locs ls a1 a2 a3 hl
  exact lv_goto hx hb hd ht (k H locs ls a1 a2 a3 hl)
theorem r_tableOut (hX : z_ok X cc nL own ret nm d G) {dflt lo hi : Int} {offs : Array Int} {len : Nat} {x : Int32} {tgt : Nat} (hh : x.toInt < lo ∨ hi < x.toInt) (ht : (pc : Int) + dflt = (tgt : Int)) (hd : decode cc pc = .ok (.tableswitch dflt lo hi offs, len)) (k : z_Z X h top (tgt) lv (rest)) : z_Z X h top pc lv (.int x :: rest) := by
  obtain ⟨p, l, e, R, s, m, args, below, meth, c, Q, G0⟩ := X
  obtain ⟨hx, hb, hml, hown, hts, hr, hlk, hnm, hen, hR, rfl⟩ := hX
  intro H locs ls a1 a2 a3 hl
  exact lv_tableOut hx hb hd hh ht (k H locs ls a1 a2 a3 hl)
theorem r_tableIn (hX : z_ok X cc nL own ret nm d G) {dflt lo hi : Int} {offs : Array Int} {len : Nat} {x : Int32} {off : Int} {tgt : Nat} (h1 : ¬ x.toInt < lo) (h2 : ¬ hi < x.toInt) (ho : offs[(x.toInt - lo).toNat]? = some off) (ht : (pc : Int) + off = (tgt : Int)) (hd : decode cc pc = .ok (.tableswitch dflt lo hi offs, len)) (k : z_Z X h top (tgt) lv (rest)) : z_Z X h top pc lv (.int x :: rest) := by
  obtain ⟨p, l, e, R, s, m, args, below, meth, c, Q, G0⟩ := X
  obtain ⟨hx, hb, hml, hown, hts, hr, hlk, hnm, hen, hR, rfl⟩ := hX
  intro H locs ls a1 a2 a3 hl
  exact lv_tableIn hx hb hd h1 h2 ho ht (k H locs ls a1 a2 a3 hl)
theorem r_if_eq (hX : z_ok X cc nL own ret nm d G) {x : Int32} {off : Int} {tgt : Nat} (hd : decode cc pc = .ok (.ifCond .eq off, 3)) (ht : (pc : Int) + off = (tgt : Int)) (kt : x = 0 → z_Z X h top tgt lv rest) (kf : ¬ x = 0 → z_Z X h top (pc + 3) lv rest) : z_Z X h top pc lv (.int x :: rest) := by
  obtain ⟨p, l, e, R, s, m, args, below, meth, c, Q, G0⟩ := X
  obtain ⟨hx, hb, hml, hown, hts, hr, hlk, hnm, hen, hR, rfl⟩ := hX
  intro H locs ls a1 a2 a3 hl
  exact lv_if_eq hx hb hd ht (fun q => kt q H locs ls a1 a2 a3 hl) (fun q => kf q H locs ls a1 a2 a3 hl)
theorem r_icmp_eq (hX : z_ok X cc nL own ret nm d G) {x y : Int32} {off : Int} {tgt : Nat} (hd : decode cc pc = .ok (.if_icmp .eq off, 3)) (ht : (pc : Int) + off = (tgt : Int)) (kt : x = y → z_Z X h top tgt lv rest) (kf : ¬ x = y → z_Z X h top (pc + 3) lv rest) : z_Z X h top pc lv (.int y :: .int x :: rest) := by
  obtain ⟨p, l, e, R, s, m, args, below, meth, c, Q, G0⟩ := X
  obtain ⟨hx, hb, hml, hown, hts, hr, hlk, hnm, hen, hR, rfl⟩ := hX
  intro H locs ls a1 a2 a3 hl
  exact lv_icmp_eq hx hb hd ht (fun q => kt q H locs ls a1 a2 a3 hl) (fun q => kf q H locs ls a1 a2 a3 hl)
theorem r_if_ne (hX : z_ok X cc nL own ret nm d G) {x : Int32} {off : Int} {tgt : Nat} (hd : decode cc pc = .ok (.ifCond .ne off, 3)) (ht : (pc : Int) + off = (tgt : Int)) (kt : ¬ x = 0 → z_Z X h top tgt lv rest) (kf : x = 0 → z_Z X h top (pc + 3) lv rest) : z_Z X h top pc lv (.int x :: rest) := by
  obtain ⟨p, l, e, R, s, m, args, below, meth, c, Q, G0⟩ := X
  obtain ⟨hx, hb, hml, hown, hts, hr, hlk, hnm, hen, hR, rfl⟩ := hX
  intro H locs ls a1 a2 a3 hl
  exact lv_if_ne hx hb hd ht (fun q => kt q H locs ls a1 a2 a3 hl) (fun q => kf q H locs ls a1 a2 a3 hl)
theorem r_icmp_ne (hX : z_ok X cc nL own ret nm d G) {x y : Int32} {off : Int} {tgt : Nat} (hd : decode cc pc = .ok (.if_icmp .ne off, 3)) (ht : (pc : Int) + off = (tgt : Int)) (kt : ¬ x = y → z_Z X h top tgt lv rest) (kf : x = y → z_Z X h top (pc + 3) lv rest) : z_Z X h top pc lv (.int y :: .int x :: rest) := by
  obtain ⟨p, l, e, R, s, m, args, below, meth, c, Q, G0⟩ := X
  obtain ⟨hx, hb, hml, hown, hts, hr, hlk, hnm, hen, hR, rfl⟩ := hX
  intro H locs ls a1 a2 a3 hl
  exact lv_icmp_ne hx hb hd ht (fun q => kt q H locs ls a1 a2 a3 hl) (fun q => kf q H locs ls a1 a2 a3 hl)
theorem r_if_lt (hX : z_ok X cc nL own ret nm d G) {x : Int32} {off : Int} {tgt : Nat} (hd : decode cc pc = .ok (.ifCond .lt off, 3)) (ht : (pc : Int) + off = (tgt : Int)) (kt : x < 0 → z_Z X h top tgt lv rest) (kf : ¬ x < 0 → z_Z X h top (pc + 3) lv rest) : z_Z X h top pc lv (.int x :: rest) := by
  obtain ⟨p, l, e, R, s, m, args, below, meth, c, Q, G0⟩ := X
  obtain ⟨hx, hb, hml, hown, hts, hr, hlk, hnm, hen, hR, rfl⟩ := hX
  intro H locs ls a1 a2 a3 hl
  exact lv_if_lt hx hb hd ht (fun q => kt q H locs ls a1 a2 a3 hl) (fun q => kf q H locs ls a1 a2 a3 hl)
theorem r_icmp_lt (hX : z_ok X cc nL own ret nm d G) {x y : Int32} {off : Int} {tgt : Nat} (hd : decode cc pc = .ok (.if_icmp .lt off, 3)) (ht : (pc : Int) + off = (tgt : Int)) (kt : x < y → z_Z X h top tgt lv rest) (kf : ¬ x < y → z_Z X h top (pc + 3) lv rest) : z_Z X h top pc lv (.int y :: .int x :: rest) := by
  obtain ⟨p, l, e, R, s, m, args, below, meth, c, Q, G0⟩ := X
  obtain ⟨hx, hb, hml, hown, hts, hr, hlk, hnm, hen, hR, rfl⟩ := hX
  intro H locs ls a1 a2 a3 hl
  exact lv_icmp_lt hx hb hd ht (fun q => kt q H locs ls a1 a2 a3 hl) (fun q => kf q H locs ls a1 a2 a3 hl)
theorem r_if_ge (hX : z_ok X cc nL own ret nm d G) {x : Int32} {off : Int} {tgt : Nat} (hd : decode cc pc = .ok (.ifCond .ge off, 3)) (ht : (pc : Int) + off = (tgt : Int)) (kt : 0 ≤ x → z_Z X h top tgt lv rest) (kf : ¬ 0 ≤ x → z_Z X h top (pc + 3) lv rest) : z_Z X h top pc lv (.int x :: rest) := by
  obtain ⟨p, l, e, R, s, m, args, below, meth, c, Q, G0⟩ := X
  obtain ⟨hx, hb, hml, hown, hts, hr, hlk, hnm, hen, hR, rfl⟩ := hX
  intro H locs ls a1 a2 a3 hl
  exact lv_if_ge hx hb hd ht (fun q => kt q H locs ls a1 a2 a3 hl) (fun q => kf q H locs ls a1 a2 a3 hl)
theorem r_icmp_ge (hX : z_ok X cc nL own ret nm d G) {x y : Int32} {off : Int} {tgt : Nat} (hd : decode cc pc = .ok (.if_icmp .ge off, 3)) (ht : (pc : Int) + off = (tgt : Int)) (kt : y ≤ x → z_Z X h top tgt lv rest) (kf : ¬ y ≤ x → z_Z X h top (pc + 3) lv rest) : z_Z X h top pc lv (.int y :: .int x :: rest) := by
  obtain ⟨p, l, e, R, s, m, args, below, meth, c, Q, G0⟩ := X
  obtain ⟨hx, hb, hml, hown, hts, hr, hlk, hnm, hen, hR, rfl⟩ := hX
  intro H locs ls a1 a2 a3 hl
  exact lv_icmp_ge hx hb hd ht (fun q => kt q H locs ls a1 a2 a3 hl) (fun q => kf q H locs ls a1 a2 a3 hl)
theorem r_if_gt (hX : z_ok X cc nL own ret nm d G) {x : Int32} {off : Int} {tgt : Nat} (hd : decode cc pc = .ok (.ifCond .gt off, 3)) (ht : (pc : Int) + off = (tgt : Int)) (kt : 0 < x → z_Z X h top tgt lv rest) (kf : ¬ 0 < x → z_Z X h top (pc + 3) lv rest) : z_Z X h top pc lv (.int x :: rest) := by
  obtain ⟨p, l, e, R, s, m, args, below, meth, c, Q, G0⟩ := X
  obtain ⟨hx, hb, hml, hown, hts, hr, hlk, hnm, hen, hR, rfl⟩ := hX
  intro H locs ls a1 a2 a3 hl
  exact lv_if_gt hx hb hd ht (fun q => kt q H locs ls a1 a2 a3 hl) (fun q => kf q H locs ls a1 a2 a3 hl)
theorem r_icmp_gt (hX : z_ok X cc nL own ret nm d G) {x y : Int32} {off : Int} {tgt : Nat} (hd : decode cc pc = .ok (.if_icmp .gt off, 3)) (ht : (pc : Int) + off = (tgt : Int)) (kt : y < x → z_Z X h top tgt lv rest) (kf : ¬ y < x → z_Z X h top (pc + 3) lv rest) : z_Z X h top pc lv (.int y :: .int x :: rest) := by
  obtain ⟨p, l, e, R, s, m, args, below, meth, c, Q, G0⟩ := X
  obtain ⟨hx, hb, hml, hown, hts, hr, hlk, hnm, hen, hR, rfl⟩ := hX
  intro H locs ls a1 a2 a3 hl
  exact lv_icmp_gt hx hb hd ht (fun q => kt q H locs ls a1 a2 a3 hl) (fun q => kf q H locs ls a1 a2 a3 hl)
theorem r_if_le (hX : z_ok X cc nL own ret nm d G) {x : Int32} {off : Int} {tgt : Nat} (hd : decode cc pc = .ok (.ifCond .le off, 3)) (ht : (pc : Int) + off = (tgt : Int)) (kt : x ≤ 0 → z_Z X h top tgt lv rest) (kf : ¬ x ≤ 0 → z_Z X h top (pc + 3) lv rest) : z_Z X h top pc lv (.int x :: rest) := by
  obtain ⟨p, l, e, R, s, m, args, below, meth, c, Q, G0⟩ := X
  obtain ⟨hx, hb, hml, hown, hts, hr, hlk, hnm, hen, hR, rfl⟩ := hX
  intro H locs ls a1 a2 a3 hl
  exact lv_if_le hx hb hd ht (fun q => kt q H locs ls a1 a2 a3 hl) (fun q => kf q H locs ls a1 a2 a3 hl)
theorem r_icmp_le (hX : z_ok X cc nL own ret nm d G) {x y : Int32} {off : Int} {tgt : Nat} (hd : decode cc pc = .ok (.if_icmp .le off, 3)) (ht : (pc : Int) + off = (tgt : Int)) (kt : x ≤ y → z_Z X h top tgt lv rest) (kf : ¬ x ≤ y → z_Z X h top (pc + 3) lv rest) : z_Z X h top pc lv (.int y :: .int x :: rest) := by
  obtain ⟨p, l, e, R, s, m, args, below, meth, c, Q, G0⟩ := X
  obtain ⟨hx, hb, hml, hown, hts, hr, hlk, hnm, hen, hR, rfl⟩ := hX
  intro H locs ls a1 a2 a3 hl
  exact lv_icmp_le hx hb hd ht (fun q => kt q H locs ls a1 a2 a3 hl) (fun q => kf q H locs ls a1 a2 a3 hl)
theorem r_acmp_eq (hX : z_ok X cc nL own ret nm d G) {x y : Nat} {off : Int} {tgt : Nat} (hd : decode cc pc = .ok (.if_acmp .eq off, 3)) (ht : (pc : Int) + off = (tgt : Int)) (kt : x = y → z_Z X h top tgt lv rest) (kf : ¬ x = y → z_Z X h top (pc + 3) lv rest) : z_Z X h top pc lv (.ref y :: .ref x :: rest) := by
  obtain ⟨p, l, e, R, s, m, args, below, meth, c, Q, G0⟩ := X
  obtain ⟨hx, hb, hml, hown, hts, hr, hlk, hnm, hen, hR, rfl⟩ := hX
  intro H locs ls a1 a2 a3 hl
  exact lv_acmp_eq (rx := some x) (ry := some y) hx hb hd ht (fun q => kt (by simpa using q) H locs ls a1 a2 a3 hl) (fun q => kf (by simpa using q) H locs ls a1 a2 a3 hl)
theorem r_acmp_ne (hX : z_ok X cc nL own ret nm d G) {x y : Nat} {off : Int} {tgt : Nat} (hd : decode cc pc = .ok (.if_acmp .ne off, 3)) (ht : (pc : Int) + off = (tgt : Int)) (kt : ¬ x = y → z_Z X h top tgt lv rest) (kf : x = y → z_Z X h top (pc + 3) lv rest) : z_Z X h top pc lv (.ref y :: .ref x :: rest) := by
  obtain ⟨p, l, e, R, s, m, args, below, meth, c, Q, G0⟩ := X
  obtain ⟨hx, hb, hml, hown, hts, hr, hlk, hnm, hen, hR, rfl⟩ := hX
  intro H locs ls a1 a2 a3 hl
  exact lv_acmp_ne (rx := some x) (ry := some y) hx hb hd ht (fun q => kt (by simpa using q) H locs ls a1 a2 a3 hl) (fun q => kf (by simpa using q) H locs ls a1 a2 a3 hl)
theorem r_lookup (hX : z_ok X cc nL own ret nm d G) {dflt : Int} {ps : Array (Int × Int)} {len : Nat} {x : Int32} {off : Int} {tgt : Nat} (hd : decode cc pc = .ok (.lookupswitch dflt ps, len)) (hp : (ps.toList.zip (ps.toList.drop 1)).all (fun (a, next) => a.1 < next.1) = true) (ho : Op.lookupswitch.offset ps.toList dflt x.toInt = off) (ht : (pc : Int) + off = (tgt : Int)) (k : z_Z X h top tgt lv rest) : z_Z X h top pc lv (.int x :: rest) := by
  obtain ⟨p, l, e, R, s, m, args, below, meth, c, Q, G0⟩ := X
  obtain ⟨hx, hb, hml, hown, hts, hr, hlk, hnm, hen, hR, rfl⟩ := hX
  intro H locs ls a1 a2 a3 hl
  exact lv_lookup hx hb hd hp ho ht (k H locs ls a1 a2 a3 hl)
theorem r_ldc (hX : z_ok X cc nL own ret nm d G) {idx : Nat} {v : Int32} (hw : Cond.constant own idx v ∈ zGT) (hd : decode cc pc = .ok (.ldc idx, 2)) (k : z_Z X h top (pc + 2) lv (.int v :: rest)) : z_Z X h top pc lv rest := by
  obtain ⟨p, l, e, R, s, m, args, below, meth, c, Q, G0⟩ := X
  obtain ⟨hx, hb, hml, hown, hts, hr, hlk, hnm, hen, hR, rfl⟩ := hX
  intro H locs ls a1 a2 a3 hl
  exact lv_ldc hx hb hown (hts _ hw) hd (k H locs ls a1 a2 a3 hl)
theorem r_ldcw (hX : z_ok X cc nL own ret nm d G) {idx : Nat} {v : Int32} (hw : Cond.constant own idx v ∈ zGT) (hd : decode cc pc = .ok (.ldc_w idx, 3)) (k : z_Z X h top (pc + 3) lv (.int v :: rest)) : z_Z X h top pc lv rest := by
  obtain ⟨p, l, e, R, s, m, args, below, meth, c, Q, G0⟩ := X
  obtain ⟨hx, hb, hml, hown, hts, hr, hlk, hnm, hen, hR, rfl⟩ := hX
  intro H locs ls a1 a2 a3 hl
  exact lv_ldcw hx hb hown (hts _ hw) hd (k H locs ls a1 a2 a3 hl)
theorem r_ldc2 (hX : z_ok X cc nL own ret nm d G) {idx : Nat} {v : Int64} (hw : Cond.constantLong own idx v ∈ zGT) (hd : decode cc pc = .ok (.ldc2_w idx, 3)) (k : z_Z X h top (pc + 3) lv (.long v :: rest)) : z_Z X h top pc lv rest := by
  obtain ⟨p, l, e, R, s, m, args, below, meth, c, Q, G0⟩ := X
  obtain ⟨hx, hb, hml, hown, hts, hr, hlk, hnm, hen, hR, rfl⟩ := hX
  intro H locs ls a1 a2 a3 hl
  exact lv_ldc2 hx hb hown (hts _ hw) hd (k H locs ls a1 a2 a3 hl)
theorem r_ldcM (hX : z_ok X cc nL own ret nm d G) {idx : Nat} (hw : Cond.classLink own idx "[Ljava/lang/Object;" ∈ zGT) (hd : decode cc pc = .ok (.ldc idx, 2)) (k : z_Z X h top (pc + 2) lv (.ref (z_mO G) :: rest)) : z_Z X h top pc lv rest := by
  obtain ⟨p, l, e, R, s, m, args, below, meth, c, Q, G0⟩ := X
  obtain ⟨hx, hb, hml, hown, hts, hr, hlk, hnm, hen, hR, rfl⟩ := hX
  intro H locs ls a1 a2 a3 hl
  exact va_ldcM hx hb hown (hts _ hw) hen.2.2.2.1.1 hd (k H locs ls a1 a2 a3 hl)
theorem r_getsE (hX : z_ok X cc nL own ret nm d G) {idx : Nat} (hw : Cond.fieldLink own idx "java/util/ArrayList" "DEFAULTCAPACITY_EMPTY_ELEMENTDATA" "[Ljava/lang/Object;" ∈ zGT) (hd : decode cc pc = .ok (.getstatic idx, 3)) (k : z_Z X h top (pc + 3) lv (.ref (z_tE G) :: rest)) : z_Z X h top pc lv rest := by
  obtain ⟨p, l, e, R, s, m, args, below, meth, c, Q, G0⟩ := X
  obtain ⟨hx, hb, hml, hown, hts, hr, hlk, hnm, hen, hR, rfl⟩ := hX
  intro H locs ls a1 a2 a3 hl
  exact va_gets hx hb hen.2.1 a2 hown (hts _ hw) (fun _ q => q) hd (k H locs ls a1 a2 a3 hl)
theorem r_alenE (hX : z_ok X cc nL own ret nm d G) (hd : decode cc pc = .ok (.arraylength, 1)) (k : z_Z X h top (pc + 1) lv (.int 0 :: rest)) : z_Z X h top pc lv (.ref (z_tE G) :: rest) := by
  obtain ⟨p, l, e, R, s, m, args, below, meth, c, Q, G0⟩ := X
  obtain ⟨hx, hb, hml, hown, hts, hr, hlk, hnm, hen, hR, rfl⟩ := hX
  intro H locs ls a1 a2 a3 hl
  exact va_tlen hx hb hen.2.2.1 a2 (show Int32.ofNat 0 = 0 by decide) hd (k H locs ls a1 a2 a3 hl)
theorem r_sald (hX : z_ok X cc nL own ret nm d G) {i : Int32} (hin : vp_in i (z_L G)) (hd : decode cc pc = .ok (.iaload, 1)) (k : z_Z X h top (pc + 1) lv (.int (z_xs G i.toNatClampNeg) :: rest)) : z_Z X h top pc lv (.int i :: .ref (z_bs G) :: rest) := by
  obtain ⟨p, l, e, R, s, m, args, below, meth, c, Q, G0⟩ := X
  obtain ⟨hx, hb, hml, hown, hts, hr, hlk, hnm, hen, hR, rfl⟩ := hX
  intro H locs ls a1 a2 a3 hl
  obtain ⟨-, -, -, -, hsx, hsb, hsz⟩ := hen
  exact va_sld hx hb hsx (by omega) (show ¬ z_b G0 ≤ z_bs G0 by omega) a2 hin hd (k H locs ls a1 a2 a3 hl)
theorem r_slen (hX : z_ok X cc nL own ret nm d G) (hd : decode cc pc = .ok (.arraylength, 1)) (k : z_Z X h top (pc + 1) lv (.int (Int32.ofNat (z_L G)) :: rest)) : z_Z X h top pc lv (.ref (z_bs G) :: rest) := by
  obtain ⟨p, l, e, R, s, m, args, below, meth, c, Q, G0⟩ := X
  obtain ⟨hx, hb, hml, hown, hts, hr, hlk, hnm, hen, hR, rfl⟩ := hX
  intro H locs ls a1 a2 a3 hl
  obtain ⟨-, -, -, -, hsx, hsb, hsz⟩ := hen
  exact va_slen hx hb hsx (by omega) (show ¬ z_b G0 ≤ z_bs G0 by omega) a2 hd (k H locs ls a1 a2 a3 hl)
theorem r_objInit (hX : z_ok X cc nL own ret nm d G) {idx a : Nat} (h1 : Cond.methodLink own idx objectInit ∈ zGT) (h2 : Cond.instanceMethod objectInit ∈ zGT) (h3 : Cond.code objectInit ⟨#[0xb1]⟩ 1 none ∈ zGT) (hw : (rest.map fun v => v.category).sum ≤ 8) (hd : decode cc pc = .ok (.invokespecial idx, 3)) (k : z_Z X h top (pc + 3) lv rest) : z_Z X h top pc lv (.ref a :: rest) := by
  obtain ⟨p, l, e, R, s, m, args, below, meth, c, Q, G0⟩ := X
  obtain ⟨hx, hb, hml, hown, hts, hr, hlk, hnm, hen, hR, rfl⟩ := hX
  intro H locs ls a1 a2 a3 hl
  refine W.objInit hx hb hown (hts _ h1) (hts _ h2) (hts _ h3) rfl hl.1 rfl hd (by omega) (by show 2 * 0 + _ + 12 ≤ _; omega) ?_
  exact k H locs ls a1 a2 a3 hl
theorem r_max (hX : z_ok X cc nL own ret nm d G) {idx : Nat} {x y : Int32} (h1 : Cond.methodLink own idx Lib.Math.max.name ∈ zGT) (h2 : Cond.static Lib.Math.max.name ∈ zGT) (h3 : Cond.initialized "java/lang/Math" ∈ zGT) (h4 : Cond.code Lib.Math.max.name Lib.Math.max.code 2 (some .int) ∈ zGT) (hw : (rest.map fun v => v.category).sum ≤ 8) (hd : decode cc pc = .ok (.invokestatic idx, 3)) (k : z_Z X h top (pc + 3) lv (.int (if x < y then y else x) :: rest)) : z_Z X h top pc lv (.int y :: .int x :: rest) := by
  obtain ⟨p, l, e, R, s, m, args, below, meth, c, Q, G0⟩ := X
  obtain ⟨hx, hb, hml, hown, hts, hr, hlk, hnm, hen, hR, rfl⟩ := hX
  intro H locs ls a1 a2 a3 hl
  have g3 := a1.2.2.1
  have g4 := hen.2.2.2.2.2.2
  refine va_mmax hx hb hl.1.symm hown (hts _ h1) (hts _ h2) (hts _ h3) (hts _ h4) (by omega) (by omega) (by omega) (by omega) hd (k H locs ls a1 a2 a3 hl)
theorem r_min (hX : z_ok X cc nL own ret nm d G) {idx : Nat} {x y : Int32} (h1 : Cond.methodLink own idx Lib.Math.min.name ∈ zGT) (h2 : Cond.static Lib.Math.min.name ∈ zGT) (h3 : Cond.initialized "java/lang/Math" ∈ zGT) (h4 : Cond.code Lib.Math.min.name Lib.Math.min.code 2 (some .int) ∈ zGT) (hw : (rest.map fun v => v.category).sum ≤ 8) (hd : decode cc pc = .ok (.invokestatic idx, 3)) (k : z_Z X h top (pc + 3) lv (.int (if y < x then y else x) :: rest)) : z_Z X h top pc lv (.int y :: .int x :: rest) := by
  obtain ⟨p, l, e, R, s, m, args, below, meth, c, Q, G0⟩ := X
  obtain ⟨hx, hb, hml, hown, hts, hr, hlk, hnm, hen, hR, rfl⟩ := hX
  intro H locs ls a1 a2 a3 hl
  have g3 := a1.2.2.1
  have g4 := hen.2.2.2.2.2.2
  refine va_mmin hx hb hl.1.symm hown (hts _ h1) (hts _ h2) (hts _ h3) (hts _ h4) (by omega) (by omega) (by omega) (by omega) hd (k H locs ls a1 a2 a3 hl)

end ZR
/-! the memory -/
def z_fl (own : String) (idx ci j : Nat) : Prop := ∃ (C : String) (T : u_T) (N : Nat) (ref : String), vwCl[ci]? = some (C, T, N) ∧ j < N ∧ (∀ w ∈ u_ws C T N, w ∈ zGT) ∧ Cond.fieldLink own idx ref (T j).2.1 (T j).2.2.1 ∈ zGT ∧ (ref = (T j).1 ∨ Cond.sameField ref (T j).1 (T j).2.1 (T j).2.2.1 ∈ zGT)
/-- what a put asks: also the types, the names apart, final or not, the field's type -/
def z_fp (own : String) (idx ci j : Nat) (fin : Bool) (ty : FieldType) : Prop := ∃ (C : String) (T : u_T) (N : Nat) (ref : String) (ty0 : Nat → FieldType), vwCl[ci]? = some (C, T, N) ∧ j < N ∧ (∀ w ∈ u_ws C T N, w ∈ zGT) ∧ Cond.fieldLink own idx ref (T j).2.1 (T j).2.2.1 ∈ zGT ∧ (ref = (T j).1 ∨ Cond.sameField ref (T j).1 (T j).2.1 (T j).2.2.1 ∈ zGT) ∧
  (∀ i, i < N → parseFieldDescriptor (T i).2.2.1 = some (ty0 i)) ∧ (∀ a, a < N → ∀ b, b < N → a ≠ b → (T a).2.1 ≠ (T b).2.1) ∧ (T j).2.2.2 = fin ∧ (fin = true → (T j).1 = own) ∧ parseFieldDescriptor (T j).2.2.1 = some ty
def z_nw (own : String) (idx ci n : Nat) (fs : List Value) : Prop := ∃ (C : String) (T : u_T) (ty0 : Nat → FieldType), vwCl[ci]? = some (C, T, n) ∧ (∀ w ∈ u_ws C T n, w ∈ zGT) ∧ (∀ i, i < n → parseFieldDescriptor (T i).2.2.1 = some (ty0 i)) ∧ Cond.classLink own idx C ∈ zGT ∧ Cond.instantiable C n ∈ zGT ∧ Cond.initialized C ∈ zGT ∧ (∀ j, j < n → defaultValue (ty0 j) = vp_V fs j) ∧ n ≤ 1312
/-- an object that may stand in an Object[] -/
def z_ob (G : zG) (h : zH) (top a : Nat) : Prop := ∃ (ci : Nat) (fs : List Value) (r : vw_C), z_at G h top a (.inr (ci, fs)) ∧ vwCl[ci]? = some r ∧ Cond.castable r.1 "java/lang/Object" ∈ zNW
theorem z_HI.mk {G : zG} {h : zH} {top : Nat} {H1 : Heap} (hP : va_P (z_D G) vwCl (z_wl (z_b G) top h) H1) (hlt : z_b G < top) (hle : H1.size ≤ top) (hk : top ≤ z_b G + 320) : z_HI G h top H1 := by
  have := va_at.lt (hP (top - 1 - z_b G) _ (z_wl_get (a := top - 1) (by omega) (by omega)))
  have h2 : top - 1 < H1.size := this
  exact ⟨by omega, by omega, hk, hP⟩
theorem z_HI.lt {G : zG} {h : zH} {top a : Nat} {e : va_E} {H : Heap} (hH : z_HI G h top H) (ha : z_at G h top a e) : (z_wl (z_b G) top h)[a - z_b G]? = some (a, e) := by
  obtain ⟨h1, h2, h3⟩ := ha
  rw [z_wl_get h1 h2, h3]
/-- a fresh cell's address is the top -/
theorem z_fresh {D : va_G} {b top q : Nat} {h : zH} {e : va_E} {H1 : Heap} (hb : b ≤ top) (hP : va_P D vwCl (z_wl b top h ++ [(q, e)]) H1) (hD : va_D (fun x => b ≤ x) (z_wl b top h ++ [(q, e)])) (hle : H1.size ≤ top + 1) : q = top := by
  have e1 : (z_wl b top h ++ [(q, e)])[top - b]? = some (q, e) := by
    rw [List.getElem?_append_right (by rw [z_wl_len]; exact Nat.le_refl _), z_wl_len, Nat.sub_self]
    rfl
  have h1 : q < H1.size := va_at.lt (hP _ _ e1)
  have h2 : b ≤ q := hD.2 _ _ e1
  rcases Nat.lt_or_ge q top with hq | hq
  · have e2 : (z_wl b top h ++ [(q, e)])[q - b]? = some (q, h q) := by
      rw [List.getElem?_append_left (by rw [z_wl_len]; omega), z_wl_get h2 hq]
    have := hD.1 _ _ _ _ e1 e2 rfl
    omega
  · omega
section ZM
variable {X : zX} {cc : ByteArray} {nL d : Nat} {own nm : String} {ret : Option FieldType} {G : zG} {h : zH} {top pc : Nat} {lv : List (Nat × Value)} {rest : List Value} {a : Nat}
theorem r_getf (hX : z_ok X cc nL own ret nm d G) {idx ci j : Nat} {fs : List Value} {v : Value} (hf : z_fl own idx ci j) (ha : z_at G h top a (.inr (ci, fs))) (hv : fs[j]? = some v) (hd : decode cc pc = .ok (.getfield idx, 3)) (kk : z_Z X h top (pc + 3) lv (v :: rest)) : z_Z X h top pc lv (.ref a :: rest) := by
  obtain ⟨p, l, e, R, s, m, args, below, meth, c, Q, G0⟩ := X
  obtain ⟨hx, hb, hml, hown, hts, hr, hlk, hnm, hen, hR, rfl⟩ := hX
  intro H locs ls a1 a2 a3 hl
  obtain ⟨C, T, N, ref, hc, hj, hin, hlink, hsame⟩ := hf
  refine va_get (Ts := zGT) hx hb hts hin hown hen.1 a1.2.2.2 (a - z_b G0) (a1.lt ha) hc j hj (hts _ hlink) (fun x q => ?_) hv hd (kk H locs ls a1 a2 a3 hl)
  rcases hsame with e | e
  · rw [e]; exact q
  · exact u_same (hts _ e) x q
theorem r_putf (hX : z_ok X cc nL own ret nm d G) {idx ci j : Nat} {fs : List Value} {v : Value} {ty : FieldType} (hf : z_fp own idx ci j false ty) (ha : z_at G h top a (.inr (ci, fs))) (hn : narrow ty v = v) (hfit : fits ty v = true) (hlen : j < fs.length) (hd : decode cc pc = .ok (.putfield idx, 3)) (kk : z_Z X (va_up h a (.inr (ci, fs.set j v))) top (pc + 3) lv rest) : z_Z X h top pc lv (v :: .ref a :: rest) := by
  obtain ⟨p, l, e, R, s, m, args, below, meth, c, Q, G0⟩ := X
  obtain ⟨hx, hb, hml, hown, hts, hr, hlk, hnm, hen, hR, rfl⟩ := hX
  intro H locs ls a1 a2 a3 hl
  obtain ⟨C, T, N, ref, ty0, hc, hj, hin, hlink, hsame, hty, hnms, hfin, -, hdd⟩ := hf
  refine va_put (Ts := zGT) hx hb hts hin ty0 hty hnms hown hen.1 a1.2.2.2 z_wl_D a2 (a - z_b G0) (a1.lt ha) hc j hj (hts _ hlink) (fun x q => ?_) hfin hdd hn hfit hlen hd (fun H1 locs1 hP1 hD1 hS1 => ?_)
  · rcases hsame with e | e
    · rw [e]; exact q
    · exact u_same (hts _ e) x q
  · refine z_facts (fun hF hle => ?_)
    obtain ⟨g1, g2, g3⟩ := ha
    rw [z_wl_set g1 g2] at hP1
    exact kk H1 locs1 ls (z_HI.mk hP1 (by omega) (by omega) a1.2.2.1) hS1 a3 hl
theorem r_putF (hX : z_ok X cc nL own ret "<init>" d G) {idx ci j : Nat} {fs : List Value} {v : Value} {ty : FieldType} (hf : z_fp own idx ci j true ty) (ha : z_at G h top a (.inr (ci, fs))) (hn : narrow ty v = v) (hfit : fits ty v = true) (hlen : j < fs.length) (hd : decode cc pc = .ok (.putfield idx, 3)) (kk : z_Z X (va_up h a (.inr (ci, fs.set j v))) top (pc + 3) lv rest) : z_Z X h top pc lv (v :: .ref a :: rest) := by
  obtain ⟨p, l, e, R, s, m, args, below, meth, c, Q, G0⟩ := X
  obtain ⟨hx, hb, hml, hown, hts, hr, hlk, hnm, hen, hR, rfl⟩ := hX
  intro H locs ls a1 a2 a3 hl
  obtain ⟨C, T, N, ref, ty0, hc, hj, hin, hlink, hsame, hty, hnms, hfin, hdecl, hdd⟩ := hf
  refine va_putF (Ts := zGT) hx hb hts hin ty0 hty hnms hown hen.1 a1.2.2.2 z_wl_D a2 (a - z_b G0) (a1.lt ha) hc j hj (hts _ hlink) (fun x q => ?_) hfin hnm (hdecl rfl) hdd hn hfit hlen hd (fun H1 locs1 hP1 hD1 hS1 => ?_)
  · rcases hsame with e | e
    · rw [e]; exact q
    · exact u_same (hts _ e) x q
  · refine z_facts (fun hF hle => ?_)
    obtain ⟨g1, g2, g3⟩ := ha
    rw [z_wl_set g1 g2] at hP1
    exact kk H1 locs1 ls (z_HI.mk hP1 (by omega) (by omega) a1.2.2.1) hS1 a3 hl
theorem r_new (hX : z_ok X cc nL own ret nm d G) {idx ci n : Nat} {fs : List Value} (hf : z_nw own idx ci n fs) (htop : top + 1 ≤ z_b G + 320) (hd : decode cc pc = .ok (.new idx, 3)) (kk : z_Z X (va_up h top (.inr (ci, fs))) (top + 1) (pc + 3) lv (.ref top :: rest)) : z_Z X h top pc lv rest := by
  obtain ⟨p, l, e, R, s, m, args, below, meth, c, Q, G0⟩ := X
  obtain ⟨hx, hb, hml, hown, hts, hr, hlk, hnm, hen, hR, rfl⟩ := hX
  intro H locs ls a1 a2 a3 hl
  obtain ⟨C, T, ty0, hc, hin, hty, h1, h2, h3, hfs, hn⟩ := hf
  have hg := hen.2.2.2.2.2.2
  have hk := a1.2.2.1
  refine va_new (Ts := zGT) hx hb hts hin ty0 hty hown (hts _ h1) (hts _ h2) (hts _ h3) hen.1 a1.2.2.2 z_wl_D a2 (fun q hq => Nat.le_trans hg hq) hc hfs (by omega) (by omega) hd (fun q H1 hP1 hD1 hS1 => ?_)
  refine z_facts (fun hF hle => ?_)
  obtain rfl := z_fresh a1.2.1 hP1 hD1 (by omega)
  rw [z_wl_push a1.2.1] at hP1
  refine z_tight (k := q + 1 - s.heap.size) (n := (q + 1 - s.heap.size) * 1312) (by omega) (Nat.le_trans hF.2.2 (by omega)) ?_
  exact kk H1 locs ls (z_HI.mk hP1 (by have := a1.2.1; omega) (by omega) htop) hS1 (by omega) hl
theorem r_newi (hX : z_ok X cc nL own ret nm d G) {n : Int32} {N : Nat} (hw : Cond.arrayClass .int ∈ zGT) (hN : n.toNatClampNeg = N) (hn : ¬ n < 0) (hN2 : N ≤ 1312) (htop : top + 1 ≤ z_b G + 320) (hd : decode cc pc = .ok (.newarray .int, 2)) (kk : z_Z X (va_up h top (.inl (z_aI G, N, .inl (fun _ => 0)))) (top + 1) (pc + 2) lv (.ref top :: rest)) : z_Z X h top pc lv (.int n :: rest) := by
  obtain ⟨p, l, e, R, s, m, args, below, meth, c, Q, G0⟩ := X
  obtain ⟨hx, hb, hml, hown, hts, hr, hlk, hnm, hen, hR, rfl⟩ := hX
  intro H locs ls a1 a2 a3 hl
  have hg := hen.2.2.2.2.2.2
  have hk := a1.2.2.1
  refine va_newa (atype := .int) (ty := .int) (a0 := (N, .inl (fun _ => 0))) hx hb (hts _ hw) rfl hen.1 a1.2.2.2 z_wl_D a2 (fun q hq => Nat.le_trans hg hq) (fun cA => rfl) hn hN (show N * 4 ≤ 536870912 by omega) (by omega) (by omega) hd (fun q cA H1 hK1 hP1 hD1 hS1 => ?_)
  have hcA : cA = z_aI G0 := by
    have e1 := (hK1.2 3 (cA, .int) rfl).2
    have e2 := (hen.1.2 0 (z_aI G0, .int) rfl).2
    exact Option.some.inj (e1.symm.trans e2)
  subst hcA
  refine z_facts (fun hF hle => ?_)
  obtain rfl := z_fresh a1.2.1 hP1 hD1 (by omega)
  rw [z_wl_push a1.2.1] at hP1
  refine z_tight (k := q + 1 - s.heap.size) (n := (q + 1 - s.heap.size) * 1312) (by omega) (Nat.le_trans hF.2.2 (by omega)) ?_
  exact kk H1 locs ls (z_HI.mk hP1 (by have := a1.2.1; omega) (by omega) htop) hS1 (by omega) hl
theorem r_newz (hX : z_ok X cc nL own ret nm d G) {n : Int32} {N : Nat} (hw : Cond.arrayClass .boolean ∈ zGT) (hN : n.toNatClampNeg = N) (hn : ¬ n < 0) (hN2 : N ≤ 1312) (htop : top + 1 ≤ z_b G + 320) (hd : decode cc pc = .ok (.newarray .boolean, 2)) (kk : z_Z X (va_up h top (.inl (z_aZ G, N, .inl (fun _ => 0)))) (top + 1) (pc + 2) lv (.ref top :: rest)) : z_Z X h top pc lv (.int n :: rest) := by
  obtain ⟨p, l, e, R, s, m, args, below, meth, c, Q, G0⟩ := X
  obtain ⟨hx, hb, hml, hown, hts, hr, hlk, hnm, hen, hR, rfl⟩ := hX
  intro H locs ls a1 a2 a3 hl
  have hg := hen.2.2.2.2.2.2
  have hk := a1.2.2.1
  refine va_newa (atype := .boolean) (ty := .boolean) (a0 := (N, .inl (fun _ => 0))) hx hb (hts _ hw) rfl hen.1 a1.2.2.2 z_wl_D a2 (fun q hq => Nat.le_trans hg hq) (fun cA => rfl) hn hN (show N * 1 ≤ 536870912 by omega) (by omega) (by omega) hd (fun q cA H1 hK1 hP1 hD1 hS1 => ?_)
  have hcA : cA = z_aZ G0 := by
    have e1 := (hK1.2 3 (cA, .boolean) rfl).2
    have e2 := (hen.1.2 1 (z_aZ G0, .boolean) rfl).2
    exact Option.some.inj (e1.symm.trans e2)
  subst hcA
  refine z_facts (fun hF hle => ?_)
  obtain rfl := z_fresh a1.2.1 hP1 hD1 (by omega)
  rw [z_wl_push a1.2.1] at hP1
  refine z_tight (k := q + 1 - s.heap.size) (n := (q + 1 - s.heap.size) * 1312) (by omega) (Nat.le_trans hF.2.2 (by omega)) ?_
  exact kk H1 locs ls (z_HI.mk hP1 (by have := a1.2.1; omega) (by omega) htop) hS1 (by omega) hl
theorem r_anew (hX : z_ok X cc nL own ret nm d G) {idx : Nat} {n : Int32} {N : Nat} (hw : Cond.classLink own idx "java/lang/Object" ∈ zGT) (hN : n.toNatClampNeg = N) (hn : ¬ n < 0) (hN2 : N ≤ 1312) (htop : top + 1 ≤ z_b G + 320) (hd : decode cc pc = .ok (.anewarray idx, 3)) (kk : z_Z X (va_up h top (.inl (z_aO G, N, .inr (.inr (.inr (.inr (fun _ => none))))))) (top + 1) (pc + 3) lv (.ref top :: rest)) : z_Z X h top pc lv (.int n :: rest) := by
  obtain ⟨p, l, e, R, s, m, args, below, meth, c, Q, G0⟩ := X
  obtain ⟨hx, hb, hml, hown, hts, hr, hlk, hnm, hen, hR, rfl⟩ := hX
  intro H locs ls a1 a2 a3 hl
  have hg := hen.2.2.2.2.2.2
  have hk := a1.2.2.1
  refine va_newq hx hb hown (hts _ hw) hen.2.2.2.1.2.1 hen.1 a1.2.2.2 z_wl_D a2 (fun q hq => Nat.le_trans hg hq) hn hN (by omega) (by omega) (by omega) hd (fun q cA H1 hK1 hP1 hD1 hS1 => ?_)
  have hcA : cA = z_aO G0 := by
    obtain ⟨-, -, -, -, -, e1⟩ := (hK1.2 3 (cA, .object "java/lang/Object") rfl).2
    obtain ⟨-, -, -, -, -, e2⟩ := (hen.1.2 2 (z_aO G0, .object "java/lang/Object") rfl).2
    exact Option.some.inj (e1.symm.trans e2)
  subst hcA
  refine z_facts (fun hF hle => ?_)
  obtain rfl := z_fresh a1.2.1 hP1 hD1 (by omega)
  rw [z_wl_push a1.2.1] at hP1
  refine z_tight (k := q + 1 - s.heap.size) (n := (q + 1 - s.heap.size) * 1312) (by omega) (Nat.le_trans hF.2.2 (by omega)) ?_
  exact kk H1 locs ls (z_HI.mk hP1 (by have := a1.2.1; omega) (by omega) htop) hS1 (by omega) hl
theorem r_iald (hX : z_ok X cc nL own ret nm d G) {n : Nat} {f : Nat → Int32} {i v : Int32} (ha : z_at G h top a (.inl (z_aI G, n, .inl f))) (hin : vp_in i n) (hv : f i.toNatClampNeg = v) (hd : decode cc pc = .ok (.iaload, 1)) (kk : z_Z X h top (pc + 1) lv (.int v :: rest)) : z_Z X h top pc lv (.int i :: .ref a :: rest) := by
  obtain ⟨p, l, e, R, s, m, args, below, meth, c, Q, G0⟩ := X
  obtain ⟨hx, hb, hml, hown, hts, hr, hlk, hnm, hen, hR, rfl⟩ := hX
  intro H locs ls a1 a2 a3 hl
  subst hv
  exact va_iald hx hb hen.1 a1.2.2.2 (a - z_b G0) 0 (a1.lt ha) rfl hin hd (kk H locs ls a1 a2 a3 hl)
theorem r_zald (hX : z_ok X cc nL own ret nm d G) {n : Nat} {f : Nat → Int32} {i v : Int32} (ha : z_at G h top a (.inl (z_aZ G, n, .inl f))) (hin : vp_in i n) (hv : f i.toNatClampNeg = v) (hd : decode cc pc = .ok (.baload, 1)) (kk : z_Z X h top (pc + 1) lv (.int v :: rest)) : z_Z X h top pc lv (.int i :: .ref a :: rest) := by
  obtain ⟨p, l, e, R, s, m, args, below, meth, c, Q, G0⟩ := X
  obtain ⟨hx, hb, hml, hown, hts, hr, hlk, hnm, hen, hR, rfl⟩ := hX
  intro H locs ls a1 a2 a3 hl
  subst hv
  exact va_zald hx hb hen.1 a1.2.2.2 (a - z_b G0) 1 (a1.lt ha) rfl hin hd (kk H locs ls a1 a2 a3 hl)
theorem r_aald (hX : z_ok X cc nL own ret nm d G) {n : Nat} {f : Nat → Option Nat} {i : Int32} {v : Value} (ha : z_at G h top a (.inl (z_aO G, n, .inr (.inr (.inr (.inr f)))))) (hin : vp_in i n) (hv : va_rf (f i.toNatClampNeg) = v) (hd : decode cc pc = .ok (.aaload, 1)) (kk : z_Z X h top (pc + 1) lv (v :: rest)) : z_Z X h top pc lv (.int i :: .ref a :: rest) := by
  obtain ⟨p, l, e, R, s, m, args, below, meth, c, Q, G0⟩ := X
  obtain ⟨hx, hb, hml, hown, hts, hr, hlk, hnm, hen, hR, rfl⟩ := hX
  intro H locs ls a1 a2 a3 hl
  subst hv
  exact va_aldq (C := "java/lang/Object") hx hb hen.1 a1.2.2.2 (a - z_b G0) 2 (a1.lt ha) rfl hin hd (kk H locs ls a1 a2 a3 hl)
theorem r_iast (hX : z_ok X cc nL own ret nm d G) {n : Nat} {f : Nat → Int32} {i x : Int32} (ha : z_at G h top a (.inl (z_aI G, n, .inl f))) (hin : vp_in i n) (hd : decode cc pc = .ok (.iastore, 1)) (kk : z_Z X (va_up h a (.inl (z_aI G, n, .inl (upd f i.toNatClampNeg x)))) top (pc + 1) lv rest) : z_Z X h top pc lv (.int x :: .int i :: .ref a :: rest) := by
  obtain ⟨p, l, e, R, s, m, args, below, meth, c, Q, G0⟩ := X
  obtain ⟨hx, hb, hml, hown, hts, hr, hlk, hnm, hen, hR, rfl⟩ := hX
  intro H locs ls a1 a2 a3 hl
  refine va_iast hx hb hen.1 a1.2.2.2 z_wl_D a2 (a - z_b G0) 0 (a1.lt ha) rfl hin hd (fun H1 locs1 hP1 hD1 hS1 => ?_)
  refine z_facts (fun hF hle => ?_)
  obtain ⟨g1, g2, g3⟩ := ha
  rw [z_wl_set g1 g2] at hP1
  exact kk H1 locs1 ls (z_HI.mk hP1 (by omega) (by omega) a1.2.2.1) hS1 a3 hl
theorem r_aast (hX : z_ok X cc nL own ret nm d G) {n x : Nat} {f : Nat → Option Nat} {i : Int32} (ha : z_at G h top a (.inl (z_aO G, n, .inr (.inr (.inr (.inr f)))))) (hx9 : z_ob G h top x) (hin : vp_in i n) (hd : decode cc pc = .ok (.aastore, 1)) (kk : z_Z X (va_up h a (.inl (z_aO G, n, .inr (.inr (.inr (.inr (va_up f i.toNatClampNeg (some x)))))))) top (pc + 1) lv rest) : z_Z X h top pc lv (.ref x :: .int i :: .ref a :: rest) := by
  obtain ⟨p, l, e, R, s, m, args, below, meth, c, Q, G0⟩ := X
  obtain ⟨hx, hb, hml, hown, hts, hr, hlk, hnm, hen, hR, rfl⟩ := hX
  intro H locs ls a1 a2 a3 hl
  obtain ⟨ci, fs, r, hat, hci, hcs⟩ := hx9
  refine va_astqO (E := "java/lang/Object") hx hb hen.1 a1.2.2.2 z_wl_D a2 (a - z_b G0) 2 (x - z_b G0) ci (a1.lt ha) rfl (hen.2.2.2.1.2.2 _ hcs) (a1.lt hat) hci hin hd (fun H1 locs1 hP1 hD1 hS1 => ?_)
  refine z_facts (fun hF hle => ?_)
  obtain ⟨g1, g2, g3⟩ := ha
  rw [z_wl_set g1 g2] at hP1
  exact kk H1 locs1 ls (z_HI.mk hP1 (by omega) (by omega) a1.2.2.1) hS1 a3 hl
theorem r_aastN (hX : z_ok X cc nL own ret nm d G) {n : Nat} {f : Nat → Option Nat} {i : Int32} (ha : z_at G h top a (.inl (z_aO G, n, .inr (.inr (.inr (.inr f)))))) (hin : vp_in i n) (hd : decode cc pc = .ok (.aastore, 1)) (kk : z_Z X (va_up h a (.inl (z_aO G, n, .inr (.inr (.inr (.inr (va_up f i.toNatClampNeg none))))))) top (pc + 1) lv rest) : z_Z X h top pc lv (.null :: .int i :: .ref a :: rest) := by
  obtain ⟨p, l, e, R, s, m, args, below, meth, c, Q, G0⟩ := X
  obtain ⟨hx, hb, hml, hown, hts, hr, hlk, hnm, hen, hR, rfl⟩ := hX
  intro H locs ls a1 a2 a3 hl
  refine va_astqN (C := "java/lang/Object") hx hb hen.1 a1.2.2.2 z_wl_D a2 (a - z_b G0) 2 (a1.lt ha) rfl hin hd (fun H1 locs1 hP1 hD1 hS1 => ?_)
  refine z_facts (fun hF hle => ?_)
  obtain ⟨g1, g2, g3⟩ := ha
  rw [z_wl_set g1 g2] at hP1
  exact kk H1 locs1 ls (z_HI.mk hP1 (by omega) (by omega) a1.2.2.1) hS1 a3 hl
theorem r_alenI (hX : z_ok X cc nL own ret nm d G) {n : Nat} {f : Nat → Int32} {v : Int32} (ha : z_at G h top a (.inl (z_aI G, n, .inl f))) (hv : Int32.ofNat n = v) (hd : decode cc pc = .ok (.arraylength, 1)) (kk : z_Z X h top (pc + 1) lv (.int v :: rest)) : z_Z X h top pc lv (.ref a :: rest) := by
  obtain ⟨p, l, e, R, s, m, args, below, meth, c, Q, G0⟩ := X
  obtain ⟨hx, hb, hml, hown, hts, hr, hlk, hnm, hen, hR, rfl⟩ := hX
  intro H locs ls a1 a2 a3 hl
  exact va_alen hx hb hen.1 a1.2.2.2 (a - z_b G0) 0 (a1.lt ha) rfl hv hd (kk H locs ls a1 a2 a3 hl)
theorem r_alenZ (hX : z_ok X cc nL own ret nm d G) {n : Nat} {f : Nat → Int32} {v : Int32} (ha : z_at G h top a (.inl (z_aZ G, n, .inl f))) (hv : Int32.ofNat n = v) (hd : decode cc pc = .ok (.arraylength, 1)) (kk : z_Z X h top (pc + 1) lv (.int v :: rest)) : z_Z X h top pc lv (.ref a :: rest) := by
  obtain ⟨p, l, e, R, s, m, args, below, meth, c, Q, G0⟩ := X
  obtain ⟨hx, hb, hml, hown, hts, hr, hlk, hnm, hen, hR, rfl⟩ := hX
  intro H locs ls a1 a2 a3 hl
  exact va_alen hx hb hen.1 a1.2.2.2 (a - z_b G0) 1 (a1.lt ha) rfl hv hd (kk H locs ls a1 a2 a3 hl)
theorem r_alenO (hX : z_ok X cc nL own ret nm d G) {n : Nat} {f : Nat → Option Nat} {v : Int32} (ha : z_at G h top a (.inl (z_aO G, n, .inr (.inr (.inr (.inr f)))))) (hv : Int32.ofNat n = v) (hd : decode cc pc = .ok (.arraylength, 1)) (kk : z_Z X h top (pc + 1) lv (.int v :: rest)) : z_Z X h top pc lv (.ref a :: rest) := by
  obtain ⟨p, l, e, R, s, m, args, below, meth, c, Q, G0⟩ := X
  obtain ⟨hx, hb, hml, hown, hts, hr, hlk, hnm, hen, hR, rfl⟩ := hX
  intro H locs ls a1 a2 a3 hl
  exact va_alen hx hb hen.1 a1.2.2.2 (a - z_b G0) 2 (a1.lt ha) rfl hv hd (kk H locs ls a1 a2 a3 hl)
theorem r_cast (hX : z_ok X cc nL own ret nm d G) {idx ci N : Nat} {C : String} {T : u_T} {fs : List Value} (hc : vwCl[ci]? = some (C, T, N)) (ha : z_at G h top a (.inr (ci, fs))) (hw : Cond.classLink own idx C ∈ zGT) (hd : decode cc pc = .ok (.checkcast idx, 3)) (kk : z_Z X h top (pc + 3) lv (.ref a :: rest)) : z_Z X h top pc lv (.ref a :: rest) := by
  obtain ⟨p, l, e, R, s, m, args, below, meth, c, Q, G0⟩ := X
  obtain ⟨hx, hb, hml, hown, hts, hr, hlk, hnm, hen, hR, rfl⟩ := hX
  intro H locs ls a1 a2 a3 hl
  exact va_castS hx hb hown (hts _ hw) (hen.1.1 ci _ hc).2 (va_recv hen.1 a1.2.2.2 hc (a1.lt ha)) hd (kk H locs ls a1 a2 a3 hl)

theorem r_getC (hX : z_ok X cc nL own ret nm d G) {idx n : Nat} {f : Nat → Option Nat} (ha : z_at G h top a (.inl (z_aO G, n, .inr (.inr (.inr (.inr f)))))) (h1 : Cond.methodLink own idx ⟨"java/lang/Object", "getClass", "()Ljava/lang/Class;"⟩ ∈ zGT) (h2 : Cond.declares ⟨"java/lang/Object", "getClass", "()Ljava/lang/Class;"⟩ ∈ zNW) (h3 : Cond.selects "[Ljava/lang/Object;" ⟨"java/lang/Object", "getClass", "()Ljava/lang/Class;"⟩ ⟨"java/lang/Object", "getClass", "()Ljava/lang/Class;"⟩ ∈ zGT) (h4 : Cond.instanceMethod ⟨"java/lang/Object", "getClass", "()Ljava/lang/Class;"⟩ ∈ zGT) (h5 : Cond.native ⟨"java/lang/Object", "getClass", "()Ljava/lang/Class;"⟩ ∈ zGT) (hw : (rest.map fun v => v.category).sum ≤ 8) (hd : decode cc pc = .ok (.invokevirtual idx, 3)) (kk : z_Z X h top (pc + 3) lv (.ref (z_mO G) :: rest)) : z_Z X h top pc lv (.ref a :: rest) := by
  obtain ⟨p, l, e, R, s, m, args, below, meth, c, Q, G0⟩ := X
  obtain ⟨hx, hb, hml, hown, hts, hr, hlk, hnm, hen, hR, rfl⟩ := hX
  intro H locs ls a1 a2 a3 hl
  refine va_getC hx hb hl.1.symm hown (hts _ h1) (va_Nw.use rfl (hen.2.2.2.1.2.2 _ h2)) (hts _ h3) (hts _ h4) (hts _ h5) hen.2.2.2.1.1 ?_ (by omega) (by omega) hd (kk H locs ls a1 a2 a3 hl)
  have e := a1.2.2.2 _ _ (a1.lt ha)
  obtain ⟨kA, comp, f1, f2, f3, f4⟩ := (hen.1.2 2 (z_aO G0, .object "java/lang/Object") rfl).2
  exact ⟨_, e, rfl, f4⟩
theorem r_copy (hX : z_ok X cc nL own ret nm d G) {idx a0 n0 n1 : Nat} {f g : Nat → Option Nat} {sp dp n : Int32} (ha0 : z_at G h top a0 (.inl (z_aO G, n0, .inr (.inr (.inr (.inr f)))))) (ha1 : z_at G h top a (.inl (z_aO G, n1, .inr (.inr (.inr (.inr g)))))) (h1 : ¬ sp < 0) (h2 : ¬ dp < 0) (h3 : ¬ n < 0) (h4 : sp.toNatClampNeg + n.toNatClampNeg ≤ n0) (h5 : dp.toNatClampNeg + n.toNatClampNeg ≤ n1) (hel : ∀ i : Nat, i < n.toNatClampNeg → ∀ y : Nat, f (sp.toNatClampNeg + i) = some y → z_ob G h top y)
    (w1 : Cond.methodLink own idx arraycopyName ∈ zGT) (w2 : Cond.native arraycopyName ∈ zGT) (w3 : Cond.static arraycopyName ∈ zGT) (w4 : Cond.initialized "java/lang/System" ∈ zGT) (hroom : (rest.map fun v => v.category).sum + (nativeFrameWords "java/lang/System" "arraycopy" 5 + 11) ≤ 41 * d) (hd : decode cc pc = .ok (.invokestatic idx, 3)) (kk : z_Z X (va_up h a (.inl (z_aO G, n1, .inr (.inr (.inr (.inr (va_cpy f g sp.toNatClampNeg dp.toNatClampNeg n.toNatClampNeg))))))) top (pc + 3) lv rest) : z_Z X h top pc lv (.int n :: .int dp :: .ref a :: .int sp :: .ref a0 :: rest) := by
  obtain ⟨p, l, e, R, s, m, args, below, meth, c, Q, G0⟩ := X
  obtain ⟨hx, hb, hml, hown, hts, hr, hlk, hnm, hen, hR, rfl⟩ := hX
  intro H locs ls a1 a2 a3 hl
  refine va_copyM (E0 := "java/lang/Object") (E1 := "java/lang/Object") hx hb hl.1.symm hown (hts _ w1) (hts _ w2) (hts _ w3) (hts _ w4) hen.1 a1.2.2.2 z_wl_D a2 (a0 - z_b G0) (a - z_b G0) 2 2 (a1.lt ha0) (a1.lt ha1) rfl rfl h1 h2 h3 h4 h5 (fun i hi y hy => ?_) (by omega) (by omega) hd (fun H1 locs1 hP1 hD1 hS1 => ?_)
  · obtain ⟨ci, fs, r, hat, hci, hcs⟩ := hel i hi y hy
    refine va_rAny hen.1 a1.2.2.2 (a1.lt hat) hci (fun comp c0 q1 q2 => ?_)
    obtain ⟨c5, t5, e1, e2, e3⟩ := Cond.castable_spec (hen.2.2.2.1.2.2 _ hcs)
    cases e1.symm.trans q2
    cases e2.symm.trans q1
    exact e3
  · refine z_facts (fun hF hle => ?_)
    obtain ⟨g1, g2, g3⟩ := ha1
    rw [z_wl_set g1 g2] at hP1
    exact kk H1 locs1 ls (z_HI.mk hP1 (by omega) (by omega) a1.2.2.1) hS1 a3 hl
end ZM

/-! the ends -/
section ZE
variable {X : zX} {cc : ByteArray} {nL d : Nat} {own nm : String} {ret : Option FieldType} {G : zG} {h : zH} {top pc : Nat} {lv : List (Nat × Value)} {Post : Option Value → zH → Nat → Prop}

theorem r_iret (hX : z_ok X cc nL own (some .int) nm d G) (hq : z_mq X Post) {v : Int32} (hp : Post (some (.int v)) h top) (hd : decode cc pc = .ok (.ireturn, 1)) : z_Z X h top pc lv [.int v] := by
  obtain ⟨p, l, e, R, s, m, args, below, meth, c, Q, G0⟩ := X
  obtain ⟨hx, hb, hml, hown, hts, hr, hlk, hnm, hen, hR, rfl⟩ := hX
  obtain rfl : Q = _ := hq
  intro H locs ls a1 a2 a3 hl
  have hg := hen.2.2.2.2.2.2
  have hk := a1.2.2.1
  refine z_facts (fun hF hle => ?_)
  refine W.widen (k := R.cells) (n := R.slots) (by omega) (by omega) ?_
  exact W.iret hx hb hr (fun t ht hW => ⟨_, h, top, rfl, hp, by rw [ht]; exact a1, by rw [ht]; exact hF, fun q h1 h2 => by rw [ht]; exact a2.2.1 q h1 h2⟩) a2.2.2 hd hlk
theorem r_zret (hX : z_ok X cc nL own (some .boolean) nm d G) (hq : z_mq X Post) {v : Int32} (hv : v = 0 ∨ v = 1) (hp : Post (some (.int v)) h top) (hd : decode cc pc = .ok (.ireturn, 1)) : z_Z X h top pc lv [.int v] := by
  obtain ⟨p, l, e, R, s, m, args, below, meth, c, Q, G0⟩ := X
  obtain ⟨hx, hb, hml, hown, hts, hr, hlk, hnm, hen, hR, rfl⟩ := hX
  obtain rfl : Q = _ := hq
  intro H locs ls a1 a2 a3 hl
  have hg := hen.2.2.2.2.2.2
  have hk := a1.2.2.1
  refine z_facts (fun hF hle => ?_)
  refine W.widen (k := R.cells) (n := R.slots) (by omega) (by omega) ?_
  exact W.zret hx hb hr (by rcases hv with e | e <;> subst e <;> rfl) (fun t ht hW => ⟨_, h, top, rfl, hp, by rw [ht]; exact a1, by rw [ht]; exact hF, fun q h1 h2 => by rw [ht]; exact a2.2.1 q h1 h2⟩) a2.2.2 hd hlk
theorem r_lret (hX : z_ok X cc nL own (some .long) nm d G) (hq : z_mq X Post) {v : Int64} (hp : Post (some (.long v)) h top) (hd : decode cc pc = .ok (.lreturn, 1)) : z_Z X h top pc lv [.long v] := by
  obtain ⟨p, l, e, R, s, m, args, below, meth, c, Q, G0⟩ := X
  obtain ⟨hx, hb, hml, hown, hts, hr, hlk, hnm, hen, hR, rfl⟩ := hX
  obtain rfl : Q = _ := hq
  intro H locs ls a1 a2 a3 hl
  have hg := hen.2.2.2.2.2.2
  have hk := a1.2.2.1
  refine z_facts (fun hF hle => ?_)
  refine W.widen (k := R.cells) (n := R.slots) (by omega) (by omega) ?_
  exact W.lret hx hb hr (fun t ht hW => ⟨_, h, top, rfl, hp, by rw [ht]; exact a1, by rw [ht]; exact hF, fun q h1 h2 => by rw [ht]; exact a2.2.1 q h1 h2⟩) a2.2.2 hd hlk
theorem r_aret (hX : z_ok X cc nL own ret nm d G) {rt : FieldType} (hrt : ret = some rt) (hrr : (∃ n, rt = .object n) ∨ ∃ t, rt = .array t) (hq : z_mq X Post) {v : Value} (hv : v = .null ∨ ∃ a, v = .ref a) (hp : Post (some v) h top) (hd : decode cc pc = .ok (.areturn, 1)) : z_Z X h top pc lv [v] := by
  obtain ⟨p, l, e, R, s, m, args, below, meth, c, Q, G0⟩ := X
  obtain ⟨hx, hb, hml, hown, hts, hr, hlk, hnm, hen, hR, rfl⟩ := hX
  obtain rfl : Q = _ := hq
  intro H locs ls a1 a2 a3 hl
  have hg := hen.2.2.2.2.2.2
  have hk := a1.2.2.1
  refine z_facts (fun hF hle => ?_)
  refine W.widen (k := R.cells) (n := R.slots) (by omega) (by omega) ?_
  exact W.aret hx hb (hr.trans hrt) hrr hv (fun t ht hW => ⟨_, h, top, rfl, hp, by rw [ht]; exact a1, by rw [ht]; exact hF, fun q h1 h2 => by rw [ht]; exact a2.2.1 q h1 h2⟩) a2.2.2 hd hlk
theorem r_vret (hX : z_ok X cc nL own none nm d G) (hq : z_mq X Post) (hp : Post none h top) (hd : decode cc pc = .ok (.return_, 1)) : z_Z X h top pc lv [] := by
  obtain ⟨p, l, e, R, s, m, args, below, meth, c, Q, G0⟩ := X
  obtain ⟨hx, hb, hml, hown, hts, hr, hlk, hnm, hen, hR, rfl⟩ := hX
  obtain rfl : Q = _ := hq
  intro H locs ls a1 a2 a3 hl
  have hg := hen.2.2.2.2.2.2
  have hk := a1.2.2.1
  refine z_facts (fun hF hle => ?_)
  refine W.widen (k := R.cells) (n := R.slots) (by omega) (by omega) ?_
  exact W.vret hx hb hr (fun t ht hW => ⟨_, h, top, rfl, hp, by rw [ht]; exact a1, by rw [ht]; exact hF, fun q h1 h2 => by rw [ht]; exact a2.2.1 q h1 h2⟩) a2.2.2 hd hlk
end ZE

/-! the calls -/
def z_cV (own : String) (idx : Nat) (C : String) (y : MethodName) (cc : ByteArray) (maxL : Nat) (ret : Option FieldType) (n : Nat) : Prop :=
  Cond.methodLink own idx y ∈ zGT ∧ Cond.instanceMethod y ∈ zGT ∧ Cond.selects C y y ∈ zGT ∧ Cond.initialized C ∈ zGT ∧ Cond.code y cc maxL ret ∈ zGT ∧ maxL ≤ 22 ∧ (y.cls = C ∧ y.cls ≠ "java/lang/invoke/MethodHandle" ∧ y.cls ≠ "java/lang/invoke/VarHandle" ∧ (parseMethodDescriptor y.desc).map (fun d => d.parameters.length) = some n)
def z_cS (own : String) (idx : Nat) (y : MethodName) (cc : ByteArray) (maxL : Nat) (ret : Option FieldType) (n : Nat) : Prop :=
  Cond.methodLink own idx y ∈ zGT ∧ Cond.static y ∈ zGT ∧ Cond.initialized y.cls ∈ zGT ∧ Cond.code y cc maxL ret ∈ zGT ∧ maxL ≤ 22 ∧ (y.cls ≠ "java/lang/invoke/MethodHandle" ∧ y.cls ≠ "java/lang/invoke/VarHandle" ∧ (parseMethodDescriptor y.desc).map (fun d => d.parameters.length) = some n)
def z_cI (own : String) (idx : Nat) (y : MethodName) (cc : ByteArray) (maxL : Nat) (n : Nat) : Prop :=
  Cond.methodLink own idx y ∈ zGT ∧ Cond.instanceMethod y ∈ zGT ∧ Cond.initialized y.cls ∈ zGT ∧ Cond.code y cc maxL none ∈ zGT ∧ maxL ≤ 22 ∧ y.name = "<init>" ∧ (y.cls ≠ "java/lang/invoke/MethodHandle" ∧ y.cls ≠ "java/lang/invoke/VarHandle" ∧ (parseMethodDescriptor y.desc).map (fun d => d.parameters.length) = some n)
def z_cSN (own : String) (idx : Nat) (y : MethodName) (host : String) (cc : ByteArray) (maxL : Nat) (ret : Option FieldType) (n : Nat) : Prop :=
  Cond.methodLinkNest own idx y host ∈ zNW ∧ Cond.static y ∈ zGT ∧ Cond.initialized y.cls ∈ zGT ∧ Cond.code y cc maxL ret ∈ zGT ∧ maxL ≤ 22 ∧ (y.cls ≠ "java/lang/invoke/MethodHandle" ∧ y.cls ≠ "java/lang/invoke/VarHandle" ∧ (parseMethodDescriptor y.desc).map (fun d => d.parameters.length) = some n)
def z_cIN (own : String) (idx : Nat) (y : MethodName) (host : String) (cc : ByteArray) (maxL : Nat) (n : Nat) : Prop :=
  Cond.methodLinkNest own idx y host ∈ zNW ∧ Cond.instanceMethod y ∈ zGT ∧ Cond.initialized y.cls ∈ zGT ∧ Cond.code y cc maxL none ∈ zGT ∧ maxL ≤ 22 ∧ y.name = "<init>" ∧ (y.cls ≠ "java/lang/invoke/MethodHandle" ∧ y.cls ≠ "java/lang/invoke/VarHandle" ∧ (parseMethodDescriptor y.desc).map (fun d => d.parameters.length) = some n)
section ZC
variable {X : zX} {cc : ByteArray} {nL d : Nat} {own nm : String} {ret : Option FieldType} {G : zG} {h : zH} {top pc : Nat} {lv : List (Nat × Value)} {rest : List Value} {a : Nat}
variable {y : MethodName} {cc2 : ByteArray} {maxL d2 n idx : Nat} {ret2 : Option FieldType} {As st0 : List Value} {Post : Option Value → zH → Nat → Prop}
/-- behind a call -/
theorem z_call {p : Program} {l : Launch} {e : Env} {R : Room} {s : State} {m : MethodId} {args : Array Value} {below : List Frame} {meth : Method} {c : Code} {Q : State → Prop} {H : Heap} {locs : List Loc} {ls : Array Slot} {mc ms : Nat} {aa : Array Value}
    (a1 : z_HI G h top H) (a2 : va_S (fun q => z_b G ≤ q) s.heap H locs) (a3 : s.heap.size ≤ top) (hl : lv_has ls c.maxLocals lv)
    (hr : va_Run p l e R s m args below meth c H locs (top - s.heap.size) ((top - s.heap.size) * 1312) mc ms (F0 m pc ls st0) rest (z_Qc G Post aa) (fun q => z_b G ≤ q))
    (kk : ∀ (r : Option Value) (h' : zH) (top' : Nat), Post r h' top' → z_Z (p, l, e, R, s, m, args, below, meth, c, Q, G) h' top' (pc + 3) lv (r.toList ++ rest)) : W p l e R s m args below meth c H locs (top - s.heap.size) ((top - s.heap.size) * 1312) Q (F0 m pc ls st0) := by
  refine z_facts (fun hF hle => ?_)
  intro T hT XX
  obtain ⟨v, st₀, t, T', L, h0, X', hL, e1, e2, ⟨r, h', top', hv, hp, hh, hF2, hk2⟩, stp⟩ := hr T hT XX
  cases hv
  rw [h0] at hF2 hk2
  have hF3 : z_F H T'.heap ((top' - top) * 1312) := by rw [e1, ← a1.1]; exact hF2
  have hF4 := hF.trans hF3
  have hsz : T'.heap.size = top' := by rw [e1]; exact hh.1
  have hle2 : H.size ≤ T'.heap.size := hF3.1
  have hHt := a1.1
  have hS2 : va_S (fun q => z_b G ≤ q) s.heap T'.heap (locs ++ L) := by
    refine ⟨hF4.1, fun q g1 g2 => ?_, fun q hq => ?_⟩
    · rw [e1, hk2 q (Nat.lt_of_lt_of_le g1 hF.1) g2]
      exact a2.2.1 q g1 g2
    · rcases List.mem_append.mp hq with g | g
      · exact a2.2.2 q g
      · exact hL q g
  have X2 := z_stT (k := top' - s.heap.size) (n := (top' - s.heap.size) * 1312) X' (by omega) (Nat.le_trans hF4.2.2 (by omega))
  obtain ⟨t2, b1, b2⟩ := kk v h' top' hp T'.heap (locs ++ L) ls (by rw [e1]; exact hh) hS2 (by omega) hl T' rfl X2
  exact ⟨t2, stp t2 b1, b2⟩
theorem z_pre {s : State} {H : Heap} {locs : List Loc} {av : List Value} (hen : z_EN G s) (a1 : z_HI G h top H) (a2 : va_S (fun q => z_b G ≤ q) s.heap H locs) : PreS s H (va_Pc av (fun U => z_EN G U ∧ z_HI G h top U.heap)) av :=
  ⟨fun a U g mk q => ⟨q.1, q.2.1.calling, q.2.2⟩, fun U hU hW => ⟨rfl, hen.to a2 hU hW, by rw [hU]; exact a1⟩⟩
theorem r_callV (hX : z_ok X cc nL own ret nm d G) {C : String} {ci : Nat} {fs : List Value} (hc : z_cV own idx C y cc2 maxL ret2 n) (hdd : d2 + 1 ≤ d) (hM : ∀ l : Launch, z_Ct l y cc2 maxL ret2 d2 G (.ref a :: As) h top Post) (ha : z_at G h top a (.inr (ci, fs))) (hci : (vwCl[ci]?).map (fun r => r.1) = some C) (hn : As.length = n) (hst : st0 = As.reverse ++ .ref a :: rest) (hw : (rest.map fun v => v.category).sum ≤ 8) (hd : decode cc pc = .ok (.invokevirtual idx, 3))
    (kk : ∀ (r : Option Value) (h' : zH) (top' : Nat), Post r h' top' → z_Z X h' top' (pc + 3) lv (r.toList ++ rest)) : z_Z X h top pc lv st0 := by
  obtain ⟨p, l, e, R, s, m, args, below, meth, c, Q, G0⟩ := X
  obtain ⟨hx, hb, hml, hown, hts, hr, hlk, hnm, hen, hR, rfl⟩ := hX
  intro H locs ls a1 a2 a3 hl
  obtain ⟨w1, w2, w3, w4, w5, hmx, hdn⟩ := hc
  obtain ⟨⟨C', T, N⟩, hci2, hci3⟩ := Option.map_eq_some_iff.mp hci
  obtain rfl : C' = C := hci3
  have hg := hen.2.2.2.2.2.2
  have hk := a1.2.2.1
  refine z_call (pc := pc) (rest := rest) a1 a2 a3 hl (va_runV (Ts := zGT) (As := As) (b := a) ⟨hx, hb, rfl, hown, hts⟩ (hM l) (cwV n hts (ws := Cond.code y cc2 maxL ret2 :: zGT) (fun w hw => by
      unfold wsV at hw
      rcases List.mem_append.mp hw with q | q
      · simp only [List.mem_cons, List.not_mem_nil, or_false] at q
        rcases q with rfl | rfl | rfl | rfl
        · exact ⟨w1, z_good _ w1⟩
        · exact ⟨w2, z_good _ w2⟩
        · exact ⟨w3, z_good _ w3⟩
        · exact ⟨w4, z_good _ w4⟩
      · exact z_goodIn w5 w q) rfl rfl rfl hdn ⟨by show d2 + 1 ≤ _; omega, by show 8 + (maxL + 11) + 41 * d2 ≤ _; omega⟩)
    ⟨(z_pre (av := .ref a :: As) hen a1 a2).1, va_recv hen.1 a1.2.2.2 hci2 (a1.lt ha), (z_pre hen a1 a2).2⟩ rfl hn hl.1 hst (lv_room hw) hd ⟨by omega, by omega⟩) kk
theorem r_callS (hX : z_ok X cc nL own ret nm d G) (hc : z_cS own idx y cc2 maxL ret2 n) (hdd : d2 + 1 ≤ d) (hM : ∀ l : Launch, z_Ct l y cc2 maxL ret2 d2 G As h top Post) (hn : As.length = n) (hst : st0 = As.reverse ++ rest) (hw : (rest.map fun v => v.category).sum ≤ 8) (hd : decode cc pc = .ok (.invokestatic idx, 3))
    (kk : ∀ (r : Option Value) (h' : zH) (top' : Nat), Post r h' top' → z_Z X h' top' (pc + 3) lv (r.toList ++ rest)) : z_Z X h top pc lv st0 := by
  obtain ⟨p, l, e, R, s, m, args, below, meth, c, Q, G0⟩ := X
  obtain ⟨hx, hb, hml, hown, hts, hr, hlk, hnm, hen, hR, rfl⟩ := hX
  intro H locs ls a1 a2 a3 hl
  obtain ⟨w1, w2, w4, w5, hmx, hdn⟩ := hc
  have hg := hen.2.2.2.2.2.2
  have hk := a1.2.2.1
  refine z_call (pc := pc) (rest := rest) a1 a2 a3 hl (va_runS (Ts := zGT) (As := As) ⟨hx, hb, rfl, hown, hts⟩ (hM l) (va_cwS n hts (ws := Cond.code y cc2 maxL ret2 :: zGT) (fun w hw => by
      unfold va_wsS at hw
      rcases List.mem_append.mp hw with q | q
      · simp only [List.mem_cons, List.not_mem_nil, or_false] at q
        rcases q with rfl | rfl | rfl
        · exact ⟨w1, z_good _ w1⟩
        · exact ⟨w2, z_good _ w2⟩
        · exact ⟨w4, z_good _ w4⟩
      · exact z_goodIn w5 w q) rfl rfl rfl hdn ⟨by show d2 + 1 ≤ _; omega, by show 8 + (maxL + 11) + 41 * d2 ≤ _; omega⟩)
    (z_pre hen a1 a2) rfl hn hl.1 hst (lv_room hw) hd ⟨by omega, by omega⟩) kk
theorem r_callI (hX : z_ok X cc nL own ret nm d G) (hc : z_cI own idx y cc2 maxL n) (hdd : d2 + 1 ≤ d) (hM : ∀ l : Launch, z_Ct l y cc2 maxL none d2 G (.ref a :: As) h top Post) (hn : As.length = n) (hst : st0 = As.reverse ++ .ref a :: rest) (hw : (rest.map fun v => v.category).sum ≤ 8) (hd : decode cc pc = .ok (.invokespecial idx, 3))
    (kk : ∀ (r : Option Value) (h' : zH) (top' : Nat), Post r h' top' → z_Z X h' top' (pc + 3) lv (r.toList ++ rest)) : z_Z X h top pc lv st0 := by
  obtain ⟨p, l, e, R, s, m, args, below, meth, c, Q, G0⟩ := X
  obtain ⟨hx, hb, hml, hown, hts, hr, hlk, hnm, hen, hR, rfl⟩ := hX
  intro H locs ls a1 a2 a3 hl
  obtain ⟨w1, w2, w4, w5, hmx, hnI, hdn⟩ := hc
  have hg := hen.2.2.2.2.2.2
  have hk := a1.2.2.1
  refine z_call (pc := pc) (rest := rest) a1 a2 a3 hl (va_runI (Ts := zGT) (As := As) (b := a) ⟨hx, hb, rfl, hown, hts⟩ (hM l) (cwI n hts (ws := Cond.code y cc2 maxL none :: zGT) (z_goodIn w5) rfl rfl rfl (hts _ w4) (hts _ w1) (hts _ w2) hnI hdn ⟨by show d2 + 1 ≤ _; omega, by show 8 + (maxL + 11) + 41 * d2 ≤ _; omega⟩)
    (z_pre hen a1 a2) rfl hn hl.1 hst (lv_room hw) hd ⟨by omega, by omega⟩) kk
theorem r_callSN (hX : z_ok X cc nL own ret nm d G) {host : String} (hc : z_cSN own idx y host cc2 maxL ret2 n) (hdd : d2 + 1 ≤ d) (hM : ∀ l : Launch, z_Ct l y cc2 maxL ret2 d2 G As h top Post) (hn : As.length = n) (hst : st0 = As.reverse ++ rest) (hw : (rest.map fun v => v.category).sum ≤ 8) (hd : decode cc pc = .ok (.invokestatic idx, 3))
    (kk : ∀ (r : Option Value) (h' : zH) (top' : Nat), Post r h' top' → z_Z X h' top' (pc + 3) lv (r.toList ++ rest)) : z_Z X h top pc lv st0 := by
  obtain ⟨p, l, e, R, s, m, args, below, meth, c, Q, G0⟩ := X
  obtain ⟨hx, hb, hml, hown, hts, hr, hlk, hnm, hen, hR, rfl⟩ := hX
  intro H locs ls a1 a2 a3 hl
  obtain ⟨w1, w2, w4, w5, hmx, hdn⟩ := hc
  have hg := hen.2.2.2.2.2.2
  have hk := a1.2.2.1
  refine z_call (pc := pc) (rest := rest) a1 a2 a3 hl (va_runSN (Ts := zGT) (As := As) ⟨hx, hb, rfl, hown, hts⟩ (hM l) ⟨va_cnB n hts (ws := Cond.code y cc2 maxL ret2 :: zGT) (z_goodIn w5) rfl rfl rfl (hen.2.2.2.1.2.2 _ w1) (hts _ w4) hdn ⟨by show d2 + 1 ≤ _; omega, by show 8 + (maxL + 11) + 41 * d2 ≤ _; omega⟩, hts _ w2, trivial⟩
    (z_pre hen a1 a2) rfl hn hl.1 hst (lv_room hw) hd ⟨by omega, by omega⟩) kk
theorem r_callIN (hX : z_ok X cc nL own ret nm d G) {host : String} (hc : z_cIN own idx y host cc2 maxL n) (hdd : d2 + 1 ≤ d) (hM : ∀ l : Launch, z_Ct l y cc2 maxL none d2 G (.ref a :: As) h top Post) (hn : As.length = n) (hst : st0 = As.reverse ++ .ref a :: rest) (hw : (rest.map fun v => v.category).sum ≤ 8) (hd : decode cc pc = .ok (.invokespecial idx, 3))
    (kk : ∀ (r : Option Value) (h' : zH) (top' : Nat), Post r h' top' → z_Z X h' top' (pc + 3) lv (r.toList ++ rest)) : z_Z X h top pc lv st0 := by
  obtain ⟨p, l, e, R, s, m, args, below, meth, c, Q, G0⟩ := X
  obtain ⟨hx, hb, hml, hown, hts, hr, hlk, hnm, hen, hR, rfl⟩ := hX
  intro H locs ls a1 a2 a3 hl
  obtain ⟨w1, w2, w4, w5, hmx, hnI, hdn⟩ := hc
  have hg := hen.2.2.2.2.2.2
  have hk := a1.2.2.1
  refine z_call (pc := pc) (rest := rest) a1 a2 a3 hl (va_runIN (Ts := zGT) (As := As) (b := a) ⟨hx, hb, rfl, hown, hts⟩ (hM l) ⟨va_cnB n hts (ws := Cond.code y cc2 maxL none :: zGT) (z_goodIn w5) rfl rfl rfl (hen.2.2.2.1.2.2 _ w1) (hts _ w4) hdn ⟨by show d2 + 1 ≤ _; omega, by show 8 + (maxL + 11) + 41 * d2 ≤ _; omega⟩, hnI, hts _ w2⟩
    (z_pre hen a1 a2) rfl hn hl.1 hst (lv_room hw) hd ⟨by omega, by omega⟩) kk
end ZC

