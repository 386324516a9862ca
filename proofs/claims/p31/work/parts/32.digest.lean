/-! the checksum -/
set_option maxRecDepth 20000 in
set_option maxHeartbeats 4000000 in
theorem f_dg1_step {X : zX} {G : zG} {h : zH} {top : Nat} {Post : Option Value → zH → Nat → Prop} (s : zS) (be : zB) (H : z_St G s be h top) (d0 : Int64) (kk : ∀ d : Int64, d = (zm_iter (zm_many s) 15 d0) → z_Z X h top 28 [(1, .long d), (0, .ref (z_b G))] []) (k i : Nat) (d : Int64) (hk : 15 - i < k + 1) (hi : i ≤ 15) (hinv : d = (zm_iter (zm_many s) i d0)) (ih : ∀ (i : Nat) (d : Int64), 15 - i < k → i ≤ 15 → (d = (zm_iter (zm_many s) i d0)) → z_Z X h top 6 [(3, .int (nI i)), (1, .long d), (0, .ref (z_b G))] []) (hX : z_ok X cX8_digest 5 RX8 (some .long) "digest" 14 G) (hq : z_mq X (Post)) : z_Z X h top 6 [(3, .int (nI i)), (1, .long d), (0, .ref (z_b G))] [] := by
  have hha := H.hall
  have hbd := H.2.2.1.2.2
  refine r_iload_n hX rfl 0 rfl dX8_digest_6 ?_
  refine r_bipush (v := 14) hX (by decide) dX8_digest_7 ?_
  refine r_icmp_gt (tgt := 28) hX dX8_digest_9 rfl (fun c9 => ?_) (fun c9 => ?_)
  · skip
    refine r_lv [1, 2] (lv2 := [(1, .long d), (0, .ref (z_b G))]) rfl ?_
    exact kk _ (hinv.trans (by rw [(ge_gt (n := 14) (by omega) hi c9)]))
  · skip
    have hlt : i < 15 := lt_gt (n := 14) (by omega) c9
    refine r_lload_n hX rfl 1 rfl dX8_digest_12 ?_
    refine r_aload_n hX rfl 2 rfl dX8_digest_13 ?_
    refine r_iload_n hX rfl 0 rfl dX8_digest_14 ?_
    refine r_callVR (As := [.int (nI i)]) (rest := [.long d]) (rv := some (.int (zm_many s i))) (st1 := [.int (zm_many s i), .long d]) hX cs_X8_324 (by decide) (fun l => c_many l G h top s be H i (by omega)) hha rfl rfl rfl rfl (Nat.le_of_ble_eq_true rfl) dX8_digest_15 ?_
    refine r_callSR (As := [.long d, .int (zm_many s i)]) (rest := []) (rv := some (.long (zf_fold d (zm_many s i)))) (st1 := [.long (zf_fold d (zm_many s i))]) hX cs_X8_327 (by decide) (fun l => c_X8_fold l G h top d (zm_many s i)) rfl rfl rfl (Nat.le_of_ble_eq_true rfl) dX8_digest_18 ?_
    refine r_lstore_n (lv' := [(1, .long (zf_fold d (zm_many s i))), (3, .int (nI i)), (0, .ref (z_b G))]) hX rfl (by decide) rfl dX8_digest_21 ?_
    refine r_iinc (q := 1) (lv' := [(3, .int ((nI i) + 1)), (1, .long (zf_fold d (zm_many s i))), (0, .ref (z_b G))]) hX rfl rfl (by decide) rfl dX8_digest_22 ?_
    refine r_goto (tgt := 6) hX rfl dX8_digest_25 ?_
    refine r_lv [0, 1, 2] (lv2 := [(3, .int (nI i + 1)), (1, .long (zf_fold d (zm_many s i))), (0, .ref (z_b G))]) rfl ?_
    rw [nI_1]
    exact ih (i + 1) _ (by omega) (by omega) (by rw [hinv]; rfl)

theorem f_dg1 {X : zX} {G : zG} {h : zH} {top : Nat} {Post : Option Value → zH → Nat → Prop} (s : zS) (be : zB) (H : z_St G s be h top) (d0 : Int64) (kk : ∀ d : Int64, d = (zm_iter (zm_many s) 15 d0) → z_Z X h top 28 [(1, .long d), (0, .ref (z_b G))] []) (hX : z_ok X cX8_digest 5 RX8 (some .long) "digest" 14 G) (hq : z_mq X Post) : ∀ (k i : Nat) (d : Int64), 15 - i < k → i ≤ 15 → (d = (zm_iter (zm_many s) i d0)) → z_Z X h top 6 [(3, .int (nI i)), (1, .long d), (0, .ref (z_b G))] [] := by
  intro k
  induction k with
  | zero => intros; omega
  | succ k ih => intro i d hk hi hinv; exact f_dg1_step s be H d0 kk k i d hk hi hinv ih hX hq
set_option maxRecDepth 20000 in
set_option maxHeartbeats 4000000 in
theorem f_dg2i_step {X : zX} {G : zG} {h : zH} {top : Nat} {Post : Option Value → zH → Nat → Prop} (s : zS) (be : zB) (H : z_St G s be h top) (kr : Nat) (x : zSeg) (hx : (s_segs s)[kr]? = some x) (d0 : Int64) (kk : ∀ d : Int64, d = (zm_iter (zm_ofSeg x) 5 d0) → z_Z X h top 68 [(1, .long d), (3, .int (nI kr)), (0, .ref (z_b G))] []) (k i : Nat) (d : Int64) (hk : 5 - i < k + 1) (hi : i ≤ 5) (hinv : d = (zm_iter (zm_ofSeg x) i d0)) (ih : ∀ (i : Nat) (d : Int64), 5 - i < k → i ≤ 5 → (d = (zm_iter (zm_ofSeg x) i d0)) → z_Z X h top 44 [(4, .int (nI i)), (1, .long d), (3, .int (nI kr)), (0, .ref (z_b G))] []) (hX : z_ok X cX8_digest 5 RX8 (some .long) "digest" 14 G) (hq : z_mq X (Post)) : z_Z X h top 44 [(4, .int (nI i)), (1, .long d), (3, .int (nI kr)), (0, .ref (z_b G))] [] := by
  have hha := H.hall
  have hbd := H.2.2.1.2.2
  refine r_iload hX 0 rfl dX8_digest_44 ?_
  refine r_iconst (v := 4) hX (by decide) dX8_digest_46 ?_
  refine r_icmp_gt (tgt := 68) hX dX8_digest_47 rfl (fun c47 => ?_) (fun c47 => ?_)
  · skip
    refine r_lv [1, 2, 3] (lv2 := [(1, .long d), (3, .int (nI kr)), (0, .ref (z_b G))]) rfl ?_
    exact kk _ (hinv.trans (by rw [(ge_gt (n := 4) (by omega) hi c47)]))
  · skip
    have hlt : i < 5 := lt_gt (n := 4) (by omega) c47
    refine r_lload_n hX rfl 1 rfl dX8_digest_50 ?_
    refine r_aload_n hX rfl 3 rfl dX8_digest_51 ?_
    refine r_iload_n hX rfl 2 rfl dX8_digest_52 ?_
    refine r_iload hX 0 rfl dX8_digest_53 ?_
    refine r_callVR (As := [.int (nI kr), .int (nI i)]) (rest := [.long d]) (rv := some (.int (zm_ofSeg x i))) (st1 := [.int (zm_ofSeg x i), .long d]) hX cs_X8_331 (by decide) (fun l => c_ofSeg l G h top s be H kr x hx i (by omega)) hha rfl rfl rfl rfl (Nat.le_of_ble_eq_true rfl) dX8_digest_55 ?_
    refine r_callSR (As := [.long d, .int (zm_ofSeg x i)]) (rest := []) (rv := some (.long (zf_fold d (zm_ofSeg x i)))) (st1 := [.long (zf_fold d (zm_ofSeg x i))]) hX cs_X8_327 (by decide) (fun l => c_X8_fold l G h top d (zm_ofSeg x i)) rfl rfl rfl (Nat.le_of_ble_eq_true rfl) dX8_digest_58 ?_
    refine r_lstore_n (lv' := [(1, .long (zf_fold d (zm_ofSeg x i))), (4, .int (nI i)), (3, .int (nI kr)), (0, .ref (z_b G))]) hX rfl (by decide) rfl dX8_digest_61 ?_
    refine r_iinc (q := 1) (lv' := [(4, .int ((nI i) + 1)), (1, .long (zf_fold d (zm_ofSeg x i))), (3, .int (nI kr)), (0, .ref (z_b G))]) hX rfl rfl (by decide) rfl dX8_digest_62 ?_
    refine r_goto (tgt := 44) hX rfl dX8_digest_65 ?_
    refine r_lv [0, 1, 2, 3] (lv2 := [(4, .int (nI i + 1)), (1, .long (zf_fold d (zm_ofSeg x i))), (3, .int (nI kr)), (0, .ref (z_b G))]) rfl ?_
    rw [nI_1]
    exact ih (i + 1) _ (by omega) (by omega) (by rw [hinv]; rfl)

theorem f_dg2i {X : zX} {G : zG} {h : zH} {top : Nat} {Post : Option Value → zH → Nat → Prop} (s : zS) (be : zB) (H : z_St G s be h top) (kr : Nat) (x : zSeg) (hx : (s_segs s)[kr]? = some x) (d0 : Int64) (kk : ∀ d : Int64, d = (zm_iter (zm_ofSeg x) 5 d0) → z_Z X h top 68 [(1, .long d), (3, .int (nI kr)), (0, .ref (z_b G))] []) (hX : z_ok X cX8_digest 5 RX8 (some .long) "digest" 14 G) (hq : z_mq X Post) : ∀ (k i : Nat) (d : Int64), 5 - i < k → i ≤ 5 → (d = (zm_iter (zm_ofSeg x) i d0)) → z_Z X h top 44 [(4, .int (nI i)), (1, .long d), (3, .int (nI kr)), (0, .ref (z_b G))] [] := by
  intro k
  induction k with
  | zero => intros; omega
  | succ k ih => intro i d hk hi hinv; exact f_dg2i_step s be H kr x hx d0 kk k i d hk hi hinv ih hX hq
set_option maxRecDepth 20000 in
set_option maxHeartbeats 4000000 in
theorem f_dg2_step {X : zX} {G : zG} {h : zH} {top : Nat} {Post : Option Value → zH → Nat → Prop} (s : zS) (be : zB) (H : z_St G s be h top) (d0 : Int64) (kk : ∀ d : Int64, d = (zm_iter2 (zm_gseg s) 5 (s_segs s).length d0) → z_Z X h top 74 [(1, .long d), (0, .ref (z_b G))] []) (k i : Nat) (d : Int64) (hk : (s_segs s).length - i < k + 1) (hi : i ≤ (s_segs s).length) (hinv : d = (zm_iter2 (zm_gseg s) 5 i d0)) (ih : ∀ (i : Nat) (d : Int64), (s_segs s).length - i < k → i ≤ (s_segs s).length → (d = (zm_iter2 (zm_gseg s) 5 i d0)) → z_Z X h top 30 [(3, .int (nI i)), (1, .long d), (0, .ref (z_b G))] []) (hX : z_ok X cX8_digest 5 RX8 (some .long) "digest" 14 G) (hq : z_mq X (Post)) : z_Z X h top 30 [(3, .int (nI i)), (1, .long d), (0, .ref (z_b G))] [] := by
  have hha := H.hall
  have hbd := H.2.2.1.2.2
  have hl0 := H.l0
  have hl01 := hl0.1
  refine r_iload_n hX rfl 0 rfl dX8_digest_30 ?_
  refine r_aload_n hX rfl 2 rfl dX8_digest_31 ?_
  refine r_getf hX fl_X8_10 hha rfl dX8_digest_32 ?_
  refine r_callVR (As := []) (rest := [.int (nI i)]) (rv := some (.int (nI (s_segs s).length))) (st1 := [.int (nI (s_segs s).length), .int (nI i)]) hX cs_X8_69 (by decide) (fun l => z_size hl0 l) hl01 rfl rfl rfl rfl (Nat.le_of_ble_eq_true rfl) dX8_digest_35 ?_
  refine r_icmp_ge (tgt := 74) hX dX8_digest_38 rfl (fun c38 => ?_) (fun c38 => ?_)
  · skip
    refine r_lv [1, 2] (lv2 := [(1, .long d), (0, .ref (z_b G))]) rfl ?_
    exact kk _ (hinv.trans (by rw [(ge_n (n := (s_segs s).length) (by omega) hi c38)]))
  · skip
    have hlt : i < (s_segs s).length := lt_n (by omega) c38
    obtain ⟨x, hx⟩ : ∃ x, (s_segs s)[i]? = some x := ⟨_, List.getElem?_eq_getElem hlt⟩
    have eF : zm_gseg s i = zm_ofSeg x := by unfold zm_gseg; rw [hx]; rfl
    refine r_iconst (v := 0) hX (by decide) dX8_digest_41 ?_
    refine r_istore (lv' := [(4, .int 0), (3, .int (nI i)), (1, .long d), (0, .ref (z_b G))]) hX (by decide) rfl dX8_digest_42 ?_
    refine r_lv [0, 2, 1, 3] (lv2 := [(4, .int 0), (1, .long d), (3, .int (nI i)), (0, .ref (z_b G))]) rfl ?_
    refine f_dg2i s be H i x hx d (fun d2 e2 => ?_) hX hq (5 + 1) 0 d (by omega) (by omega) rfl
    refine r_iinc (q := 1) (lv' := [(3, .int ((nI i) + 1)), (1, .long d2), (0, .ref (z_b G))]) hX rfl rfl (by decide) rfl dX8_digest_68 ?_
    refine r_goto (tgt := 30) hX rfl dX8_digest_71 ?_
    refine r_lv [0, 1, 2] (lv2 := [(3, .int (nI i + 1)), (1, .long d2), (0, .ref (z_b G))]) rfl ?_
    rw [nI_1]
    exact ih (i + 1) _ (by omega) (by omega) (by rw [e2, hinv, ← eF]; rfl)

theorem f_dg2 {X : zX} {G : zG} {h : zH} {top : Nat} {Post : Option Value → zH → Nat → Prop} (s : zS) (be : zB) (H : z_St G s be h top) (d0 : Int64) (kk : ∀ d : Int64, d = (zm_iter2 (zm_gseg s) 5 (s_segs s).length d0) → z_Z X h top 74 [(1, .long d), (0, .ref (z_b G))] []) (hX : z_ok X cX8_digest 5 RX8 (some .long) "digest" 14 G) (hq : z_mq X Post) : ∀ (k i : Nat) (d : Int64), (s_segs s).length - i < k → i ≤ (s_segs s).length → (d = (zm_iter2 (zm_gseg s) 5 i d0)) → z_Z X h top 30 [(3, .int (nI i)), (1, .long d), (0, .ref (z_b G))] [] := by
  intro k
  induction k with
  | zero => intros; omega
  | succ k ih => intro i d hk hi hinv; exact f_dg2_step s be H d0 kk k i d hk hi hinv ih hX hq
set_option maxRecDepth 20000 in
set_option maxHeartbeats 4000000 in
theorem f_dg3i_step {X : zX} {G : zG} {h : zH} {top : Nat} {Post : Option Value → zH → Nat → Prop} (s : zS) (be : zB) (H : z_St G s be h top) (kr : Nat) (hkr : kr < 4) (d0 : Int64) (kk : ∀ d : Int64, d = (zm_iter (zm_ofOwn s kr) 4 d0) → z_Z X h top 108 [(1, .long d), (3, .int (nI kr)), (0, .ref (z_b G))] []) (k i : Nat) (d : Int64) (hk : 4 - i < k + 1) (hi : i ≤ 4) (hinv : d = (zm_iter (zm_ofOwn s kr) i d0)) (ih : ∀ (i : Nat) (d : Int64), 4 - i < k → i ≤ 4 → (d = (zm_iter (zm_ofOwn s kr) i d0)) → z_Z X h top 84 [(4, .int (nI i)), (1, .long d), (3, .int (nI kr)), (0, .ref (z_b G))] []) (hX : z_ok X cX8_digest 5 RX8 (some .long) "digest" 14 G) (hq : z_mq X (Post)) : z_Z X h top 84 [(4, .int (nI i)), (1, .long d), (3, .int (nI kr)), (0, .ref (z_b G))] [] := by
  have hha := H.hall
  have hbd := H.2.2.1.2.2
  refine r_iload hX 0 rfl dX8_digest_84 ?_
  refine r_iconst (v := 3) hX (by decide) dX8_digest_86 ?_
  refine r_icmp_gt (tgt := 108) hX dX8_digest_87 rfl (fun c87 => ?_) (fun c87 => ?_)
  · skip
    refine r_lv [1, 2, 3] (lv2 := [(1, .long d), (3, .int (nI kr)), (0, .ref (z_b G))]) rfl ?_
    exact kk _ (hinv.trans (by rw [(ge_gt (n := 3) (by omega) hi c87)]))
  · skip
    have hlt : i < 4 := lt_gt (n := 3) (by omega) c87
    refine r_lload_n hX rfl 1 rfl dX8_digest_90 ?_
    refine r_aload_n hX rfl 3 rfl dX8_digest_91 ?_
    refine r_iload_n hX rfl 2 rfl dX8_digest_92 ?_
    refine r_iload hX 0 rfl dX8_digest_93 ?_
    refine r_callVR (As := [.int (nI kr), .int (nI i)]) (rest := [.long d]) (rv := some (.int (zm_ofOwn s kr i))) (st1 := [.int (zm_ofOwn s kr i), .long d]) hX cs_X8_334 (by decide) (fun l => c_ofOwn l G h top s be H kr hkr i (by omega)) hha rfl rfl rfl rfl (Nat.le_of_ble_eq_true rfl) dX8_digest_95 ?_
    refine r_callSR (As := [.long d, .int (zm_ofOwn s kr i)]) (rest := []) (rv := some (.long (zf_fold d (zm_ofOwn s kr i)))) (st1 := [.long (zf_fold d (zm_ofOwn s kr i))]) hX cs_X8_327 (by decide) (fun l => c_X8_fold l G h top d (zm_ofOwn s kr i)) rfl rfl rfl (Nat.le_of_ble_eq_true rfl) dX8_digest_98 ?_
    refine r_lstore_n (lv' := [(1, .long (zf_fold d (zm_ofOwn s kr i))), (4, .int (nI i)), (3, .int (nI kr)), (0, .ref (z_b G))]) hX rfl (by decide) rfl dX8_digest_101 ?_
    refine r_iinc (q := 1) (lv' := [(4, .int ((nI i) + 1)), (1, .long (zf_fold d (zm_ofOwn s kr i))), (3, .int (nI kr)), (0, .ref (z_b G))]) hX rfl rfl (by decide) rfl dX8_digest_102 ?_
    refine r_goto (tgt := 84) hX rfl dX8_digest_105 ?_
    refine r_lv [0, 1, 2, 3] (lv2 := [(4, .int (nI i + 1)), (1, .long (zf_fold d (zm_ofOwn s kr i))), (3, .int (nI kr)), (0, .ref (z_b G))]) rfl ?_
    rw [nI_1]
    exact ih (i + 1) _ (by omega) (by omega) (by rw [hinv]; rfl)

theorem f_dg3i {X : zX} {G : zG} {h : zH} {top : Nat} {Post : Option Value → zH → Nat → Prop} (s : zS) (be : zB) (H : z_St G s be h top) (kr : Nat) (hkr : kr < 4) (d0 : Int64) (kk : ∀ d : Int64, d = (zm_iter (zm_ofOwn s kr) 4 d0) → z_Z X h top 108 [(1, .long d), (3, .int (nI kr)), (0, .ref (z_b G))] []) (hX : z_ok X cX8_digest 5 RX8 (some .long) "digest" 14 G) (hq : z_mq X Post) : ∀ (k i : Nat) (d : Int64), 4 - i < k → i ≤ 4 → (d = (zm_iter (zm_ofOwn s kr) i d0)) → z_Z X h top 84 [(4, .int (nI i)), (1, .long d), (3, .int (nI kr)), (0, .ref (z_b G))] [] := by
  intro k
  induction k with
  | zero => intros; omega
  | succ k ih => intro i d hk hi hinv; exact f_dg3i_step s be H kr hkr d0 kk k i d hk hi hinv ih hX hq
set_option maxRecDepth 20000 in
set_option maxHeartbeats 4000000 in
theorem f_dg3_step {X : zX} {G : zG} {h : zH} {top : Nat} {Post : Option Value → zH → Nat → Prop} (s : zS) (be : zB) (H : z_St G s be h top) (d0 : Int64) (kk : ∀ d : Int64, d = (zm_iter2 (zm_ofOwn s) 4 4 d0) → z_Z X h top 114 [(1, .long d), (0, .ref (z_b G))] []) (k i : Nat) (d : Int64) (hk : 4 - i < k + 1) (hi : i ≤ 4) (hinv : d = (zm_iter2 (zm_ofOwn s) 4 i d0)) (ih : ∀ (i : Nat) (d : Int64), 4 - i < k → i ≤ 4 → (d = (zm_iter2 (zm_ofOwn s) 4 i d0)) → z_Z X h top 76 [(3, .int (nI i)), (1, .long d), (0, .ref (z_b G))] []) (hX : z_ok X cX8_digest 5 RX8 (some .long) "digest" 14 G) (hq : z_mq X (Post)) : z_Z X h top 76 [(3, .int (nI i)), (1, .long d), (0, .ref (z_b G))] [] := by
  have hha := H.hall
  have hbd := H.2.2.1.2.2
  refine r_iload_n hX rfl 0 rfl dX8_digest_76 ?_
  refine r_iconst (v := 4) hX (by decide) dX8_digest_77 ?_
  refine r_icmp_ge (tgt := 114) hX dX8_digest_78 rfl (fun c78 => ?_) (fun c78 => ?_)
  · skip
    refine r_lv [1, 2] (lv2 := [(1, .long d), (0, .ref (z_b G))]) rfl ?_
    exact kk _ (hinv.trans (by rw [(ge_n (n := 4) (by omega) hi c78)]))
  · skip
    have hlt : i < 4 := lt_n (by omega) c78
    refine r_iconst (v := 0) hX (by decide) dX8_digest_81 ?_
    refine r_istore (lv' := [(4, .int 0), (3, .int (nI i)), (1, .long d), (0, .ref (z_b G))]) hX (by decide) rfl dX8_digest_82 ?_
    refine r_lv [0, 2, 1, 3] (lv2 := [(4, .int 0), (1, .long d), (3, .int (nI i)), (0, .ref (z_b G))]) rfl ?_
    refine f_dg3i s be H i hlt d (fun d2 e2 => ?_) hX hq (4 + 1) 0 d (by omega) (by omega) rfl
    refine r_iinc (q := 1) (lv' := [(3, .int ((nI i) + 1)), (1, .long d2), (0, .ref (z_b G))]) hX rfl rfl (by decide) rfl dX8_digest_108 ?_
    refine r_goto (tgt := 76) hX rfl dX8_digest_111 ?_
    refine r_lv [0, 1, 2] (lv2 := [(3, .int (nI i + 1)), (1, .long d2), (0, .ref (z_b G))]) rfl ?_
    rw [nI_1]
    exact ih (i + 1) _ (by omega) (by omega) (by rw [e2, hinv]; rfl)

theorem f_dg3 {X : zX} {G : zG} {h : zH} {top : Nat} {Post : Option Value → zH → Nat → Prop} (s : zS) (be : zB) (H : z_St G s be h top) (d0 : Int64) (kk : ∀ d : Int64, d = (zm_iter2 (zm_ofOwn s) 4 4 d0) → z_Z X h top 114 [(1, .long d), (0, .ref (z_b G))] []) (hX : z_ok X cX8_digest 5 RX8 (some .long) "digest" 14 G) (hq : z_mq X Post) : ∀ (k i : Nat) (d : Int64), 4 - i < k → i ≤ 4 → (d = (zm_iter2 (zm_ofOwn s) 4 i d0)) → z_Z X h top 76 [(3, .int (nI i)), (1, .long d), (0, .ref (z_b G))] [] := by
  intro k
  induction k with
  | zero => intros; omega
  | succ k ih => intro i d hk hi hinv; exact f_dg3_step s be H d0 kk k i d hk hi hinv ih hX hq
set_option maxRecDepth 20000 in
set_option maxHeartbeats 4000000 in
theorem f_dg4i_step {X : zX} {G : zG} {h : zH} {top : Nat} {Post : Option Value → zH → Nat → Prop} (s : zS) (be : zB) (H : z_St G s be h top) (kr : Nat) (y : zSgt) (hy : (s_sgts s)[kr]? = some y) (d0 : Int64) (kk : ∀ d : Int64, d = (zm_iter (zm_ofSgt s y) 5 d0) → z_Z X h top 154 [(1, .long d), (3, .int (nI kr)), (0, .ref (z_b G))] []) (k i : Nat) (d : Int64) (hk : 5 - i < k + 1) (hi : i ≤ 5) (hinv : d = (zm_iter (zm_ofSgt s y) i d0)) (ih : ∀ (i : Nat) (d : Int64), 5 - i < k → i ≤ 5 → (d = (zm_iter (zm_ofSgt s y) i d0)) → z_Z X h top 130 [(4, .int (nI i)), (1, .long d), (3, .int (nI kr)), (0, .ref (z_b G))] []) (hX : z_ok X cX8_digest 5 RX8 (some .long) "digest" 14 G) (hq : z_mq X (Post)) : z_Z X h top 130 [(4, .int (nI i)), (1, .long d), (3, .int (nI kr)), (0, .ref (z_b G))] [] := by
  have hha := H.hall
  have hbd := H.2.2.1.2.2
  refine r_iload hX 0 rfl dX8_digest_130 ?_
  refine r_iconst (v := 4) hX (by decide) dX8_digest_132 ?_
  refine r_icmp_gt (tgt := 154) hX dX8_digest_133 rfl (fun c133 => ?_) (fun c133 => ?_)
  · skip
    refine r_lv [1, 2, 3] (lv2 := [(1, .long d), (3, .int (nI kr)), (0, .ref (z_b G))]) rfl ?_
    exact kk _ (hinv.trans (by rw [(ge_gt (n := 4) (by omega) hi c133)]))
  · skip
    have hlt : i < 5 := lt_gt (n := 4) (by omega) c133
    refine r_lload_n hX rfl 1 rfl dX8_digest_136 ?_
    refine r_aload_n hX rfl 3 rfl dX8_digest_137 ?_
    refine r_iload_n hX rfl 2 rfl dX8_digest_138 ?_
    refine r_iload hX 0 rfl dX8_digest_139 ?_
    refine r_callVR (As := [.int (nI kr), .int (nI i)]) (rest := [.long d]) (rv := some (.int (zm_ofSgt s y i))) (st1 := [.int (zm_ofSgt s y i), .long d]) hX cs_X8_337 (by decide) (fun l => c_ofSgt l G h top s be H kr y hy i (by omega)) hha rfl rfl rfl rfl (Nat.le_of_ble_eq_true rfl) dX8_digest_141 ?_
    refine r_callSR (As := [.long d, .int (zm_ofSgt s y i)]) (rest := []) (rv := some (.long (zf_fold d (zm_ofSgt s y i)))) (st1 := [.long (zf_fold d (zm_ofSgt s y i))]) hX cs_X8_327 (by decide) (fun l => c_X8_fold l G h top d (zm_ofSgt s y i)) rfl rfl rfl (Nat.le_of_ble_eq_true rfl) dX8_digest_144 ?_
    refine r_lstore_n (lv' := [(1, .long (zf_fold d (zm_ofSgt s y i))), (4, .int (nI i)), (3, .int (nI kr)), (0, .ref (z_b G))]) hX rfl (by decide) rfl dX8_digest_147 ?_
    refine r_iinc (q := 1) (lv' := [(4, .int ((nI i) + 1)), (1, .long (zf_fold d (zm_ofSgt s y i))), (3, .int (nI kr)), (0, .ref (z_b G))]) hX rfl rfl (by decide) rfl dX8_digest_148 ?_
    refine r_goto (tgt := 130) hX rfl dX8_digest_151 ?_
    refine r_lv [0, 1, 2, 3] (lv2 := [(4, .int (nI i + 1)), (1, .long (zf_fold d (zm_ofSgt s y i))), (3, .int (nI kr)), (0, .ref (z_b G))]) rfl ?_
    rw [nI_1]
    exact ih (i + 1) _ (by omega) (by omega) (by rw [hinv]; rfl)

theorem f_dg4i {X : zX} {G : zG} {h : zH} {top : Nat} {Post : Option Value → zH → Nat → Prop} (s : zS) (be : zB) (H : z_St G s be h top) (kr : Nat) (y : zSgt) (hy : (s_sgts s)[kr]? = some y) (d0 : Int64) (kk : ∀ d : Int64, d = (zm_iter (zm_ofSgt s y) 5 d0) → z_Z X h top 154 [(1, .long d), (3, .int (nI kr)), (0, .ref (z_b G))] []) (hX : z_ok X cX8_digest 5 RX8 (some .long) "digest" 14 G) (hq : z_mq X Post) : ∀ (k i : Nat) (d : Int64), 5 - i < k → i ≤ 5 → (d = (zm_iter (zm_ofSgt s y) i d0)) → z_Z X h top 130 [(4, .int (nI i)), (1, .long d), (3, .int (nI kr)), (0, .ref (z_b G))] [] := by
  intro k
  induction k with
  | zero => intros; omega
  | succ k ih => intro i d hk hi hinv; exact f_dg4i_step s be H kr y hy d0 kk k i d hk hi hinv ih hX hq
set_option maxRecDepth 20000 in
set_option maxHeartbeats 4000000 in
theorem f_dg4_step {X : zX} {G : zG} {h : zH} {top : Nat} {Post : Option Value → zH → Nat → Prop} (s : zS) (be : zB) (H : z_St G s be h top) (d0 : Int64) (kk : ∀ d : Int64, d = (zm_iter2 (zm_gsgt s) 5 (s_sgts s).length d0) → z_Z X h top 160 [(1, .long d), (0, .ref (z_b G))] []) (k i : Nat) (d : Int64) (hk : (s_sgts s).length - i < k + 1) (hi : i ≤ (s_sgts s).length) (hinv : d = (zm_iter2 (zm_gsgt s) 5 i d0)) (ih : ∀ (i : Nat) (d : Int64), (s_sgts s).length - i < k → i ≤ (s_sgts s).length → (d = (zm_iter2 (zm_gsgt s) 5 i d0)) → z_Z X h top 116 [(3, .int (nI i)), (1, .long d), (0, .ref (z_b G))] []) (hX : z_ok X cX8_digest 5 RX8 (some .long) "digest" 14 G) (hq : z_mq X (Post)) : z_Z X h top 116 [(3, .int (nI i)), (1, .long d), (0, .ref (z_b G))] [] := by
  have hha := H.hall
  have hbd := H.2.2.1.2.2
  have hl2 := H.l2
  have hl21 := hl2.1
  refine r_iload_n hX rfl 0 rfl dX8_digest_116 ?_
  refine r_aload_n hX rfl 2 rfl dX8_digest_117 ?_
  refine r_getf hX fl_X8_19 hha rfl dX8_digest_118 ?_
  refine r_callVR (As := []) (rest := [.int (nI i)]) (rv := some (.int (nI (s_sgts s).length))) (st1 := [.int (nI (s_sgts s).length), .int (nI i)]) hX cs_X8_69 (by decide) (fun l => z_size hl2 l) hl21 rfl rfl rfl rfl (Nat.le_of_ble_eq_true rfl) dX8_digest_121 ?_
  refine r_icmp_ge (tgt := 160) hX dX8_digest_124 rfl (fun c124 => ?_) (fun c124 => ?_)
  · skip
    refine r_lv [1, 2] (lv2 := [(1, .long d), (0, .ref (z_b G))]) rfl ?_
    exact kk _ (hinv.trans (by rw [(ge_n (n := (s_sgts s).length) (by omega) hi c124)]))
  · skip
    have hlt : i < (s_sgts s).length := lt_n (by omega) c124
    obtain ⟨y, hy⟩ : ∃ y, (s_sgts s)[i]? = some y := ⟨_, List.getElem?_eq_getElem hlt⟩
    have eF : zm_gsgt s i = zm_ofSgt s y := by unfold zm_gsgt; rw [hy]; rfl
    refine r_iconst (v := 0) hX (by decide) dX8_digest_127 ?_
    refine r_istore (lv' := [(4, .int 0), (3, .int (nI i)), (1, .long d), (0, .ref (z_b G))]) hX (by decide) rfl dX8_digest_128 ?_
    refine r_lv [0, 2, 1, 3] (lv2 := [(4, .int 0), (1, .long d), (3, .int (nI i)), (0, .ref (z_b G))]) rfl ?_
    refine f_dg4i s be H i y hy d (fun d2 e2 => ?_) hX hq (5 + 1) 0 d (by omega) (by omega) rfl
    refine r_iinc (q := 1) (lv' := [(3, .int ((nI i) + 1)), (1, .long d2), (0, .ref (z_b G))]) hX rfl rfl (by decide) rfl dX8_digest_154 ?_
    refine r_goto (tgt := 116) hX rfl dX8_digest_157 ?_
    refine r_lv [0, 1, 2] (lv2 := [(3, .int (nI i + 1)), (1, .long d2), (0, .ref (z_b G))]) rfl ?_
    rw [nI_1]
    exact ih (i + 1) _ (by omega) (by omega) (by rw [e2, hinv, ← eF]; rfl)

theorem f_dg4 {X : zX} {G : zG} {h : zH} {top : Nat} {Post : Option Value → zH → Nat → Prop} (s : zS) (be : zB) (H : z_St G s be h top) (d0 : Int64) (kk : ∀ d : Int64, d = (zm_iter2 (zm_gsgt s) 5 (s_sgts s).length d0) → z_Z X h top 160 [(1, .long d), (0, .ref (z_b G))] []) (hX : z_ok X cX8_digest 5 RX8 (some .long) "digest" 14 G) (hq : z_mq X Post) : ∀ (k i : Nat) (d : Int64), (s_sgts s).length - i < k → i ≤ (s_sgts s).length → (d = (zm_iter2 (zm_gsgt s) 5 i d0)) → z_Z X h top 116 [(3, .int (nI i)), (1, .long d), (0, .ref (z_b G))] [] := by
  intro k
  induction k with
  | zero => intros; omega
  | succ k ih => intro i d hk hi hinv; exact f_dg4_step s be H d0 kk k i d hk hi hinv ih hX hq
set_option maxRecDepth 20000 in
set_option maxHeartbeats 4000000 in
theorem f_dg5_step {X : zX} {G : zG} {h : zH} {top : Nat} {Post : Option Value → zH → Nat → Prop} (s : zS) (hsg : zg_kn s) (n : Nat) (hn : s_now s = nI n) (hn6 : n ≤ 60000) (d0 : Int64) (hp : ∀ (h : zH) (top : Nat) (be : zB) {r : Int64}, z_St G s be h top → r = zm_fvs s (s_vehs s).length d0 → Post (some (.long r)) h top) (k i : Nat) (be : zB) (d : Int64) (hk : (s_vehs s).length - i < k + 1) (hi : i ≤ (s_vehs s).length) (hinv : z_St G s be h top ∧ d = zm_fvs s i d0) (ih : ∀ (i : Nat) (h : zH) (top : Nat) (be : zB) (d : Int64), (s_vehs s).length - i < k → i ≤ (s_vehs s).length → (z_St G s be h top ∧ d = zm_fvs s i d0) → z_Z X h top 162 [(3, .int (nI i)), (1, .long d), (0, .ref (z_b G))] []) (hX : z_ok X cX8_digest 5 RX8 (some .long) "digest" 14 G) (hq : z_mq X (Post)) : z_Z X h top 162 [(3, .int (nI i)), (1, .long d), (0, .ref (z_b G))] [] := by
  obtain ⟨H, hd⟩ := hinv
  have hha := H.hall
  have hbd := H.2.2.1.2.2
  have hl1 := H.l1
  have hl11 := hl1.1
  refine r_iload_n hX rfl 0 rfl dX8_digest_162 ?_
  refine r_aload_n hX rfl 2 rfl dX8_digest_163 ?_
  refine r_getf hX fl_X8_16 hha rfl dX8_digest_164 ?_
  refine r_callVR (As := []) (rest := [.int (nI i)]) (rv := some (.int (nI (s_vehs s).length))) (st1 := [.int (nI (s_vehs s).length), .int (nI i)]) hX cs_X8_69 (by decide) (fun l => z_size hl1 l) hl11 rfl rfl rfl rfl (Nat.le_of_ble_eq_true rfl) dX8_digest_167 ?_
  refine r_icmp_ge (tgt := 196) hX dX8_digest_170 rfl (fun c170 => ?_) (fun c170 => ?_)
  · skip
    refine r_lload_n hX rfl 1 rfl dX8_digest_196 ?_
    exact r_lret hX hq (hp _ _ be H (hd.trans (by rw [ge_n (n := (s_vehs s).length) (by omega) hi c170]))) dX8_digest_197
  · skip
    have hlt := lt_n (by omega) c170
    obtain ⟨v, hv⟩ : ∃ v, (s_vehs s)[i]? = some v := ⟨_, List.getElem?_eq_getElem hlt⟩
    have hvs := H.veh hv
    refine r_aload_n hX rfl 2 rfl dX8_digest_173 ?_
    refine r_lload_n hX rfl 1 rfl dX8_digest_174 ?_
    refine r_aload_n hX rfl 2 rfl dX8_digest_175 ?_
    refine r_getf hX fl_X8_16 hha rfl dX8_digest_176 ?_
    refine r_iload_n hX rfl 0 rfl dX8_digest_179 ?_
    refine r_callVR (As := [.int (nI i)]) (rest := [.long d, .ref (z_b G)]) (rv := some (.ref v.1)) (st1 := [.ref v.1, .long d, .ref (z_b G)]) hX cs_X8_92 (by decide) (fun l => z_get hl1 hlt (z_mapget hv) l) hl11 rfl rfl rfl rfl (Nat.le_of_ble_eq_true rfl) dX8_digest_180 ?_
    refine r_cast (ci := 8) hX rfl hvs cl_X8_121 dX8_digest_183 ?_
    refine r_callV (As := [.long d, .ref v.1]) (rest := []) hX cs_X8_340 (by decide) (fun l => c_X8_foldVehicle l G h top s be H i v hv hsg n hn hn6 d) hha rfl rfl rfl (Nat.le_of_ble_eq_true rfl) dX8_digest_186 (fun r1 h1 top1 hp1 => ?_)
    obtain ⟨rfl, be1, H1⟩ := hp1
    refine r_lstore_n (lv' := [(1, .long (zm_fveh s v d)), (3, .int (nI i)), (0, .ref (z_b G))]) hX rfl (by decide) rfl dX8_digest_189 ?_
    refine r_iinc (q := 1) (lv' := [(3, .int ((nI i) + 1)), (1, .long (zm_fveh s v d)), (0, .ref (z_b G))]) hX rfl rfl (by decide) rfl dX8_digest_190 ?_
    refine r_goto (tgt := 162) hX rfl dX8_digest_193 ?_
    refine r_lv [0, 1, 2] (lv2 := [(3, .int (nI i + 1)), (1, .long (zm_fveh s v d)), (0, .ref (z_b G))]) rfl ?_
    rw [nI_1]
    exact ih (i + 1) h1 _ be1 _ (by omega) (by omega) ⟨H1, by rw [hd, zm_fvs_s hv]⟩

theorem f_dg5 {X : zX} {G : zG}  {Post : Option Value → zH → Nat → Prop} (s : zS) (hsg : zg_kn s) (n : Nat) (hn : s_now s = nI n) (hn6 : n ≤ 60000) (d0 : Int64) (hp : ∀ (h : zH) (top : Nat) (be : zB) {r : Int64}, z_St G s be h top → r = zm_fvs s (s_vehs s).length d0 → Post (some (.long r)) h top) (hX : z_ok X cX8_digest 5 RX8 (some .long) "digest" 14 G) (hq : z_mq X Post) : ∀ (k i : Nat) (h : zH) (top : Nat) (be : zB) (d : Int64), (s_vehs s).length - i < k → i ≤ (s_vehs s).length → (z_St G s be h top ∧ d = zm_fvs s i d0) → z_Z X h top 162 [(3, .int (nI i)), (1, .long d), (0, .ref (z_b G))] [] := by
  intro k
  induction k with
  | zero => intros; omega
  | succ k ih => intro i h top be d hk hi hinv; exact f_dg5_step s hsg n hn hn6 d0 hp k i be d hk hi hinv ih hX hq
set_option maxRecDepth 20000 in
set_option maxHeartbeats 4000000 in
theorem c_X8_digest (l : Launch) (G : zG) (h : zH) (top : Nat) (s : zS) (be : zB) (H : z_St G s be h top) (hsg : zg_kn s) (n : Nat) (hn : s_now s = nI n) (hn6 : n ≤ 60000) : z_Ct l yX8_digest cX8_digest 5 (some .long) 14 G [.ref (z_b G)] h top (z_PQ G s (.long (zm_dig s))) := by
  refine z_of (own := RX8) (nm := "digest") (by decide) rfl rfl (by decide) (Nat.le_of_ble_eq_true rfl) (fun X hX hq => ?_)
  replace hX : z_ok X cX8_digest 5 RX8 (some .long) "digest" 14 G := hX
  show z_Z X h top 0 [(0, .ref (z_b G))] []
  have hha := H.hall
  have hbd := H.2.2.1.2.2
  have hl0 := H.l0
  have hl01 := hl0.1
  have hl1 := H.l1
  have hl11 := hl1.1
  have hl2 := H.l2
  have hl21 := hl2.1
  refine r_ldc2 hX kc_X8_322 dX8_digest_0 ?_
  refine r_lstore_n (lv' := [(1, .long 4805), (0, .ref (z_b G))]) hX rfl (by decide) rfl dX8_digest_3 ?_
  refine r_iconst (v := 0) hX (by decide) dX8_digest_4 ?_
  refine r_istore_n (lv' := [(3, .int 0), (1, .long 4805), (0, .ref (z_b G))]) hX rfl (by decide) rfl dX8_digest_5 ?_
  refine r_lv [0, 1, 2] (lv2 := [(3, .int 0), (1, .long 4805), (0, .ref (z_b G))]) rfl ?_
  refine f_dg1 s be H 4805 (fun d1 ed1 => ?_) hX hq (15 + 1) 0 _ (by omega) (by omega) rfl
  refine r_iconst (v := 0) hX (by decide) dX8_digest_28 ?_
  refine r_istore_n (lv' := [(3, .int 0), (1, .long d1), (0, .ref (z_b G))]) hX rfl (by decide) rfl dX8_digest_29 ?_
  refine r_lv [0, 1, 2] (lv2 := [(3, .int 0), (1, .long d1), (0, .ref (z_b G))]) rfl ?_
  refine f_dg2 s be H d1 (fun d2 ed2 => ?_) hX hq ((s_segs s).length + 1) 0 _ (by omega) (by omega) rfl
  refine r_iconst (v := 0) hX (by decide) dX8_digest_74 ?_
  refine r_istore_n (lv' := [(3, .int 0), (1, .long d2), (0, .ref (z_b G))]) hX rfl (by decide) rfl dX8_digest_75 ?_
  refine r_lv [0, 1, 2] (lv2 := [(3, .int 0), (1, .long d2), (0, .ref (z_b G))]) rfl ?_
  refine f_dg3 s be H d2 (fun d3 ed3 => ?_) hX hq (4 + 1) 0 _ (by omega) (by omega) rfl
  refine r_iconst (v := 0) hX (by decide) dX8_digest_114 ?_
  refine r_istore_n (lv' := [(3, .int 0), (1, .long d3), (0, .ref (z_b G))]) hX rfl (by decide) rfl dX8_digest_115 ?_
  refine r_lv [0, 1, 2] (lv2 := [(3, .int 0), (1, .long d3), (0, .ref (z_b G))]) rfl ?_
  refine f_dg4 s be H d3 (fun d4 ed4 => ?_) hX hq ((s_sgts s).length + 1) 0 _ (by omega) (by omega) rfl
  refine r_iconst (v := 0) hX (by decide) dX8_digest_160 ?_
  refine r_istore_n (lv' := [(3, .int 0), (1, .long d4), (0, .ref (z_b G))]) hX rfl (by decide) rfl dX8_digest_161 ?_
  refine r_lv [0, 1, 2] (lv2 := [(3, .int 0), (1, .long d4), (0, .ref (z_b G))]) rfl ?_
  exact f_dg5 s hsg n hn hn6 d4 (fun h9 t9 b9 r9 H9 e9 => ⟨by rw [e9, ed4, ed3, ed2, ed1]; rfl, b9, H9⟩) hX hq ((s_vehs s).length + 1) 0 h top be d4 (by omega) (by omega) ⟨H, rfl⟩

