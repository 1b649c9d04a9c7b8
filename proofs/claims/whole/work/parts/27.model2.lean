/-! THE MODEL: bits; halves of masks -/
theorem i64_z {a : Int64} : a = 0 ↔ a.toBitVec = 0#64 := by
  constructor
  · intro h; rw [h]; rfl
  · intro h; exact Int64.toBitVec_inj.mp h
theorem bB2 (m v o C : BitVec 64) (h1 : m &&& C = 0#64) (h2 : v &&& (m ^^^ BitVec.allOnes 64) = 0#64) : ((o &&& m) ^^^ v) &&& C = 0#64 := by
  rw [BitVec.xor_allOnes] at h2
  apply BitVec.eq_of_getLsbD_eq
  intro i hi
  have a1 := congrArg (fun z => z.getLsbD i) h1
  have a2 := congrArg (fun z => z.getLsbD i) h2
  simp only [BitVec.getLsbD_and, BitVec.getLsbD_not, BitVec.getLsbD_xor, BitVec.getLsbD_zero, hi, decide_true, Bool.true_and] at a1 a2 ⊢
  generalize o.getLsbD i = x1 at *
  generalize m.getLsbD i = x2 at *
  generalize v.getLsbD i = x3 at *
  generalize C.getLsbD i = x4 at *
  revert a1 a2
  cases x1 <;> cases x2 <;> cases x3 <;> cases x4 <;> decide
theorem lo_fail {m v o : Int64} (h1 : m &&& 4294967295 = 0) (h2 : v &&& (m ^^^ (-1)) = 0) : ((o &&& m) ^^^ v) &&& 4294967295 = 0 := by
  rw [i64_z] at h1 h2 ⊢
  exact bB2 m.toBitVec v.toBitVec o.toBitVec _ h1 h2
theorem xor_z {a b : Int64} : a ^^^ b = 0 ↔ a = b := by
  rw [i64_z]
  show a.toBitVec ^^^ b.toBitVec = 0#64 ↔ a = b
  rw [← Int64.toBitVec_inj]
  constructor
  · intro h
    apply BitVec.eq_of_getLsbD_eq
    intro i hi
    have a1 := congrArg (fun z => z.getLsbD i) h
    simp at a1
    exact a1
  · intro h
    rw [h]
    simp
theorem m0_v0 {m v : Int64} (h1 : m = 0) (h2 : v &&& (m ^^^ (-1)) = 0) : v = 0 := by
  subst h1
  rw [i64_z] at h2 ⊢
  have h3 : v.toBitVec &&& ((0#64) ^^^ BitVec.allOnes 64) = 0#64 := h2
  rw [BitVec.zero_xor, BitVec.and_allOnes] at h3
  exact h3
theorem bB1 (m C : BitVec 64) (hC : ∀ i, i < 64 → C.getLsbD i = decide (32 ≤ i)) : m >>> 32 = 0#64 ↔ m &&& C = 0#64 := by
  constructor
  · intro h
    apply BitVec.eq_of_getLsbD_eq
    intro i hi
    have a1 := congrArg (fun z => z.getLsbD (i - 32)) h
    simp only [BitVec.getLsbD_ushiftRight, BitVec.getLsbD_zero] at a1
    simp only [BitVec.getLsbD_and, BitVec.getLsbD_zero, hC i hi]
    by_cases h1 : 32 ≤ i
    · rw [show 32 + (i - 32) = i by omega] at a1
      rw [a1, Bool.false_and]
    · rw [decide_eq_false h1, Bool.and_false]
  · intro h
    apply BitVec.eq_of_getLsbD_eq
    intro i hi
    have a1 := congrArg (fun z => z.getLsbD (32 + i)) h
    simp only [BitVec.getLsbD_and, BitVec.getLsbD_zero] at a1
    simp only [BitVec.getLsbD_ushiftRight, BitVec.getLsbD_zero]
    by_cases h2 : 32 + i < 64
    · rw [hC _ h2, decide_eq_true (by omega), Bool.and_true] at a1
      exact a1
    · exact BitVec.getLsbD_of_ge m (32 + i) (by omega)
theorem hiC : ∀ i, i < 64 → (Int64.toBitVec (-4294967296)).getLsbD i = decide (32 ≤ i) := by decide +kernel
theorem up_z (m : Int64) : (m.toUInt64 >>> ((32 : Int32).toInt64.toUInt64 &&& Int64.toUInt64 63)).toInt64 = 0 ↔ m &&& (-4294967296) = 0 := by
  rw [i64_z, i64_z]
  exact bB1 m.toBitVec _ hiC
set_option maxRecDepth 100000 in
set_option maxHeartbeats 4000000 in
theorem ct_halvesOf {l : Launch} {G : Gp} {L : List Nat} {w : Wn} (m9 : Int64) : CI l yX5_halvesOf wsX5_halvesOf (rmD 1 0 0) G L w [.long m9] (fun r u => r = halT m9 ∧ u = (L, w)) := by
  refine mk_i (cc := cX5_halvesOf) (maxL := 2) [some (.long m9), none] (by decide) rfl (Nat.le_of_ble_eq_true rfl) rfl ?_
  intro p e s m args below meth c A C hr hlk hnm
  refine j_lload_n (pc := 0) C rfl dX5_halvesOf_0 rfl ?_
  refine j_ldc2 (pc := 1) (v := 4294967295) C dX5_halvesOf_1 (by decide +kernel) ?_
  refine j_land (pc := 4) C dX5_halvesOf_4 ?_
  refine j_lconst (pc := 5) (v := 0) C dX5_halvesOf_5 (by decide) ?_
  refine j_lcmp (pc := 6) C dX5_halvesOf_6 ?_
  refine j_if_eq (pc := 7) (tgt := 14) C dX5_halvesOf_7 (by decide) (fun c7 => ?_) (fun c7 => ?_)
  · have c7 := ez_c c7
    refine j_iconst (pc := 14) (v := 0) C dX5_halvesOf_14 (by decide) ?_
    refine j_lload_n (pc := 15) C rfl dX5_halvesOf_15 rfl ?_
    refine j_bipush (pc := 16) (v := 32) C dX5_halvesOf_16 (by decide) ?_
    refine j_lushr (pc := 18) C dX5_halvesOf_18 ?_
    refine j_lconst (pc := 19) (v := 0) C dX5_halvesOf_19 (by decide) ?_
    refine j_lcmp (pc := 20) C dX5_halvesOf_20 ?_
    refine j_if_eq (pc := 21) (tgt := 28) C dX5_halvesOf_21 (by decide) (fun c21 => ?_) (fun c21 => ?_)
    · have c21 := ez_c c21
      have c21 := (up_z m9).mp c21
      refine j_iconst (pc := 28) (v := 0) C dX5_halvesOf_28 (by decide) ?_
      refine j_iadd (pc := 29) C dX5_halvesOf_29 ?_
      exact ret_i C rfl hr hlk dX5_halvesOf_30 ⟨by unfold halT lowT uppT; simp_all, rfl⟩ (by decide) (by decide)
    · have c21 := nz_c c21
      have c21 := fun z => c21 ((up_z m9).mpr z)
      refine j_iconst (pc := 24) (v := 1) C dX5_halvesOf_24 (by decide) ?_
      refine j_goto (pc := 25) (tgt := 29) C dX5_halvesOf_25 (by decide) ?_
      refine j_iadd (pc := 29) C dX5_halvesOf_29 ?_
      exact ret_i C rfl hr hlk dX5_halvesOf_30 ⟨by unfold halT lowT uppT; simp_all, rfl⟩ (by decide) (by decide)
  · have c7 := nz_c c7
    refine j_iconst (pc := 10) (v := 1) C dX5_halvesOf_10 (by decide) ?_
    refine j_goto (pc := 11) (tgt := 15) C dX5_halvesOf_11 (by decide) ?_
    refine j_lload_n (pc := 15) C rfl dX5_halvesOf_15 rfl ?_
    refine j_bipush (pc := 16) (v := 32) C dX5_halvesOf_16 (by decide) ?_
    refine j_lushr (pc := 18) C dX5_halvesOf_18 ?_
    refine j_lconst (pc := 19) (v := 0) C dX5_halvesOf_19 (by decide) ?_
    refine j_lcmp (pc := 20) C dX5_halvesOf_20 ?_
    refine j_if_eq (pc := 21) (tgt := 28) C dX5_halvesOf_21 (by decide) (fun c21 => ?_) (fun c21 => ?_)
    · have c21 := ez_c c21
      have c21 := (up_z m9).mp c21
      refine j_iconst (pc := 28) (v := 0) C dX5_halvesOf_28 (by decide) ?_
      refine j_iadd (pc := 29) C dX5_halvesOf_29 ?_
      exact ret_i C rfl hr hlk dX5_halvesOf_30 ⟨by unfold halT lowT uppT; simp_all, rfl⟩ (by decide) (by decide)
    · have c21 := nz_c c21
      have c21 := fun z => c21 ((up_z m9).mpr z)
      refine j_iconst (pc := 24) (v := 1) C dX5_halvesOf_24 (by decide) ?_
      refine j_goto (pc := 25) (tgt := 29) C dX5_halvesOf_25 (by decide) ?_
      refine j_iadd (pc := 29) C dX5_halvesOf_29 ?_
      exact ret_i C rfl hr hlk dX5_halvesOf_30 ⟨by unfold halT lowT uppT; simp_all, rfl⟩ (by decide) (by decide)

set_option maxRecDepth 100000 in
set_option maxHeartbeats 4000000 in
theorem ct_M_matches {l : Launch} {G : Gp} {L : List Nat} {w : Wn} {am : Nat → Nat} {th cp : Int32} {df : Nat → Int32} {fq : Nat → Nat} {E : Nat → EL} {ns ar ac : Nat → Int32} {mk vl : Nat → Int64} {ks : Nat → Int32} {sz : Nat} {co ro : Nat → Int32} (hm : MB G am L w th cp df fq E ns ar ac mk vl ks sz co ro) {k9 : Nat} (hk : k9 < 40) (x : Int32) (fi se : Int64) : CI l yX5_matches wsX5_matches (rmD 1 0 0) G L w [.ref (am 42), .int (nI k9), .int x, .long fi, .long se] (fun r u => r = bI (decide (ns k9 = x) && matB (rv ns ar ac mk vl k9) fi se) ∧ u = (L, w)) := by
  refine mk_i (cc := cX5_matches) (maxL := 9) [some (.ref (am 42)), some (.int (nI k9)), some (.int x), some (.long fi), none, some (.long se), none, none, none] (by decide) rfl (Nat.le_of_ble_eq_true rfl) rfl ?_
  intro p e s m args below meth c A C hr hlk hnm
  have hin_X5 : ∀ x ∈ u_ws RX5 TX5 14, x ∈ wsX5_matches := by decide +kernel
  obtain ⟨h42, h43, h44, h45, h46, h47, h48, h49, h50, h51, h52, h53, hT, hE, hfb, hsz⟩ := id hm
  refine j_aload_n (pc := 0) C rfl dX5_matches_0 rfl ?_
  refine j_get (pc := 1) C hin_X5 h42 rfl 2 (by decide) (by decide +kernel) rfl dX5_matches_1 ?_
  refine j_iload_n (pc := 4) C rfl dX5_matches_4 rfl ?_
  refine j_iald (pc := 5) C h44 rfl (by omega) (by decide) dX5_matches_5 ?_
  refine j_if_ne (pc := 6) (tgt := 13) C dX5_matches_6 (by decide) (fun c6 => ?_) (fun c6 => ?_)
  · refine j_lload (pc := 13) C dX5_matches_13 rfl ?_
    refine j_lstore_7 (pc := 15) C dX5_matches_15 (by decide) rfl ?_
    refine j_aload_n (pc := 17) C rfl dX5_matches_17 rfl ?_
    refine j_get (pc := 18) C hin_X5 h42 rfl 1 (by decide) (by decide +kernel) rfl dX5_matches_18 ?_
    refine j_iload_n (pc := 21) C rfl dX5_matches_21 rfl ?_
    refine j_iald (pc := 22) C h43 rfl (by omega) (by decide) dX5_matches_22 ?_
    refine j_iload_n (pc := 23) C rfl dX5_matches_23 rfl ?_
    refine j_icmp_ne (pc := 24) (tgt := 50) C dX5_matches_24 (by decide) (fun c24 => ?_) (fun c24 => ?_)
    · refine j_iconst (pc := 50) (v := 0) C dX5_matches_50 (by decide) ?_
      exact ret_z C rfl hr hlk (by decide) dX5_matches_51 ⟨by unfold matB ownA bI; simp_all, rfl⟩ (by decide) (by decide)
    · refine j_lload (pc := 27) C dX5_matches_27 rfl ?_
      refine j_aload_n (pc := 29) C rfl dX5_matches_29 rfl ?_
      refine j_get (pc := 30) C hin_X5 h42 rfl 3 (by decide) (by decide +kernel) rfl dX5_matches_30 ?_
      refine j_iload_n (pc := 33) C rfl dX5_matches_33 rfl ?_
      refine j_lald (pc := 34) C h45 rfl (by omega) (by decide) dX5_matches_34 ?_
      refine j_land (pc := 35) C dX5_matches_35 ?_
      refine j_aload_n (pc := 36) C rfl dX5_matches_36 rfl ?_
      refine j_get (pc := 37) C hin_X5 h42 rfl 4 (by decide) (by decide +kernel) rfl dX5_matches_37 ?_
      refine j_iload_n (pc := 40) C rfl dX5_matches_40 rfl ?_
      refine j_lald (pc := 41) C h46 rfl (by omega) (by decide) dX5_matches_41 ?_
      refine j_lcmp (pc := 42) C dX5_matches_42 ?_
      refine j_if_ne (pc := 43) (tgt := 50) C dX5_matches_43 (by decide) (fun c43 => ?_) (fun c43 => ?_)
      · have c43 := nz_c c43
        refine j_iconst (pc := 50) (v := 0) C dX5_matches_50 (by decide) ?_
        exact ret_z C rfl hr hlk (by decide) dX5_matches_51 ⟨by unfold matB ownA bI; simp_all, rfl⟩ (by decide) (by decide)
      · have c43 := ez_c c43
        refine j_iconst (pc := 46) (v := 1) C dX5_matches_46 (by decide) ?_
        refine j_goto (pc := 47) (tgt := 51) C dX5_matches_47 (by decide) ?_
        exact ret_z C rfl hr hlk (by decide) dX5_matches_51 ⟨by unfold matB ownA bI; simp_all, rfl⟩ (by decide) (by decide)
  · refine j_lload_n (pc := 9) C rfl dX5_matches_9 rfl ?_
    refine j_goto (pc := 10) (tgt := 15) C dX5_matches_10 (by decide) ?_
    refine j_lstore_7 (pc := 15) C dX5_matches_15 (by decide) rfl ?_
    refine j_aload_n (pc := 17) C rfl dX5_matches_17 rfl ?_
    refine j_get (pc := 18) C hin_X5 h42 rfl 1 (by decide) (by decide +kernel) rfl dX5_matches_18 ?_
    refine j_iload_n (pc := 21) C rfl dX5_matches_21 rfl ?_
    refine j_iald (pc := 22) C h43 rfl (by omega) (by decide) dX5_matches_22 ?_
    refine j_iload_n (pc := 23) C rfl dX5_matches_23 rfl ?_
    refine j_icmp_ne (pc := 24) (tgt := 50) C dX5_matches_24 (by decide) (fun c24 => ?_) (fun c24 => ?_)
    · refine j_iconst (pc := 50) (v := 0) C dX5_matches_50 (by decide) ?_
      exact ret_z C rfl hr hlk (by decide) dX5_matches_51 ⟨by unfold matB ownA bI; simp_all, rfl⟩ (by decide) (by decide)
    · refine j_lload (pc := 27) C dX5_matches_27 rfl ?_
      refine j_aload_n (pc := 29) C rfl dX5_matches_29 rfl ?_
      refine j_get (pc := 30) C hin_X5 h42 rfl 3 (by decide) (by decide +kernel) rfl dX5_matches_30 ?_
      refine j_iload_n (pc := 33) C rfl dX5_matches_33 rfl ?_
      refine j_lald (pc := 34) C h45 rfl (by omega) (by decide) dX5_matches_34 ?_
      refine j_land (pc := 35) C dX5_matches_35 ?_
      refine j_aload_n (pc := 36) C rfl dX5_matches_36 rfl ?_
      refine j_get (pc := 37) C hin_X5 h42 rfl 4 (by decide) (by decide +kernel) rfl dX5_matches_37 ?_
      refine j_iload_n (pc := 40) C rfl dX5_matches_40 rfl ?_
      refine j_lald (pc := 41) C h46 rfl (by omega) (by decide) dX5_matches_41 ?_
      refine j_lcmp (pc := 42) C dX5_matches_42 ?_
      refine j_if_ne (pc := 43) (tgt := 50) C dX5_matches_43 (by decide) (fun c43 => ?_) (fun c43 => ?_)
      · have c43 := nz_c c43
        refine j_iconst (pc := 50) (v := 0) C dX5_matches_50 (by decide) ?_
        exact ret_z C rfl hr hlk (by decide) dX5_matches_51 ⟨by unfold matB ownA bI; simp_all, rfl⟩ (by decide) (by decide)
      · have c43 := ez_c c43
        refine j_iconst (pc := 46) (v := 1) C dX5_matches_46 (by decide) ?_
        refine j_goto (pc := 47) (tgt := 51) C dX5_matches_47 (by decide) ?_
        exact ret_z C rfl hr hlk (by decide) dX5_matches_51 ⟨by unfold matB ownA bI; simp_all, rfl⟩ (by decide) (by decide)

set_option maxRecDepth 100000 in
set_option maxHeartbeats 4000000 in
theorem jby_loop {p : Program} {e : Env} {s : State} {m : MethodId} {args : Array Value} {below : List Frame} {meth : Method} {c : Code} {A : Nat → Prop} {post : Int32 → Sw → Prop} {l : Launch} {G : Gp} {L : List Nat} {w : Wn} {am : Nat → Nat} {th cp : Int32} {df : Nat → Int32} {fq : Nat → Nat} {E : Nat → EL} {ns ar ac : Nat → Int32} {mk vl : Nat → Int64} {ks : Nat → Int32} {sz : Nat} {co ro : Nat → Int32} (hm : MB G am L w th cp df fq E ns ar ac mk vl ks sz co ro) {j : Nat} (hj : j < 4) {x : Int32} {fi se : Int64} (hend : ∀ r, r = fAct x fi se (df j) (E j) → post r (L, w)) (C : Cx p s m args c cX5_judgeBy yX5_judgeBy.cls 8 wsX5_judgeBy G A s.heap) (hr : meth.sig.returnType = (some .int)) (hlk : meth.locks = false) : ∀ (f i : Nat), (E j).length - i = f → i ≤ (E j).length → fAct x fi se (df j) ((E j).drop i) = fAct x fi se (df j) (E j) → J p l e (rmD 2 0 0) s m args below meth c G A s.heap 8 (MQ below (va_Qi post (PB G A) A) args s (rmD 2 0 0).cells (rmD 2 0 0).slots A) L w 0 0 3 [some (.ref (am 42)), some (.int (nI j)), some (.int x), some (.long fi), none, some (.long se), none, some (.int (nI i))] [] := by
  have hin_X5 : ∀ x ∈ u_ws RX5 TX5 14, x ∈ wsX5_judgeBy := by decide +kernel
  obtain ⟨h42, h43, h44, h45, h46, h47, h48, h49, h50, h51, h52, h53, hT, hE, hfb, hsz⟩ := id hm
  have hj10 := hE j hj
  intro f
  induction f using Nat.strongRecOn with
  | _ f ih =>
    intro i hf hi0 h0
    refine j_iload (pc := 3) C dX5_judgeBy_3 rfl ?_
    refine j_aload_n (pc := 5) C rfl dX5_judgeBy_5 rfl ?_
    refine j_get (pc := 6) C hin_X5 h42 rfl 6 (by decide) (by decide +kernel) rfl dX5_judgeBy_6 ?_
    refine j_iload_n (pc := 9) C rfl dX5_judgeBy_9 rfl ?_
    refine j_iald (pc := 10) C h48 rfl (by omega) (by decide) dX5_judgeBy_10 ?_
    refine j_icmp_ge (pc := 11) (tgt := 51) C dX5_judgeBy_11 (by decide) (fun c11 => ?_) (fun c11 => ?_)
    · have c11 := nI_le_of (by omega) (by omega) (show nI ((E j).length) ≤ nI i from c11)
      refine j_aload_n (pc := 51) C rfl dX5_judgeBy_51 rfl ?_
      refine j_get (pc := 52) C hin_X5 h42 rfl 7 (by decide) (by decide +kernel) rfl dX5_judgeBy_52 ?_
      refine j_iload_n (pc := 55) C rfl dX5_judgeBy_55 rfl ?_
      refine j_iald (pc := 56) C h49 rfl (by omega) (by decide) dX5_judgeBy_56 ?_
      exact ret_i C rfl hr hlk dX5_judgeBy_57 (hend _ (by rw [← h0, List.drop_of_length_le (by omega)]; rfl)) (by decide) (by decide)
    · have c11 := nI_gt_of (by omega) (by omega) (show ¬ nI ((E j).length) ≤ nI i from c11)
      refine j_aload_n (pc := 14) C rfl dX5_judgeBy_14 rfl ?_
      refine j_bipush (pc := 15) (v := 10) C dX5_judgeBy_15 (by decide) ?_
      refine j_iload_n (pc := 17) C rfl dX5_judgeBy_17 rfl ?_
      refine j_imul (pc := 18) C dX5_judgeBy_18 ?_
      refine j_iload (pc := 19) C dX5_judgeBy_19 rfl ?_
      refine j_iadd (pc := 21) C dX5_judgeBy_21 ?_
      refine j_st (by rw [ix10 j i]) ?_
      refine j_iload_n (pc := 22) C rfl dX5_judgeBy_22 rfl ?_
      refine j_lload_n (pc := 23) C rfl dX5_judgeBy_23 rfl ?_
      refine j_lload (pc := 24) C dX5_judgeBy_24 rfl ?_
      refine jV_i0 (pc := 26) (k2 := 0) (n2 := 0) (np := 4) (As := [.int (nI (10 * j + i)), .int x, .long fi, .long se]) C (ct_M_matches hm (k9 := 10 * j + i) (by omega) x fi se) gX5_judgeBy_X5_matches rfl (by decide +kernel) ⟨by decide, by decide⟩ h42 rfl rfl rfl (Nat.le_of_ble_eq_true rfl) dX5_judgeBy_26 (by decide) (by decide) ⟨by decide, by decide⟩ (fun v hv => ?_)
      subst hv
      refine j_if_eq (pc := 29) (tgt := 45) C dX5_judgeBy_29 (by decide) (fun c29 => ?_) (fun c29 => ?_)
      · have c29 := bI_0 c29
        refine j_iinc_7 (pc := 45) (d := 1) C dX5_judgeBy_45 (by decide) rfl rfl ?_
        refine j_lo (by rw [nI_1]) ?_
        refine j_goto (pc := 48) (tgt := 3) C dX5_judgeBy_48 (by decide) ?_
        have ht := hT j hj i c11
        refine ih ((E j).length - (i + 1)) (by omega) (i + 1) rfl (by omega) ?_
        rw [← h0, drop_at c11]
        show _ = fAct x fi se (df j) (_ :: _)
        rw [fAct]
        rw [← ht]
        by_cases e9 : ns (10 * j + i) = x
        · rw [if_pos e9, if_neg]
          intro z
          rw [decide_eq_true e9, Bool.true_and] at c29
          exact absurd (z.symm.trans c29) (by decide)
        · rw [if_neg e9]
      · have c29 := bI_1 c29
        refine j_aload_n (pc := 32) C rfl dX5_judgeBy_32 rfl ?_
        refine j_get (pc := 33) C hin_X5 h42 rfl 5 (by decide) (by decide +kernel) rfl dX5_judgeBy_33 ?_
        refine j_bipush (pc := 36) (v := 10) C dX5_judgeBy_36 (by decide) ?_
        refine j_iload_n (pc := 38) C rfl dX5_judgeBy_38 rfl ?_
        refine j_imul (pc := 39) C dX5_judgeBy_39 ?_
        refine j_iload (pc := 40) C dX5_judgeBy_40 rfl ?_
        refine j_iadd (pc := 42) C dX5_judgeBy_42 ?_
        refine j_st (by rw [ix10 j i]) ?_
        refine j_iald (pc := 43) C h47 rfl (by omega) (by decide) dX5_judgeBy_43 ?_
        exact ret_i C rfl hr hlk dX5_judgeBy_44 (hend _ (by rw [Bool.and_eq_true] at c29; rw [← h0, drop_at c11]; show _ = fAct x fi se (df j) (_ :: _); rw [fAct, ← hT j hj i c11, if_pos (of_decide_eq_true c29.1), if_pos c29.2])) (by decide) (by decide)

set_option maxRecDepth 100000 in
set_option maxHeartbeats 4000000 in
theorem ct_judgeBy {l : Launch} {G : Gp} {L : List Nat} {w : Wn} {am : Nat → Nat} {th cp : Int32} {df : Nat → Int32} {fq : Nat → Nat} {E : Nat → EL} {ns ar ac : Nat → Int32} {mk vl : Nat → Int64} {ks : Nat → Int32} {sz : Nat} {co ro : Nat → Int32} (hm : MB G am L w th cp df fq E ns ar ac mk vl ks sz co ro) {j : Nat} (hj : j < 4) (x : Int32) (fi se : Int64) : CI l yX5_judgeBy wsX5_judgeBy (rmD 2 0 0) G L w [.ref (am 42), .int (nI j), .int x, .long fi, .long se] (fun r u => r = fAct x fi se (df j) (E j) ∧ u = (L, w)) := by
  refine mk_i (cc := cX5_judgeBy) (maxL := 8) [some (.ref (am 42)), some (.int (nI j)), some (.int x), some (.long fi), none, some (.long se), none, none] (by decide) rfl (Nat.le_of_ble_eq_true rfl) rfl ?_
  intro p e s m args below meth c A C hr hlk hnm
  refine j_iconst (pc := 0) (v := 0) C dX5_judgeBy_0 (by decide) ?_
  refine j_istore_7 (pc := 1) C dX5_judgeBy_1 (by decide) rfl ?_
  exact jby_loop hm hj (post := fun r u => r = fAct x fi se (df j) (E j) ∧ u = (L, w)) (fun r h => ⟨h, rfl⟩) C hr hlk (E j).length 0 rfl (Nat.zero_le _) rfl

set_option maxRecDepth 100000 in
set_option maxHeartbeats 4000000 in
theorem str_loop {p : Program} {e : Env} {s : State} {m : MethodId} {args : Array Value} {below : List Frame} {meth : Method} {c : Code} {A : Nat → Prop} {post : Int32 → Sw → Prop} {l : Launch} {G : Gp} {L : List Nat} {w : Wn} {am : Nat → Nat} {th cp : Int32} {df : Nat → Int32} {fq : Nat → Nat} {E : Nat → EL} {ns ar ac : Nat → Int32} {mk vl : Nat → Int64} {ks : Nat → Int32} {sz : Nat} {co ro : Nat → Int32} (hm : MB G am L w th cp df fq E ns ar ac mk vl ks sz co ro) {x : Int32} {fi se : Int64} (hend : ∀ r, r = mxN (fun i => fAct x fi se (df i) (E i)) 4 → post r (L, w)) (C : Cx p s m args c cX5_strictest yX5_strictest.cls 9 wsX5_strictest G A s.heap) (hr : meth.sig.returnType = (some .int)) (hlk : meth.locks = false) : ∀ (f i : Nat) (t : Int32), 4 - i = f → i ≤ 4 → t = mxN (fun i => fAct x fi se (df i) (E i)) i → J p l e (rmD 3 0 0) s m args below meth c G A s.heap 9 (MQ below (va_Qi post (PB G A) A) args s (rmD 3 0 0).cells (rmD 3 0 0).slots A) L w 0 0 6 [some (.ref (am 42)), some (.int x), some (.long fi), none, some (.long se), none, some (.int t), some (.int (nI i)), none] [] := by
  obtain ⟨h42, h43, h44, h45, h46, h47, h48, h49, h50, h51, h52, h53, hT, hE, hfb, hsz⟩ := id hm
  intro f
  induction f using Nat.strongRecOn with
  | _ f ih =>
    intro i t hf hi0 ht0
    subst ht0
    refine j_iload (pc := 6) C dX5_strictest_6 rfl ?_
    refine j_iconst (pc := 8) (v := 4) C dX5_strictest_8 (by decide) ?_
    refine j_icmp_ge (pc := 9) (tgt := 46) C dX5_strictest_9 (by decide) (fun c9 => ?_) (fun c9 => ?_)
    · have c9 := nI_le_of (by omega) (by omega) (show nI 4 ≤ nI i from c9)
      refine j_iload (pc := 46) C dX5_strictest_46 rfl ?_
      exact ret_i C rfl hr hlk dX5_strictest_48 (hend _ (by rw [show i = 4 by omega])) (by decide) (by decide)
    · have c9 := nI_gt_of (by omega) (by omega) (show ¬ nI 4 ≤ nI i from c9)
      refine j_aload_n (pc := 12) C rfl dX5_strictest_12 rfl ?_
      refine j_iload (pc := 13) C dX5_strictest_13 rfl ?_
      refine j_iload_n (pc := 15) C rfl dX5_strictest_15 rfl ?_
      refine j_lload_n (pc := 16) C rfl dX5_strictest_16 rfl ?_
      refine j_lload (pc := 17) C dX5_strictest_17 rfl ?_
      refine jV_i0 (pc := 19) (k2 := 0) (n2 := 0) (np := 4) (As := [.int (nI i), .int x, .long fi, .long se]) C (ct_judgeBy hm c9 x fi se) gX5_strictest_X5_judgeBy rfl (by decide +kernel) ⟨by decide, by decide⟩ h42 rfl rfl rfl (Nat.le_of_ble_eq_true rfl) dX5_strictest_19 (by decide) (by decide) ⟨by decide, by decide⟩ (fun v hv => ?_)
      subst hv
      refine j_istore_8 (pc := 22) C dX5_strictest_22 (by decide) rfl ?_
      refine j_iload (pc := 24) C dX5_strictest_24 rfl ?_
      refine j_iload (pc := 26) C dX5_strictest_26 rfl ?_
      refine j_icmp_le (pc := 28) (tgt := 36) C dX5_strictest_28 (by decide) (fun c28 => ?_) (fun c28 => ?_)
      · have c28 := Int32.not_lt.mpr c28
        refine j_iload (pc := 36) C dX5_strictest_36 rfl ?_
        refine j_istore_6 (pc := 38) C dX5_strictest_38 (by decide) rfl ?_
        refine j_iinc_7 (pc := 40) (d := 1) C dX5_strictest_40 (by decide) rfl rfl ?_
        refine j_lo (by rw [nI_1]) ?_
        refine j_goto (pc := 43) (tgt := 6) C dX5_strictest_43 (by decide) ?_
        exact j_weak (lo2 := [some (.ref (am 42)), some (.int x), some (.long fi), none, some (.long se), none, some (.int (mxN (fun i => fAct x fi se (df i) (E i)) (i + 1))), some (.int (nI (i + 1))), none]) ⟨rfl, rfl, rfl, rfl, (by rw [mxN]; first | rw [if_pos c28] | rw [if_neg c28]), rfl, trivial⟩ (ih (4 - (i + 1)) (by omega) (i + 1) _ rfl (by omega) rfl)
      · have c28 := Int32.not_le.mp c28
        refine j_iload (pc := 31) C dX5_strictest_31 rfl ?_
        refine j_goto (pc := 33) (tgt := 38) C dX5_strictest_33 (by decide) ?_
        refine j_istore_6 (pc := 38) C dX5_strictest_38 (by decide) rfl ?_
        refine j_iinc_7 (pc := 40) (d := 1) C dX5_strictest_40 (by decide) rfl rfl ?_
        refine j_lo (by rw [nI_1]) ?_
        refine j_goto (pc := 43) (tgt := 6) C dX5_strictest_43 (by decide) ?_
        exact j_weak (lo2 := [some (.ref (am 42)), some (.int x), some (.long fi), none, some (.long se), none, some (.int (mxN (fun i => fAct x fi se (df i) (E i)) (i + 1))), some (.int (nI (i + 1))), none]) ⟨rfl, rfl, rfl, rfl, (by rw [mxN]; first | rw [if_pos c28] | rw [if_neg c28]), rfl, trivial⟩ (ih (4 - (i + 1)) (by omega) (i + 1) _ rfl (by omega) rfl)

set_option maxRecDepth 100000 in
set_option maxHeartbeats 4000000 in
theorem ct_strictest {l : Launch} {G : Gp} {L : List Nat} {w : Wn} {am : Nat → Nat} {th cp : Int32} {df : Nat → Int32} {fq : Nat → Nat} {E : Nat → EL} {ns ar ac : Nat → Int32} {mk vl : Nat → Int64} {ks : Nat → Int32} {sz : Nat} {co ro : Nat → Int32} (hm : MB G am L w th cp df fq E ns ar ac mk vl ks sz co ro) (x : Int32) (fi se : Int64) : CI l yX5_strictest wsX5_strictest (rmD 3 0 0) G L w [.ref (am 42), .int x, .long fi, .long se] (fun r u => r = mxN (fun i => fAct x fi se (df i) (E i)) 4 ∧ u = (L, w)) := by
  refine mk_i (cc := cX5_strictest) (maxL := 9) [some (.ref (am 42)), some (.int x), some (.long fi), none, some (.long se), none, none, none, none] (by decide) rfl (Nat.le_of_ble_eq_true rfl) rfl ?_
  intro p e s m args below meth c A C hr hlk hnm
  refine j_iconst (pc := 0) (v := 0) C dX5_strictest_0 (by decide) ?_
  refine j_istore_6 (pc := 1) C dX5_strictest_1 (by decide) rfl ?_
  refine j_iconst (pc := 3) (v := 0) C dX5_strictest_3 (by decide) ?_
  refine j_istore_7 (pc := 4) C dX5_strictest_4 (by decide) rfl ?_
  exact str_loop hm (post := fun r u => r = mxN (fun i => fAct x fi se (df i) (E i)) 4 ∧ u = (L, w)) (fun r h => ⟨h, rfl⟩) C hr hlk 4 0 0 rfl (by decide) rfl

