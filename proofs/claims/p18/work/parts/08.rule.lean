/-! THE RULE'S METHODS: they change nothing -/
set_option maxRecDepth 100000 in
set_option maxHeartbeats 4000000 in
theorem ct_X3_argumentOf {l : Launch} {G : Gp} {L : List Nat} {w : Wn} {q a : Nat} {r : RV} (h : Hs L w q a (ruleE r)) (fi se : Int64) : CL l yX3_argumentOf wsX3_argumentOf (rmD 1 0 0) G L w [.ref a, .long fi, .long se] (fun x u => x = ownA r fi se ∧ u = (L, w)) := by
  refine mk_l (cc := cX3_argumentOf) (maxL := 5) [some (.ref a), some (.long fi), none, some (.long se), none] (by decide) rfl (Nat.le_of_ble_eq_true rfl) rfl ?_
  intro p e s m args below meth c A C hr hlk hnm
  have hin_X3 : ∀ x ∈ u_ws RX3 TX3 5, x ∈ wsX3_argumentOf := by decide +kernel
  refine j_aload_n (pc := 0) C rfl dX3_argumentOf_0 rfl ?_
  refine j_get (pc := 1) C hin_X3 h rfl 1 (by decide) (by decide +kernel) rfl dX3_argumentOf_1 ?_
  refine j_if_ne (pc := 4) (tgt := 11) C dX3_argumentOf_4 (by decide) (fun c4 => ?_) (fun c4 => ?_)
  · refine j_lload_n (pc := 11) C rfl dX3_argumentOf_11 rfl ?_
    exact ret_l C rfl hr hlk dX3_argumentOf_12 ⟨by simp only [ownA, c4, eq_self, not_true_eq_false, not_false_eq_true, decide_true, decide_false, if_true, if_false, reduceIte, Bool.false_eq_true, and_true, true_and, and_self, and_false, false_and], rfl⟩ (by decide) (by decide)
  · refine j_lload_n (pc := 7) C rfl dX3_argumentOf_7 rfl ?_
    refine j_goto (pc := 8) (tgt := 12) C dX3_argumentOf_8 (by decide) ?_
    exact ret_l C rfl hr hlk dX3_argumentOf_12 ⟨by simp only [ownA, c4, eq_self, not_true_eq_false, not_false_eq_true, decide_true, decide_false, if_true, if_false, reduceIte, Bool.false_eq_true, and_true, true_and, and_self, and_false, false_and], rfl⟩ (by decide) (by decide)

set_option maxRecDepth 100000 in
set_option maxHeartbeats 4000000 in
theorem ct_X3_lowerTests {l : Launch} {G : Gp} {L : List Nat} {w : Wn} {q a : Nat} {r : RV} (h : Hs L w q a (ruleE r))  : CI l yX3_lowerTests wsX3_lowerTests (rmD 1 0 0) G L w [.ref a] (fun x u => x = lowT r.2.2.1 ∧ u = (L, w)) := by
  refine mk_i (cc := cX3_lowerTests) (maxL := 1) [some (.ref a)] (by decide) rfl (Nat.le_of_ble_eq_true rfl) rfl ?_
  intro p e s m args below meth c A C hr hlk hnm
  have hin_X3 : ∀ x ∈ u_ws RX3 TX3 5, x ∈ wsX3_lowerTests := by decide +kernel
  refine j_aload_n (pc := 0) C rfl dX3_lowerTests_0 rfl ?_
  refine j_get (pc := 1) C hin_X3 h rfl 2 (by decide) (by decide +kernel) rfl dX3_lowerTests_1 ?_
  refine j_ldc2 (pc := 4) (v := 4294967295) C dX3_lowerTests_4 (by decide +kernel) ?_
  refine j_land (pc := 7) C dX3_lowerTests_7 ?_
  refine j_lconst (pc := 8) (v := 0) C dX3_lowerTests_8 (by decide) ?_
  refine j_lcmp (pc := 9) C dX3_lowerTests_9 ?_
  refine j_if_eq (pc := 10) (tgt := 17) C dX3_lowerTests_10 (by decide) (fun c10 => ?_) (fun c10 => ?_)
  · have c10 := ez_c c10
    refine j_iconst (pc := 17) (v := 0) C dX3_lowerTests_17 (by decide) ?_
    exact ret_i C rfl hr hlk dX3_lowerTests_18 ⟨by simp only [lowT, c10, eq_self, not_true_eq_false, not_false_eq_true, decide_true, decide_false, if_true, if_false, reduceIte, Bool.false_eq_true, and_true, true_and, and_self, and_false, false_and], rfl⟩ (by decide) (by decide)
  · have c10 := nz_c c10
    refine j_iconst (pc := 13) (v := 1) C dX3_lowerTests_13 (by decide) ?_
    refine j_goto (pc := 14) (tgt := 18) C dX3_lowerTests_14 (by decide) ?_
    exact ret_i C rfl hr hlk dX3_lowerTests_18 ⟨by simp only [lowT, c10, eq_self, not_true_eq_false, not_false_eq_true, decide_true, decide_false, if_true, if_false, reduceIte, Bool.false_eq_true, and_true, true_and, and_self, and_false, false_and], rfl⟩ (by decide) (by decide)

set_option maxRecDepth 100000 in
set_option maxHeartbeats 4000000 in
theorem ct_X3_upperTests {l : Launch} {G : Gp} {L : List Nat} {w : Wn} {q a : Nat} {r : RV} (h : Hs L w q a (ruleE r))  : CI l yX3_upperTests wsX3_upperTests (rmD 1 0 0) G L w [.ref a] (fun x u => x = uppT r.2.2.1 ∧ u = (L, w)) := by
  refine mk_i (cc := cX3_upperTests) (maxL := 1) [some (.ref a)] (by decide) rfl (Nat.le_of_ble_eq_true rfl) rfl ?_
  intro p e s m args below meth c A C hr hlk hnm
  have hin_X3 : ∀ x ∈ u_ws RX3 TX3 5, x ∈ wsX3_upperTests := by decide +kernel
  refine j_aload_n (pc := 0) C rfl dX3_upperTests_0 rfl ?_
  refine j_get (pc := 1) C hin_X3 h rfl 2 (by decide) (by decide +kernel) rfl dX3_upperTests_1 ?_
  refine j_ldc2 (pc := 4) (v := (-4294967296)) C dX3_upperTests_4 (by decide +kernel) ?_
  refine j_land (pc := 7) C dX3_upperTests_7 ?_
  refine j_lconst (pc := 8) (v := 0) C dX3_upperTests_8 (by decide) ?_
  refine j_lcmp (pc := 9) C dX3_upperTests_9 ?_
  refine j_if_eq (pc := 10) (tgt := 17) C dX3_upperTests_10 (by decide) (fun c10 => ?_) (fun c10 => ?_)
  · have c10 := ez_c c10
    refine j_iconst (pc := 17) (v := 0) C dX3_upperTests_17 (by decide) ?_
    exact ret_i C rfl hr hlk dX3_upperTests_18 ⟨by simp only [uppT, c10, eq_self, not_true_eq_false, not_false_eq_true, decide_true, decide_false, if_true, if_false, reduceIte, Bool.false_eq_true, and_true, true_and, and_self, and_false, false_and], rfl⟩ (by decide) (by decide)
  · have c10 := nz_c c10
    refine j_iconst (pc := 13) (v := 1) C dX3_upperTests_13 (by decide) ?_
    refine j_goto (pc := 14) (tgt := 18) C dX3_upperTests_14 (by decide) ?_
    exact ret_i C rfl hr hlk dX3_upperTests_18 ⟨by simp only [uppT, c10, eq_self, not_true_eq_false, not_false_eq_true, decide_true, decide_false, if_true, if_false, reduceIte, Bool.false_eq_true, and_true, true_and, and_self, and_false, false_and], rfl⟩ (by decide) (by decide)

set_option maxRecDepth 100000 in
set_option maxHeartbeats 4000000 in
theorem ct_X3_mostTests {l : Launch} {G : Gp} {L : List Nat} {w : Wn} {q a : Nat} {r : RV} (h : Hs L w q a (ruleE r))  : CI l yX3_mostTests wsX3_mostTests (rmD 2 0 0) G L w [.ref a] (fun x u => x = halT r.2.2.1 ∧ u = (L, w)) := by
  refine mk_i (cc := cX3_mostTests) (maxL := 1) [some (.ref a)] (by decide) rfl (Nat.le_of_ble_eq_true rfl) rfl ?_
  intro p e s m args below meth c A C hr hlk hnm
  refine j_aload_n (pc := 0) C rfl dX3_mostTests_0 rfl ?_
  refine jV_i0 (pc := 1) (k2 := 0) (n2 := 0) C (ct_X3_lowerTests h) gX3_mostTests_X3_lowerTests rfl (by decide +kernel) ⟨by decide, by decide⟩ h rfl (np := 0) (As := []) rfl rfl (Nat.le_of_ble_eq_true rfl) dX3_mostTests_1 (by decide) (by decide) ⟨by decide, by decide⟩ (fun v1 hv1 => ?_)
  refine j_aload_n (pc := 4) C rfl dX3_mostTests_4 rfl ?_
  refine jV_i0 (pc := 5) (k2 := 0) (n2 := 0) C (ct_X3_upperTests h) gX3_mostTests_X3_upperTests rfl (by decide +kernel) ⟨by decide, by decide⟩ h rfl (np := 0) (As := []) rfl rfl (Nat.le_of_ble_eq_true rfl) dX3_mostTests_5 (by decide) (by decide) ⟨by decide, by decide⟩ (fun v2 hv2 => ?_)
  refine j_iadd (pc := 8) C dX3_mostTests_8 ?_
  exact ret_i C rfl hr hlk dX3_mostTests_9 ⟨by rw [hv1, hv2]; rfl, rfl⟩ (by decide) (by decide)

set_option maxRecDepth 100000 in
set_option maxHeartbeats 4000000 in
theorem ct_X3_matches {l : Launch} {G : Gp} {L : List Nat} {w : Wn} {q a : Nat} {r : RV} (h : Hs L w q a (ruleE r)) (fi se : Int64) : CI l yX3_matches wsX3_matches (rmD 2 0 0) G L w [.ref a, .long fi, .long se] (fun x u => x = bI (matB r fi se) ∧ u = (L, w)) := by
  refine mk_i (cc := cX3_matches) (maxL := 5) [some (.ref a), some (.long fi), none, some (.long se), none] (by decide) rfl (Nat.le_of_ble_eq_true rfl) rfl ?_
  intro p e s m args below meth c A C hr hlk hnm
  have hin_X3 : ∀ x ∈ u_ws RX3 TX3 5, x ∈ wsX3_matches := by decide +kernel
  refine j_aload_n (pc := 0) C rfl dX3_matches_0 rfl ?_
  refine j_lload_n (pc := 1) C rfl dX3_matches_1 rfl ?_
  refine j_lload_n (pc := 2) C rfl dX3_matches_2 rfl ?_
  refine jV_l0 (pc := 3) (k2 := 0) (n2 := 0) C (ct_X3_argumentOf h fi se) gX3_matches_X3_argumentOf rfl (by decide +kernel) ⟨by decide, by decide⟩ h rfl (np := 2) (As := [.long fi, .long se]) rfl rfl (Nat.le_of_ble_eq_true rfl) dX3_matches_3 (by decide) (by decide) ⟨by decide, by decide⟩ (fun v1 hv1 => ?_)
  subst hv1
  refine j_aload_n (pc := 6) C rfl dX3_matches_6 rfl ?_
  refine j_get (pc := 7) C hin_X3 h rfl 2 (by decide) (by decide +kernel) rfl dX3_matches_7 ?_
  refine j_land (pc := 10) C dX3_matches_10 ?_
  refine j_aload_n (pc := 11) C rfl dX3_matches_11 rfl ?_
  refine j_get (pc := 12) C hin_X3 h rfl 3 (by decide) (by decide +kernel) rfl dX3_matches_12 ?_
  refine j_lcmp (pc := 15) C dX3_matches_15 ?_
  refine j_if_ne (pc := 16) (tgt := 23) C dX3_matches_16 (by decide) (fun c16 => ?_) (fun c16 => ?_)
  · have c16 := nz_c c16
    refine j_iconst (pc := 23) (v := 0) C dX3_matches_23 (by decide) ?_
    exact ret_z C rfl hr hlk (by decide) dX3_matches_24 ⟨by simp only [matB, bI, c16, eq_self, not_true_eq_false, not_false_eq_true, decide_true, decide_false, if_true, if_false, reduceIte, Bool.false_eq_true, and_true, true_and, and_self, and_false, false_and], rfl⟩ (by decide) (by decide)
  · have c16 := ez_c c16
    refine j_iconst (pc := 19) (v := 1) C dX3_matches_19 (by decide) ?_
    refine j_goto (pc := 20) (tgt := 24) C dX3_matches_20 (by decide) ?_
    exact ret_z C rfl hr hlk (by decide) dX3_matches_24 ⟨by simp only [matB, bI, c16, eq_self, not_true_eq_false, not_false_eq_true, decide_true, decide_false, if_true, if_false, reduceIte, Bool.false_eq_true, and_true, true_and, and_self, and_false, false_and], rfl⟩ (by decide) (by decide)

set_option maxRecDepth 100000 in
set_option maxHeartbeats 4000000 in
theorem ct_X3_canNeverMatch {l : Launch} {G : Gp} {L : List Nat} {w : Wn} {q a : Nat} {r : RV} (h : Hs L w q a (ruleE r))  : CI l yX3_canNeverMatch wsX3_canNeverMatch (rmD 1 0 0) G L w [.ref a] (fun x u => x = bI (nevB r) ∧ u = (L, w)) := by
  refine mk_i (cc := cX3_canNeverMatch) (maxL := 1) [some (.ref a)] (by decide) rfl (Nat.le_of_ble_eq_true rfl) rfl ?_
  intro p e s m args below meth c A C hr hlk hnm
  have hin_X3 : ∀ x ∈ u_ws RX3 TX3 5, x ∈ wsX3_canNeverMatch := by decide +kernel
  refine j_aload_n (pc := 0) C rfl dX3_canNeverMatch_0 rfl ?_
  refine j_get (pc := 1) C hin_X3 h rfl 3 (by decide) (by decide +kernel) rfl dX3_canNeverMatch_1 ?_
  refine j_aload_n (pc := 4) C rfl dX3_canNeverMatch_4 rfl ?_
  refine j_get (pc := 5) C hin_X3 h rfl 2 (by decide) (by decide +kernel) rfl dX3_canNeverMatch_5 ?_
  refine j_ldc2 (pc := 8) (v := (-1)) C dX3_canNeverMatch_8 (by decide +kernel) ?_
  refine j_lxor (pc := 11) C dX3_canNeverMatch_11 ?_
  refine j_land (pc := 12) C dX3_canNeverMatch_12 ?_
  refine j_lconst (pc := 13) (v := 0) C dX3_canNeverMatch_13 (by decide) ?_
  refine j_lcmp (pc := 14) C dX3_canNeverMatch_14 ?_
  refine j_if_eq (pc := 15) (tgt := 22) C dX3_canNeverMatch_15 (by decide) (fun c15 => ?_) (fun c15 => ?_)
  · have c15 := ez_c c15
    refine j_iconst (pc := 22) (v := 0) C dX3_canNeverMatch_22 (by decide) ?_
    exact ret_z C rfl hr hlk (by decide) dX3_canNeverMatch_23 ⟨by simp only [nevB, bI, c15, eq_self, not_true_eq_false, not_false_eq_true, decide_true, decide_false, if_true, if_false, reduceIte, Bool.false_eq_true, and_true, true_and, and_self, and_false, false_and], rfl⟩ (by decide) (by decide)
  · have c15 := nz_c c15
    refine j_iconst (pc := 18) (v := 1) C dX3_canNeverMatch_18 (by decide) ?_
    refine j_goto (pc := 19) (tgt := 23) C dX3_canNeverMatch_19 (by decide) ?_
    exact ret_z C rfl hr hlk (by decide) dX3_canNeverMatch_23 ⟨by simp only [nevB, bI, c15, eq_self, not_true_eq_false, not_false_eq_true, decide_true, decide_false, if_true, if_false, reduceIte, Bool.false_eq_true, and_true, true_and, and_self, and_false, false_and], rfl⟩ (by decide) (by decide)

set_option maxRecDepth 100000 in
set_option maxHeartbeats 4000000 in
theorem ct_X3_covers {l : Launch} {G : Gp} {L : List Nat} {w : Wn} {q a : Nat} {r : RV} (h : Hs L w q a (ruleE r)) {q2 b : Nat} {r2 : RV} (h2 : Hs L w q2 b (ruleE r2)) : CI l yX3_covers wsX3_covers (rmD 1 0 0) G L w [.ref a, .ref b] (fun x u => x = bI (covB r r2) ∧ u = (L, w)) := by
  refine mk_i (cc := cX3_covers) (maxL := 2) [some (.ref a), some (.ref b)] (by decide) rfl (Nat.le_of_ble_eq_true rfl) rfl ?_
  intro p e s m args below meth c A C hr hlk hnm
  have hin_X3 : ∀ x ∈ u_ws RX3 TX3 5, x ∈ wsX3_covers := by decide +kernel
  refine j_aload_n (pc := 0) C rfl dX3_covers_0 rfl ?_
  refine j_get (pc := 1) C hin_X3 h rfl 0 (by decide) (by decide +kernel) rfl dX3_covers_1 ?_
  refine j_aload_n (pc := 4) C rfl dX3_covers_4 rfl ?_
  refine j_get (pc := 5) C hin_X3 h2 rfl 0 (by decide) (by decide +kernel) rfl dX3_covers_5 ?_
  refine j_icmp_eq (pc := 8) (tgt := 13) C dX3_covers_8 (by decide) (fun c8 => ?_) (fun c8 => ?_)
  · refine j_aload_n (pc := 13) C rfl dX3_covers_13 rfl ?_
    refine j_get (pc := 14) C hin_X3 h rfl 2 (by decide) (by decide +kernel) rfl dX3_covers_14 ?_
    refine j_lconst (pc := 17) (v := 0) C dX3_covers_17 (by decide) ?_
    refine j_lcmp (pc := 18) C dX3_covers_18 ?_
    refine j_if_ne (pc := 19) (tgt := 33) C dX3_covers_19 (by decide) (fun c19 => ?_) (fun c19 => ?_)
    · have c19 := nz_c c19
      refine j_aload_n (pc := 33) C rfl dX3_covers_33 rfl ?_
      refine j_get (pc := 34) C hin_X3 h rfl 1 (by decide) (by decide +kernel) rfl dX3_covers_34 ?_
      refine j_aload_n (pc := 37) C rfl dX3_covers_37 rfl ?_
      refine j_get (pc := 38) C hin_X3 h2 rfl 1 (by decide) (by decide +kernel) rfl dX3_covers_38 ?_
      refine j_icmp_ne (pc := 41) (tgt := 83) C dX3_covers_41 (by decide) (fun c41 => ?_) (fun c41 => ?_)
      · refine j_iconst (pc := 83) (v := 0) C dX3_covers_83 (by decide) ?_
        exact ret_z C rfl hr hlk (by decide) dX3_covers_84 ⟨by unfold covB; rw [if_pos c8, if_neg (fun q => c19 q.1), if_neg (fun q => c41 q.1)]; rfl, rfl⟩ (by decide) (by decide)
      · refine j_aload_n (pc := 44) C rfl dX3_covers_44 rfl ?_
        refine j_get (pc := 45) C hin_X3 h rfl 2 (by decide) (by decide +kernel) rfl dX3_covers_45 ?_
        refine j_aload_n (pc := 48) C rfl dX3_covers_48 rfl ?_
        refine j_get (pc := 49) C hin_X3 h2 rfl 2 (by decide) (by decide +kernel) rfl dX3_covers_49 ?_
        refine j_ldc2 (pc := 52) (v := (-1)) C dX3_covers_52 (by decide +kernel) ?_
        refine j_lxor (pc := 55) C dX3_covers_55 ?_
        refine j_land (pc := 56) C dX3_covers_56 ?_
        refine j_lconst (pc := 57) (v := 0) C dX3_covers_57 (by decide) ?_
        refine j_lcmp (pc := 58) C dX3_covers_58 ?_
        refine j_if_ne (pc := 59) (tgt := 83) C dX3_covers_59 (by decide) (fun c59 => ?_) (fun c59 => ?_)
        · have c59 := nz_c c59
          refine j_iconst (pc := 83) (v := 0) C dX3_covers_83 (by decide) ?_
          exact ret_z C rfl hr hlk (by decide) dX3_covers_84 ⟨by unfold covB; rw [if_pos c8, if_neg (fun q => c19 q.1), if_neg (fun q => c59 q.2.1)]; rfl, rfl⟩ (by decide) (by decide)
        · have c59 := ez_c c59
          refine j_aload_n (pc := 62) C rfl dX3_covers_62 rfl ?_
          refine j_get (pc := 63) C hin_X3 h2 rfl 3 (by decide) (by decide +kernel) rfl dX3_covers_63 ?_
          refine j_aload_n (pc := 66) C rfl dX3_covers_66 rfl ?_
          refine j_get (pc := 67) C hin_X3 h rfl 2 (by decide) (by decide +kernel) rfl dX3_covers_67 ?_
          refine j_land (pc := 70) C dX3_covers_70 ?_
          refine j_aload_n (pc := 71) C rfl dX3_covers_71 rfl ?_
          refine j_get (pc := 72) C hin_X3 h rfl 3 (by decide) (by decide +kernel) rfl dX3_covers_72 ?_
          refine j_lcmp (pc := 75) C dX3_covers_75 ?_
          refine j_if_ne (pc := 76) (tgt := 83) C dX3_covers_76 (by decide) (fun c76 => ?_) (fun c76 => ?_)
          · have c76 := nz_c c76
            refine j_iconst (pc := 83) (v := 0) C dX3_covers_83 (by decide) ?_
            exact ret_z C rfl hr hlk (by decide) dX3_covers_84 ⟨by unfold covB; rw [if_pos c8, if_neg (fun q => c19 q.1), if_neg (fun q => c76 q.2.2)]; rfl, rfl⟩ (by decide) (by decide)
          · have c76 := ez_c c76
            refine j_iconst (pc := 79) (v := 1) C dX3_covers_79 (by decide) ?_
            refine j_goto (pc := 80) (tgt := 84) C dX3_covers_80 (by decide) ?_
            exact ret_z C rfl hr hlk (by decide) dX3_covers_84 ⟨by unfold covB; rw [if_pos c8, if_neg (fun q => c19 q.1), if_pos ⟨c41, c59, c76⟩]; rfl, rfl⟩ (by decide) (by decide)
    · have c19 := ez_c c19
      refine j_aload_n (pc := 22) C rfl dX3_covers_22 rfl ?_
      refine j_get (pc := 23) C hin_X3 h rfl 3 (by decide) (by decide +kernel) rfl dX3_covers_23 ?_
      refine j_lconst (pc := 26) (v := 0) C dX3_covers_26 (by decide) ?_
      refine j_lcmp (pc := 27) C dX3_covers_27 ?_
      refine j_if_ne (pc := 28) (tgt := 33) C dX3_covers_28 (by decide) (fun c28 => ?_) (fun c28 => ?_)
      · have c28 := nz_c c28
        refine j_aload_n (pc := 33) C rfl dX3_covers_33 rfl ?_
        refine j_get (pc := 34) C hin_X3 h rfl 1 (by decide) (by decide +kernel) rfl dX3_covers_34 ?_
        refine j_aload_n (pc := 37) C rfl dX3_covers_37 rfl ?_
        refine j_get (pc := 38) C hin_X3 h2 rfl 1 (by decide) (by decide +kernel) rfl dX3_covers_38 ?_
        refine j_icmp_ne (pc := 41) (tgt := 83) C dX3_covers_41 (by decide) (fun c41 => ?_) (fun c41 => ?_)
        · refine j_iconst (pc := 83) (v := 0) C dX3_covers_83 (by decide) ?_
          exact ret_z C rfl hr hlk (by decide) dX3_covers_84 ⟨by unfold covB; rw [if_pos c8, if_neg (fun q => c28 q.2), if_neg (fun q => c41 q.1)]; rfl, rfl⟩ (by decide) (by decide)
        · refine j_aload_n (pc := 44) C rfl dX3_covers_44 rfl ?_
          refine j_get (pc := 45) C hin_X3 h rfl 2 (by decide) (by decide +kernel) rfl dX3_covers_45 ?_
          refine j_aload_n (pc := 48) C rfl dX3_covers_48 rfl ?_
          refine j_get (pc := 49) C hin_X3 h2 rfl 2 (by decide) (by decide +kernel) rfl dX3_covers_49 ?_
          refine j_ldc2 (pc := 52) (v := (-1)) C dX3_covers_52 (by decide +kernel) ?_
          refine j_lxor (pc := 55) C dX3_covers_55 ?_
          refine j_land (pc := 56) C dX3_covers_56 ?_
          refine j_lconst (pc := 57) (v := 0) C dX3_covers_57 (by decide) ?_
          refine j_lcmp (pc := 58) C dX3_covers_58 ?_
          refine j_if_ne (pc := 59) (tgt := 83) C dX3_covers_59 (by decide) (fun c59 => ?_) (fun c59 => ?_)
          · have c59 := nz_c c59
            refine j_iconst (pc := 83) (v := 0) C dX3_covers_83 (by decide) ?_
            exact ret_z C rfl hr hlk (by decide) dX3_covers_84 ⟨by unfold covB; rw [if_pos c8, if_neg (fun q => c28 q.2), if_neg (fun q => c59 q.2.1)]; rfl, rfl⟩ (by decide) (by decide)
          · have c59 := ez_c c59
            refine j_aload_n (pc := 62) C rfl dX3_covers_62 rfl ?_
            refine j_get (pc := 63) C hin_X3 h2 rfl 3 (by decide) (by decide +kernel) rfl dX3_covers_63 ?_
            refine j_aload_n (pc := 66) C rfl dX3_covers_66 rfl ?_
            refine j_get (pc := 67) C hin_X3 h rfl 2 (by decide) (by decide +kernel) rfl dX3_covers_67 ?_
            refine j_land (pc := 70) C dX3_covers_70 ?_
            refine j_aload_n (pc := 71) C rfl dX3_covers_71 rfl ?_
            refine j_get (pc := 72) C hin_X3 h rfl 3 (by decide) (by decide +kernel) rfl dX3_covers_72 ?_
            refine j_lcmp (pc := 75) C dX3_covers_75 ?_
            refine j_if_ne (pc := 76) (tgt := 83) C dX3_covers_76 (by decide) (fun c76 => ?_) (fun c76 => ?_)
            · have c76 := nz_c c76
              refine j_iconst (pc := 83) (v := 0) C dX3_covers_83 (by decide) ?_
              exact ret_z C rfl hr hlk (by decide) dX3_covers_84 ⟨by unfold covB; rw [if_pos c8, if_neg (fun q => c28 q.2), if_neg (fun q => c76 q.2.2)]; rfl, rfl⟩ (by decide) (by decide)
            · have c76 := ez_c c76
              refine j_iconst (pc := 79) (v := 1) C dX3_covers_79 (by decide) ?_
              refine j_goto (pc := 80) (tgt := 84) C dX3_covers_80 (by decide) ?_
              exact ret_z C rfl hr hlk (by decide) dX3_covers_84 ⟨by unfold covB; rw [if_pos c8, if_neg (fun q => c28 q.2), if_pos ⟨c41, c59, c76⟩]; rfl, rfl⟩ (by decide) (by decide)
      · have c28 := ez_c c28
        refine j_iconst (pc := 31) (v := 1) C dX3_covers_31 (by decide) ?_
        exact ret_z C rfl hr hlk (by decide) dX3_covers_32 ⟨by unfold covB; rw [if_pos c8, if_pos ⟨c19, c28⟩]; rfl, rfl⟩ (by decide) (by decide)
  · refine j_iconst (pc := 11) (v := 0) C dX3_covers_11 (by decide) ?_
    exact ret_z C rfl hr hlk (by decide) dX3_covers_12 ⟨by unfold covB; rw [if_neg c8]; rfl, rfl⟩ (by decide) (by decide)

set_option maxRecDepth 100000 in
set_option maxHeartbeats 4000000 in
theorem ct_X3_testsFor {l : Launch} {G : Gp} {L : List Nat} {w : Wn} {q a : Nat} {r : RV} (h : Hs L w q a (ruleE r)) (fi se : Int64) : CI l yX3_testsFor wsX3_testsFor (rmD 3 0 0) G L w [.ref a, .long fi, .long se] (fun x u => x = tstT r fi se ∧ u = (L, w)) := by
  refine mk_i (cc := cX3_testsFor) (maxL := 6) [some (.ref a), some (.long fi), none, some (.long se), none, none] (by decide) rfl (Nat.le_of_ble_eq_true rfl) rfl ?_
  intro p e s m args below meth c A C hr hlk hnm
  have hin_X3 : ∀ x ∈ u_ws RX3 TX3 5, x ∈ wsX3_testsFor := by decide +kernel
  refine j_aload_n (pc := 0) C rfl dX3_testsFor_0 rfl ?_
  refine j_lload_n (pc := 1) C rfl dX3_testsFor_1 rfl ?_
  refine j_lload_n (pc := 2) C rfl dX3_testsFor_2 rfl ?_
  refine jV_l0 (pc := 3) (k2 := 0) (n2 := 0) C (ct_X3_argumentOf h fi se) gX3_testsFor_X3_argumentOf rfl (by decide +kernel) ⟨by decide, by decide⟩ h rfl (np := 2) (As := [.long fi, .long se]) rfl rfl (Nat.le_of_ble_eq_true rfl) dX3_testsFor_3 (by decide) (by decide) ⟨by decide, by decide⟩ (fun v1 hv1 => ?_)
  subst hv1
  refine j_aload_n (pc := 6) C rfl dX3_testsFor_6 rfl ?_
  refine j_get (pc := 7) C hin_X3 h rfl 2 (by decide) (by decide +kernel) rfl dX3_testsFor_7 ?_
  refine j_land (pc := 10) C dX3_testsFor_10 ?_
  refine j_aload_n (pc := 11) C rfl dX3_testsFor_11 rfl ?_
  refine j_get (pc := 12) C hin_X3 h rfl 3 (by decide) (by decide +kernel) rfl dX3_testsFor_12 ?_
  refine j_lxor (pc := 15) C dX3_testsFor_15 ?_
  refine j_ldc2 (pc := 16) (v := 4294967295) C dX3_testsFor_16 (by decide +kernel) ?_
  refine j_land (pc := 19) C dX3_testsFor_19 ?_
  refine j_lconst (pc := 20) (v := 0) C dX3_testsFor_20 (by decide) ?_
  refine j_lcmp (pc := 21) C dX3_testsFor_21 ?_
  refine j_if_eq (pc := 22) (tgt := 29) C dX3_testsFor_22 (by decide) (fun c22 => ?_) (fun c22 => ?_)
  · have c22 := ez_c c22
    refine j_iconst (pc := 29) (v := 0) C dX3_testsFor_29 (by decide) ?_
    refine j_istore_5 (pc := 30) C dX3_testsFor_30 (by decide) rfl ?_
    refine j_iload (pc := 32) C dX3_testsFor_32 rfl ?_
    refine j_if_eq (pc := 34) (tgt := 44) C dX3_testsFor_34 (by decide) (fun c34 => ?_) (fun c34 => ?_)
    · refine j_aload_n (pc := 44) C rfl dX3_testsFor_44 rfl ?_
      refine jV_i0 (pc := 45) (k2 := 0) (n2 := 0) C (ct_X3_mostTests h) gX3_testsFor_X3_mostTests rfl (by decide +kernel) ⟨by decide, by decide⟩ h rfl (np := 0) (As := []) rfl rfl (Nat.le_of_ble_eq_true rfl) dX3_testsFor_45 (by decide) (by decide) ⟨by decide, by decide⟩ (fun vv hvv => ?_)
      exact ret_i C rfl hr hlk dX3_testsFor_48 ⟨by rw [hvv]; unfold tstT; rw [if_pos c22], rfl⟩ (by decide) (by decide)
    · refine j_aload_n (pc := 37) C rfl dX3_testsFor_37 rfl ?_
      refine jV_i0 (pc := 38) (k2 := 0) (n2 := 0) C (ct_X3_lowerTests h) gX3_testsFor_X3_lowerTests rfl (by decide +kernel) ⟨by decide, by decide⟩ h rfl (np := 0) (As := []) rfl rfl (Nat.le_of_ble_eq_true rfl) dX3_testsFor_38 (by decide) (by decide) ⟨by decide, by decide⟩ (fun vv hvv => ?_)
      refine j_goto (pc := 41) (tgt := 48) C dX3_testsFor_41 (by decide) ?_
      exact absurd rfl c34
  · have c22 := nz_c c22
    refine j_iconst (pc := 25) (v := 1) C dX3_testsFor_25 (by decide) ?_
    refine j_goto (pc := 26) (tgt := 30) C dX3_testsFor_26 (by decide) ?_
    refine j_istore_5 (pc := 30) C dX3_testsFor_30 (by decide) rfl ?_
    refine j_iload (pc := 32) C dX3_testsFor_32 rfl ?_
    refine j_if_eq (pc := 34) (tgt := 44) C dX3_testsFor_34 (by decide) (fun c34 => ?_) (fun c34 => ?_)
    · refine j_aload_n (pc := 44) C rfl dX3_testsFor_44 rfl ?_
      refine jV_i0 (pc := 45) (k2 := 0) (n2 := 0) C (ct_X3_mostTests h) gX3_testsFor_X3_mostTests rfl (by decide +kernel) ⟨by decide, by decide⟩ h rfl (np := 0) (As := []) rfl rfl (Nat.le_of_ble_eq_true rfl) dX3_testsFor_45 (by decide) (by decide) ⟨by decide, by decide⟩ (fun vv hvv => ?_)
      exact absurd c34 (by decide)
    · refine j_aload_n (pc := 37) C rfl dX3_testsFor_37 rfl ?_
      refine jV_i0 (pc := 38) (k2 := 0) (n2 := 0) C (ct_X3_lowerTests h) gX3_testsFor_X3_lowerTests rfl (by decide +kernel) ⟨by decide, by decide⟩ h rfl (np := 0) (As := []) rfl rfl (Nat.le_of_ble_eq_true rfl) dX3_testsFor_38 (by decide) (by decide) ⟨by decide, by decide⟩ (fun vv hvv => ?_)
      refine j_goto (pc := 41) (tgt := 48) C dX3_testsFor_41 (by decide) ?_
      exact ret_i C rfl hr hlk dX3_testsFor_48 ⟨by rw [hvv]; unfold tstT; rw [if_neg c22], rfl⟩ (by decide) (by decide)

