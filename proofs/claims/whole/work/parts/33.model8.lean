/-! THE MODEL: compile, test, path, what is set -/
set_option maxRecDepth 100000 in
set_option maxHeartbeats 4000000 in
theorem mcp_loop {p : Program} {e : Env} {s : State} {m : MethodId} {args : Array Value} {below : List Frame} {meth : Method} {c : Code} {A : Nat → Prop} {post : Int32 → Sw → Prop} {l : Launch} {G : Gp} {L : List Nat} {am : Nat → Nat} {cp : Int32} {df : Nat → Int32} {fq : Nat → Nat} {E : Nat → EL} {ns ar ac : Nat → Int32} {mk vl : Nat → Int64} {w0 : Wn} (hcp : cp = 0 ∨ cp = 1) {x : Int32} (hend : ∀ r w2, FrM L w0 w2 → ((smN (fun j => wF fq (E j)) 4 ≤ x ∧ r = smN (fun j => wF fq (E j)) 4 ∧ MD G am L w2 0 1 df fq E) ∨ (¬ smN (fun j => wF fq (E j)) 4 ≤ x ∧ r = -1 ∧ MD G am L w2 0 cp df fq E)) → post r (L, w2)) (C : Cx p s m args c cX5_compile yX5_compile.cls 4 wsX5_compile G A s.heap) (hr : meth.sig.returnType = (some .int)) (hlk : meth.locks = false) : ∀ (f q : Nat) (t : Int32) (w : Wn) (ks : Nat → Int32) (sz : Nat) (co ro : Nat → Int32), 4 - q = f → q ≤ 4 → t = smN (fun j => wF fq (E j)) q → MB G am L w 0 cp df fq E ns ar ac mk vl ks sz co ro → FrM L w0 w → J p l e (rmD 8 0 0) s m args below meth c G A s.heap 4 (MQ below (va_Qi post (PB G A) A) args s (rmD 8 0 0).cells (rmD 8 0 0).slots A) L w 0 0 29 [some (.ref (am 42)), some (.int x), some (.int t), some (.int (nI q))] [] := by
  have hin_X5 : ∀ x ∈ u_ws RX5 TX5 14, x ∈ wsX5_compile := by decide +kernel
  intro f
  induction f using Nat.strongRecOn with
  | _ f ih =>
    intro q t w ks sz co ro hf hq0 ht0 hm hfr
    subst ht0
    obtain ⟨h42, h43, h44, h45, h46, h47, h48, h49, h50, h51, h52, h53, hT, hE, hfb, hsz⟩ := id hm
    refine j_iload_n (pc := 29) C rfl dX5_compile_29 rfl ?_
    refine j_iconst (pc := 30) (v := 4) C dX5_compile_30 (by decide) ?_
    refine j_icmp_ge (pc := 31) (tgt := 48) C dX5_compile_31 (by decide) (fun c31 => ?_) (fun c31 => ?_)
    · have c31 := nI_le_of (by omega) (by omega) (show nI 4 ≤ nI q from c31)
      have hq4 : q = 4 := by omega
      subst hq4
      refine j_aload_n (pc := 48) C rfl dX5_compile_48 rfl ?_
      refine j_aload_n (pc := 49) C rfl dX5_compile_49 rfl ?_
      refine j_get (pc := 50) C hin_X5 h42 rfl 9 (by decide) (by decide +kernel) rfl dX5_compile_50 ?_
      refine j_if_ne (pc := 53) (tgt := 61) C dX5_compile_53 (by decide) (fun c53 => ?_) (fun c53 => ?_)
      · refine j_iconst (pc := 61) (v := 1) C dX5_compile_61 (by decide) ?_
        refine j_goto (pc := 62) (tgt := 66) C dX5_compile_62 (by decide) ?_
        refine j_put (pc := 66) (fs2 := [.int 0, .ref (am 43), .ref (am 44), .ref (am 45), .ref (am 46), .ref (am 47), .ref (am 48), .ref (am 49), .ref (am 50), .int 1, .ref (am 51), .int (nI sz), .ref (am 52), .ref (am 53)]) C hin_X5 h42 rfl 9 (by decide) tyX5 tyX5_ok nmX5 (by decide +kernel) rfl (tyX5_ok 9 (by decide)) (by first | rfl | decide) rfl (Nat.le_of_ble_eq_true rfl) rfl dX5_compile_66 ?_
        refine j_nm (fun w66 ew66 => ?_)
        obtain ⟨hm66, hf66⟩ := hm.setob (th2 := 0) (cp2 := 1) (sz2 := sz) ew66 hsz
        skip
        obtain ⟨h42, h43, h44, h45, h46, h47, h48, h49, h50, h51, h52, h53, hT, hE, hfb, hsz⟩ := id hm66
        refine j_iload_n (pc := 69) C rfl dX5_compile_69 rfl ?_
        refine j_iload_n (pc := 70) C rfl dX5_compile_70 rfl ?_
        refine j_icmp_gt (pc := 71) (tgt := 78) C dX5_compile_71 (by decide) (fun c71 => ?_) (fun c71 => ?_)
        · have c71 : ¬ smN (fun j => wF fq (E j)) 4 ≤ x := Int32.not_le.mpr c71
          refine j_iconst (pc := 78) (v := (-1)) C dX5_compile_78 (by decide) ?_
          exact ret_i C rfl hr hlk dX5_compile_79 (hend _ w66 (hfr.tr hf66) (Or.inr ⟨c71, rfl, by first | exact hm66.md | (rw [hcp.resolve_left c53]; exact hm66.md) | (rw [c53]; exact hm66.md)⟩)) (by decide) (by decide)
        · have c71 : smN (fun j => wF fq (E j)) 4 ≤ x := Int32.not_lt.mp c71
          refine j_iload_n (pc := 74) C rfl dX5_compile_74 rfl ?_
          refine j_goto (pc := 75) (tgt := 79) C dX5_compile_75 (by decide) ?_
          exact ret_i C rfl hr hlk dX5_compile_79 (hend _ w66 (hfr.tr hf66) (Or.inl ⟨c71, rfl, hm66.md⟩)) (by decide) (by decide)
      · refine j_iload_n (pc := 56) C rfl dX5_compile_56 rfl ?_
        refine j_iload_n (pc := 57) C rfl dX5_compile_57 rfl ?_
        refine j_icmp_gt (pc := 58) (tgt := 65) C dX5_compile_58 (by decide) (fun c58 => ?_) (fun c58 => ?_)
        · have c58 : ¬ smN (fun j => wF fq (E j)) 4 ≤ x := Int32.not_le.mpr c58
          refine j_iconst (pc := 65) (v := 0) C dX5_compile_65 (by decide) ?_
          refine j_put (pc := 66) (fs2 := [.int 0, .ref (am 43), .ref (am 44), .ref (am 45), .ref (am 46), .ref (am 47), .ref (am 48), .ref (am 49), .ref (am 50), .int 0, .ref (am 51), .int (nI sz), .ref (am 52), .ref (am 53)]) C hin_X5 h42 rfl 9 (by decide) tyX5 tyX5_ok nmX5 (by decide +kernel) rfl (tyX5_ok 9 (by decide)) (by first | rfl | decide) rfl (Nat.le_of_ble_eq_true rfl) rfl dX5_compile_66 ?_
          refine j_nm (fun w66 ew66 => ?_)
          obtain ⟨hm66, hf66⟩ := hm.setob (th2 := 0) (cp2 := 0) (sz2 := sz) ew66 hsz
          skip
          obtain ⟨h42, h43, h44, h45, h46, h47, h48, h49, h50, h51, h52, h53, hT, hE, hfb, hsz⟩ := id hm66
          refine j_iload_n (pc := 69) C rfl dX5_compile_69 rfl ?_
          refine j_iload_n (pc := 70) C rfl dX5_compile_70 rfl ?_
          refine j_icmp_gt (pc := 71) (tgt := 78) C dX5_compile_71 (by decide) (fun c71 => ?_) (fun c71 => ?_)
          · have c71 : ¬ smN (fun j => wF fq (E j)) 4 ≤ x := Int32.not_le.mpr c71
            refine j_iconst (pc := 78) (v := (-1)) C dX5_compile_78 (by decide) ?_
            exact ret_i C rfl hr hlk dX5_compile_79 (hend _ w66 (hfr.tr hf66) (Or.inr ⟨c71, rfl, by first | exact hm66.md | (rw [hcp.resolve_left c53]; exact hm66.md) | (rw [c53]; exact hm66.md)⟩)) (by decide) (by decide)
          · have c71 : smN (fun j => wF fq (E j)) 4 ≤ x := Int32.not_lt.mp c71
            exact absurd c71 c58
        · have c58 : smN (fun j => wF fq (E j)) 4 ≤ x := Int32.not_lt.mp c58
          refine j_iconst (pc := 61) (v := 1) C dX5_compile_61 (by decide) ?_
          refine j_goto (pc := 62) (tgt := 66) C dX5_compile_62 (by decide) ?_
          refine j_put (pc := 66) (fs2 := [.int 0, .ref (am 43), .ref (am 44), .ref (am 45), .ref (am 46), .ref (am 47), .ref (am 48), .ref (am 49), .ref (am 50), .int 1, .ref (am 51), .int (nI sz), .ref (am 52), .ref (am 53)]) C hin_X5 h42 rfl 9 (by decide) tyX5 tyX5_ok nmX5 (by decide +kernel) rfl (tyX5_ok 9 (by decide)) (by first | rfl | decide) rfl (Nat.le_of_ble_eq_true rfl) rfl dX5_compile_66 ?_
          refine j_nm (fun w66 ew66 => ?_)
          obtain ⟨hm66, hf66⟩ := hm.setob (th2 := 0) (cp2 := 1) (sz2 := sz) ew66 hsz
          skip
          obtain ⟨h42, h43, h44, h45, h46, h47, h48, h49, h50, h51, h52, h53, hT, hE, hfb, hsz⟩ := id hm66
          refine j_iload_n (pc := 69) C rfl dX5_compile_69 rfl ?_
          refine j_iload_n (pc := 70) C rfl dX5_compile_70 rfl ?_
          refine j_icmp_gt (pc := 71) (tgt := 78) C dX5_compile_71 (by decide) (fun c71 => ?_) (fun c71 => ?_)
          · have c71 : ¬ smN (fun j => wF fq (E j)) 4 ≤ x := Int32.not_le.mpr c71
            exact absurd c58 c71
          · have c71 : smN (fun j => wF fq (E j)) 4 ≤ x := Int32.not_lt.mp c71
            refine j_iload_n (pc := 74) C rfl dX5_compile_74 rfl ?_
            refine j_goto (pc := 75) (tgt := 79) C dX5_compile_75 (by decide) ?_
            exact ret_i C rfl hr hlk dX5_compile_79 (hend _ w66 (hfr.tr hf66) (Or.inl ⟨c71, rfl, hm66.md⟩)) (by decide) (by decide)
    · have c31 := nI_gt_of (by omega) (by omega) (show ¬ nI 4 ≤ nI q from c31)
      refine j_iload_n (pc := 34) C rfl dX5_compile_34 rfl ?_
      refine j_aload_n (pc := 35) C rfl dX5_compile_35 rfl ?_
      refine j_iload_n (pc := 36) C rfl dX5_compile_36 rfl ?_
      refine jV_i (pc := 37) (k2 := 0) (n2 := 0) (np := 1) (As := [.int (nI q)]) C (ct_worstOf hm c31) gX5_compile_X5_worstOf rfl (by decide +kernel) ⟨by decide, by decide⟩ h42 rfl rfl rfl (Nat.le_of_ble_eq_true rfl) dX5_compile_37 (by decide) (by decide) ⟨by decide, by decide⟩ (fun v L2 w2 hu => ?_)
      obtain ⟨rfl, w9, ks2, sz2, co2, ro2, e9, hmL, hf2⟩ := hu
      cases e9
      refine j_iadd (pc := 40) C dX5_compile_40 ?_
      refine j_istore_2 (pc := 41) C dX5_compile_41 (by decide) rfl ?_
      refine j_iinc_3 (pc := 42) (d := 1) C dX5_compile_42 (by decide) rfl rfl ?_
      refine j_lo (by rw [nI_1]) ?_
      refine j_goto (pc := 45) (tgt := 29) C dX5_compile_45 (by decide) ?_
      exact ih (4 - (q + 1)) (by omega) (q + 1) _ w2 ks2 sz2 co2 ro2 rfl (by omega) rfl hmL (hfr.tr hf2)

set_option maxRecDepth 100000 in
set_option maxHeartbeats 4000000 in
theorem ct_M_compile {l : Launch} {G : Gp} {L : List Nat} {w : Wn} {am : Nat → Nat} {th cp : Int32} {df : Nat → Int32} {fq : Nat → Nat} {E : Nat → EL} {ns ar ac : Nat → Int32} {mk vl : Nat → Int64} {ks : Nat → Int32} {sz : Nat} {co ro : Nat → Int32} (hm : MB G am L w th cp df fq E ns ar ac mk vl ks sz co ro) (hcp : cp = 0 ∨ cp = 1) (x : Int32) : CI l yX5_compile wsX5_compile (rmD 8 0 0) G L w [.ref (am 42), .int x] (fun r u => ∃ w2, u = (L, w2) ∧ FrM L w w2 ∧ ((vld x 1001 ∧ ((smN (fun j => wF fq (E j)) 4 ≤ x ∧ r = smN (fun j => wF fq (E j)) 4 ∧ MD G am L w2 0 1 df fq E) ∨ (¬ smN (fun j => wF fq (E j)) 4 ≤ x ∧ r = -1 ∧ MD G am L w2 0 cp df fq E))) ∨ (¬ vld x 1001 ∧ MD G am L w2 1 cp df fq E))) := by
  refine mk_i (cc := cX5_compile) (maxL := 4) [some (.ref (am 42)), some (.int x), none, none] (by decide) rfl (Nat.le_of_ble_eq_true rfl) rfl ?_
  intro p e s m args below meth c A C hr hlk hnm
  obtain ⟨h42, h43, h44, h45, h46, h47, h48, h49, h50, h51, h52, h53, hT, hE, hfb, hsz⟩ := id hm
  have hfr : FrM L w w := Fr.rf
  refine j_aload_n (pc := 0) C rfl dX5_compile_0 rfl ?_
  refine j_iload_n (pc := 1) C rfl dX5_compile_1 rfl ?_
  refine j_iconst (pc := 2) (v := 0) C dX5_compile_2 (by decide) ?_
  refine j_sipush (pc := 3) (v := 1000) C dX5_compile_3 (by decide) ?_
  refine jS_i0 (pc := 6) (k2 := 0) (n2 := 0) (np := 3) (As := [.int x, .int 0, .int 1000]) C (ct_in x 0 1000) gX5_compile_X5_in rfl (by decide +kernel) ⟨by decide, by decide⟩ rfl rfl (Nat.le_of_ble_eq_true rfl) dX5_compile_6 (by decide) (by decide) ⟨by decide, by decide⟩ (fun v1 hv1 => ?_)
  refine j_if_eq (pc := 9) (tgt := 16) C dX5_compile_9 (by decide) (fun c9 => ?_) (fun c9 => ?_)
  · have c9 : ¬ vld x 1001 := fun z => tf_0 hv1 c9 ((vld_iff (n := 1000) (by decide)).mpr z)
    refine j_iconst (pc := 16) (v := 1) C dX5_compile_16 (by decide) ?_
    refine jV_i (pc := 17) (k2 := 0) (n2 := 0) (np := 1) (As := [.int 1]) C (ct_goes1 (pl := 1) h42 (by decide)) gX5_compile_X5_goesWell rfl (by decide +kernel) ⟨by decide, by decide⟩ h42 rfl rfl rfl (Nat.le_of_ble_eq_true rfl) dX5_compile_17 (by decide) (by decide) ⟨by decide, by decide⟩ (fun v L2 w2 hu => ?_)
    obtain ⟨hv9, e9⟩ := hu
    subst hv9
    cases e9
    refine j_nm (fun w17 ew17 => ?_)
    obtain ⟨hm17, hf17⟩ := hm.setob (th2 := 1) (cp2 := cp) (sz2 := sz) ew17 hsz
    have hfr := hfr.tr hf17
    obtain ⟨h42, h43, h44, h45, h46, h47, h48, h49, h50, h51, h52, h53, hT, hE, hfb, hsz⟩ := id hm17
    refine j_if_ne (pc := 20) (tgt := 25) C dX5_compile_20 (by decide) (fun z9 => absurd rfl z9) (fun _ => ?_)
    refine j_iconst (pc := 23) (v := 0) C dX5_compile_23 (by decide) ?_
    exact ret_i C rfl hr hlk dX5_compile_24 ⟨_, rfl, hfr, Or.inr ⟨c9, hm17.md⟩⟩ (by decide) (by decide)
  · have c9 : vld x 1001 := (vld_iff (n := 1000) (by decide)).mp (tf_1 hv1 c9)
    refine j_iconst (pc := 12) (v := 0) C dX5_compile_12 (by decide) ?_
    refine j_goto (pc := 13) (tgt := 17) C dX5_compile_13 (by decide) ?_
    refine jV_i (pc := 17) (k2 := 0) (n2 := 0) (np := 1) (As := [.int 0]) C (ct_goes0 h42) gX5_compile_X5_goesWell rfl (by decide +kernel) ⟨by decide, by decide⟩ h42 rfl rfl rfl (Nat.le_of_ble_eq_true rfl) dX5_compile_17 (by decide) (by decide) ⟨by decide, by decide⟩ (fun v L2 w2 hu => ?_)
    obtain ⟨hv9, e9⟩ := hu
    subst hv9
    cases e9
    refine j_nm (fun w17 ew17 => ?_)
    obtain ⟨hm17, hf17⟩ := hm.setob (th2 := 0) (cp2 := cp) (sz2 := sz) ew17 hsz
    have hfr := hfr.tr hf17
    obtain ⟨h42, h43, h44, h45, h46, h47, h48, h49, h50, h51, h52, h53, hT, hE, hfb, hsz⟩ := id hm17
    refine j_if_ne (pc := 20) (tgt := 25) C dX5_compile_20 (by decide) (fun _ => ?_) (fun z9 => absurd z9 (by decide))
    refine j_iconst (pc := 25) (v := 0) C dX5_compile_25 (by decide) ?_
    refine j_istore_2 (pc := 26) C dX5_compile_26 (by decide) rfl ?_
    refine j_iconst (pc := 27) (v := 0) C dX5_compile_27 (by decide) ?_
    refine j_istore_3 (pc := 28) C dX5_compile_28 (by decide) rfl ?_
    exact mcp_loop hcp (fun r w2 k1 k2 => ⟨w2, rfl, k1, Or.inl ⟨c9, k2⟩⟩) C hr hlk 4 0 0 w17 ks sz co ro rfl (by decide) rfl hm17 hfr

set_option maxRecDepth 100000 in
set_option maxHeartbeats 4000000 in
theorem mpa_loop {p : Program} {e : Env} {s : State} {m : MethodId} {args : Array Value} {below : List Frame} {meth : Method} {c : Code} {A : Nat → Prop} {post : Int32 → Sw → Prop} {l : Launch} {G : Gp} {L : List Nat} {am : Nat → Nat} {cp : Int32} {df : Nat → Int32} {fq : Nat → Nat} {E : Nat → EL} {ns ar ac : Nat → Int32} {mk vl : Nat → Int64} {w0 : Wn} {x : Int32} {fi se : Int64} (hend : ∀ r w2, FrM L w0 w2 → r = smN (fun i => pthT fq (E i) x fi se) 4 → MD G am L w2 0 cp df fq E → post r (L, w2)) (C : Cx p s m args c cX5_path yX5_path.cls 8 wsX5_path G A s.heap) (hr : meth.sig.returnType = (some .int)) (hlk : meth.locks = false) : ∀ (f q : Nat) (t : Int32) (w : Wn) (ks : Nat → Int32) (sz : Nat) (co ro : Nat → Int32), 4 - q = f → q ≤ 4 → t = smN (fun i => pthT fq (E i) x fi se) q → MB G am L w 0 cp df fq E ns ar ac mk vl ks sz co ro → FrM L w0 w → J p l e (rmD 8 0 0) s m args below meth c G A s.heap 8 (MQ below (va_Qi post (PB G A) A) args s (rmD 8 0 0).cells (rmD 8 0 0).slots A) L w 0 0 38 [some (.ref (am 42)), some (.int x), some (.long fi), none, some (.long se), none, some (.int t), some (.int (nI q))] [] := by
  intro f
  induction f using Nat.strongRecOn with
  | _ f ih =>
    intro q t w ks sz co ro hf hq0 ht0 hm hfr
    subst ht0
    obtain ⟨h42, h43, h44, h45, h46, h47, h48, h49, h50, h51, h52, h53, hT, hE, hfb, hsz⟩ := id hm
    refine j_iload (pc := 38) C dX5_path_38 rfl ?_
    refine j_iconst (pc := 40) (v := 4) C dX5_path_40 (by decide) ?_
    refine j_icmp_ge (pc := 41) (tgt := 77) C dX5_path_41 (by decide) (fun c41 => ?_) (fun c41 => ?_)
    · have c41 := nI_le_of (by omega) (by omega) (show nI 4 ≤ nI q from c41)
      have hq4 : q = 4 := by omega
      subst hq4
      refine j_iload (pc := 77) C dX5_path_77 rfl ?_
      exact ret_i C rfl hr hlk dX5_path_79 (hend _ w hfr rfl hm.md) (by decide) (by decide)
    · have c41 := nI_gt_of (by omega) (by omega) (show ¬ nI 4 ≤ nI q from c41)
      refine j_aload_n (pc := 44) C rfl dX5_path_44 rfl ?_
      refine j_iload (pc := 45) C dX5_path_45 rfl ?_
      refine jV_v (pc := 47) (k2 := 0) (n2 := 0) (np := 1) (As := [.int (nI q)]) C (ct_lay hm c41) gX5_path_X5_lay rfl (by decide +kernel) ⟨by decide, by decide⟩ h42 rfl rfl rfl (Nat.le_of_ble_eq_true rfl) dX5_path_47 (by decide) (by decide) ⟨by decide, by decide⟩ (fun L2 w2 hu => ?_)
      obtain ⟨w9, ks2, sz2, co2, ro2, e9, hmL, hla, hf2⟩ := hu
      cases e9
      obtain ⟨h42, h43, h44, h45, h46, h47, h48, h49, h50, h51, h52, h53, hT, hE, hfb, hsz⟩ := id hmL
      refine j_iload (pc := 50) C dX5_path_50 rfl ?_
      refine j_aload_n (pc := 52) C rfl dX5_path_52 rfl ?_
      refine j_iload_n (pc := 53) C rfl dX5_path_53 rfl ?_
      refine jV_i0 (pc := 54) (k2 := 0) (n2 := 0) (np := 1) (As := [.int x]) C (ct_testsOf hmL hla x) gX5_path_X5_testsOf rfl (by decide +kernel) ⟨by decide, by decide⟩ h42 rfl rfl rfl (Nat.le_of_ble_eq_true rfl) dX5_path_54 (by decide) (by decide) ⟨by decide, by decide⟩ (fun v hv => ?_)
      subst hv
      refine j_aload_n (pc := 57) C rfl dX5_path_57 rfl ?_
      refine j_iload (pc := 58) C dX5_path_58 rfl ?_
      refine j_iload_n (pc := 60) C rfl dX5_path_60 rfl ?_
      refine j_lload_n (pc := 61) C rfl dX5_path_61 rfl ?_
      refine j_lload (pc := 62) C dX5_path_62 rfl ?_
      refine jV_i0 (pc := 64) (k2 := 0) (n2 := 0) (np := 4) (As := [.int (nI q), .int x, .long fi, .long se]) C (ct_halvesMade hmL c41 x fi se) gX5_path_X5_halvesMade rfl (by decide +kernel) ⟨by decide, by decide⟩ h42 rfl rfl rfl (Nat.le_of_ble_eq_true rfl) dX5_path_64 (by decide) (by decide) ⟨by decide, by decide⟩ (fun v2 hv2 => ?_)
      subst hv2
      refine j_iadd (pc := 67) C dX5_path_67 ?_
      refine j_iadd (pc := 68) C dX5_path_68 ?_
      refine j_istore_6 (pc := 69) C dX5_path_69 (by decide) rfl ?_
      refine j_iinc_7 (pc := 71) (d := 1) C dX5_path_71 (by decide) rfl rfl ?_
      refine j_lo (by rw [nI_1]) ?_
      refine j_goto (pc := 74) (tgt := 38) C dX5_path_74 (by decide) ?_
      exact ih (4 - (q + 1)) (by omega) (q + 1) (smN (fun i => pthT fq (E i) x fi se) (q + 1)) w2 ks2 sz2 co2 ro2 rfl (by omega) rfl hmL (hfr.tr hf2)

set_option maxRecDepth 100000 in
set_option maxHeartbeats 4000000 in
theorem ct_M_path {l : Launch} {G : Gp} {L : List Nat} {w : Wn} {am : Nat → Nat} {th cp : Int32} {df : Nat → Int32} {fq : Nat → Nat} {E : Nat → EL} {ns ar ac : Nat → Int32} {mk vl : Nat → Int64} {ks : Nat → Int32} {sz : Nat} {co ro : Nat → Int32} (hm : MB G am L w th cp df fq E ns ar ac mk vl ks sz co ro) (x : Int32) (fi se : Int64) : CI l yX5_path wsX5_path (rmD 8 0 0) G L w [.ref (am 42), .int x, .long fi, .long se] (fun r u => ∃ w2, u = (L, w2) ∧ FrM L w w2 ∧ ((vld x 32 ∧ ¬ cp = 0 ∧ r = smN (fun i => pthT fq (E i) x fi se) 4 ∧ MD G am L w2 0 cp df fq E) ∨ (¬ vld x 32 ∧ MD G am L w2 1 cp df fq E) ∨ (vld x 32 ∧ cp = 0 ∧ MD G am L w2 2 cp df fq E))) := by
  refine mk_i (cc := cX5_path) (maxL := 8) [some (.ref (am 42)), some (.int x), some (.long fi), none, some (.long se), none, none, none] (by decide) rfl (Nat.le_of_ble_eq_true rfl) rfl ?_
  intro p e s m args below meth c A C hr hlk hnm
  have hin_X5 : ∀ x ∈ u_ws RX5 TX5 14, x ∈ wsX5_path := by decide +kernel
  obtain ⟨h42, h43, h44, h45, h46, h47, h48, h49, h50, h51, h52, h53, hT, hE, hfb, hsz⟩ := id hm
  have hfr : FrM L w w := Fr.rf
  refine j_aload_n (pc := 0) C rfl dX5_path_0 rfl ?_
  refine j_iload_n (pc := 1) C rfl dX5_path_1 rfl ?_
  refine jS_i0 (pc := 2) (k2 := 0) (n2 := 0) (np := 1) (As := [.int x]) C (ct_M_isNumber x) gX5_path_X5_isNumber rfl (by decide +kernel) ⟨by decide, by decide⟩ rfl rfl (Nat.le_of_ble_eq_true rfl) dX5_path_2 (by decide) (by decide) ⟨by decide, by decide⟩ (fun v1 hv1 => ?_)
  refine j_if_ne (pc := 5) (tgt := 12) C dX5_path_5 (by decide) (fun c5 => ?_) (fun c5 => ?_)
  · have c5 := tf_1 hv1 c5
    refine j_aload_n (pc := 12) C rfl dX5_path_12 rfl ?_
    refine j_get (pc := 13) C hin_X5 h42 rfl 9 (by decide) (by decide +kernel) rfl dX5_path_13 ?_
    refine j_if_eq (pc := 16) (tgt := 23) C dX5_path_16 (by decide) (fun c16 => ?_) (fun c16 => ?_)
    · have c16 : cp = 0 := c16
      refine j_iconst (pc := 23) (v := 2) C dX5_path_23 (by decide) ?_
      refine jV_i (pc := 24) (k2 := 0) (n2 := 0) (np := 1) (As := [.int 2]) C (ct_goes1 (pl := 2) h42 (by decide)) gX5_path_X5_goesWell rfl (by decide +kernel) ⟨by decide, by decide⟩ h42 rfl rfl rfl (Nat.le_of_ble_eq_true rfl) dX5_path_24 (by decide) (by decide) ⟨by decide, by decide⟩ (fun v L2 w2 hu => ?_)
      obtain ⟨hv9, e9⟩ := hu
      subst hv9
      cases e9
      refine j_nm (fun w24 ew24 => ?_)
      obtain ⟨hm24, hf24⟩ := hm.setob (th2 := 2) (cp2 := cp) (sz2 := sz) ew24 hsz
      have hfr := hfr.tr hf24
      obtain ⟨h42, h43, h44, h45, h46, h47, h48, h49, h50, h51, h52, h53, hT, hE, hfb, hsz⟩ := id hm24
      refine j_if_ne (pc := 27) (tgt := 32) C dX5_path_27 (by decide) (fun z9 => absurd rfl z9) (fun _ => ?_)
      refine j_iconst (pc := 30) (v := 0) C dX5_path_30 (by decide) ?_
      exact ret_i C rfl hr hlk dX5_path_31 ⟨_, rfl, hfr, Or.inr (Or.inr ⟨c5, c16, hm24.md⟩)⟩ (by decide) (by decide)
    · have c16 : ¬ cp = 0 := c16
      refine j_iconst (pc := 19) (v := 0) C dX5_path_19 (by decide) ?_
      refine j_goto (pc := 20) (tgt := 24) C dX5_path_20 (by decide) ?_
      refine jV_i (pc := 24) (k2 := 0) (n2 := 0) (np := 1) (As := [.int 0]) C (ct_goes0 h42) gX5_path_X5_goesWell rfl (by decide +kernel) ⟨by decide, by decide⟩ h42 rfl rfl rfl (Nat.le_of_ble_eq_true rfl) dX5_path_24 (by decide) (by decide) ⟨by decide, by decide⟩ (fun v L2 w2 hu => ?_)
      obtain ⟨hv9, e9⟩ := hu
      subst hv9
      cases e9
      refine j_nm (fun w24 ew24 => ?_)
      obtain ⟨hm24, hf24⟩ := hm.setob (th2 := 0) (cp2 := cp) (sz2 := sz) ew24 hsz
      have hfr := hfr.tr hf24
      obtain ⟨h42, h43, h44, h45, h46, h47, h48, h49, h50, h51, h52, h53, hT, hE, hfb, hsz⟩ := id hm24
      refine j_if_ne (pc := 27) (tgt := 32) C dX5_path_27 (by decide) (fun _ => ?_) (fun z9 => absurd z9 (by decide))
      refine j_iconst (pc := 32) (v := 0) C dX5_path_32 (by decide) ?_
      refine j_istore_6 (pc := 33) C dX5_path_33 (by decide) rfl ?_
      refine j_iconst (pc := 35) (v := 0) C dX5_path_35 (by decide) ?_
      refine j_istore_7 (pc := 36) C dX5_path_36 (by decide) rfl ?_
      exact mpa_loop (fun r w2 k1 k2 k3 => ⟨w2, rfl, k1, Or.inl ⟨c5, c16, k2, k3⟩⟩) C hr hlk 4 0 0 w24 ks sz co ro rfl (by decide) rfl hm24 hfr
  · have c5 := tf_0 hv1 c5
    refine j_iconst (pc := 8) (v := 1) C dX5_path_8 (by decide) ?_
    refine j_goto (pc := 9) (tgt := 24) C dX5_path_9 (by decide) ?_
    refine jV_i (pc := 24) (k2 := 0) (n2 := 0) (np := 1) (As := [.int 1]) C (ct_goes1 (pl := 1) h42 (by decide)) gX5_path_X5_goesWell rfl (by decide +kernel) ⟨by decide, by decide⟩ h42 rfl rfl rfl (Nat.le_of_ble_eq_true rfl) dX5_path_24 (by decide) (by decide) ⟨by decide, by decide⟩ (fun v L2 w2 hu => ?_)
    obtain ⟨hv9, e9⟩ := hu
    subst hv9
    cases e9
    refine j_nm (fun w24 ew24 => ?_)
    obtain ⟨hm24, hf24⟩ := hm.setob (th2 := 1) (cp2 := cp) (sz2 := sz) ew24 hsz
    have hfr := hfr.tr hf24
    obtain ⟨h42, h43, h44, h45, h46, h47, h48, h49, h50, h51, h52, h53, hT, hE, hfb, hsz⟩ := id hm24
    refine j_if_ne (pc := 27) (tgt := 32) C dX5_path_27 (by decide) (fun z9 => absurd rfl z9) (fun _ => ?_)
    refine j_iconst (pc := 30) (v := 0) C dX5_path_30 (by decide) ?_
    exact ret_i C rfl hr hlk dX5_path_31 ⟨_, rfl, hfr, Or.inr (Or.inl ⟨c5, hm24.md⟩)⟩ (by decide) (by decide)

set_option maxRecDepth 100000 in
set_option maxHeartbeats 4000000 in
theorem ct_M_test {l : Launch} {G : Gp} {L : List Nat} {w : Wn} {am : Nat → Nat} {th cp : Int32} {df : Nat → Int32} {fq : Nat → Nat} {E : Nat → EL} {ns ar ac : Nat → Int32} {mk vl : Nat → Int64} {ks : Nat → Int32} {sz : Nat} {co ro : Nat → Int32} (hm : MB G am L w th cp df fq E ns ar ac mk vl ks sz co ro) (x x2 : Int32) : CI l yX5_test wsX5_test (rmD 5 0 0) G L w [.ref (am 42), .int x, .int x2] (fun r u => ∃ w2, u = (L, w2) ∧ FrM L w w2 ∧ ((∃ j, j < 4 ∧ x = nI j ∧ ∃ P9, P9 < 2147483648 ∧ x2 = nI P9 ∧ 1 ≤ x2 ∧ ¬ cp = 0 ∧ r = down (kyF (rch (E j))) (wtF fq (rch (E j))) 10 0 (ksz (rch (E j))) P9 ∧ MD G am L w2 0 cp df fq E) ∨ (¬ (vld x 4 ∧ 1 ≤ x2) ∧ MD G am L w2 1 cp df fq E) ∨ (vld x 4 ∧ 1 ≤ x2 ∧ cp = 0 ∧ MD G am L w2 2 cp df fq E))) := by
  refine mk_i (cc := cX5_test) (maxL := 8) [some (.ref (am 42)), some (.int x), some (.int x2), none, none, none, none, none] (by decide) rfl (Nat.le_of_ble_eq_true rfl) rfl ?_
  intro p e s m args below meth c A C hr hlk hnm
  have hin_X5 : ∀ x ∈ u_ws RX5 TX5 14, x ∈ wsX5_test := by decide +kernel
  obtain ⟨h42, h43, h44, h45, h46, h47, h48, h49, h50, h51, h52, h53, hT, hE, hfb, hsz⟩ := id hm
  have hfr : FrM L w w := Fr.rf
  refine j_iload_n (pc := 0) C rfl dX5_test_0 rfl ?_
  refine jS_i0 (pc := 1) (k2 := 0) (n2 := 0) (np := 1) (As := [.int x]) C (ct_M_isFilter x) gX5_test_X5_isFilter rfl (by decide +kernel) ⟨by decide, by decide⟩ rfl rfl (Nat.le_of_ble_eq_true rfl) dX5_test_1 (by decide) (by decide) ⟨by decide, by decide⟩ (fun v1 hv1 => ?_)
  refine j_if_eq (pc := 4) (tgt := 16) C dX5_test_4 (by decide) (fun c4 => ?_) (fun c4 => ?_)
  · have c4 := tf_0 hv1 c4
    refine j_iconst (pc := 16) (v := 0) C dX5_test_16 (by decide) ?_
    refine j_istore_3 (pc := 17) C dX5_test_17 (by decide) rfl ?_
    refine j_aload_n (pc := 18) C rfl dX5_test_18 rfl ?_
    refine j_iload_n (pc := 19) C rfl dX5_test_19 rfl ?_
    refine j_if_ne (pc := 20) (tgt := 27) C dX5_test_20 (by decide) (fun z9 => absurd rfl z9) (fun _ => ?_)
    refine j_iconst (pc := 23) (v := 1) C dX5_test_23 (by decide) ?_
    refine j_goto (pc := 24) (tgt := 39) C dX5_test_24 (by decide) ?_
    refine jV_i (pc := 39) (k2 := 0) (n2 := 0) (np := 1) (As := [.int 1]) C (ct_goes1 (pl := 1) h42 (by decide)) gX5_test_X5_goesWell rfl (by decide +kernel) ⟨by decide, by decide⟩ h42 rfl rfl rfl (Nat.le_of_ble_eq_true rfl) dX5_test_39 (by decide) (by decide) ⟨by decide, by decide⟩ (fun v L2 w2 hu => ?_)
    obtain ⟨hv9, e9⟩ := hu
    subst hv9
    cases e9
    refine j_nm (fun w39 ew39 => ?_)
    obtain ⟨hm39, hf39⟩ := hm.setob (th2 := 1) (cp2 := cp) (sz2 := sz) ew39 hsz
    have hfr := hfr.tr hf39
    obtain ⟨h42, h43, h44, h45, h46, h47, h48, h49, h50, h51, h52, h53, hT, hE, hfb, hsz⟩ := id hm39
    refine j_if_ne (pc := 42) (tgt := 47) C dX5_test_42 (by decide) (fun z9 => absurd rfl z9) (fun _ => ?_)
    refine j_iconst (pc := 45) (v := 0) C dX5_test_45 (by decide) ?_
    exact ret_i C rfl hr hlk dX5_test_46 ⟨_, rfl, hfr, Or.inr (Or.inl ⟨fun z => c4 z.1, hm39.md⟩)⟩ (by decide) (by decide)
  · have c4 := tf_1 hv1 c4
    refine j_iload_n (pc := 7) C rfl dX5_test_7 rfl ?_
    refine j_iconst (pc := 8) (v := 1) C dX5_test_8 (by decide) ?_
    refine j_icmp_lt (pc := 9) (tgt := 16) C dX5_test_9 (by decide) (fun c9 => ?_) (fun c9 => ?_)
    · have c9 : ¬ 1 ≤ x2 := Int32.not_le.mpr c9
      refine j_iconst (pc := 16) (v := 0) C dX5_test_16 (by decide) ?_
      refine j_istore_3 (pc := 17) C dX5_test_17 (by decide) rfl ?_
      refine j_aload_n (pc := 18) C rfl dX5_test_18 rfl ?_
      refine j_iload_n (pc := 19) C rfl dX5_test_19 rfl ?_
      refine j_if_ne (pc := 20) (tgt := 27) C dX5_test_20 (by decide) (fun z9 => absurd rfl z9) (fun _ => ?_)
      refine j_iconst (pc := 23) (v := 1) C dX5_test_23 (by decide) ?_
      refine j_goto (pc := 24) (tgt := 39) C dX5_test_24 (by decide) ?_
      refine jV_i (pc := 39) (k2 := 0) (n2 := 0) (np := 1) (As := [.int 1]) C (ct_goes1 (pl := 1) h42 (by decide)) gX5_test_X5_goesWell rfl (by decide +kernel) ⟨by decide, by decide⟩ h42 rfl rfl rfl (Nat.le_of_ble_eq_true rfl) dX5_test_39 (by decide) (by decide) ⟨by decide, by decide⟩ (fun v L2 w2 hu => ?_)
      obtain ⟨hv9, e9⟩ := hu
      subst hv9
      cases e9
      refine j_nm (fun w39 ew39 => ?_)
      obtain ⟨hm39, hf39⟩ := hm.setob (th2 := 1) (cp2 := cp) (sz2 := sz) ew39 hsz
      have hfr := hfr.tr hf39
      obtain ⟨h42, h43, h44, h45, h46, h47, h48, h49, h50, h51, h52, h53, hT, hE, hfb, hsz⟩ := id hm39
      refine j_if_ne (pc := 42) (tgt := 47) C dX5_test_42 (by decide) (fun z9 => absurd rfl z9) (fun _ => ?_)
      refine j_iconst (pc := 45) (v := 0) C dX5_test_45 (by decide) ?_
      exact ret_i C rfl hr hlk dX5_test_46 ⟨_, rfl, hfr, Or.inr (Or.inl ⟨fun z => c9 z.2, hm39.md⟩)⟩ (by decide) (by decide)
    · have c9 : 1 ≤ x2 := Int32.not_lt.mp c9
      refine j_iconst (pc := 12) (v := 1) C dX5_test_12 (by decide) ?_
      refine j_goto (pc := 13) (tgt := 17) C dX5_test_13 (by decide) ?_
      refine j_istore_3 (pc := 17) C dX5_test_17 (by decide) rfl ?_
      refine j_aload_n (pc := 18) C rfl dX5_test_18 rfl ?_
      refine j_iload_n (pc := 19) C rfl dX5_test_19 rfl ?_
      refine j_if_ne (pc := 20) (tgt := 27) C dX5_test_20 (by decide) (fun _ => ?_) (fun z9 => absurd z9 (by decide))
      refine j_aload_n (pc := 27) C rfl dX5_test_27 rfl ?_
      refine j_get (pc := 28) C hin_X5 h42 rfl 9 (by decide) (by decide +kernel) rfl dX5_test_28 ?_
      refine j_if_eq (pc := 31) (tgt := 38) C dX5_test_31 (by decide) (fun c31 => ?_) (fun c31 => ?_)
      · have c31 : cp = 0 := c31
        refine j_iconst (pc := 38) (v := 2) C dX5_test_38 (by decide) ?_
        refine jV_i (pc := 39) (k2 := 0) (n2 := 0) (np := 1) (As := [.int 2]) C (ct_goes1 (pl := 2) h42 (by decide)) gX5_test_X5_goesWell rfl (by decide +kernel) ⟨by decide, by decide⟩ h42 rfl rfl rfl (Nat.le_of_ble_eq_true rfl) dX5_test_39 (by decide) (by decide) ⟨by decide, by decide⟩ (fun v L2 w2 hu => ?_)
        obtain ⟨hv9, e9⟩ := hu
        subst hv9
        cases e9
        refine j_nm (fun w39 ew39 => ?_)
        obtain ⟨hm39, hf39⟩ := hm.setob (th2 := 2) (cp2 := cp) (sz2 := sz) ew39 hsz
        have hfr := hfr.tr hf39
        obtain ⟨h42, h43, h44, h45, h46, h47, h48, h49, h50, h51, h52, h53, hT, hE, hfb, hsz⟩ := id hm39
        refine j_if_ne (pc := 42) (tgt := 47) C dX5_test_42 (by decide) (fun z9 => absurd rfl z9) (fun _ => ?_)
        refine j_iconst (pc := 45) (v := 0) C dX5_test_45 (by decide) ?_
        exact ret_i C rfl hr hlk dX5_test_46 ⟨_, rfl, hfr, Or.inr (Or.inr ⟨c4, c9, c31, hm39.md⟩)⟩ (by decide) (by decide)
      · have c31 : ¬ cp = 0 := c31
        refine j_iconst (pc := 34) (v := 0) C dX5_test_34 (by decide) ?_
        refine j_goto (pc := 35) (tgt := 39) C dX5_test_35 (by decide) ?_
        refine jV_i (pc := 39) (k2 := 0) (n2 := 0) (np := 1) (As := [.int 0]) C (ct_goes0 h42) gX5_test_X5_goesWell rfl (by decide +kernel) ⟨by decide, by decide⟩ h42 rfl rfl rfl (Nat.le_of_ble_eq_true rfl) dX5_test_39 (by decide) (by decide) ⟨by decide, by decide⟩ (fun v L2 w2 hu => ?_)
        obtain ⟨hv9, e9⟩ := hu
        subst hv9
        cases e9
        refine j_nm (fun w39 ew39 => ?_)
        obtain ⟨hm39, hf39⟩ := hm.setob (th2 := 0) (cp2 := cp) (sz2 := sz) ew39 hsz
        have hfr := hfr.tr hf39
        obtain ⟨h42, h43, h44, h45, h46, h47, h48, h49, h50, h51, h52, h53, hT, hE, hfb, hsz⟩ := id hm39
        refine j_if_ne (pc := 42) (tgt := 47) C dX5_test_42 (by decide) (fun _ => ?_) (fun z9 => absurd z9 (by decide))
        refine j_aload_n (pc := 47) C rfl dX5_test_47 rfl ?_
        refine j_iload_n (pc := 48) C rfl dX5_test_48 rfl ?_
        obtain ⟨j, hj, rfl⟩ := id c4
        obtain ⟨P9, hP, rfl⟩ := nI_of (x := x2) (ge1_pos c9)
        refine jV_v (pc := 49) (k2 := 0) (n2 := 0) (np := 1) (As := [.int (nI j)]) C (ct_lay hm39 hj) gX5_test_X5_lay rfl (by decide +kernel) ⟨by decide, by decide⟩ h42 rfl rfl rfl (Nat.le_of_ble_eq_true rfl) dX5_test_49 (by decide) (by decide) ⟨by decide, by decide⟩ (fun L2 w2 hu => ?_)
        obtain ⟨w9, ks2, sz2, co2, ro2, e9, hmL, hla, hf2⟩ := hu
        cases e9
        have hfr := hfr.tr hf2
        obtain ⟨h42, h43, h44, h45, h46, h47, h48, h49, h50, h51, h52, h53, hT, hE, hfb, hsz⟩ := id hmL
        refine j_iconst (pc := 52) (v := 0) C dX5_test_52 (by decide) ?_
        refine j_istore_4 (pc := 53) C dX5_test_53 (by decide) rfl ?_
        refine j_aload_n (pc := 55) C rfl dX5_test_55 rfl ?_
        refine j_get (pc := 56) C hin_X5 h42 rfl 11 (by decide) (by decide +kernel) rfl dX5_test_56 ?_
        refine j_iconst (pc := 59) (v := 1) C dX5_test_59 (by decide) ?_
        refine j_isub (pc := 60) C dX5_test_60 ?_
        refine j_istore_5 (pc := 61) C dX5_test_61 (by decide) rfl ?_
        refine j_iload_n (pc := 63) C rfl dX5_test_63 rfl ?_
        refine j_istore_6 (pc := 64) C dX5_test_64 (by decide) rfl ?_
        exact (mte_loop hmL hla (x := nI j) (y := nI P9) (z1 := 1) (W := down (kyF (rch (E j))) (wtF fq (rch (E j))) 10 0 (ksz (rch (E j))) P9) (fun r h => ⟨_, rfl, hfr, Or.inl ⟨j, hj, rfl, P9, hP, rfl, c9, c31, h, hmL.md⟩⟩) C hr hlk 10 0 sz2 P9 (nI sz2 - 1) hsz (by omega) (by rw [Nat.zero_add]) hP (by rw [hla.1]))

theorem upd_id {f : Nat → Int32} {j : Nat} {x : Int32} (h : x = f j) : upd f j x = f := by
  funext i
  by_cases e : i = j
  · subst e; rw [upd_me, h]
  · rw [upd_ne e]
theorem upd_va {f : Nat → Int32} {j : Nat} {x : Int32} : upd f j x = va_up f j x := by
  funext i
  by_cases e : i = j
  · subst e; rw [upd_me]; simp [va_up]
  · rw [upd_ne e, va_up_ne _ _ e]
set_option maxRecDepth 100000 in
set_option maxHeartbeats 4000000 in
theorem ct_M_setDefault {l : Launch} {G : Gp} {L : List Nat} {w : Wn} {am : Nat → Nat} {th cp : Int32} {df : Nat → Int32} {fq : Nat → Nat} {E : Nat → EL} {ns ar ac : Nat → Int32} {mk vl : Nat → Int64} {ks : Nat → Int32} {sz : Nat} {co ro : Nat → Int32} (hm : MB G am L w th cp df fq E ns ar ac mk vl ks sz co ro) (hcp : cp = 0 ∨ cp = 1) (x x2 : Int32) : CI l yX5_setDefault wsX5_setDefault (rmD 8 0 0) G L w [.ref (am 42), .int x, .int x2] (fun r u => ∃ w2, u = (L, w2) ∧ FrM L w w2 ∧ ((∃ j, j < 4 ∧ x = nI j ∧ vld x2 7 ∧ r = df j ∧ ((x2 = df j ∧ MD G am L w2 0 cp df fq E) ∨ (¬ x2 = df j ∧ MD G am L w2 0 0 (va_up df j x2) fq E))) ∨ (¬ (vld x 4 ∧ vld x2 7) ∧ MD G am L w2 1 cp df fq E))) := by
  refine mk_i (cc := cX5_setDefault) (maxL := 4) [some (.ref (am 42)), some (.int x), some (.int x2), none] (by decide) rfl (Nat.le_of_ble_eq_true rfl) rfl ?_
  intro p e s m args below meth c A C hr hlk hnm
  have hin_X5 : ∀ x ∈ u_ws RX5 TX5 14, x ∈ wsX5_setDefault := by decide +kernel
  obtain ⟨h42, h43, h44, h45, h46, h47, h48, h49, h50, h51, h52, h53, hT, hE, hfb, hsz⟩ := id hm
  have hfr : FrM L w w := Fr.rf
  refine j_aload_n (pc := 0) C rfl dX5_setDefault_0 rfl ?_
  refine j_iload_n (pc := 1) C rfl dX5_setDefault_1 rfl ?_
  refine jS_i0 (pc := 2) (k2 := 0) (n2 := 0) (np := 1) (As := [.int x]) C (ct_M_isFilter x) gX5_setDefault_X5_isFilter rfl (by decide +kernel) ⟨by decide, by decide⟩ rfl rfl (Nat.le_of_ble_eq_true rfl) dX5_setDefault_2 (by decide) (by decide) ⟨by decide, by decide⟩ (fun v1 hv1 => ?_)
  refine j_if_eq (pc := 5) (tgt := 22) C dX5_setDefault_5 (by decide) (fun c5 => ?_) (fun c5 => ?_)
  · have c5 := tf_0 hv1 c5
    refine j_iconst (pc := 22) (v := 1) C dX5_setDefault_22 (by decide) ?_
    refine jV_i (pc := 23) (k2 := 0) (n2 := 0) (np := 1) (As := [.int 1]) C (ct_goes1 (pl := 1) h42 (by decide)) gX5_setDefault_X5_goesWell rfl (by decide +kernel) ⟨by decide, by decide⟩ h42 rfl rfl rfl (Nat.le_of_ble_eq_true rfl) dX5_setDefault_23 (by decide) (by decide) ⟨by decide, by decide⟩ (fun v L2 w2 hu => ?_)
    obtain ⟨hv9, e9⟩ := hu
    subst hv9
    cases e9
    refine j_nm (fun w23 ew23 => ?_)
    obtain ⟨hm23, hf23⟩ := hm.setob (th2 := 1) (cp2 := cp) (sz2 := sz) ew23 hsz
    have hfr := hfr.tr hf23
    obtain ⟨h42, h43, h44, h45, h46, h47, h48, h49, h50, h51, h52, h53, hT, hE, hfb, hsz⟩ := id hm23
    refine j_if_ne (pc := 26) (tgt := 31) C dX5_setDefault_26 (by decide) (fun z9 => absurd rfl z9) (fun _ => ?_)
    refine j_iconst (pc := 29) (v := 0) C dX5_setDefault_29 (by decide) ?_
    exact ret_i C rfl hr hlk dX5_setDefault_30 ⟨_, rfl, hfr, Or.inr ⟨fun z => c5 z.1, hm23.md⟩⟩ (by decide) (by decide)
  · have c5 := tf_1 hv1 c5
    refine j_iload_n (pc := 8) C rfl dX5_setDefault_8 rfl ?_
    refine j_iconst (pc := 9) (v := 0) C dX5_setDefault_9 (by decide) ?_
    refine j_bipush (pc := 10) (v := 6) C dX5_setDefault_10 (by decide) ?_
    refine jS_i0 (pc := 12) (k2 := 0) (n2 := 0) (np := 3) (As := [.int x2, .int 0, .int 6]) C (ct_in x2 0 6) gX5_setDefault_X5_in rfl (by decide +kernel) ⟨by decide, by decide⟩ rfl rfl (Nat.le_of_ble_eq_true rfl) dX5_setDefault_12 (by decide) (by decide) ⟨by decide, by decide⟩ (fun v2 hv2 => ?_)
    refine j_if_eq (pc := 15) (tgt := 22) C dX5_setDefault_15 (by decide) (fun c15 => ?_) (fun c15 => ?_)
    · have c15 : ¬ vld x2 7 := fun z => tf_0 hv2 c15 ((vld_iff (n := 6) (by decide)).mpr z)
      refine j_iconst (pc := 22) (v := 1) C dX5_setDefault_22 (by decide) ?_
      refine jV_i (pc := 23) (k2 := 0) (n2 := 0) (np := 1) (As := [.int 1]) C (ct_goes1 (pl := 1) h42 (by decide)) gX5_setDefault_X5_goesWell rfl (by decide +kernel) ⟨by decide, by decide⟩ h42 rfl rfl rfl (Nat.le_of_ble_eq_true rfl) dX5_setDefault_23 (by decide) (by decide) ⟨by decide, by decide⟩ (fun v L2 w2 hu => ?_)
      obtain ⟨hv9, e9⟩ := hu
      subst hv9
      cases e9
      refine j_nm (fun w23 ew23 => ?_)
      obtain ⟨hm23, hf23⟩ := hm.setob (th2 := 1) (cp2 := cp) (sz2 := sz) ew23 hsz
      have hfr := hfr.tr hf23
      obtain ⟨h42, h43, h44, h45, h46, h47, h48, h49, h50, h51, h52, h53, hT, hE, hfb, hsz⟩ := id hm23
      refine j_if_ne (pc := 26) (tgt := 31) C dX5_setDefault_26 (by decide) (fun z9 => absurd rfl z9) (fun _ => ?_)
      refine j_iconst (pc := 29) (v := 0) C dX5_setDefault_29 (by decide) ?_
      exact ret_i C rfl hr hlk dX5_setDefault_30 ⟨_, rfl, hfr, Or.inr ⟨fun z => c15 z.2, hm23.md⟩⟩ (by decide) (by decide)
    · have c15 : vld x2 7 := (vld_iff (n := 6) (by decide)).mp (tf_1 hv2 c15)
      obtain ⟨j, hj, rfl⟩ := id c5
      refine j_iconst (pc := 18) (v := 0) C dX5_setDefault_18 (by decide) ?_
      refine j_goto (pc := 19) (tgt := 23) C dX5_setDefault_19 (by decide) ?_
      refine jV_i (pc := 23) (k2 := 0) (n2 := 0) (np := 1) (As := [.int 0]) C (ct_goes0 h42) gX5_setDefault_X5_goesWell rfl (by decide +kernel) ⟨by decide, by decide⟩ h42 rfl rfl rfl (Nat.le_of_ble_eq_true rfl) dX5_setDefault_23 (by decide) (by decide) ⟨by decide, by decide⟩ (fun v L2 w2 hu => ?_)
      obtain ⟨hv9, e9⟩ := hu
      subst hv9
      cases e9
      refine j_nm (fun w23 ew23 => ?_)
      obtain ⟨hm23, hf23⟩ := hm.setob (th2 := 0) (cp2 := cp) (sz2 := sz) ew23 hsz
      have hfr := hfr.tr hf23
      obtain ⟨h42, h43, h44, h45, h46, h47, h48, h49, h50, h51, h52, h53, hT, hE, hfb, hsz⟩ := id hm23
      refine j_if_ne (pc := 26) (tgt := 31) C dX5_setDefault_26 (by decide) (fun _ => ?_) (fun z9 => absurd z9 (by decide))
      refine j_aload_n (pc := 31) C rfl dX5_setDefault_31 rfl ?_
      refine j_get (pc := 32) C hin_X5 h42 rfl 7 (by decide) (by decide +kernel) rfl dX5_setDefault_32 ?_
      refine j_iload_n (pc := 35) C rfl dX5_setDefault_35 rfl ?_
      refine j_iald (pc := 36) C h49 rfl hj (by decide) dX5_setDefault_36 ?_
      refine j_istore_3 (pc := 37) C dX5_setDefault_37 (by decide) rfl ?_
      refine j_aload_n (pc := 38) C rfl dX5_setDefault_38 rfl ?_
      refine j_get (pc := 39) C hin_X5 h42 rfl 7 (by decide) (by decide +kernel) rfl dX5_setDefault_39 ?_
      refine j_iload_n (pc := 42) C rfl dX5_setDefault_42 rfl ?_
      refine j_iload_n (pc := 43) C rfl dX5_setDefault_43 rfl ?_
      refine j_iast (pc := 44) C h49 rfl hj (by decide) dX5_setDefault_44 ?_
      refine j_nm (fun w44 ew44 => ?_)
      obtain ⟨hm44, hf44⟩ := hm23.setdf ew44
      have hfr := hfr.tr hf44
      obtain ⟨h42, h43, h44, h45, h46, h47, h48, h49, h50, h51, h52, h53, hT, hE, hfb, hsz⟩ := id hm44
      refine j_aload_n (pc := 45) C rfl dX5_setDefault_45 rfl ?_
      refine j_aload_n (pc := 46) C rfl dX5_setDefault_46 rfl ?_
      refine j_get (pc := 47) C hin_X5 h42 rfl 9 (by decide) (by decide +kernel) rfl dX5_setDefault_47 ?_
      refine j_if_eq (pc := 50) (tgt := 62) C dX5_setDefault_50 (by decide) (fun c50 => ?_) (fun c50 => ?_)
      · have c50 : cp = 0 := c50
        refine j_iconst (pc := 62) (v := 0) C dX5_setDefault_62 (by decide) ?_
        refine j_put (pc := 63) (fs2 := [.int 0, .ref (am 43), .ref (am 44), .ref (am 45), .ref (am 46), .ref (am 47), .ref (am 48), .ref (am 49), .ref (am 50), .int 0, .ref (am 51), .int (nI sz), .ref (am 52), .ref (am 53)]) C hin_X5 h42 rfl 9 (by decide) tyX5 tyX5_ok nmX5 (by decide +kernel) rfl (tyX5_ok 9 (by decide)) (by first | rfl | decide) rfl (Nat.le_of_ble_eq_true rfl) rfl dX5_setDefault_63 ?_
        refine j_nm (fun w63 ew63 => ?_)
        obtain ⟨hm63, hf63⟩ := hm44.setob (th2 := 0) (cp2 := 0) (sz2 := sz) ew63 hsz
        have hfr := hfr.tr hf63
        obtain ⟨h42, h43, h44, h45, h46, h47, h48, h49, h50, h51, h52, h53, hT, hE, hfb, hsz⟩ := id hm63
        refine j_iload_n (pc := 66) C rfl dX5_setDefault_66 rfl ?_
        by_cases e9 : x2 = df j
        · exact ret_i C rfl hr hlk dX5_setDefault_67 ⟨_, rfl, hfr, Or.inl ⟨j, hj, rfl, c15, rfl, Or.inl ⟨e9, by have h9 := hm63.md; rw [upd_id e9] at h9; rw [c50]; exact h9⟩⟩⟩ (by decide) (by decide)
        · exact ret_i C rfl hr hlk dX5_setDefault_67 ⟨_, rfl, hfr, Or.inl ⟨j, hj, rfl, c15, rfl, Or.inr ⟨e9, by have h9 := hm63.md; rw [upd_va] at h9; exact h9⟩⟩⟩ (by decide) (by decide)
      · have c50 : ¬ cp = 0 := c50
        refine j_iload_n (pc := 53) C rfl dX5_setDefault_53 rfl ?_
        refine j_iload_n (pc := 54) C rfl dX5_setDefault_54 rfl ?_
        refine j_icmp_ne (pc := 55) (tgt := 62) C dX5_setDefault_55 (by decide) (fun c55 => ?_) (fun c55 => ?_)
        · refine j_iconst (pc := 62) (v := 0) C dX5_setDefault_62 (by decide) ?_
          refine j_put (pc := 63) (fs2 := [.int 0, .ref (am 43), .ref (am 44), .ref (am 45), .ref (am 46), .ref (am 47), .ref (am 48), .ref (am 49), .ref (am 50), .int 0, .ref (am 51), .int (nI sz), .ref (am 52), .ref (am 53)]) C hin_X5 h42 rfl 9 (by decide) tyX5 tyX5_ok nmX5 (by decide +kernel) rfl (tyX5_ok 9 (by decide)) (by first | rfl | decide) rfl (Nat.le_of_ble_eq_true rfl) rfl dX5_setDefault_63 ?_
          refine j_nm (fun w63 ew63 => ?_)
          obtain ⟨hm63, hf63⟩ := hm44.setob (th2 := 0) (cp2 := 0) (sz2 := sz) ew63 hsz
          have hfr := hfr.tr hf63
          obtain ⟨h42, h43, h44, h45, h46, h47, h48, h49, h50, h51, h52, h53, hT, hE, hfb, hsz⟩ := id hm63
          refine j_iload_n (pc := 66) C rfl dX5_setDefault_66 rfl ?_
          exact ret_i C rfl hr hlk dX5_setDefault_67 ⟨_, rfl, hfr, Or.inl ⟨j, hj, rfl, c15, rfl, Or.inr ⟨fun z => c55 z.symm, by have h9 := hm63.md; rw [upd_va] at h9; exact h9⟩⟩⟩ (by decide) (by decide)
        · refine j_iconst (pc := 58) (v := 1) C dX5_setDefault_58 (by decide) ?_
          refine j_goto (pc := 59) (tgt := 63) C dX5_setDefault_59 (by decide) ?_
          refine j_put (pc := 63) (fs2 := [.int 0, .ref (am 43), .ref (am 44), .ref (am 45), .ref (am 46), .ref (am 47), .ref (am 48), .ref (am 49), .ref (am 50), .int 1, .ref (am 51), .int (nI sz), .ref (am 52), .ref (am 53)]) C hin_X5 h42 rfl 9 (by decide) tyX5 tyX5_ok nmX5 (by decide +kernel) rfl (tyX5_ok 9 (by decide)) (by first | rfl | decide) rfl (Nat.le_of_ble_eq_true rfl) rfl dX5_setDefault_63 ?_
          refine j_nm (fun w63 ew63 => ?_)
          obtain ⟨hm63, hf63⟩ := hm44.setob (th2 := 0) (cp2 := 1) (sz2 := sz) ew63 hsz
          have hfr := hfr.tr hf63
          obtain ⟨h42, h43, h44, h45, h46, h47, h48, h49, h50, h51, h52, h53, hT, hE, hfb, hsz⟩ := id hm63
          refine j_iload_n (pc := 66) C rfl dX5_setDefault_66 rfl ?_
          exact ret_i C rfl hr hlk dX5_setDefault_67 ⟨_, rfl, hfr, Or.inl ⟨j, hj, rfl, c15, rfl, Or.inl ⟨c55.symm, by have h9 := hm63.md; rw [upd_id c55.symm] at h9; rw [hcp.resolve_left c50]; exact h9⟩⟩⟩ (by decide) (by decide)

theorem MB.setfq {G : Gp} {L : List Nat} {w : Wn} {am : Nat → Nat} {th cp : Int32} {df : Nat → Int32} {fq : Nat → Nat} {E : Nat → EL} {ns ar ac : Nat → Int32} {mk vl : Nat → Int64} {ks : Nat → Int32} {sz : Nat} {co ro : Nat → Int32} (hm : MB G am L w th cp df fq E ns ar ac mk vl ks sz co ro) {j F : Nat} (hF : F ≤ 1000) {w2 : Wn} (e : w2 = va_up w 50 (am 50, iarE G 32 (upd (fun i => nI (fq i)) j (nI F)))) : MB G am L w2 th cp df (va_up fq j F) E ns ar ac mk vl ks sz co ro ∧ FrM L w w2 := by
  obtain ⟨h42, h43, h44, h45, h46, h47, h48, h49, h50, h51, h52, h53, hT, hE, hfb, hsz⟩ := hm
  have e4 : upd (fun i => nI (fq i)) j (nI F) = fun i => nI (va_up fq j F i) := by
    funext i
    by_cases z : i = j
    · simp [upd, va_up, z]
    · simp [upd, va_up, z]
  refine ⟨⟨hs_up1 h42 e (by decide), hs_up1 h43 e (by decide), hs_up1 h44 e (by decide), hs_up1 h45 e (by decide), hs_up1 h46 e (by decide), hs_up1 h47 e (by decide), hs_up1 h48 e (by decide), hs_up1 h49 e (by decide), by rw [e, ← e4]; exact h50.me, hs_up1 h51 e (by decide), hs_up1 h52 e (by decide), hs_up1 h53 e (by decide), hT, hE, fun i => ?_, hsz⟩, (Fr.up e).mono (fun m z => by omega) (fun m z => z)⟩
  by_cases z : i = j
  · simp [va_up, z, hF]
  · simp [va_up, z, hfb i]
theorem va_idN {f : Nat → Nat} {j F : Nat} (h : f j = F) : va_up f j F = f := by
  funext i
  by_cases z : i = j
  · simp [va_up, z, h]
  · simp [va_up, z]
set_option maxRecDepth 100000 in
set_option maxHeartbeats 4000000 in
theorem ct_M_setFrequency {l : Launch} {G : Gp} {L : List Nat} {w : Wn} {am : Nat → Nat} {th cp : Int32} {df : Nat → Int32} {fq : Nat → Nat} {E : Nat → EL} {ns ar ac : Nat → Int32} {mk vl : Nat → Int64} {ks : Nat → Int32} {sz : Nat} {co ro : Nat → Int32} (hm : MB G am L w th cp df fq E ns ar ac mk vl ks sz co ro) (hcp : cp = 0 ∨ cp = 1) (x x2 : Int32) : CI l yX5_setFrequency wsX5_setFrequency (rmD 8 0 0) G L w [.ref (am 42), .int x, .int x2] (fun r u => ∃ w2, u = (L, w2) ∧ FrM L w w2 ∧ ((∃ j, j < 32 ∧ x = nI j ∧ vld x2 1001 ∧ r = nI (fq j) ∧ ((x2 = nI (fq j) ∧ MD G am L w2 0 cp df fq E) ∨ (¬ x2 = nI (fq j) ∧ ∃ F9, x2 = nI F9 ∧ MD G am L w2 0 0 df (va_up fq j F9) E))) ∨ (¬ (vld x 32 ∧ vld x2 1001) ∧ MD G am L w2 1 cp df fq E))) := by
  refine mk_i (cc := cX5_setFrequency) (maxL := 4) [some (.ref (am 42)), some (.int x), some (.int x2), none] (by decide) rfl (Nat.le_of_ble_eq_true rfl) rfl ?_
  intro p e s m args below meth c A C hr hlk hnm
  have hin_X5 : ∀ x ∈ u_ws RX5 TX5 14, x ∈ wsX5_setFrequency := by decide +kernel
  obtain ⟨h42, h43, h44, h45, h46, h47, h48, h49, h50, h51, h52, h53, hT, hE, hfb, hsz⟩ := id hm
  have hfr : FrM L w w := Fr.rf
  refine j_aload_n (pc := 0) C rfl dX5_setFrequency_0 rfl ?_
  refine j_iload_n (pc := 1) C rfl dX5_setFrequency_1 rfl ?_
  refine jS_i0 (pc := 2) (k2 := 0) (n2 := 0) (np := 1) (As := [.int x]) C (ct_M_isNumber x) gX5_setFrequency_X5_isNumber rfl (by decide +kernel) ⟨by decide, by decide⟩ rfl rfl (Nat.le_of_ble_eq_true rfl) dX5_setFrequency_2 (by decide) (by decide) ⟨by decide, by decide⟩ (fun v1 hv1 => ?_)
  refine j_if_eq (pc := 5) (tgt := 23) C dX5_setFrequency_5 (by decide) (fun c5 => ?_) (fun c5 => ?_)
  · have c5 := tf_0 hv1 c5
    refine j_iconst (pc := 23) (v := 1) C dX5_setFrequency_23 (by decide) ?_
    refine jV_i (pc := 24) (k2 := 0) (n2 := 0) (np := 1) (As := [.int 1]) C (ct_goes1 (pl := 1) h42 (by decide)) gX5_setFrequency_X5_goesWell rfl (by decide +kernel) ⟨by decide, by decide⟩ h42 rfl rfl rfl (Nat.le_of_ble_eq_true rfl) dX5_setFrequency_24 (by decide) (by decide) ⟨by decide, by decide⟩ (fun v L2 w2 hu => ?_)
    obtain ⟨hv9, e9⟩ := hu
    subst hv9
    cases e9
    refine j_nm (fun w24 ew24 => ?_)
    obtain ⟨hm24, hf24⟩ := hm.setob (th2 := 1) (cp2 := cp) (sz2 := sz) ew24 hsz
    have hfr := hfr.tr hf24
    obtain ⟨h42, h43, h44, h45, h46, h47, h48, h49, h50, h51, h52, h53, hT, hE, hfb, hsz⟩ := id hm24
    refine j_if_ne (pc := 27) (tgt := 32) C dX5_setFrequency_27 (by decide) (fun z9 => absurd rfl z9) (fun _ => ?_)
    refine j_iconst (pc := 30) (v := 0) C dX5_setFrequency_30 (by decide) ?_
    exact ret_i C rfl hr hlk dX5_setFrequency_31 ⟨_, rfl, hfr, Or.inr ⟨fun z => c5 z.1, hm24.md⟩⟩ (by decide) (by decide)
  · have c5 := tf_1 hv1 c5
    refine j_iload_n (pc := 8) C rfl dX5_setFrequency_8 rfl ?_
    refine j_iconst (pc := 9) (v := 0) C dX5_setFrequency_9 (by decide) ?_
    refine j_sipush (pc := 10) (v := 1000) C dX5_setFrequency_10 (by decide) ?_
    refine jS_i0 (pc := 13) (k2 := 0) (n2 := 0) (np := 3) (As := [.int x2, .int 0, .int 1000]) C (ct_in x2 0 1000) gX5_setFrequency_X5_in rfl (by decide +kernel) ⟨by decide, by decide⟩ rfl rfl (Nat.le_of_ble_eq_true rfl) dX5_setFrequency_13 (by decide) (by decide) ⟨by decide, by decide⟩ (fun v2 hv2 => ?_)
    refine j_if_eq (pc := 16) (tgt := 23) C dX5_setFrequency_16 (by decide) (fun c16 => ?_) (fun c16 => ?_)
    · have c16 : ¬ vld x2 1001 := fun z => tf_0 hv2 c16 ((vld_iff (n := 1000) (by decide)).mpr z)
      refine j_iconst (pc := 23) (v := 1) C dX5_setFrequency_23 (by decide) ?_
      refine jV_i (pc := 24) (k2 := 0) (n2 := 0) (np := 1) (As := [.int 1]) C (ct_goes1 (pl := 1) h42 (by decide)) gX5_setFrequency_X5_goesWell rfl (by decide +kernel) ⟨by decide, by decide⟩ h42 rfl rfl rfl (Nat.le_of_ble_eq_true rfl) dX5_setFrequency_24 (by decide) (by decide) ⟨by decide, by decide⟩ (fun v L2 w2 hu => ?_)
      obtain ⟨hv9, e9⟩ := hu
      subst hv9
      cases e9
      refine j_nm (fun w24 ew24 => ?_)
      obtain ⟨hm24, hf24⟩ := hm.setob (th2 := 1) (cp2 := cp) (sz2 := sz) ew24 hsz
      have hfr := hfr.tr hf24
      obtain ⟨h42, h43, h44, h45, h46, h47, h48, h49, h50, h51, h52, h53, hT, hE, hfb, hsz⟩ := id hm24
      refine j_if_ne (pc := 27) (tgt := 32) C dX5_setFrequency_27 (by decide) (fun z9 => absurd rfl z9) (fun _ => ?_)
      refine j_iconst (pc := 30) (v := 0) C dX5_setFrequency_30 (by decide) ?_
      exact ret_i C rfl hr hlk dX5_setFrequency_31 ⟨_, rfl, hfr, Or.inr ⟨fun z => c16 z.2, hm24.md⟩⟩ (by decide) (by decide)
    · have c16 : vld x2 1001 := (vld_iff (n := 1000) (by decide)).mp (tf_1 hv2 c16)
      obtain ⟨j, hj, rfl⟩ := id c5
      obtain ⟨F9, hF9, rfl⟩ := id c16
      have hfj := hfb j
      refine j_iconst (pc := 19) (v := 0) C dX5_setFrequency_19 (by decide) ?_
      refine j_goto (pc := 20) (tgt := 24) C dX5_setFrequency_20 (by decide) ?_
      refine jV_i (pc := 24) (k2 := 0) (n2 := 0) (np := 1) (As := [.int 0]) C (ct_goes0 h42) gX5_setFrequency_X5_goesWell rfl (by decide +kernel) ⟨by decide, by decide⟩ h42 rfl rfl rfl (Nat.le_of_ble_eq_true rfl) dX5_setFrequency_24 (by decide) (by decide) ⟨by decide, by decide⟩ (fun v L2 w2 hu => ?_)
      obtain ⟨hv9, e9⟩ := hu
      subst hv9
      cases e9
      refine j_nm (fun w24 ew24 => ?_)
      obtain ⟨hm24, hf24⟩ := hm.setob (th2 := 0) (cp2 := cp) (sz2 := sz) ew24 hsz
      have hfr := hfr.tr hf24
      obtain ⟨h42, h43, h44, h45, h46, h47, h48, h49, h50, h51, h52, h53, hT, hE, hfb, hsz⟩ := id hm24
      refine j_if_ne (pc := 27) (tgt := 32) C dX5_setFrequency_27 (by decide) (fun _ => ?_) (fun z9 => absurd z9 (by decide))
      refine j_aload_n (pc := 32) C rfl dX5_setFrequency_32 rfl ?_
      refine j_get (pc := 33) C hin_X5 h42 rfl 8 (by decide) (by decide +kernel) rfl dX5_setFrequency_33 ?_
      refine j_iload_n (pc := 36) C rfl dX5_setFrequency_36 rfl ?_
      refine j_iald (pc := 37) C h50 rfl hj (by decide) dX5_setFrequency_37 ?_
      refine j_istore_3 (pc := 38) C dX5_setFrequency_38 (by decide) rfl ?_
      refine j_aload_n (pc := 39) C rfl dX5_setFrequency_39 rfl ?_
      refine j_get (pc := 40) C hin_X5 h42 rfl 8 (by decide) (by decide +kernel) rfl dX5_setFrequency_40 ?_
      refine j_iload_n (pc := 43) C rfl dX5_setFrequency_43 rfl ?_
      refine j_iload_n (pc := 44) C rfl dX5_setFrequency_44 rfl ?_
      refine j_iast (pc := 45) C h50 rfl hj (by decide) dX5_setFrequency_45 ?_
      refine j_nm (fun w45 ew45 => ?_)
      obtain ⟨hm45, hf45⟩ := hm24.setfq (F := F9) (by omega) ew45
      have hfr := hfr.tr hf45
      obtain ⟨h42, h43, h44, h45, h46, h47, h48, h49, h50, h51, h52, h53, hT, hE, hfb, hsz⟩ := id hm45
      refine j_aload_n (pc := 46) C rfl dX5_setFrequency_46 rfl ?_
      refine j_aload_n (pc := 47) C rfl dX5_setFrequency_47 rfl ?_
      refine j_get (pc := 48) C hin_X5 h42 rfl 9 (by decide) (by decide +kernel) rfl dX5_setFrequency_48 ?_
      refine j_if_eq (pc := 51) (tgt := 63) C dX5_setFrequency_51 (by decide) (fun c51 => ?_) (fun c51 => ?_)
      · have c51 : cp = 0 := c51
        refine j_iconst (pc := 63) (v := 0) C dX5_setFrequency_63 (by decide) ?_
        refine j_put (pc := 64) (fs2 := [.int 0, .ref (am 43), .ref (am 44), .ref (am 45), .ref (am 46), .ref (am 47), .ref (am 48), .ref (am 49), .ref (am 50), .int 0, .ref (am 51), .int (nI sz), .ref (am 52), .ref (am 53)]) C hin_X5 h42 rfl 9 (by decide) tyX5 tyX5_ok nmX5 (by decide +kernel) rfl (tyX5_ok 9 (by decide)) (by first | rfl | decide) rfl (Nat.le_of_ble_eq_true rfl) rfl dX5_setFrequency_64 ?_
        refine j_nm (fun w64 ew64 => ?_)
        obtain ⟨hm64, hf64⟩ := hm45.setob (th2 := 0) (cp2 := 0) (sz2 := sz) ew64 hsz
        have hfr := hfr.tr hf64
        obtain ⟨h42, h43, h44, h45, h46, h47, h48, h49, h50, h51, h52, h53, hT, hE, hfb, hsz⟩ := id hm64
        refine j_iload_n (pc := 67) C rfl dX5_setFrequency_67 rfl ?_
        by_cases e9 : nI F9 = nI (fq j)
        · exact ret_i C rfl hr hlk dX5_setFrequency_68 ⟨_, rfl, hfr, Or.inl ⟨j, hj, rfl, c16, rfl, Or.inl ⟨e9, by have h9 := hm64.md; rw [va_idN (nI_inj (by omega) (by omega) e9.symm)] at h9; rw [c51]; exact h9⟩⟩⟩ (by decide) (by decide)
        · exact ret_i C rfl hr hlk dX5_setFrequency_68 ⟨_, rfl, hfr, Or.inl ⟨j, hj, rfl, c16, rfl, Or.inr ⟨e9, F9, rfl, hm64.md⟩⟩⟩ (by decide) (by decide)
      · have c51 : ¬ cp = 0 := c51
        refine j_iload_n (pc := 54) C rfl dX5_setFrequency_54 rfl ?_
        refine j_iload_n (pc := 55) C rfl dX5_setFrequency_55 rfl ?_
        refine j_icmp_ne (pc := 56) (tgt := 63) C dX5_setFrequency_56 (by decide) (fun c56 => ?_) (fun c56 => ?_)
        · refine j_iconst (pc := 63) (v := 0) C dX5_setFrequency_63 (by decide) ?_
          refine j_put (pc := 64) (fs2 := [.int 0, .ref (am 43), .ref (am 44), .ref (am 45), .ref (am 46), .ref (am 47), .ref (am 48), .ref (am 49), .ref (am 50), .int 0, .ref (am 51), .int (nI sz), .ref (am 52), .ref (am 53)]) C hin_X5 h42 rfl 9 (by decide) tyX5 tyX5_ok nmX5 (by decide +kernel) rfl (tyX5_ok 9 (by decide)) (by first | rfl | decide) rfl (Nat.le_of_ble_eq_true rfl) rfl dX5_setFrequency_64 ?_
          refine j_nm (fun w64 ew64 => ?_)
          obtain ⟨hm64, hf64⟩ := hm45.setob (th2 := 0) (cp2 := 0) (sz2 := sz) ew64 hsz
          have hfr := hfr.tr hf64
          obtain ⟨h42, h43, h44, h45, h46, h47, h48, h49, h50, h51, h52, h53, hT, hE, hfb, hsz⟩ := id hm64
          refine j_iload_n (pc := 67) C rfl dX5_setFrequency_67 rfl ?_
          exact ret_i C rfl hr hlk dX5_setFrequency_68 ⟨_, rfl, hfr, Or.inl ⟨j, hj, rfl, c16, rfl, Or.inr ⟨fun z => c56 z.symm, F9, rfl, hm64.md⟩⟩⟩ (by decide) (by decide)
        · refine j_iconst (pc := 59) (v := 1) C dX5_setFrequency_59 (by decide) ?_
          refine j_goto (pc := 60) (tgt := 64) C dX5_setFrequency_60 (by decide) ?_
          refine j_put (pc := 64) (fs2 := [.int 0, .ref (am 43), .ref (am 44), .ref (am 45), .ref (am 46), .ref (am 47), .ref (am 48), .ref (am 49), .ref (am 50), .int 1, .ref (am 51), .int (nI sz), .ref (am 52), .ref (am 53)]) C hin_X5 h42 rfl 9 (by decide) tyX5 tyX5_ok nmX5 (by decide +kernel) rfl (tyX5_ok 9 (by decide)) (by first | rfl | decide) rfl (Nat.le_of_ble_eq_true rfl) rfl dX5_setFrequency_64 ?_
          refine j_nm (fun w64 ew64 => ?_)
          obtain ⟨hm64, hf64⟩ := hm45.setob (th2 := 0) (cp2 := 1) (sz2 := sz) ew64 hsz
          have hfr := hfr.tr hf64
          obtain ⟨h42, h43, h44, h45, h46, h47, h48, h49, h50, h51, h52, h53, hT, hE, hfb, hsz⟩ := id hm64
          refine j_iload_n (pc := 67) C rfl dX5_setFrequency_67 rfl ?_
          exact ret_i C rfl hr hlk dX5_setFrequency_68 ⟨_, rfl, hfr, Or.inl ⟨j, hj, rfl, c16, rfl, Or.inl ⟨c56.symm, by have h9 := hm64.md; rw [va_idN (nI_inj (by omega) (by omega) c56)] at h9; rw [hcp.resolve_left c51]; exact h9⟩⟩⟩ (by decide) (by decide)

