/-! THE MODEL: add, remove, made -/
theorem len_up {E : Nat → EL} {j n : Nat} {el : EL} (h : el.length = n) : upd (fun i => nI (E i).length) j (nI n) = fun i => nI (va_up E j el i).length := by
  funext i
  by_cases z : i = j
  · simp [upd, va_up, z, h]
  · simp [upd, va_up, z]
theorem tie_add {E : Nat → EL} {ns ar ac : Nat → Int32} {mk vl : Nat → Int64} {j b : Nat} {a1 a2 a3 : Int32} {m v : Int64} (hE : ∀ j, j < 4 → (E j).length ≤ 10) (hT : ∀ j, j < 4 → ∀ i (h : i < (E j).length), rv ns ar ac mk vl (10 * j + i) = ((E j)[i]).2) (hl : (E j).length < 10) : ∀ j9, j9 < 4 → ∀ i (h : i < (va_up E j (E j ++ [(b, (a1, a2, m, v, a3))]) j9).length), rv (upd ns (10 * j + (E j).length) a1) (upd ar (10 * j + (E j).length) a2) (upd ac (10 * j + (E j).length) a3) (vp_updL mk (10 * j + (E j).length) m) (vp_updL vl (10 * j + (E j).length) v) (10 * j9 + i) = ((va_up E j (E j ++ [(b, (a1, a2, m, v, a3))]) j9)[i]).2 := by
  intro j9 hj9
  have hE9 := hE j9 hj9
  by_cases e : j9 = j
  · subst e
    have e2 : va_up E j9 (E j9 ++ [(b, (a1, a2, m, v, a3))]) j9 = E j9 ++ [(b, (a1, a2, m, v, a3))] := by simp [va_up]
    rw [e2]
    intro i h
    rw [List.length_append] at h
    by_cases e3 : i = (E j9).length
    · subst e3
      rw [List.getElem_concat_length rfl]
      simp [rv, upd, vp_updL]
    · have h3 : i < (E j9).length := by simp at h; omega
      have hne : ¬ 10 * j9 + i = 10 * j9 + (E j9).length := by omega
      rw [List.getElem_append_left h3, ← hT j9 hj9 i h3]
      simp [rv, upd, vp_updL, e3]
  · rw [va_up_ne _ _ e]
    intro i h
    have hne : ¬ 10 * j9 + i = 10 * j + (E j).length := by omega
    rw [← hT j9 hj9 i h]
    simp [rv, upd, vp_updL, hne]
set_option maxRecDepth 100000 in
set_option maxHeartbeats 4000000 in
theorem ct_M_add {l : Launch} {G : Gp} {L : List Nat} {w : Wn} {am : Nat → Nat} {th cp : Int32} {df : Nat → Int32} {fq : Nat → Nat} {E : Nat → EL} {ns ar ac : Nat → Int32} {mk vl : Nat → Int64} {ks : Nat → Int32} {sz : Nat} {co ro : Nat → Int32} (hm : MB G am L w th cp df fq E ns ar ac mk vl ks sz co ro) (x x2 x3 x4 : Int32) (fi se : Int64) : CI l yX5_add wsX5_add (rmD 8 0 0) G L w [.ref (am 42), .int x, .int x2, .int x3, .long fi, .long se, .int x4] (fun r u => ∃ w2, u = (L, w2) ∧ FrM L w w2 ∧ ((∃ j, j < 4 ∧ x = nI j ∧ vld x2 32 ∧ vld x3 2 ∧ vld x4 7 ∧ (E j).length < 10 ∧ r = nI (E j).length ∧ ∀ b, MD G am L w2 0 0 df fq (va_up E j (E j ++ [(b, (x2, x3, fi, se, x4))]))) ∨ (¬ (vld x 4 ∧ vld x2 32 ∧ vld x3 2 ∧ vld x4 7) ∧ MD G am L w2 1 cp df fq E) ∨ (vld x 4 ∧ vld x2 32 ∧ vld x3 2 ∧ vld x4 7 ∧ ∃ j, j < 4 ∧ x = nI j ∧ 10 ≤ (E j).length ∧ MD G am L w2 2 cp df fq E))) := by
  refine mk_i (cc := cX5_add) (maxL := 11) [some (.ref (am 42)), some (.int x), some (.int x2), some (.int x3), some (.long fi), none, some (.long se), none, some (.int x4), none, none] (by decide) rfl (Nat.le_of_ble_eq_true rfl) rfl ?_
  intro p e s m args below meth c A C hr hlk hnm
  have hin_X5 : ∀ x ∈ u_ws RX5 TX5 14, x ∈ wsX5_add := by decide +kernel
  obtain ⟨h42, h43, h44, h45, h46, h47, h48, h49, h50, h51, h52, h53, hT, hE, hfb, hsz⟩ := id hm
  have hfr : FrM L w w := Fr.rf
  refine j_iload_n (pc := 0) C rfl dX5_add_0 rfl ?_
  refine jS_i0 (pc := 1) (k2 := 0) (n2 := 0) (np := 1) (As := [.int x]) C (ct_M_isFilter x) gX5_add_X5_isFilter rfl (by decide +kernel) ⟨by decide, by decide⟩ rfl rfl (Nat.le_of_ble_eq_true rfl) dX5_add_1 (by decide) (by decide) ⟨by decide, by decide⟩ (fun v1 hv1 => ?_)
  refine j_if_eq (pc := 4) (tgt := 38) C dX5_add_4 (by decide) (fun c4 => ?_) (fun c4 => ?_)
  · have c4 := tf_0 hv1 c4
    refine j_iconst (pc := 38) (v := 0) C dX5_add_38 (by decide) ?_
    refine j_istore_9 (pc := 39) C dX5_add_39 (by decide) rfl ?_
    refine j_aload_n (pc := 41) C rfl dX5_add_41 rfl ?_
    refine j_iload (pc := 42) C dX5_add_42 rfl ?_
    refine j_if_ne (pc := 44) (tgt := 51) C dX5_add_44 (by decide) (fun z9 => absurd rfl z9) (fun _ => ?_)
    refine j_iconst (pc := 47) (v := 1) C dX5_add_47 (by decide) ?_
    refine j_goto (pc := 48) (tgt := 67) C dX5_add_48 (by decide) ?_
    refine jV_i (pc := 67) (k2 := 0) (n2 := 0) (np := 1) (As := [.int 1]) C (ct_goes1 (pl := 1) h42 (by decide)) gX5_add_X5_goesWell rfl (by decide +kernel) ⟨by decide, by decide⟩ h42 rfl rfl rfl (Nat.le_of_ble_eq_true rfl) dX5_add_67 (by decide) (by decide) ⟨by decide, by decide⟩ (fun v L2 w2 hu => ?_)
    obtain ⟨hv9, e9⟩ := hu
    subst hv9
    cases e9
    refine j_nm (fun w67 ew67 => ?_)
    obtain ⟨hm67, hf67⟩ := hm.setob (th2 := 1) (cp2 := cp) (sz2 := sz) ew67 hsz
    have hfr := hfr.tr hf67
    obtain ⟨h42, h43, h44, h45, h46, h47, h48, h49, h50, h51, h52, h53, hT, hE, hfb, hsz⟩ := id hm67
    refine j_if_ne (pc := 70) (tgt := 75) C dX5_add_70 (by decide) (fun z9 => absurd rfl z9) (fun _ => ?_)
    refine j_iconst (pc := 73) (v := 0) C dX5_add_73 (by decide) ?_
    exact ret_i C rfl hr hlk dX5_add_74 ⟨_, rfl, hfr, Or.inr (Or.inl ⟨fun z => c4 z.1, hm67.md⟩)⟩ (by decide) (by decide)
  · have c4 := tf_1 hv1 c4
    refine j_iload_n (pc := 7) C rfl dX5_add_7 rfl ?_
    refine jS_i0 (pc := 8) (k2 := 0) (n2 := 0) (np := 1) (As := [.int x2]) C (ct_M_isNumber x2) gX5_add_X5_isNumber rfl (by decide +kernel) ⟨by decide, by decide⟩ rfl rfl (Nat.le_of_ble_eq_true rfl) dX5_add_8 (by decide) (by decide) ⟨by decide, by decide⟩ (fun v2 hv2 => ?_)
    refine j_if_eq (pc := 11) (tgt := 38) C dX5_add_11 (by decide) (fun c11 => ?_) (fun c11 => ?_)
    · have c11 := tf_0 hv2 c11
      refine j_iconst (pc := 38) (v := 0) C dX5_add_38 (by decide) ?_
      refine j_istore_9 (pc := 39) C dX5_add_39 (by decide) rfl ?_
      refine j_aload_n (pc := 41) C rfl dX5_add_41 rfl ?_
      refine j_iload (pc := 42) C dX5_add_42 rfl ?_
      refine j_if_ne (pc := 44) (tgt := 51) C dX5_add_44 (by decide) (fun z9 => absurd rfl z9) (fun _ => ?_)
      refine j_iconst (pc := 47) (v := 1) C dX5_add_47 (by decide) ?_
      refine j_goto (pc := 48) (tgt := 67) C dX5_add_48 (by decide) ?_
      refine jV_i (pc := 67) (k2 := 0) (n2 := 0) (np := 1) (As := [.int 1]) C (ct_goes1 (pl := 1) h42 (by decide)) gX5_add_X5_goesWell rfl (by decide +kernel) ⟨by decide, by decide⟩ h42 rfl rfl rfl (Nat.le_of_ble_eq_true rfl) dX5_add_67 (by decide) (by decide) ⟨by decide, by decide⟩ (fun v L2 w2 hu => ?_)
      obtain ⟨hv9, e9⟩ := hu
      subst hv9
      cases e9
      refine j_nm (fun w67 ew67 => ?_)
      obtain ⟨hm67, hf67⟩ := hm.setob (th2 := 1) (cp2 := cp) (sz2 := sz) ew67 hsz
      have hfr := hfr.tr hf67
      obtain ⟨h42, h43, h44, h45, h46, h47, h48, h49, h50, h51, h52, h53, hT, hE, hfb, hsz⟩ := id hm67
      refine j_if_ne (pc := 70) (tgt := 75) C dX5_add_70 (by decide) (fun z9 => absurd rfl z9) (fun _ => ?_)
      refine j_iconst (pc := 73) (v := 0) C dX5_add_73 (by decide) ?_
      exact ret_i C rfl hr hlk dX5_add_74 ⟨_, rfl, hfr, Or.inr (Or.inl ⟨fun z => c11 z.2.1, hm67.md⟩)⟩ (by decide) (by decide)
    · have c11 := tf_1 hv2 c11
      refine j_iload_n (pc := 14) C rfl dX5_add_14 rfl ?_
      refine j_iconst (pc := 15) (v := 0) C dX5_add_15 (by decide) ?_
      refine j_iconst (pc := 16) (v := 1) C dX5_add_16 (by decide) ?_
      refine jS_i0 (pc := 17) (k2 := 0) (n2 := 0) (np := 3) (As := [.int x3, .int 0, .int 1]) C (ct_in x3 0 1) gX5_add_X5_in rfl (by decide +kernel) ⟨by decide, by decide⟩ rfl rfl (Nat.le_of_ble_eq_true rfl) dX5_add_17 (by decide) (by decide) ⟨by decide, by decide⟩ (fun v3 hv3 => ?_)
      refine j_if_eq (pc := 20) (tgt := 38) C dX5_add_20 (by decide) (fun c20 => ?_) (fun c20 => ?_)
      · have c20 : ¬ vld x3 2 := fun z => tf_0 hv3 c20 ((vld_iff (n := 1) (by decide)).mpr z)
        refine j_iconst (pc := 38) (v := 0) C dX5_add_38 (by decide) ?_
        refine j_istore_9 (pc := 39) C dX5_add_39 (by decide) rfl ?_
        refine j_aload_n (pc := 41) C rfl dX5_add_41 rfl ?_
        refine j_iload (pc := 42) C dX5_add_42 rfl ?_
        refine j_if_ne (pc := 44) (tgt := 51) C dX5_add_44 (by decide) (fun z9 => absurd rfl z9) (fun _ => ?_)
        refine j_iconst (pc := 47) (v := 1) C dX5_add_47 (by decide) ?_
        refine j_goto (pc := 48) (tgt := 67) C dX5_add_48 (by decide) ?_
        refine jV_i (pc := 67) (k2 := 0) (n2 := 0) (np := 1) (As := [.int 1]) C (ct_goes1 (pl := 1) h42 (by decide)) gX5_add_X5_goesWell rfl (by decide +kernel) ⟨by decide, by decide⟩ h42 rfl rfl rfl (Nat.le_of_ble_eq_true rfl) dX5_add_67 (by decide) (by decide) ⟨by decide, by decide⟩ (fun v L2 w2 hu => ?_)
        obtain ⟨hv9, e9⟩ := hu
        subst hv9
        cases e9
        refine j_nm (fun w67 ew67 => ?_)
        obtain ⟨hm67, hf67⟩ := hm.setob (th2 := 1) (cp2 := cp) (sz2 := sz) ew67 hsz
        have hfr := hfr.tr hf67
        obtain ⟨h42, h43, h44, h45, h46, h47, h48, h49, h50, h51, h52, h53, hT, hE, hfb, hsz⟩ := id hm67
        refine j_if_ne (pc := 70) (tgt := 75) C dX5_add_70 (by decide) (fun z9 => absurd rfl z9) (fun _ => ?_)
        refine j_iconst (pc := 73) (v := 0) C dX5_add_73 (by decide) ?_
        exact ret_i C rfl hr hlk dX5_add_74 ⟨_, rfl, hfr, Or.inr (Or.inl ⟨fun z => c20 z.2.2.1, hm67.md⟩)⟩ (by decide) (by decide)
      · have c20 : vld x3 2 := (vld_iff (n := 1) (by decide)).mp (tf_1 hv3 c20)
        refine j_iload (pc := 23) C dX5_add_23 rfl ?_
        refine j_iconst (pc := 25) (v := 0) C dX5_add_25 (by decide) ?_
        refine j_bipush (pc := 26) (v := 6) C dX5_add_26 (by decide) ?_
        refine jS_i0 (pc := 28) (k2 := 0) (n2 := 0) (np := 3) (As := [.int x4, .int 0, .int 6]) C (ct_in x4 0 6) gX5_add_X5_in rfl (by decide +kernel) ⟨by decide, by decide⟩ rfl rfl (Nat.le_of_ble_eq_true rfl) dX5_add_28 (by decide) (by decide) ⟨by decide, by decide⟩ (fun v4 hv4 => ?_)
        refine j_if_eq (pc := 31) (tgt := 38) C dX5_add_31 (by decide) (fun c31 => ?_) (fun c31 => ?_)
        · have c31 : ¬ vld x4 7 := fun z => tf_0 hv4 c31 ((vld_iff (n := 6) (by decide)).mpr z)
          refine j_iconst (pc := 38) (v := 0) C dX5_add_38 (by decide) ?_
          refine j_istore_9 (pc := 39) C dX5_add_39 (by decide) rfl ?_
          refine j_aload_n (pc := 41) C rfl dX5_add_41 rfl ?_
          refine j_iload (pc := 42) C dX5_add_42 rfl ?_
          refine j_if_ne (pc := 44) (tgt := 51) C dX5_add_44 (by decide) (fun z9 => absurd rfl z9) (fun _ => ?_)
          refine j_iconst (pc := 47) (v := 1) C dX5_add_47 (by decide) ?_
          refine j_goto (pc := 48) (tgt := 67) C dX5_add_48 (by decide) ?_
          refine jV_i (pc := 67) (k2 := 0) (n2 := 0) (np := 1) (As := [.int 1]) C (ct_goes1 (pl := 1) h42 (by decide)) gX5_add_X5_goesWell rfl (by decide +kernel) ⟨by decide, by decide⟩ h42 rfl rfl rfl (Nat.le_of_ble_eq_true rfl) dX5_add_67 (by decide) (by decide) ⟨by decide, by decide⟩ (fun v L2 w2 hu => ?_)
          obtain ⟨hv9, e9⟩ := hu
          subst hv9
          cases e9
          refine j_nm (fun w67 ew67 => ?_)
          obtain ⟨hm67, hf67⟩ := hm.setob (th2 := 1) (cp2 := cp) (sz2 := sz) ew67 hsz
          have hfr := hfr.tr hf67
          obtain ⟨h42, h43, h44, h45, h46, h47, h48, h49, h50, h51, h52, h53, hT, hE, hfb, hsz⟩ := id hm67
          refine j_if_ne (pc := 70) (tgt := 75) C dX5_add_70 (by decide) (fun z9 => absurd rfl z9) (fun _ => ?_)
          refine j_iconst (pc := 73) (v := 0) C dX5_add_73 (by decide) ?_
          exact ret_i C rfl hr hlk dX5_add_74 ⟨_, rfl, hfr, Or.inr (Or.inl ⟨fun z => c31 z.2.2.2, hm67.md⟩)⟩ (by decide) (by decide)
        · have c31 : vld x4 7 := (vld_iff (n := 6) (by decide)).mp (tf_1 hv4 c31)
          refine j_iconst (pc := 34) (v := 1) C dX5_add_34 (by decide) ?_
          refine j_goto (pc := 35) (tgt := 39) C dX5_add_35 (by decide) ?_
          refine j_istore_9 (pc := 39) C dX5_add_39 (by decide) rfl ?_
          refine j_aload_n (pc := 41) C rfl dX5_add_41 rfl ?_
          refine j_iload (pc := 42) C dX5_add_42 rfl ?_
          refine j_if_ne (pc := 44) (tgt := 51) C dX5_add_44 (by decide) (fun _ => ?_) (fun z9 => absurd z9 (by decide))
          refine j_aload_n (pc := 51) C rfl dX5_add_51 rfl ?_
          refine j_get (pc := 52) C hin_X5 h42 rfl 6 (by decide) (by decide +kernel) rfl dX5_add_52 ?_
          refine j_iload_n (pc := 55) C rfl dX5_add_55 rfl ?_
          obtain ⟨j, hj, rfl⟩ := id c4
          have hj10 := hE j hj
          refine j_iald (pc := 56) C h48 rfl hj (by decide) dX5_add_56 ?_
          refine j_bipush (pc := 57) (v := 10) C dX5_add_57 (by decide) ?_
          refine j_icmp_ne (pc := 59) (tgt := 66) C dX5_add_59 (by decide) (fun c59 => ?_) (fun c59 => ?_)
          · have c59 : ¬ (E j).length = 10 := nI_ne (by omega) (by decide) (show ¬ nI (E j).length = nI 10 from c59)
            refine j_iconst (pc := 66) (v := 0) C dX5_add_66 (by decide) ?_
            refine jV_i (pc := 67) (k2 := 0) (n2 := 0) (np := 1) (As := [.int 0]) C (ct_goes0 h42) gX5_add_X5_goesWell rfl (by decide +kernel) ⟨by decide, by decide⟩ h42 rfl rfl rfl (Nat.le_of_ble_eq_true rfl) dX5_add_67 (by decide) (by decide) ⟨by decide, by decide⟩ (fun v L2 w2 hu => ?_)
            obtain ⟨hv9, e9⟩ := hu
            subst hv9
            cases e9
            refine j_nm (fun w67 ew67 => ?_)
            obtain ⟨hm67, hf67⟩ := hm.setob (th2 := 0) (cp2 := cp) (sz2 := sz) ew67 hsz
            have hfr := hfr.tr hf67
            obtain ⟨h42, h43, h44, h45, h46, h47, h48, h49, h50, h51, h52, h53, hT, hE, hfb, hsz⟩ := id hm67
            refine j_if_ne (pc := 70) (tgt := 75) C dX5_add_70 (by decide) (fun _ => ?_) (fun z9 => absurd z9 (by decide))
            refine j_bipush (pc := 75) (v := 10) C dX5_add_75 (by decide) ?_
            refine j_iload_n (pc := 77) C rfl dX5_add_77 rfl ?_
            refine j_imul (pc := 78) C dX5_add_78 ?_
            refine j_aload_n (pc := 79) C rfl dX5_add_79 rfl ?_
            refine j_get (pc := 80) C hin_X5 h42 rfl 6 (by decide) (by decide +kernel) rfl dX5_add_80 ?_
            refine j_iload_n (pc := 83) C rfl dX5_add_83 rfl ?_
            refine j_iald (pc := 84) C h48 rfl hj (by decide) dX5_add_84 ?_
            refine j_iadd (pc := 85) C dX5_add_85 ?_
            refine j_st (by rw [ix10 j ((E j).length)]) ?_
            refine j_istore_10 (pc := 86) C dX5_add_86 (by decide) rfl ?_
            refine j_aload_n (pc := 88) C rfl dX5_add_88 rfl ?_
            refine j_get (pc := 89) C hin_X5 h42 rfl 1 (by decide) (by decide +kernel) rfl dX5_add_89 ?_
            refine j_iload (pc := 92) C dX5_add_92 rfl ?_
            refine j_iload_n (pc := 94) C rfl dX5_add_94 rfl ?_
            refine j_iast (pc := 95) C h43 rfl (by omega) (by decide) dX5_add_95 ?_
            refine j_nm (fun w95 ew95 => ?_)
            have h42 := hs_up1 h42 ew95 (by decide)
            have ew95 := ew95
            have h43 := hs_me1 h43 ew95
            have h44 := hs_up1 h44 ew95 (by decide)
            have h45 := hs_up1 h45 ew95 (by decide)
            have h46 := hs_up1 h46 ew95 (by decide)
            have h47 := hs_up1 h47 ew95 (by decide)
            have h48 := hs_up1 h48 ew95 (by decide)
            have h49 := hs_up1 h49 ew95 (by decide)
            have h50 := hs_up1 h50 ew95 (by decide)
            have h51 := hs_up1 h51 ew95 (by decide)
            have h52 := hs_up1 h52 ew95 (by decide)
            have h53 := hs_up1 h53 ew95 (by decide)
            have hfr := hfr.tr ((Fr.up ew95).mono (fun m z => by omega) (fun m z => z))
            refine j_aload_n (pc := 96) C rfl dX5_add_96 rfl ?_
            refine j_get (pc := 97) C hin_X5 h42 rfl 2 (by decide) (by decide +kernel) rfl dX5_add_97 ?_
            refine j_iload (pc := 100) C dX5_add_100 rfl ?_
            refine j_iload_n (pc := 102) C rfl dX5_add_102 rfl ?_
            refine j_iast (pc := 103) C h44 rfl (by omega) (by decide) dX5_add_103 ?_
            refine j_nm (fun w103 ew103 => ?_)
            have h42 := hs_up1 h42 ew103 (by decide)
            have h43 := hs_up1 h43 ew103 (by decide)
            have ew103 := ew103
            have h44 := hs_me1 h44 ew103
            have h45 := hs_up1 h45 ew103 (by decide)
            have h46 := hs_up1 h46 ew103 (by decide)
            have h47 := hs_up1 h47 ew103 (by decide)
            have h48 := hs_up1 h48 ew103 (by decide)
            have h49 := hs_up1 h49 ew103 (by decide)
            have h50 := hs_up1 h50 ew103 (by decide)
            have h51 := hs_up1 h51 ew103 (by decide)
            have h52 := hs_up1 h52 ew103 (by decide)
            have h53 := hs_up1 h53 ew103 (by decide)
            have hfr := hfr.tr ((Fr.up ew103).mono (fun m z => by omega) (fun m z => z))
            refine j_aload_n (pc := 104) C rfl dX5_add_104 rfl ?_
            refine j_get (pc := 105) C hin_X5 h42 rfl 3 (by decide) (by decide +kernel) rfl dX5_add_105 ?_
            refine j_iload (pc := 108) C dX5_add_108 rfl ?_
            refine j_lload (pc := 110) C dX5_add_110 rfl ?_
            refine j_last (pc := 112) C h45 rfl (by omega) (by decide) dX5_add_112 ?_
            refine j_nm (fun w112 ew112 => ?_)
            have h42 := hs_up1 h42 ew112 (by decide)
            have h43 := hs_up1 h43 ew112 (by decide)
            have h44 := hs_up1 h44 ew112 (by decide)
            have ew112 := ew112
            have h45 := hs_me1 h45 ew112
            have h46 := hs_up1 h46 ew112 (by decide)
            have h47 := hs_up1 h47 ew112 (by decide)
            have h48 := hs_up1 h48 ew112 (by decide)
            have h49 := hs_up1 h49 ew112 (by decide)
            have h50 := hs_up1 h50 ew112 (by decide)
            have h51 := hs_up1 h51 ew112 (by decide)
            have h52 := hs_up1 h52 ew112 (by decide)
            have h53 := hs_up1 h53 ew112 (by decide)
            have hfr := hfr.tr ((Fr.up ew112).mono (fun m z => by omega) (fun m z => z))
            refine j_aload_n (pc := 113) C rfl dX5_add_113 rfl ?_
            refine j_get (pc := 114) C hin_X5 h42 rfl 4 (by decide) (by decide +kernel) rfl dX5_add_114 ?_
            refine j_iload (pc := 117) C dX5_add_117 rfl ?_
            refine j_lload (pc := 119) C dX5_add_119 rfl ?_
            refine j_last (pc := 121) C h46 rfl (by omega) (by decide) dX5_add_121 ?_
            refine j_nm (fun w121 ew121 => ?_)
            have h42 := hs_up1 h42 ew121 (by decide)
            have h43 := hs_up1 h43 ew121 (by decide)
            have h44 := hs_up1 h44 ew121 (by decide)
            have h45 := hs_up1 h45 ew121 (by decide)
            have ew121 := ew121
            have h46 := hs_me1 h46 ew121
            have h47 := hs_up1 h47 ew121 (by decide)
            have h48 := hs_up1 h48 ew121 (by decide)
            have h49 := hs_up1 h49 ew121 (by decide)
            have h50 := hs_up1 h50 ew121 (by decide)
            have h51 := hs_up1 h51 ew121 (by decide)
            have h52 := hs_up1 h52 ew121 (by decide)
            have h53 := hs_up1 h53 ew121 (by decide)
            have hfr := hfr.tr ((Fr.up ew121).mono (fun m z => by omega) (fun m z => z))
            refine j_aload_n (pc := 122) C rfl dX5_add_122 rfl ?_
            refine j_get (pc := 123) C hin_X5 h42 rfl 5 (by decide) (by decide +kernel) rfl dX5_add_123 ?_
            refine j_iload (pc := 126) C dX5_add_126 rfl ?_
            refine j_iload (pc := 128) C dX5_add_128 rfl ?_
            refine j_iast (pc := 130) C h47 rfl (by omega) (by decide) dX5_add_130 ?_
            refine j_nm (fun w130 ew130 => ?_)
            have h42 := hs_up1 h42 ew130 (by decide)
            have h43 := hs_up1 h43 ew130 (by decide)
            have h44 := hs_up1 h44 ew130 (by decide)
            have h45 := hs_up1 h45 ew130 (by decide)
            have h46 := hs_up1 h46 ew130 (by decide)
            have ew130 := ew130
            have h47 := hs_me1 h47 ew130
            have h48 := hs_up1 h48 ew130 (by decide)
            have h49 := hs_up1 h49 ew130 (by decide)
            have h50 := hs_up1 h50 ew130 (by decide)
            have h51 := hs_up1 h51 ew130 (by decide)
            have h52 := hs_up1 h52 ew130 (by decide)
            have h53 := hs_up1 h53 ew130 (by decide)
            have hfr := hfr.tr ((Fr.up ew130).mono (fun m z => by omega) (fun m z => z))
            refine j_aload_n (pc := 131) C rfl dX5_add_131 rfl ?_
            refine j_get (pc := 132) C hin_X5 h42 rfl 6 (by decide) (by decide +kernel) rfl dX5_add_132 ?_
            refine j_iload_n (pc := 135) C rfl dX5_add_135 rfl ?_
            refine j_dup2 (pc := 136) C dX5_add_136 rfl rfl ?_
            refine j_iald (pc := 137) C h48 rfl hj (by decide) dX5_add_137 ?_
            refine j_iconst (pc := 138) (v := 1) C dX5_add_138 (by decide) ?_
            refine j_iadd (pc := 139) C dX5_add_139 ?_
            refine j_st (by rw [nI_1]) ?_
            refine j_iast (pc := 140) C h48 rfl hj (by decide) dX5_add_140 ?_
            refine j_nm (fun w140 ew140 => ?_)
            have h42 := hs_up1 h42 ew140 (by decide)
            have h43 := hs_up1 h43 ew140 (by decide)
            have h44 := hs_up1 h44 ew140 (by decide)
            have h45 := hs_up1 h45 ew140 (by decide)
            have h46 := hs_up1 h46 ew140 (by decide)
            have h47 := hs_up1 h47 ew140 (by decide)
            have ew140 := ew140
            have h48 := hs_me1 h48 ew140
            have h49 := hs_up1 h49 ew140 (by decide)
            have h50 := hs_up1 h50 ew140 (by decide)
            have h51 := hs_up1 h51 ew140 (by decide)
            have h52 := hs_up1 h52 ew140 (by decide)
            have h53 := hs_up1 h53 ew140 (by decide)
            have hfr := hfr.tr ((Fr.up ew140).mono (fun m z => by omega) (fun m z => z))
            refine j_aload_n (pc := 141) C rfl dX5_add_141 rfl ?_
            refine j_iconst (pc := 142) (v := 0) C dX5_add_142 (by decide) ?_
            refine j_put (pc := 143) (fs2 := [.int 0, .ref (am 43), .ref (am 44), .ref (am 45), .ref (am 46), .ref (am 47), .ref (am 48), .ref (am 49), .ref (am 50), .int 0, .ref (am 51), .int (nI sz), .ref (am 52), .ref (am 53)]) C hin_X5 h42 rfl 9 (by decide) tyX5 tyX5_ok nmX5 (by decide +kernel) rfl (tyX5_ok 9 (by decide)) (by first | rfl | decide) rfl (Nat.le_of_ble_eq_true rfl) rfl dX5_add_143 ?_
            refine j_nm (fun w143 ew143 => ?_)
            have h42 : Hs L w143 42 (am 42) (.inr (6, [.int 0, .ref (am 43), .ref (am 44), .ref (am 45), .ref (am 46), .ref (am 47), .ref (am 48), .ref (am 49), .ref (am 50), .int 0, .ref (am 51), .int (nI sz), .ref (am 52), .ref (am 53)])) := by rw [ew143]; exact h42.me
            have h43 := hs_up1 h43 ew143 (by decide)
            have h44 := hs_up1 h44 ew143 (by decide)
            have h45 := hs_up1 h45 ew143 (by decide)
            have h46 := hs_up1 h46 ew143 (by decide)
            have h47 := hs_up1 h47 ew143 (by decide)
            have h48 := hs_up1 h48 ew143 (by decide)
            have h49 := hs_up1 h49 ew143 (by decide)
            have h50 := hs_up1 h50 ew143 (by decide)
            have h51 := hs_up1 h51 ew143 (by decide)
            have h52 := hs_up1 h52 ew143 (by decide)
            have h53 := hs_up1 h53 ew143 (by decide)
            have hfr := hfr.tr ((Fr.up ew143).mono (fun m z => by omega) (fun m z => z))
            refine j_aload_n (pc := 146) C rfl dX5_add_146 rfl ?_
            refine j_get (pc := 147) C hin_X5 h42 rfl 6 (by decide) (by decide +kernel) rfl dX5_add_147 ?_
            refine j_iload_n (pc := 150) C rfl dX5_add_150 rfl ?_
            refine j_iald (pc := 151) C h48 rfl hj (by decide) dX5_add_151 ?_
            refine j_st (by rw [upd_me]) ?_
            refine j_iconst (pc := 152) (v := 1) C dX5_add_152 (by decide) ?_
            refine j_isub (pc := 153) C dX5_add_153 ?_
            refine j_st (by rw [nI_pred]) ?_
            refine ret_i C rfl hr hlk dX5_add_154 ⟨_, rfl, hfr, Or.inl ⟨j, hj, rfl, c11, c20, c31, by omega, rfl, fun b => ⟨_, _, _, _, _, _, _, _, _, h42, h43, h44, h45, h46, h47, by rw [← len_up (n := (E j).length + 1) (by rw [List.length_append]; rfl)]; exact h48, h49, h50, h51, h52, h53, tie_add hE hT (by omega), fun j9 hj9 => ?_, hfb, hsz⟩⟩⟩ (by decide) (by decide)
            by_cases e9 : j9 = j
            · subst e9; simp [va_up]; omega
            · rw [va_up_ne _ _ e9]; exact hE j9 hj9
          · have c59 : (E j).length = 10 := nI_inj (by omega) (by decide) (show nI (E j).length = nI 10 from c59)
            refine j_iconst (pc := 62) (v := 2) C dX5_add_62 (by decide) ?_
            refine j_goto (pc := 63) (tgt := 67) C dX5_add_63 (by decide) ?_
            refine jV_i (pc := 67) (k2 := 0) (n2 := 0) (np := 1) (As := [.int 2]) C (ct_goes1 (pl := 2) h42 (by decide)) gX5_add_X5_goesWell rfl (by decide +kernel) ⟨by decide, by decide⟩ h42 rfl rfl rfl (Nat.le_of_ble_eq_true rfl) dX5_add_67 (by decide) (by decide) ⟨by decide, by decide⟩ (fun v L2 w2 hu => ?_)
            obtain ⟨hv9, e9⟩ := hu
            subst hv9
            cases e9
            refine j_nm (fun w67 ew67 => ?_)
            obtain ⟨hm67, hf67⟩ := hm.setob (th2 := 2) (cp2 := cp) (sz2 := sz) ew67 hsz
            have hfr := hfr.tr hf67
            obtain ⟨h42, h43, h44, h45, h46, h47, h48, h49, h50, h51, h52, h53, hT, hE, hfb, hsz⟩ := id hm67
            refine j_if_ne (pc := 70) (tgt := 75) C dX5_add_70 (by decide) (fun z9 => absurd rfl z9) (fun _ => ?_)
            refine j_iconst (pc := 73) (v := 0) C dX5_add_73 (by decide) ?_
            exact ret_i C rfl hr hlk dX5_add_74 ⟨_, rfl, hfr, Or.inr (Or.inr ⟨c4, c11, c20, c31, j, hj, rfl, by omega, hm67.md⟩)⟩ (by decide) (by decide)

def shg {α : Type} (f : Nat → α) (a b : Nat) : Nat → α := fun k => if a ≤ k ∧ k < b then f (k + 1) else f k
theorem shg_0 {α : Type} {f : Nat → α} {a : Nat} : shg f a a = f := by
  funext k
  unfold shg
  rw [if_neg (by omega)]
theorem shg_s {f : Nat → Int32} {a b : Nat} (h : a ≤ b) : upd (shg f a b) b (shg f a b (b + 1)) = shg f a (b + 1) := by
  funext k
  by_cases e : k = b
  · subst e
    rw [upd_me]
    unfold shg
    rw [if_neg (by omega), if_pos (by omega)]
  · rw [upd_ne e]
    unfold shg
    by_cases h2 : a ≤ k ∧ k < b
    · rw [if_pos h2, if_pos (by omega)]
    · rw [if_neg h2, if_neg (by omega)]
theorem shgL_s {f : Nat → Int64} {a b : Nat} (h : a ≤ b) : vp_updL (shg f a b) b (shg f a b (b + 1)) = shg f a (b + 1) := by
  funext k
  by_cases e : k = b
  · subst e
    simp only [vp_updL, if_true]
    unfold shg
    rw [if_neg (by omega), if_pos (by omega)]
  · simp only [vp_updL, if_neg e]
    unfold shg
    by_cases h2 : a ≤ k ∧ k < b
    · rw [if_pos h2, if_pos (by omega)]
    · rw [if_neg h2, if_neg (by omega)]
theorem tie_rem {E : Nat → EL} {ns ar ac : Nat → Int32} {mk vl : Nat → Int64} {j i : Nat} (hE : ∀ j, j < 4 → (E j).length ≤ 10) (hT : ∀ j, j < 4 → ∀ i (h : i < (E j).length), rv ns ar ac mk vl (10 * j + i) = ((E j)[i]).2) (hj : j < 4) (hi : i < (E j).length) : ∀ j9, j9 < 4 → ∀ q (h : q < (va_up E j ((E j).eraseIdx i) j9).length), rv (shg ns (10 * j + i) (10 * j + ((E j).length - 1))) (shg ar (10 * j + i) (10 * j + ((E j).length - 1))) (shg ac (10 * j + i) (10 * j + ((E j).length - 1))) (shg mk (10 * j + i) (10 * j + ((E j).length - 1))) (shg vl (10 * j + i) (10 * j + ((E j).length - 1))) (10 * j9 + q) = ((va_up E j ((E j).eraseIdx i) j9)[q]).2 := by
  intro j9 hj9
  have hE9 := hE j9 hj9
  have hEj := hE j hj
  by_cases e : j9 = j
  · subst e
    have e2 : va_up E j9 ((E j9).eraseIdx i) j9 = (E j9).eraseIdx i := by simp [va_up]
    rw [e2]
    intro q h
    have hl : ((E j9).eraseIdx i).length = (E j9).length - 1 := List.length_eraseIdx_of_lt hi
    have hq : q < (E j9).length - 1 := by omega
    rw [List.getElem_eraseIdx]
    by_cases e3 : q < i
    · rw [dif_pos e3, ← hT j9 hj9 q (by omega)]
      have hne : ¬ (10 * j9 + i ≤ 10 * j9 + q ∧ 10 * j9 + q < 10 * j9 + ((E j9).length - 1)) := by omega
      simp only [rv, shg, if_neg hne]
    · rw [dif_neg e3, ← hT j9 hj9 (q + 1) (by omega)]
      have hne : (10 * j9 + i ≤ 10 * j9 + q ∧ 10 * j9 + q < 10 * j9 + ((E j9).length - 1)) := by omega
      simp only [rv, shg, if_pos hne]
      rfl
  · rw [va_up_ne _ _ e]
    intro q h
    have hne : ¬ (10 * j + i ≤ 10 * j9 + q ∧ 10 * j9 + q < 10 * j + ((E j).length - 1)) := by omega
    rw [← hT j9 hj9 q h]
    simp only [rv, shg, if_neg hne]
set_option maxRecDepth 100000 in
set_option maxHeartbeats 4000000 in
theorem mrm_loop {p : Program} {e : Env} {s : State} {m : MethodId} {args : Array Value} {below : List Frame} {meth : Method} {c : Code} {A : Nat → Prop} {post : Int32 → Sw → Prop} {l : Launch} {G : Gp} {L : List Nat} {am : Nat → Nat} {cp : Int32} {df : Nat → Int32} {fq : Nat → Nat} {E : Nat → EL} {ns ar ac : Nat → Int32} {mk vl : Nat → Int64} {ks : Nat → Int32} {sz : Nat} {co ro : Nat → Int32} {w0 : Wn} {j i : Nat} (hj : j < 4) (hi : i < (E j).length) (hT : ∀ j, j < 4 → ∀ i (h : i < (E j).length), rv ns ar ac mk vl (10 * j + i) = ((E j)[i]).2) (hE : ∀ j, j < 4 → (E j).length ≤ 10) (hfb : ∀ i, fq i ≤ 1000) (hsz : sz ≤ 10) (hend : ∀ w2, MB G am L w2 0 0 df fq (va_up E j ((E j).eraseIdx i)) (shg ns (10 * j + i) (10 * j + ((E j).length - 1))) (shg ar (10 * j + i) (10 * j + ((E j).length - 1))) (shg ac (10 * j + i) (10 * j + ((E j).length - 1))) (shg mk (10 * j + i) (10 * j + ((E j).length - 1))) (shg vl (10 * j + i) (10 * j + ((E j).length - 1))) ks sz co ro → FrM L w0 w2 → post (nI ((E j).length - 1)) (L, w2)) (C : Cx p s m args c cX5_remove yX5_remove.cls 4 wsX5_remove G A s.heap) (hr : meth.sig.returnType = (some .int)) (hlk : meth.locks = false) : ∀ (f q : Nat) (w : Wn), 10 - q = f → i ≤ q ∧ q ≤ (E j).length - 1 → Hs L w 43 (am 43) (iarE G 40 (shg ns (10 * j + i) (10 * j + q))) → Hs L w 44 (am 44) (iarE G 40 (shg ar (10 * j + i) (10 * j + q))) → Hs L w 45 (am 45) (jarE G 40 (shg mk (10 * j + i) (10 * j + q))) → Hs L w 46 (am 46) (jarE G 40 (shg vl (10 * j + i) (10 * j + q))) → Hs L w 47 (am 47) (iarE G 40 (shg ac (10 * j + i) (10 * j + q))) → Hs L w 42 (am 42) (modE am 0 cp (nI sz)) → Hs L w 48 (am 48) (iarE G 4 (upd (fun j => nI (E j).length) j (nI ((E j).length - 1)))) → Hs L w 49 (am 49) (iarE G 4 df) → Hs L w 50 (am 50) (iarE G 32 (fun i => nI (fq i))) → Hs L w 51 (am 51) (iarE G 10 ks) → Hs L w 52 (am 52) (iarE G 100 co) → Hs L w 53 (am 53) (iarE G 100 ro) → FrM L w0 w → J p l e (rmD 8 0 0) s m args below meth c G A s.heap 4 (MQ below (va_Qi post (PB G A) A) args s (rmD 8 0 0).cells (rmD 8 0 0).slots A) L w 0 0 51 [some (.ref (am 42)), some (.int (nI j)), some (.int (nI i)), some (.int (nI (10 * j + q)))] [] := by
  have hin_X5 : ∀ x ∈ u_ws RX5 TX5 14, x ∈ wsX5_remove := by decide +kernel
  intro f
  induction f using Nat.strongRecOn with
  | _ f ih =>
    intro q w hf hq0 h43 h44 h45 h46 h47 h42 h48 h49 h50 h51 h52 h53 hfr
    have hj10 := hE j hj
    have hE2 : ∀ j9, j9 < 4 → ((va_up E j ((E j).eraseIdx i)) j9).length ≤ 10 := fun j9 hj9 => by
      by_cases e9 : j9 = j
      · subst e9; simp [va_up, List.length_eraseIdx]; split <;> omega
      · rw [va_up_ne _ _ e9]; exact hE j9 hj9
    refine j_iload_n (pc := 51) C rfl dX5_remove_51 rfl ?_
    refine j_bipush (pc := 52) (v := 10) C dX5_remove_52 (by decide) ?_
    refine j_iload_n (pc := 54) C rfl dX5_remove_54 rfl ?_
    refine j_imul (pc := 55) C dX5_remove_55 ?_
    refine j_aload_n (pc := 56) C rfl dX5_remove_56 rfl ?_
    refine j_get (pc := 57) C hin_X5 h42 rfl 6 (by decide) (by decide +kernel) rfl dX5_remove_57 ?_
    refine j_iload_n (pc := 60) C rfl dX5_remove_60 rfl ?_
    refine j_iald (pc := 61) C h48 rfl hj (by decide) dX5_remove_61 ?_
    refine j_st (by rw [upd_me]) ?_
    refine j_iadd (pc := 62) C dX5_remove_62 ?_
    refine j_st (by rw [ix10 j (((E j).length - 1))]) ?_
    refine j_icmp_ge (pc := 63) (tgt := 142) C dX5_remove_63 (by decide) (fun c63 => ?_) (fun c63 => ?_)
    · have c63 := nI_le_of (by omega) (by omega) (show nI (10 * j + (((E j).length - 1))) ≤ nI (10 * j + q) from c63)
      refine j_aload_n (pc := 142) C rfl dX5_remove_142 rfl ?_
      refine j_iconst (pc := 143) (v := 0) C dX5_remove_143 (by decide) ?_
      refine j_put (pc := 144) (fs2 := [.int 0, .ref (am 43), .ref (am 44), .ref (am 45), .ref (am 46), .ref (am 47), .ref (am 48), .ref (am 49), .ref (am 50), .int 0, .ref (am 51), .int (nI sz), .ref (am 52), .ref (am 53)]) C hin_X5 h42 rfl 9 (by decide) tyX5 tyX5_ok nmX5 (by decide +kernel) rfl (tyX5_ok 9 (by decide)) (by first | rfl | decide) rfl (Nat.le_of_ble_eq_true rfl) rfl dX5_remove_144 ?_
      refine j_nm (fun w144 ew144 => ?_)
      have h42 : Hs L w144 42 (am 42) (.inr (6, [.int 0, .ref (am 43), .ref (am 44), .ref (am 45), .ref (am 46), .ref (am 47), .ref (am 48), .ref (am 49), .ref (am 50), .int 0, .ref (am 51), .int (nI sz), .ref (am 52), .ref (am 53)])) := by rw [ew144]; exact h42.me
      have h43 := hs_up1 h43 ew144 (by decide)
      have h44 := hs_up1 h44 ew144 (by decide)
      have h45 := hs_up1 h45 ew144 (by decide)
      have h46 := hs_up1 h46 ew144 (by decide)
      have h47 := hs_up1 h47 ew144 (by decide)
      have h48 := hs_up1 h48 ew144 (by decide)
      have h49 := hs_up1 h49 ew144 (by decide)
      have h50 := hs_up1 h50 ew144 (by decide)
      have h51 := hs_up1 h51 ew144 (by decide)
      have h52 := hs_up1 h52 ew144 (by decide)
      have h53 := hs_up1 h53 ew144 (by decide)
      have hfr := hfr.tr ((Fr.up ew144).mono (fun m z => by omega) (fun m z => z))
      refine j_aload_n (pc := 147) C rfl dX5_remove_147 rfl ?_
      refine j_get (pc := 148) C hin_X5 h42 rfl 6 (by decide) (by decide +kernel) rfl dX5_remove_148 ?_
      refine j_iload_n (pc := 151) C rfl dX5_remove_151 rfl ?_
      refine j_iald (pc := 152) C h48 rfl hj (by decide) dX5_remove_152 ?_
      refine j_st (by rw [upd_me]) ?_
      have eq9 : q = (E j).length - 1 := by omega
      subst eq9
      exact ret_i C rfl hr hlk dX5_remove_153 (hend w144 ⟨h42, h43, h44, h45, h46, h47, by rw [← len_up (n := (E j).length - 1) (List.length_eraseIdx_of_lt hi)]; exact h48, h49, h50, h51, h52, h53, tie_rem hE hT hj hi, hE2, hfb, hsz⟩ hfr) (by decide) (by decide)
    · have c63 := nI_gt_of (by omega) (by omega) (show ¬ nI (10 * j + (((E j).length - 1))) ≤ nI (10 * j + q) from c63)
      refine j_aload_n (pc := 66) C rfl dX5_remove_66 rfl ?_
      refine j_get (pc := 67) C hin_X5 h42 rfl 1 (by decide) (by decide +kernel) rfl dX5_remove_67 ?_
      refine j_iload_n (pc := 70) C rfl dX5_remove_70 rfl ?_
      refine j_aload_n (pc := 71) C rfl dX5_remove_71 rfl ?_
      refine j_get (pc := 72) C hin_X5 h42 rfl 1 (by decide) (by decide +kernel) rfl dX5_remove_72 ?_
      refine j_iload_n (pc := 75) C rfl dX5_remove_75 rfl ?_
      refine j_iconst (pc := 76) (v := 1) C dX5_remove_76 (by decide) ?_
      refine j_iadd (pc := 77) C dX5_remove_77 ?_
      refine j_st (by rw [nI_1]) ?_
      refine j_iald (pc := 78) C h43 rfl (by omega) (by decide) dX5_remove_78 ?_
      refine j_iast (pc := 79) C h43 rfl (by omega) (by decide) dX5_remove_79 ?_
      refine j_nm (fun w79 ew79 => ?_)
      have h42 := hs_up1 h42 ew79 (by decide)
      have ew79 := ew79
      have h43 := hs_me1 h43 ew79
      have h44 := hs_up1 h44 ew79 (by decide)
      have h45 := hs_up1 h45 ew79 (by decide)
      have h46 := hs_up1 h46 ew79 (by decide)
      have h47 := hs_up1 h47 ew79 (by decide)
      have h48 := hs_up1 h48 ew79 (by decide)
      have h49 := hs_up1 h49 ew79 (by decide)
      have h50 := hs_up1 h50 ew79 (by decide)
      have h51 := hs_up1 h51 ew79 (by decide)
      have h52 := hs_up1 h52 ew79 (by decide)
      have h53 := hs_up1 h53 ew79 (by decide)
      have hfr := hfr.tr ((Fr.up ew79).mono (fun m z => by omega) (fun m z => z))
      refine j_aload_n (pc := 80) C rfl dX5_remove_80 rfl ?_
      refine j_get (pc := 81) C hin_X5 h42 rfl 2 (by decide) (by decide +kernel) rfl dX5_remove_81 ?_
      refine j_iload_n (pc := 84) C rfl dX5_remove_84 rfl ?_
      refine j_aload_n (pc := 85) C rfl dX5_remove_85 rfl ?_
      refine j_get (pc := 86) C hin_X5 h42 rfl 2 (by decide) (by decide +kernel) rfl dX5_remove_86 ?_
      refine j_iload_n (pc := 89) C rfl dX5_remove_89 rfl ?_
      refine j_iconst (pc := 90) (v := 1) C dX5_remove_90 (by decide) ?_
      refine j_iadd (pc := 91) C dX5_remove_91 ?_
      refine j_st (by rw [nI_1]) ?_
      refine j_iald (pc := 92) C h44 rfl (by omega) (by decide) dX5_remove_92 ?_
      refine j_iast (pc := 93) C h44 rfl (by omega) (by decide) dX5_remove_93 ?_
      refine j_nm (fun w93 ew93 => ?_)
      have h42 := hs_up1 h42 ew93 (by decide)
      have h43 := hs_up1 h43 ew93 (by decide)
      have ew93 := ew93
      have h44 := hs_me1 h44 ew93
      have h45 := hs_up1 h45 ew93 (by decide)
      have h46 := hs_up1 h46 ew93 (by decide)
      have h47 := hs_up1 h47 ew93 (by decide)
      have h48 := hs_up1 h48 ew93 (by decide)
      have h49 := hs_up1 h49 ew93 (by decide)
      have h50 := hs_up1 h50 ew93 (by decide)
      have h51 := hs_up1 h51 ew93 (by decide)
      have h52 := hs_up1 h52 ew93 (by decide)
      have h53 := hs_up1 h53 ew93 (by decide)
      have hfr := hfr.tr ((Fr.up ew93).mono (fun m z => by omega) (fun m z => z))
      refine j_aload_n (pc := 94) C rfl dX5_remove_94 rfl ?_
      refine j_get (pc := 95) C hin_X5 h42 rfl 3 (by decide) (by decide +kernel) rfl dX5_remove_95 ?_
      refine j_iload_n (pc := 98) C rfl dX5_remove_98 rfl ?_
      refine j_aload_n (pc := 99) C rfl dX5_remove_99 rfl ?_
      refine j_get (pc := 100) C hin_X5 h42 rfl 3 (by decide) (by decide +kernel) rfl dX5_remove_100 ?_
      refine j_iload_n (pc := 103) C rfl dX5_remove_103 rfl ?_
      refine j_iconst (pc := 104) (v := 1) C dX5_remove_104 (by decide) ?_
      refine j_iadd (pc := 105) C dX5_remove_105 ?_
      refine j_st (by rw [nI_1]) ?_
      refine j_lald (pc := 106) C h45 rfl (by omega) (by decide) dX5_remove_106 ?_
      refine j_last (pc := 107) C h45 rfl (by omega) (by decide) dX5_remove_107 ?_
      refine j_nm (fun w107 ew107 => ?_)
      have h42 := hs_up1 h42 ew107 (by decide)
      have h43 := hs_up1 h43 ew107 (by decide)
      have h44 := hs_up1 h44 ew107 (by decide)
      have ew107 := ew107
      have h45 := hs_me1 h45 ew107
      have h46 := hs_up1 h46 ew107 (by decide)
      have h47 := hs_up1 h47 ew107 (by decide)
      have h48 := hs_up1 h48 ew107 (by decide)
      have h49 := hs_up1 h49 ew107 (by decide)
      have h50 := hs_up1 h50 ew107 (by decide)
      have h51 := hs_up1 h51 ew107 (by decide)
      have h52 := hs_up1 h52 ew107 (by decide)
      have h53 := hs_up1 h53 ew107 (by decide)
      have hfr := hfr.tr ((Fr.up ew107).mono (fun m z => by omega) (fun m z => z))
      refine j_aload_n (pc := 108) C rfl dX5_remove_108 rfl ?_
      refine j_get (pc := 109) C hin_X5 h42 rfl 4 (by decide) (by decide +kernel) rfl dX5_remove_109 ?_
      refine j_iload_n (pc := 112) C rfl dX5_remove_112 rfl ?_
      refine j_aload_n (pc := 113) C rfl dX5_remove_113 rfl ?_
      refine j_get (pc := 114) C hin_X5 h42 rfl 4 (by decide) (by decide +kernel) rfl dX5_remove_114 ?_
      refine j_iload_n (pc := 117) C rfl dX5_remove_117 rfl ?_
      refine j_iconst (pc := 118) (v := 1) C dX5_remove_118 (by decide) ?_
      refine j_iadd (pc := 119) C dX5_remove_119 ?_
      refine j_st (by rw [nI_1]) ?_
      refine j_lald (pc := 120) C h46 rfl (by omega) (by decide) dX5_remove_120 ?_
      refine j_last (pc := 121) C h46 rfl (by omega) (by decide) dX5_remove_121 ?_
      refine j_nm (fun w121 ew121 => ?_)
      have h42 := hs_up1 h42 ew121 (by decide)
      have h43 := hs_up1 h43 ew121 (by decide)
      have h44 := hs_up1 h44 ew121 (by decide)
      have h45 := hs_up1 h45 ew121 (by decide)
      have ew121 := ew121
      have h46 := hs_me1 h46 ew121
      have h47 := hs_up1 h47 ew121 (by decide)
      have h48 := hs_up1 h48 ew121 (by decide)
      have h49 := hs_up1 h49 ew121 (by decide)
      have h50 := hs_up1 h50 ew121 (by decide)
      have h51 := hs_up1 h51 ew121 (by decide)
      have h52 := hs_up1 h52 ew121 (by decide)
      have h53 := hs_up1 h53 ew121 (by decide)
      have hfr := hfr.tr ((Fr.up ew121).mono (fun m z => by omega) (fun m z => z))
      refine j_aload_n (pc := 122) C rfl dX5_remove_122 rfl ?_
      refine j_get (pc := 123) C hin_X5 h42 rfl 5 (by decide) (by decide +kernel) rfl dX5_remove_123 ?_
      refine j_iload_n (pc := 126) C rfl dX5_remove_126 rfl ?_
      refine j_aload_n (pc := 127) C rfl dX5_remove_127 rfl ?_
      refine j_get (pc := 128) C hin_X5 h42 rfl 5 (by decide) (by decide +kernel) rfl dX5_remove_128 ?_
      refine j_iload_n (pc := 131) C rfl dX5_remove_131 rfl ?_
      refine j_iconst (pc := 132) (v := 1) C dX5_remove_132 (by decide) ?_
      refine j_iadd (pc := 133) C dX5_remove_133 ?_
      refine j_st (by rw [nI_1]) ?_
      refine j_iald (pc := 134) C h47 rfl (by omega) (by decide) dX5_remove_134 ?_
      refine j_iast (pc := 135) C h47 rfl (by omega) (by decide) dX5_remove_135 ?_
      refine j_nm (fun w135 ew135 => ?_)
      have h42 := hs_up1 h42 ew135 (by decide)
      have h43 := hs_up1 h43 ew135 (by decide)
      have h44 := hs_up1 h44 ew135 (by decide)
      have h45 := hs_up1 h45 ew135 (by decide)
      have h46 := hs_up1 h46 ew135 (by decide)
      have ew135 := ew135
      have h47 := hs_me1 h47 ew135
      have h48 := hs_up1 h48 ew135 (by decide)
      have h49 := hs_up1 h49 ew135 (by decide)
      have h50 := hs_up1 h50 ew135 (by decide)
      have h51 := hs_up1 h51 ew135 (by decide)
      have h52 := hs_up1 h52 ew135 (by decide)
      have h53 := hs_up1 h53 ew135 (by decide)
      have hfr := hfr.tr ((Fr.up ew135).mono (fun m z => by omega) (fun m z => z))
      refine j_iinc_3 (pc := 136) (d := 1) C dX5_remove_136 (by decide) rfl rfl ?_
      refine j_lo (by rw [nI_1]) ?_
      refine j_goto (pc := 139) (tgt := 51) C dX5_remove_139 (by decide) ?_
      have hiq : 10 * j + i ≤ 10 * j + q := by omega
      rw [shg_s hiq] at h43 h44 h47
      rw [shgL_s hiq] at h45 h46
      exact ih (10 - (q + 1)) (by omega) (q + 1) _ rfl (by omega) h43 h44 h45 h46 h47 h42 h48 h49 h50 h51 h52 h53 hfr

theorem nI_sb1 {n : Nat} (h : 0 < n) : nI n - 1 = nI (n - 1) := by
  obtain ⟨m, rfl⟩ : ∃ m, n = m + 1 := ⟨n - 1, by omega⟩
  exact nI_pred m
set_option maxRecDepth 100000 in
set_option maxHeartbeats 4000000 in
theorem ct_M_remove {l : Launch} {G : Gp} {L : List Nat} {w : Wn} {am : Nat → Nat} {th cp : Int32} {df : Nat → Int32} {fq : Nat → Nat} {E : Nat → EL} {ns ar ac : Nat → Int32} {mk vl : Nat → Int64} {ks : Nat → Int32} {sz : Nat} {co ro : Nat → Int32} (hm : MB G am L w th cp df fq E ns ar ac mk vl ks sz co ro) (x x2 : Int32) : CI l yX5_remove wsX5_remove (rmD 8 0 0) G L w [.ref (am 42), .int x, .int x2] (fun r u => ∃ w2, u = (L, w2) ∧ FrM L w w2 ∧ ((∃ j, j < 4 ∧ x = nI j ∧ ∃ i, i < (E j).length ∧ x2 = nI i ∧ r = nI ((E j).length - 1) ∧ MD G am L w2 0 0 df fq (va_up E j ((E j).eraseIdx i))) ∨ (¬ vld x 4 ∧ MD G am L w2 1 cp df fq E) ∨ (vld x 4 ∧ ¬ (∃ j, j < 4 ∧ x = nI j ∧ vld x2 (E j).length) ∧ MD G am L w2 2 cp df fq E))) := by
  refine mk_i (cc := cX5_remove) (maxL := 4) [some (.ref (am 42)), some (.int x), some (.int x2), none] (by decide) rfl (Nat.le_of_ble_eq_true rfl) rfl ?_
  intro p e s m args below meth c A C hr hlk hnm
  have hin_X5 : ∀ x ∈ u_ws RX5 TX5 14, x ∈ wsX5_remove := by decide +kernel
  obtain ⟨h42, h43, h44, h45, h46, h47, h48, h49, h50, h51, h52, h53, hT, hE, hfb, hsz⟩ := id hm
  have hfr : FrM L w w := Fr.rf
  refine j_aload_n (pc := 0) C rfl dX5_remove_0 rfl ?_
  refine j_iload_n (pc := 1) C rfl dX5_remove_1 rfl ?_
  refine jS_i0 (pc := 2) (k2 := 0) (n2 := 0) (np := 1) (As := [.int x]) C (ct_M_isFilter x) gX5_remove_X5_isFilter rfl (by decide +kernel) ⟨by decide, by decide⟩ rfl rfl (Nat.le_of_ble_eq_true rfl) dX5_remove_2 (by decide) (by decide) ⟨by decide, by decide⟩ (fun v1 hv1 => ?_)
  refine j_if_ne (pc := 5) (tgt := 12) C dX5_remove_5 (by decide) (fun c5 => ?_) (fun c5 => ?_)
  · have c5 := tf_1 hv1 c5
    refine j_aload_n (pc := 12) C rfl dX5_remove_12 rfl ?_
    refine j_iload_n (pc := 13) C rfl dX5_remove_13 rfl ?_
    refine j_iload_n (pc := 14) C rfl dX5_remove_14 rfl ?_
    refine jV_i0 (pc := 15) (k2 := 0) (n2 := 0) (np := 2) (As := [.int x, .int x2]) C (ct_isRule hm x x2) gX5_remove_X5_isRule rfl (by decide +kernel) ⟨by decide, by decide⟩ h42 rfl rfl rfl (Nat.le_of_ble_eq_true rfl) dX5_remove_15 (by decide) (by decide) ⟨by decide, by decide⟩ (fun v2 hv2 => ?_)
    refine j_if_eq (pc := 18) (tgt := 25) C dX5_remove_18 (by decide) (fun c18 => ?_) (fun c18 => ?_)
    · have c18 := tf_0 hv2 c18
      refine j_iconst (pc := 25) (v := 2) C dX5_remove_25 (by decide) ?_
      refine jV_i (pc := 26) (k2 := 0) (n2 := 0) (np := 1) (As := [.int 2]) C (ct_goes1 (pl := 2) h42 (by decide)) gX5_remove_X5_goesWell rfl (by decide +kernel) ⟨by decide, by decide⟩ h42 rfl rfl rfl (Nat.le_of_ble_eq_true rfl) dX5_remove_26 (by decide) (by decide) ⟨by decide, by decide⟩ (fun v L2 w2 hu => ?_)
      obtain ⟨hv9, e9⟩ := hu
      subst hv9
      cases e9
      refine j_nm (fun w26 ew26 => ?_)
      obtain ⟨hm26, hf26⟩ := hm.setob (th2 := 2) (cp2 := cp) (sz2 := sz) ew26 hsz
      have hfr := hfr.tr hf26
      obtain ⟨h42, h43, h44, h45, h46, h47, h48, h49, h50, h51, h52, h53, hT, hE, hfb, hsz⟩ := id hm26
      refine j_if_ne (pc := 29) (tgt := 34) C dX5_remove_29 (by decide) (fun z9 => absurd rfl z9) (fun _ => ?_)
      refine j_iconst (pc := 32) (v := 0) C dX5_remove_32 (by decide) ?_
      exact ret_i C rfl hr hlk dX5_remove_33 ⟨_, rfl, hfr, Or.inr (Or.inr ⟨c5, c18, hm26.md⟩)⟩ (by decide) (by decide)
    · obtain ⟨j, hj, rfl, i, hi, rfl⟩ := tf_1 hv2 c18
      have hj10 := hE j hj
      refine j_iconst (pc := 21) (v := 0) C dX5_remove_21 (by decide) ?_
      refine j_goto (pc := 22) (tgt := 26) C dX5_remove_22 (by decide) ?_
      refine jV_i (pc := 26) (k2 := 0) (n2 := 0) (np := 1) (As := [.int 0]) C (ct_goes0 h42) gX5_remove_X5_goesWell rfl (by decide +kernel) ⟨by decide, by decide⟩ h42 rfl rfl rfl (Nat.le_of_ble_eq_true rfl) dX5_remove_26 (by decide) (by decide) ⟨by decide, by decide⟩ (fun v L2 w2 hu => ?_)
      obtain ⟨hv9, e9⟩ := hu
      subst hv9
      cases e9
      refine j_nm (fun w26 ew26 => ?_)
      obtain ⟨hm26, hf26⟩ := hm.setob (th2 := 0) (cp2 := cp) (sz2 := sz) ew26 hsz
      have hfr := hfr.tr hf26
      obtain ⟨h42, h43, h44, h45, h46, h47, h48, h49, h50, h51, h52, h53, hT, hE, hfb, hsz⟩ := id hm26
      refine j_if_ne (pc := 29) (tgt := 34) C dX5_remove_29 (by decide) (fun _ => ?_) (fun z9 => absurd z9 (by decide))
      refine j_aload_n (pc := 34) C rfl dX5_remove_34 rfl ?_
      refine j_get (pc := 35) C hin_X5 h42 rfl 6 (by decide) (by decide +kernel) rfl dX5_remove_35 ?_
      refine j_iload_n (pc := 38) C rfl dX5_remove_38 rfl ?_
      refine j_dup2 (pc := 39) C dX5_remove_39 rfl rfl ?_
      refine j_iald (pc := 40) C h48 rfl hj (by decide) dX5_remove_40 ?_
      refine j_iconst (pc := 41) (v := 1) C dX5_remove_41 (by decide) ?_
      refine j_isub (pc := 42) C dX5_remove_42 ?_
      refine j_st (by rw [nI_sb1 (show 0 < (E j).length by omega)]) ?_
      refine j_iast (pc := 43) C h48 rfl hj (by decide) dX5_remove_43 ?_
      refine j_nm (fun w43 ew43 => ?_)
      have h42 := hs_up1 h42 ew43 (by decide)
      have h43 := hs_up1 h43 ew43 (by decide)
      have h44 := hs_up1 h44 ew43 (by decide)
      have h45 := hs_up1 h45 ew43 (by decide)
      have h46 := hs_up1 h46 ew43 (by decide)
      have h47 := hs_up1 h47 ew43 (by decide)
      have ew43 := ew43
      have h48 := hs_me1 h48 ew43
      have h49 := hs_up1 h49 ew43 (by decide)
      have h50 := hs_up1 h50 ew43 (by decide)
      have h51 := hs_up1 h51 ew43 (by decide)
      have h52 := hs_up1 h52 ew43 (by decide)
      have h53 := hs_up1 h53 ew43 (by decide)
      have hfr := hfr.tr ((Fr.up ew43).mono (fun m z => by omega) (fun m z => z))
      refine j_bipush (pc := 44) (v := 10) C dX5_remove_44 (by decide) ?_
      refine j_iload_n (pc := 46) C rfl dX5_remove_46 rfl ?_
      refine j_imul (pc := 47) C dX5_remove_47 ?_
      refine j_iload_n (pc := 48) C rfl dX5_remove_48 rfl ?_
      refine j_iadd (pc := 49) C dX5_remove_49 ?_
      refine j_st (by rw [ix10 j i]) ?_
      refine j_istore_3 (pc := 50) C dX5_remove_50 (by decide) rfl ?_
      exact mrm_loop hj hi hT hE hfb hsz (fun w2 k1 k2 => ⟨w2, rfl, k2, Or.inl ⟨j, hj, rfl, i, hi, rfl, rfl, k1.md⟩⟩) C hr hlk (10 - i) i _ rfl (by omega) (by rw [shg_0]; exact h43) (by rw [shg_0]; exact h44) (by rw [shg_0]; exact h45) (by rw [shg_0]; exact h46) (by rw [shg_0]; exact h47) h42 h48 h49 h50 h51 h52 h53 hfr
  · have c5 := tf_0 hv1 c5
    refine j_iconst (pc := 8) (v := 1) C dX5_remove_8 (by decide) ?_
    refine j_goto (pc := 9) (tgt := 26) C dX5_remove_9 (by decide) ?_
    refine jV_i (pc := 26) (k2 := 0) (n2 := 0) (np := 1) (As := [.int 1]) C (ct_goes1 (pl := 1) h42 (by decide)) gX5_remove_X5_goesWell rfl (by decide +kernel) ⟨by decide, by decide⟩ h42 rfl rfl rfl (Nat.le_of_ble_eq_true rfl) dX5_remove_26 (by decide) (by decide) ⟨by decide, by decide⟩ (fun v L2 w2 hu => ?_)
    obtain ⟨hv9, e9⟩ := hu
    subst hv9
    cases e9
    refine j_nm (fun w26 ew26 => ?_)
    obtain ⟨hm26, hf26⟩ := hm.setob (th2 := 1) (cp2 := cp) (sz2 := sz) ew26 hsz
    have hfr := hfr.tr hf26
    obtain ⟨h42, h43, h44, h45, h46, h47, h48, h49, h50, h51, h52, h53, hT, hE, hfb, hsz⟩ := id hm26
    refine j_if_ne (pc := 29) (tgt := 34) C dX5_remove_29 (by decide) (fun z9 => absurd rfl z9) (fun _ => ?_)
    refine j_iconst (pc := 32) (v := 0) C dX5_remove_32 (by decide) ?_
    exact ret_i C rfl hr hlk dX5_remove_33 ⟨_, rfl, hfr, Or.inr (Or.inl ⟨c5, hm26.md⟩)⟩ (by decide) (by decide)

