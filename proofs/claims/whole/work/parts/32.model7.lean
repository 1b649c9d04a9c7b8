/-! THE MODEL: its calls -/
def MD (G : Gp) (am : Nat → Nat) (L : List Nat) (w : Wn) (th cp : Int32) (df : Nat → Int32) (fq : Nat → Nat) (E : Nat → EL) : Prop := ∃ ns ar ac mk vl ks sz co ro, MB G am L w th cp df fq E ns ar ac mk vl ks sz co ro
theorem MB.md {G : Gp} {am : Nat → Nat} {L : List Nat} {w : Wn} {th cp : Int32} {df : Nat → Int32} {fq : Nat → Nat} {E : Nat → EL} {ns ar ac : Nat → Int32} {mk vl : Nat → Int64} {ks : Nat → Int32} {sz : Nat} {co ro : Nat → Int32} (hm : MB G am L w th cp df fq E ns ar ac mk vl ks sz co ro) : MD G am L w th cp df fq E := ⟨_, _, _, _, _, _, _, _, _, hm⟩
set_option maxRecDepth 100000 in
set_option maxHeartbeats 4000000 in
theorem ct_thrown {l : Launch} {G : Gp} {L : List Nat} {w : Wn} {am : Nat → Nat} {th cp : Int32} {df : Nat → Int32} {fq : Nat → Nat} {E : Nat → EL} {ns ar ac : Nat → Int32} {mk vl : Nat → Int64} {ks : Nat → Int32} {sz : Nat} {co ro : Nat → Int32} (hd : MD G am L w th cp df fq E) : CI l yX5_thrown wsX5_thrown (rmD 8 0 0) G L w [.ref (am 42)] (fun r u => r = th ∧ u = (L, w)) := by
  refine mk_i (cc := cX5_thrown) (maxL := 1) [some (.ref (am 42))] (by decide) rfl (Nat.le_of_ble_eq_true rfl) rfl ?_
  intro p e s m args below meth c A C hr hlk hnm
  have hin_X5 : ∀ x ∈ u_ws RX5 TX5 14, x ∈ wsX5_thrown := by decide +kernel
  obtain ⟨ns, ar, ac, mk, vl, ks, sz, co, ro, hm⟩ := hd
  obtain ⟨h42, h43, h44, h45, h46, h47, h48, h49, h50, h51, h52, h53, hT, hE, hfb, hsz⟩ := id hm
  refine j_aload_n (pc := 0) C rfl dX5_thrown_0 rfl ?_
  refine j_get (pc := 1) C hin_X5 h42 rfl 0 (by decide) (by decide +kernel) rfl dX5_thrown_1 ?_
  exact ret_i C rfl hr hlk dX5_thrown_4 ⟨rfl, rfl⟩ (by decide) (by decide)

set_option maxRecDepth 100000 in
set_option maxHeartbeats 4000000 in
theorem ct_M_rules {l : Launch} {G : Gp} {L : List Nat} {w : Wn} {am : Nat → Nat} {th cp : Int32} {df : Nat → Int32} {fq : Nat → Nat} {E : Nat → EL} {ns ar ac : Nat → Int32} {mk vl : Nat → Int64} {ks : Nat → Int32} {sz : Nat} {co ro : Nat → Int32} (hm : MB G am L w th cp df fq E ns ar ac mk vl ks sz co ro) (x : Int32) : CI l yX5_rules wsX5_rules (rmD 8 0 0) G L w [.ref (am 42), .int x] (fun r u => ∃ w2, u = (L, w2) ∧ FrM L w w2 ∧ ((∃ j, j < 4 ∧ x = nI j ∧ r = nI (E j).length ∧ MD G am L w2 0 cp df fq E) ∨ (¬ vld x 4 ∧ MD G am L w2 1 cp df fq E))) := by
  refine mk_i (cc := cX5_rules) (maxL := 2) [some (.ref (am 42)), some (.int x)] (by decide) rfl (Nat.le_of_ble_eq_true rfl) rfl ?_
  intro p e s m args below meth c A C hr hlk hnm
  have hin_X5 : ∀ x ∈ u_ws RX5 TX5 14, x ∈ wsX5_rules := by decide +kernel
  obtain ⟨h42, h43, h44, h45, h46, h47, h48, h49, h50, h51, h52, h53, hT, hE, hfb, hsz⟩ := id hm
  have hfr : FrM L w w := Fr.rf
  refine j_aload_n (pc := 0) C rfl dX5_rules_0 rfl ?_
  refine j_iload_n (pc := 1) C rfl dX5_rules_1 rfl ?_
  refine jS_i0 (pc := 2) (k2 := 0) (n2 := 0) (np := 1) (As := [.int x]) C (ct_M_isFilter x) gX5_rules_X5_isFilter rfl (by decide +kernel) ⟨by decide, by decide⟩ rfl rfl (Nat.le_of_ble_eq_true rfl) dX5_rules_2 (by decide) (by decide) ⟨by decide, by decide⟩ (fun v1 hv1 => ?_)
  refine j_if_eq (pc := 5) (tgt := 12) C dX5_rules_5 (by decide) (fun c5 => ?_) (fun c5 => ?_)
  · have c5 := tf_0 hv1 c5
    refine j_iconst (pc := 12) (v := 1) C dX5_rules_12 (by decide) ?_
    refine jV_i (pc := 13) (k2 := 0) (n2 := 0) (np := 1) (As := [.int 1]) C (ct_goes1 (pl := 1) h42 (by decide)) gX5_rules_X5_goesWell rfl (by decide +kernel) ⟨by decide, by decide⟩ h42 rfl rfl rfl (Nat.le_of_ble_eq_true rfl) dX5_rules_13 (by decide) (by decide) ⟨by decide, by decide⟩ (fun v L2 w2 hu => ?_)
    obtain ⟨hv9, e9⟩ := hu
    subst hv9
    cases e9
    refine j_nm (fun w13 ew13 => ?_)
    obtain ⟨hm13, hf13⟩ := hm.setob (th2 := 1) (cp2 := cp) (sz2 := sz) ew13 hsz
    have hfr := hfr.tr hf13
    obtain ⟨h42, h43, h44, h45, h46, h47, h48, h49, h50, h51, h52, h53, hT, hE, hfb, hsz⟩ := id hm13
    refine j_if_eq (pc := 16) (tgt := 28) C dX5_rules_16 (by decide) (fun _ => ?_) (fun z9 => absurd rfl z9)
    refine j_iconst (pc := 28) (v := 0) C dX5_rules_28 (by decide) ?_
    exact ret_i C rfl hr hlk dX5_rules_29 ⟨_, rfl, hfr, Or.inr ⟨c5, hm13.md⟩⟩ (by decide) (by decide)
  · have c5 := tf_1 hv1 c5
    obtain ⟨j, hj, rfl⟩ := id c5
    refine j_iconst (pc := 8) (v := 0) C dX5_rules_8 (by decide) ?_
    refine j_goto (pc := 9) (tgt := 13) C dX5_rules_9 (by decide) ?_
    refine jV_i (pc := 13) (k2 := 0) (n2 := 0) (np := 1) (As := [.int 0]) C (ct_goes0 h42) gX5_rules_X5_goesWell rfl (by decide +kernel) ⟨by decide, by decide⟩ h42 rfl rfl rfl (Nat.le_of_ble_eq_true rfl) dX5_rules_13 (by decide) (by decide) ⟨by decide, by decide⟩ (fun v L2 w2 hu => ?_)
    obtain ⟨hv9, e9⟩ := hu
    subst hv9
    cases e9
    refine j_nm (fun w13 ew13 => ?_)
    obtain ⟨hm13, hf13⟩ := hm.setob (th2 := 0) (cp2 := cp) (sz2 := sz) ew13 hsz
    have hfr := hfr.tr hf13
    obtain ⟨h42, h43, h44, h45, h46, h47, h48, h49, h50, h51, h52, h53, hT, hE, hfb, hsz⟩ := id hm13
    refine j_if_eq (pc := 16) (tgt := 28) C dX5_rules_16 (by decide) (fun z9 => absurd z9 (by decide)) (fun _ => ?_)
    refine j_aload_n (pc := 19) C rfl dX5_rules_19 rfl ?_
    refine j_get (pc := 20) C hin_X5 h42 rfl 6 (by decide) (by decide +kernel) rfl dX5_rules_20 ?_
    refine j_iload_n (pc := 23) C rfl dX5_rules_23 rfl ?_
    refine j_iald (pc := 24) C h48 rfl hj (by decide) dX5_rules_24 ?_
    refine j_goto (pc := 25) (tgt := 29) C dX5_rules_25 (by decide) ?_
    exact ret_i C rfl hr hlk dX5_rules_29 ⟨_, rfl, hfr, Or.inl ⟨j, hj, rfl, rfl, hm13.md⟩⟩ (by decide) (by decide)

set_option maxRecDepth 100000 in
set_option maxHeartbeats 4000000 in
theorem ct_M_hider {l : Launch} {G : Gp} {L : List Nat} {w : Wn} {am : Nat → Nat} {th cp : Int32} {df : Nat → Int32} {fq : Nat → Nat} {E : Nat → EL} {ns ar ac : Nat → Int32} {mk vl : Nat → Int64} {ks : Nat → Int32} {sz : Nat} {co ro : Nat → Int32} (hm : MB G am L w th cp df fq E ns ar ac mk vl ks sz co ro) (x x2 : Int32) : CI l yX5_hider wsX5_hider (rmD 8 0 0) G L w [.ref (am 42), .int x, .int x2] (fun r u => ∃ w2, u = (L, w2) ∧ FrM L w w2 ∧ ((∃ j, j < 4 ∧ x = nI j ∧ ∃ i, i < (E j).length ∧ x2 = nI i ∧ r = onI (hid (rul (E j)) i) ∧ MD G am L w2 0 cp df fq E) ∨ (¬ vld x 4 ∧ MD G am L w2 1 cp df fq E) ∨ (vld x 4 ∧ ¬ (∃ j, j < 4 ∧ x = nI j ∧ vld x2 (E j).length) ∧ MD G am L w2 2 cp df fq E))) := by
  refine mk_i (cc := cX5_hider) (maxL := 3) [some (.ref (am 42)), some (.int x), some (.int x2)] (by decide) rfl (Nat.le_of_ble_eq_true rfl) rfl ?_
  intro p e s m args below meth c A C hr hlk hnm
  obtain ⟨h42, h43, h44, h45, h46, h47, h48, h49, h50, h51, h52, h53, hT, hE, hfb, hsz⟩ := id hm
  have hfr : FrM L w w := Fr.rf
  refine j_aload_n (pc := 0) C rfl dX5_hider_0 rfl ?_
  refine j_iload_n (pc := 1) C rfl dX5_hider_1 rfl ?_
  refine jS_i0 (pc := 2) (k2 := 0) (n2 := 0) (np := 1) (As := [.int x]) C (ct_M_isFilter x) gX5_hider_X5_isFilter rfl (by decide +kernel) ⟨by decide, by decide⟩ rfl rfl (Nat.le_of_ble_eq_true rfl) dX5_hider_2 (by decide) (by decide) ⟨by decide, by decide⟩ (fun v1 hv1 => ?_)
  refine j_if_ne (pc := 5) (tgt := 12) C dX5_hider_5 (by decide) (fun c5 => ?_) (fun c5 => ?_)
  · have c5 := tf_1 hv1 c5
    refine j_aload_n (pc := 12) C rfl dX5_hider_12 rfl ?_
    refine j_iload_n (pc := 13) C rfl dX5_hider_13 rfl ?_
    refine j_iload_n (pc := 14) C rfl dX5_hider_14 rfl ?_
    refine jV_i0 (pc := 15) (k2 := 0) (n2 := 0) (np := 2) (As := [.int x, .int x2]) C (ct_isRule hm x x2) gX5_hider_X5_isRule rfl (by decide +kernel) ⟨by decide, by decide⟩ h42 rfl rfl rfl (Nat.le_of_ble_eq_true rfl) dX5_hider_15 (by decide) (by decide) ⟨by decide, by decide⟩ (fun v2 hv2 => ?_)
    refine j_if_eq (pc := 18) (tgt := 25) C dX5_hider_18 (by decide) (fun c18 => ?_) (fun c18 => ?_)
    · have c18 := tf_0 hv2 c18
      refine j_iconst (pc := 25) (v := 2) C dX5_hider_25 (by decide) ?_
      refine jV_i (pc := 26) (k2 := 0) (n2 := 0) (np := 1) (As := [.int 2]) C (ct_goes1 (pl := 2) h42 (by decide)) gX5_hider_X5_goesWell rfl (by decide +kernel) ⟨by decide, by decide⟩ h42 rfl rfl rfl (Nat.le_of_ble_eq_true rfl) dX5_hider_26 (by decide) (by decide) ⟨by decide, by decide⟩ (fun v L2 w2 hu => ?_)
      obtain ⟨hv9, e9⟩ := hu
      subst hv9
      cases e9
      refine j_nm (fun w26 ew26 => ?_)
      obtain ⟨hm26, hf26⟩ := hm.setob (th2 := 2) (cp2 := cp) (sz2 := sz) ew26 hsz
      have hfr := hfr.tr hf26
      obtain ⟨h42, h43, h44, h45, h46, h47, h48, h49, h50, h51, h52, h53, hT, hE, hfb, hsz⟩ := id hm26
      refine j_if_eq (pc := 29) (tgt := 41) C dX5_hider_29 (by decide) (fun _ => ?_) (fun z9 => absurd rfl z9)
      refine j_iconst (pc := 41) (v := 0) C dX5_hider_41 (by decide) ?_
      exact ret_i C rfl hr hlk dX5_hider_42 ⟨_, rfl, hfr, Or.inr (Or.inr ⟨c5, c18, hm26.md⟩)⟩ (by decide) (by decide)
    · obtain ⟨j, hj, rfl, i, hi, rfl⟩ := tf_1 hv2 c18
      refine j_iconst (pc := 21) (v := 0) C dX5_hider_21 (by decide) ?_
      refine j_goto (pc := 22) (tgt := 26) C dX5_hider_22 (by decide) ?_
      refine jV_i (pc := 26) (k2 := 0) (n2 := 0) (np := 1) (As := [.int 0]) C (ct_goes0 h42) gX5_hider_X5_goesWell rfl (by decide +kernel) ⟨by decide, by decide⟩ h42 rfl rfl rfl (Nat.le_of_ble_eq_true rfl) dX5_hider_26 (by decide) (by decide) ⟨by decide, by decide⟩ (fun v L2 w2 hu => ?_)
      obtain ⟨hv9, e9⟩ := hu
      subst hv9
      cases e9
      refine j_nm (fun w26 ew26 => ?_)
      obtain ⟨hm26, hf26⟩ := hm.setob (th2 := 0) (cp2 := cp) (sz2 := sz) ew26 hsz
      have hfr := hfr.tr hf26
      obtain ⟨h42, h43, h44, h45, h46, h47, h48, h49, h50, h51, h52, h53, hT, hE, hfb, hsz⟩ := id hm26
      refine j_if_eq (pc := 29) (tgt := 41) C dX5_hider_29 (by decide) (fun z9 => absurd z9 (by decide)) (fun _ => ?_)
      refine j_aload_n (pc := 32) C rfl dX5_hider_32 rfl ?_
      refine j_iload_n (pc := 33) C rfl dX5_hider_33 rfl ?_
      refine j_iload_n (pc := 34) C rfl dX5_hider_34 rfl ?_
      refine jV_i0 (pc := 35) (k2 := 0) (n2 := 0) (np := 2) (As := [.int (nI j), .int (nI i)]) C (ct_M_hiderOf hm26 hj hi) gX5_hider_X5_hiderOf rfl (by decide +kernel) ⟨by decide, by decide⟩ h42 rfl rfl rfl (Nat.le_of_ble_eq_true rfl) dX5_hider_35 (by decide) (by decide) ⟨by decide, by decide⟩ (fun v hv => ?_)
      subst hv
      refine j_goto (pc := 38) (tgt := 42) C dX5_hider_38 (by decide) ?_
      exact ret_i C rfl hr hlk dX5_hider_42 ⟨_, rfl, hfr, Or.inl ⟨j, hj, rfl, i, hi, rfl, rfl, hm26.md⟩⟩ (by decide) (by decide)
  · have c5 := tf_0 hv1 c5
    refine j_iconst (pc := 8) (v := 1) C dX5_hider_8 (by decide) ?_
    refine j_goto (pc := 9) (tgt := 26) C dX5_hider_9 (by decide) ?_
    refine jV_i (pc := 26) (k2 := 0) (n2 := 0) (np := 1) (As := [.int 1]) C (ct_goes1 (pl := 1) h42 (by decide)) gX5_hider_X5_goesWell rfl (by decide +kernel) ⟨by decide, by decide⟩ h42 rfl rfl rfl (Nat.le_of_ble_eq_true rfl) dX5_hider_26 (by decide) (by decide) ⟨by decide, by decide⟩ (fun v L2 w2 hu => ?_)
    obtain ⟨hv9, e9⟩ := hu
    subst hv9
    cases e9
    refine j_nm (fun w26 ew26 => ?_)
    obtain ⟨hm26, hf26⟩ := hm.setob (th2 := 1) (cp2 := cp) (sz2 := sz) ew26 hsz
    have hfr := hfr.tr hf26
    obtain ⟨h42, h43, h44, h45, h46, h47, h48, h49, h50, h51, h52, h53, hT, hE, hfb, hsz⟩ := id hm26
    refine j_if_eq (pc := 29) (tgt := 41) C dX5_hider_29 (by decide) (fun _ => ?_) (fun z9 => absurd rfl z9)
    refine j_iconst (pc := 41) (v := 0) C dX5_hider_41 (by decide) ?_
    exact ret_i C rfl hr hlk dX5_hider_42 ⟨_, rfl, hfr, Or.inr (Or.inl ⟨c5, hm26.md⟩)⟩ (by decide) (by decide)

set_option maxRecDepth 100000 in
set_option maxHeartbeats 4000000 in
theorem ct_M_isCompiled {l : Launch} {G : Gp} {L : List Nat} {w : Wn} {am : Nat → Nat} {th cp : Int32} {df : Nat → Int32} {fq : Nat → Nat} {E : Nat → EL} {ns ar ac : Nat → Int32} {mk vl : Nat → Int64} {ks : Nat → Int32} {sz : Nat} {co ro : Nat → Int32} (hm : MB G am L w th cp df fq E ns ar ac mk vl ks sz co ro) (hcp : cp = 0 ∨ cp = 1) : CI l yX5_isCompiled wsX5_isCompiled (rmD 8 0 0) G L w [.ref (am 42)] (fun r u => ∃ w2, u = (L, w2) ∧ FrM L w w2 ∧ ((r = cp ∧ MD G am L w2 0 cp df fq E))) := by
  refine mk_i (cc := cX5_isCompiled) (maxL := 1) [some (.ref (am 42))] (by decide) rfl (Nat.le_of_ble_eq_true rfl) rfl ?_
  intro p e s m args below meth c A C hr hlk hnm
  have hin_X5 : ∀ x ∈ u_ws RX5 TX5 14, x ∈ wsX5_isCompiled := by decide +kernel
  obtain ⟨h42, h43, h44, h45, h46, h47, h48, h49, h50, h51, h52, h53, hT, hE, hfb, hsz⟩ := id hm
  have hfr : FrM L w w := Fr.rf
  refine j_aload_n (pc := 0) C rfl dX5_isCompiled_0 rfl ?_
  refine j_iconst (pc := 1) (v := 0) C dX5_isCompiled_1 (by decide) ?_
  refine j_put (pc := 2) (fs2 := [.int 0, .ref (am 43), .ref (am 44), .ref (am 45), .ref (am 46), .ref (am 47), .ref (am 48), .ref (am 49), .ref (am 50), .int cp, .ref (am 51), .int (nI sz), .ref (am 52), .ref (am 53)]) C hin_X5 h42 rfl 0 (by decide) tyX5 tyX5_ok nmX5 (by decide +kernel) rfl (tyX5_ok 0 (by decide)) rfl rfl (Nat.le_of_ble_eq_true rfl) rfl dX5_isCompiled_2 ?_
  refine j_nm (fun w2 ew2 => ?_)
  obtain ⟨hm2, hf2⟩ := hm.setob (th2 := 0) (cp2 := cp) (sz2 := sz) ew2 hsz
  have hfr := hfr.tr hf2
  obtain ⟨h42, h43, h44, h45, h46, h47, h48, h49, h50, h51, h52, h53, hT, hE, hfb, hsz⟩ := id hm2
  refine j_aload_n (pc := 5) C rfl dX5_isCompiled_5 rfl ?_
  refine j_get (pc := 6) C hin_X5 h42 rfl 9 (by decide) (by decide +kernel) rfl dX5_isCompiled_6 ?_
  exact ret_z C rfl hr hlk (by rcases hcp with rfl | rfl <;> rfl) dX5_isCompiled_9 ⟨_, rfl, hfr, rfl, hm2.md⟩ (by decide) (by decide)

set_option maxRecDepth 100000 in
set_option maxHeartbeats 4000000 in
theorem ct_M_cost {l : Launch} {G : Gp} {L : List Nat} {w : Wn} {am : Nat → Nat} {th cp : Int32} {df : Nat → Int32} {fq : Nat → Nat} {E : Nat → EL} {ns ar ac : Nat → Int32} {mk vl : Nat → Int64} {ks : Nat → Int32} {sz : Nat} {co ro : Nat → Int32} (hm : MB G am L w th cp df fq E ns ar ac mk vl ks sz co ro) (x : Int32) : CI l yX5_cost wsX5_cost (rmD 8 0 0) G L w [.ref (am 42), .int x] (fun r u => ∃ w2, u = (L, w2) ∧ FrM L w w2 ∧ ((∃ j, j < 4 ∧ x = nI j ∧ ¬ cp = 0 ∧ r = nI (cs (wtF fq (rch (E j))) 0 (ksz (rch (E j)))) ∧ MD G am L w2 0 cp df fq E) ∨ (¬ vld x 4 ∧ MD G am L w2 1 cp df fq E) ∨ (vld x 4 ∧ cp = 0 ∧ MD G am L w2 2 cp df fq E))) := by
  refine mk_i (cc := cX5_cost) (maxL := 2) [some (.ref (am 42)), some (.int x)] (by decide) rfl (Nat.le_of_ble_eq_true rfl) rfl ?_
  intro p e s m args below meth c A C hr hlk hnm
  have hin_X5 : ∀ x ∈ u_ws RX5 TX5 14, x ∈ wsX5_cost := by decide +kernel
  obtain ⟨h42, h43, h44, h45, h46, h47, h48, h49, h50, h51, h52, h53, hT, hE, hfb, hsz⟩ := id hm
  have hfr : FrM L w w := Fr.rf
  refine j_aload_n (pc := 0) C rfl dX5_cost_0 rfl ?_
  refine j_iload_n (pc := 1) C rfl dX5_cost_1 rfl ?_
  refine jS_i0 (pc := 2) (k2 := 0) (n2 := 0) (np := 1) (As := [.int x]) C (ct_M_isFilter x) gX5_cost_X5_isFilter rfl (by decide +kernel) ⟨by decide, by decide⟩ rfl rfl (Nat.le_of_ble_eq_true rfl) dX5_cost_2 (by decide) (by decide) ⟨by decide, by decide⟩ (fun v1 hv1 => ?_)
  refine j_if_ne (pc := 5) (tgt := 12) C dX5_cost_5 (by decide) (fun c5 => ?_) (fun c5 => ?_)
  · have c5 := tf_1 hv1 c5
    obtain ⟨j, hj, rfl⟩ := id c5
    refine j_aload_n (pc := 12) C rfl dX5_cost_12 rfl ?_
    refine j_get (pc := 13) C hin_X5 h42 rfl 9 (by decide) (by decide +kernel) rfl dX5_cost_13 ?_
    refine j_if_eq (pc := 16) (tgt := 23) C dX5_cost_16 (by decide) (fun c16 => ?_) (fun c16 => ?_)
    · have c16 : cp = 0 := c16
      refine j_iconst (pc := 23) (v := 2) C dX5_cost_23 (by decide) ?_
      refine jV_i (pc := 24) (k2 := 0) (n2 := 0) (np := 1) (As := [.int 2]) C (ct_goes1 (pl := 2) h42 (by decide)) gX5_cost_X5_goesWell rfl (by decide +kernel) ⟨by decide, by decide⟩ h42 rfl rfl rfl (Nat.le_of_ble_eq_true rfl) dX5_cost_24 (by decide) (by decide) ⟨by decide, by decide⟩ (fun v L2 w2 hu => ?_)
      obtain ⟨hv9, e9⟩ := hu
      subst hv9
      cases e9
      refine j_nm (fun w24 ew24 => ?_)
      obtain ⟨hm24, hf24⟩ := hm.setob (th2 := 2) (cp2 := cp) (sz2 := sz) ew24 hsz
      have hfr := hfr.tr hf24
      obtain ⟨h42, h43, h44, h45, h46, h47, h48, h49, h50, h51, h52, h53, hT, hE, hfb, hsz⟩ := id hm24
      refine j_if_ne (pc := 27) (tgt := 32) C dX5_cost_27 (by decide) (fun z9 => absurd rfl z9) (fun _ => ?_)
      refine j_iconst (pc := 30) (v := 0) C dX5_cost_30 (by decide) ?_
      exact ret_i C rfl hr hlk dX5_cost_31 ⟨_, rfl, hfr, Or.inr (Or.inr ⟨c5, c16, hm24.md⟩)⟩ (by decide) (by decide)
    · have c16 : ¬ cp = 0 := c16
      refine j_iconst (pc := 19) (v := 0) C dX5_cost_19 (by decide) ?_
      refine j_goto (pc := 20) (tgt := 24) C dX5_cost_20 (by decide) ?_
      refine jV_i (pc := 24) (k2 := 0) (n2 := 0) (np := 1) (As := [.int 0]) C (ct_goes0 h42) gX5_cost_X5_goesWell rfl (by decide +kernel) ⟨by decide, by decide⟩ h42 rfl rfl rfl (Nat.le_of_ble_eq_true rfl) dX5_cost_24 (by decide) (by decide) ⟨by decide, by decide⟩ (fun v L2 w2 hu => ?_)
      obtain ⟨hv9, e9⟩ := hu
      subst hv9
      cases e9
      refine j_nm (fun w24 ew24 => ?_)
      obtain ⟨hm24, hf24⟩ := hm.setob (th2 := 0) (cp2 := cp) (sz2 := sz) ew24 hsz
      have hfr := hfr.tr hf24
      obtain ⟨h42, h43, h44, h45, h46, h47, h48, h49, h50, h51, h52, h53, hT, hE, hfb, hsz⟩ := id hm24
      refine j_if_ne (pc := 27) (tgt := 32) C dX5_cost_27 (by decide) (fun _ => ?_) (fun z9 => absurd z9 (by decide))
      refine j_aload_n (pc := 32) C rfl dX5_cost_32 rfl ?_
      refine j_iload_n (pc := 33) C rfl dX5_cost_33 rfl ?_
      refine jV_v (pc := 34) (k2 := 0) (n2 := 0) (np := 1) (As := [.int (nI j)]) C (ct_lay hm24 hj) gX5_cost_X5_lay rfl (by decide +kernel) ⟨by decide, by decide⟩ h42 rfl rfl rfl (Nat.le_of_ble_eq_true rfl) dX5_cost_34 (by decide) (by decide) ⟨by decide, by decide⟩ (fun L2 w2 hu => ?_)
      obtain ⟨w9, ks2, sz2, co2, ro2, e9, hmL, hla, hf2⟩ := hu
      cases e9
      have hfr := hfr.tr hf2
      obtain ⟨h42, h43, h44, h45, h46, h47, h48, h49, h50, h51, h52, h53, hT, hE, hfb, hsz⟩ := id hmL
      refine j_aload_n (pc := 37) C rfl dX5_cost_37 rfl ?_
      refine j_iconst (pc := 38) (v := 0) C dX5_cost_38 (by decide) ?_
      refine j_aload_n (pc := 39) C rfl dX5_cost_39 rfl ?_
      refine j_get (pc := 40) C hin_X5 h42 rfl 11 (by decide) (by decide +kernel) rfl dX5_cost_40 ?_
      refine j_iconst (pc := 43) (v := 1) C dX5_cost_43 (by decide) ?_
      refine j_isub (pc := 44) C dX5_cost_44 ?_
      refine jV_i0 (pc := 45) (k2 := 0) (n2 := 0) (np := 2) (As := [.int 0, .int (nI sz2 - 1)]) C (ct_costOf hmL (a := 0) (l9 := sz2) (W := cs (wtF fq (rch (E j))) 0 sz2) (by rw [Nat.zero_add]) (by omega) (fun z => by rw [z]; exact cs_0 _ _) (fun z => by have h9 := (hla.2.2 0 sz2 z (by omega)).1; exact h9)) gX5_cost_X5_costOf rfl (by decide +kernel) ⟨by decide, by decide⟩ h42 rfl rfl rfl (Nat.le_of_ble_eq_true rfl) dX5_cost_45 (by decide) (by decide) ⟨by decide, by decide⟩ (fun v hv => ?_)
      subst hv
      exact ret_i C rfl hr hlk dX5_cost_48 ⟨_, rfl, hfr, Or.inl ⟨j, hj, rfl, c16, by rw [hla.1], hmL.md⟩⟩ (by decide) (by decide)
  · have c5 := tf_0 hv1 c5
    refine j_iconst (pc := 8) (v := 1) C dX5_cost_8 (by decide) ?_
    refine j_goto (pc := 9) (tgt := 24) C dX5_cost_9 (by decide) ?_
    refine jV_i (pc := 24) (k2 := 0) (n2 := 0) (np := 1) (As := [.int 1]) C (ct_goes1 (pl := 1) h42 (by decide)) gX5_cost_X5_goesWell rfl (by decide +kernel) ⟨by decide, by decide⟩ h42 rfl rfl rfl (Nat.le_of_ble_eq_true rfl) dX5_cost_24 (by decide) (by decide) ⟨by decide, by decide⟩ (fun v L2 w2 hu => ?_)
    obtain ⟨hv9, e9⟩ := hu
    subst hv9
    cases e9
    refine j_nm (fun w24 ew24 => ?_)
    obtain ⟨hm24, hf24⟩ := hm.setob (th2 := 1) (cp2 := cp) (sz2 := sz) ew24 hsz
    have hfr := hfr.tr hf24
    obtain ⟨h42, h43, h44, h45, h46, h47, h48, h49, h50, h51, h52, h53, hT, hE, hfb, hsz⟩ := id hm24
    refine j_if_ne (pc := 27) (tgt := 32) C dX5_cost_27 (by decide) (fun z9 => absurd rfl z9) (fun _ => ?_)
    refine j_iconst (pc := 30) (v := 0) C dX5_cost_30 (by decide) ?_
    exact ret_i C rfl hr hlk dX5_cost_31 ⟨_, rfl, hfr, Or.inr (Or.inl ⟨c5, hm24.md⟩)⟩ (by decide) (by decide)

set_option maxRecDepth 100000 in
set_option maxHeartbeats 4000000 in
theorem ct_M_worst {l : Launch} {G : Gp} {L : List Nat} {w : Wn} {am : Nat → Nat} {th cp : Int32} {df : Nat → Int32} {fq : Nat → Nat} {E : Nat → EL} {ns ar ac : Nat → Int32} {mk vl : Nat → Int64} {ks : Nat → Int32} {sz : Nat} {co ro : Nat → Int32} (hm : MB G am L w th cp df fq E ns ar ac mk vl ks sz co ro) (x : Int32) : CI l yX5_worst wsX5_worst (rmD 8 0 0) G L w [.ref (am 42), .int x] (fun r u => ∃ w2, u = (L, w2) ∧ FrM L w w2 ∧ ((∃ j, j < 4 ∧ x = nI j ∧ ¬ cp = 0 ∧ r = wF fq (E j) ∧ MD G am L w2 0 cp df fq E) ∨ (¬ vld x 4 ∧ MD G am L w2 1 cp df fq E) ∨ (vld x 4 ∧ cp = 0 ∧ MD G am L w2 2 cp df fq E))) := by
  refine mk_i (cc := cX5_worst) (maxL := 2) [some (.ref (am 42)), some (.int x)] (by decide) rfl (Nat.le_of_ble_eq_true rfl) rfl ?_
  intro p e s m args below meth c A C hr hlk hnm
  have hin_X5 : ∀ x ∈ u_ws RX5 TX5 14, x ∈ wsX5_worst := by decide +kernel
  obtain ⟨h42, h43, h44, h45, h46, h47, h48, h49, h50, h51, h52, h53, hT, hE, hfb, hsz⟩ := id hm
  have hfr : FrM L w w := Fr.rf
  refine j_aload_n (pc := 0) C rfl dX5_worst_0 rfl ?_
  refine j_iload_n (pc := 1) C rfl dX5_worst_1 rfl ?_
  refine jS_i0 (pc := 2) (k2 := 0) (n2 := 0) (np := 1) (As := [.int x]) C (ct_M_isFilter x) gX5_worst_X5_isFilter rfl (by decide +kernel) ⟨by decide, by decide⟩ rfl rfl (Nat.le_of_ble_eq_true rfl) dX5_worst_2 (by decide) (by decide) ⟨by decide, by decide⟩ (fun v1 hv1 => ?_)
  refine j_if_ne (pc := 5) (tgt := 12) C dX5_worst_5 (by decide) (fun c5 => ?_) (fun c5 => ?_)
  · have c5 := tf_1 hv1 c5
    obtain ⟨j, hj, rfl⟩ := id c5
    refine j_aload_n (pc := 12) C rfl dX5_worst_12 rfl ?_
    refine j_get (pc := 13) C hin_X5 h42 rfl 9 (by decide) (by decide +kernel) rfl dX5_worst_13 ?_
    refine j_if_eq (pc := 16) (tgt := 23) C dX5_worst_16 (by decide) (fun c16 => ?_) (fun c16 => ?_)
    · have c16 : cp = 0 := c16
      refine j_iconst (pc := 23) (v := 2) C dX5_worst_23 (by decide) ?_
      refine jV_i (pc := 24) (k2 := 0) (n2 := 0) (np := 1) (As := [.int 2]) C (ct_goes1 (pl := 2) h42 (by decide)) gX5_worst_X5_goesWell rfl (by decide +kernel) ⟨by decide, by decide⟩ h42 rfl rfl rfl (Nat.le_of_ble_eq_true rfl) dX5_worst_24 (by decide) (by decide) ⟨by decide, by decide⟩ (fun v L2 w2 hu => ?_)
      obtain ⟨hv9, e9⟩ := hu
      subst hv9
      cases e9
      refine j_nm (fun w24 ew24 => ?_)
      obtain ⟨hm24, hf24⟩ := hm.setob (th2 := 2) (cp2 := cp) (sz2 := sz) ew24 hsz
      have hfr := hfr.tr hf24
      obtain ⟨h42, h43, h44, h45, h46, h47, h48, h49, h50, h51, h52, h53, hT, hE, hfb, hsz⟩ := id hm24
      refine j_if_eq (pc := 27) (tgt := 38) C dX5_worst_27 (by decide) (fun _ => ?_) (fun z9 => absurd rfl z9)
      refine j_iconst (pc := 38) (v := 0) C dX5_worst_38 (by decide) ?_
      exact ret_i C rfl hr hlk dX5_worst_39 ⟨_, rfl, hfr, Or.inr (Or.inr ⟨c5, c16, hm24.md⟩)⟩ (by decide) (by decide)
    · have c16 : ¬ cp = 0 := c16
      refine j_iconst (pc := 19) (v := 0) C dX5_worst_19 (by decide) ?_
      refine j_goto (pc := 20) (tgt := 24) C dX5_worst_20 (by decide) ?_
      refine jV_i (pc := 24) (k2 := 0) (n2 := 0) (np := 1) (As := [.int 0]) C (ct_goes0 h42) gX5_worst_X5_goesWell rfl (by decide +kernel) ⟨by decide, by decide⟩ h42 rfl rfl rfl (Nat.le_of_ble_eq_true rfl) dX5_worst_24 (by decide) (by decide) ⟨by decide, by decide⟩ (fun v L2 w2 hu => ?_)
      obtain ⟨hv9, e9⟩ := hu
      subst hv9
      cases e9
      refine j_nm (fun w24 ew24 => ?_)
      obtain ⟨hm24, hf24⟩ := hm.setob (th2 := 0) (cp2 := cp) (sz2 := sz) ew24 hsz
      have hfr := hfr.tr hf24
      obtain ⟨h42, h43, h44, h45, h46, h47, h48, h49, h50, h51, h52, h53, hT, hE, hfb, hsz⟩ := id hm24
      refine j_if_eq (pc := 27) (tgt := 38) C dX5_worst_27 (by decide) (fun z9 => absurd z9 (by decide)) (fun _ => ?_)
      refine j_aload_n (pc := 30) C rfl dX5_worst_30 rfl ?_
      refine j_iload_n (pc := 31) C rfl dX5_worst_31 rfl ?_
      refine jV_i (pc := 32) (k2 := 0) (n2 := 0) (np := 1) (As := [.int (nI j)]) C (ct_worstOf hm24 hj) gX5_worst_X5_worstOf rfl (by decide +kernel) ⟨by decide, by decide⟩ h42 rfl rfl rfl (Nat.le_of_ble_eq_true rfl) dX5_worst_32 (by decide) (by decide) ⟨by decide, by decide⟩ (fun v L2 w2 hu => ?_)
      obtain ⟨rfl, w9, ks2, sz2, co2, ro2, e9, hmL, hf2⟩ := hu
      cases e9
      have hfr := hfr.tr hf2
      obtain ⟨h42, h43, h44, h45, h46, h47, h48, h49, h50, h51, h52, h53, hT, hE, hfb, hsz⟩ := id hmL
      refine j_goto (pc := 35) (tgt := 39) C dX5_worst_35 (by decide) ?_
      exact ret_i C rfl hr hlk dX5_worst_39 ⟨_, rfl, hfr, Or.inl ⟨j, hj, rfl, c16, rfl, hmL.md⟩⟩ (by decide) (by decide)
  · have c5 := tf_0 hv1 c5
    refine j_iconst (pc := 8) (v := 1) C dX5_worst_8 (by decide) ?_
    refine j_goto (pc := 9) (tgt := 24) C dX5_worst_9 (by decide) ?_
    refine jV_i (pc := 24) (k2 := 0) (n2 := 0) (np := 1) (As := [.int 1]) C (ct_goes1 (pl := 1) h42 (by decide)) gX5_worst_X5_goesWell rfl (by decide +kernel) ⟨by decide, by decide⟩ h42 rfl rfl rfl (Nat.le_of_ble_eq_true rfl) dX5_worst_24 (by decide) (by decide) ⟨by decide, by decide⟩ (fun v L2 w2 hu => ?_)
    obtain ⟨hv9, e9⟩ := hu
    subst hv9
    cases e9
    refine j_nm (fun w24 ew24 => ?_)
    obtain ⟨hm24, hf24⟩ := hm.setob (th2 := 1) (cp2 := cp) (sz2 := sz) ew24 hsz
    have hfr := hfr.tr hf24
    obtain ⟨h42, h43, h44, h45, h46, h47, h48, h49, h50, h51, h52, h53, hT, hE, hfb, hsz⟩ := id hm24
    refine j_if_eq (pc := 27) (tgt := 38) C dX5_worst_27 (by decide) (fun _ => ?_) (fun z9 => absurd rfl z9)
    refine j_iconst (pc := 38) (v := 0) C dX5_worst_38 (by decide) ?_
    exact ret_i C rfl hr hlk dX5_worst_39 ⟨_, rfl, hfr, Or.inr (Or.inl ⟨c5, hm24.md⟩)⟩ (by decide) (by decide)

set_option maxRecDepth 100000 in
set_option maxHeartbeats 4000000 in
theorem ct_M_judge {l : Launch} {G : Gp} {L : List Nat} {w : Wn} {am : Nat → Nat} {th cp : Int32} {df : Nat → Int32} {fq : Nat → Nat} {E : Nat → EL} {ns ar ac : Nat → Int32} {mk vl : Nat → Int64} {ks : Nat → Int32} {sz : Nat} {co ro : Nat → Int32} (hm : MB G am L w th cp df fq E ns ar ac mk vl ks sz co ro) (x : Int32) (fi se : Int64) : CI l yX5_judge wsX5_judge (rmD 8 0 0) G L w [.ref (am 42), .int x, .long fi, .long se] (fun r u => ∃ w2, u = (L, w2) ∧ FrM L w w2 ∧ ((vld x 32 ∧ ¬ cp = 0 ∧ r = mxN (fun i => fAct x fi se (df i) (E i)) 4 ∧ MD G am L w2 0 cp df fq E) ∨ (¬ vld x 32 ∧ MD G am L w2 1 cp df fq E) ∨ (vld x 32 ∧ cp = 0 ∧ MD G am L w2 2 cp df fq E))) := by
  refine mk_i (cc := cX5_judge) (maxL := 6) [some (.ref (am 42)), some (.int x), some (.long fi), none, some (.long se), none] (by decide) rfl (Nat.le_of_ble_eq_true rfl) rfl ?_
  intro p e s m args below meth c A C hr hlk hnm
  have hin_X5 : ∀ x ∈ u_ws RX5 TX5 14, x ∈ wsX5_judge := by decide +kernel
  obtain ⟨h42, h43, h44, h45, h46, h47, h48, h49, h50, h51, h52, h53, hT, hE, hfb, hsz⟩ := id hm
  have hfr : FrM L w w := Fr.rf
  refine j_aload_n (pc := 0) C rfl dX5_judge_0 rfl ?_
  refine j_iload_n (pc := 1) C rfl dX5_judge_1 rfl ?_
  refine jS_i0 (pc := 2) (k2 := 0) (n2 := 0) (np := 1) (As := [.int x]) C (ct_M_isNumber x) gX5_judge_X5_isNumber rfl (by decide +kernel) ⟨by decide, by decide⟩ rfl rfl (Nat.le_of_ble_eq_true rfl) dX5_judge_2 (by decide) (by decide) ⟨by decide, by decide⟩ (fun v1 hv1 => ?_)
  refine j_if_ne (pc := 5) (tgt := 12) C dX5_judge_5 (by decide) (fun c5 => ?_) (fun c5 => ?_)
  · have c5 := tf_1 hv1 c5
    refine j_aload_n (pc := 12) C rfl dX5_judge_12 rfl ?_
    refine j_get (pc := 13) C hin_X5 h42 rfl 9 (by decide) (by decide +kernel) rfl dX5_judge_13 ?_
    refine j_if_eq (pc := 16) (tgt := 23) C dX5_judge_16 (by decide) (fun c16 => ?_) (fun c16 => ?_)
    · have c16 : cp = 0 := c16
      refine j_iconst (pc := 23) (v := 2) C dX5_judge_23 (by decide) ?_
      refine jV_i (pc := 24) (k2 := 0) (n2 := 0) (np := 1) (As := [.int 2]) C (ct_goes1 (pl := 2) h42 (by decide)) gX5_judge_X5_goesWell rfl (by decide +kernel) ⟨by decide, by decide⟩ h42 rfl rfl rfl (Nat.le_of_ble_eq_true rfl) dX5_judge_24 (by decide) (by decide) ⟨by decide, by decide⟩ (fun v L2 w2 hu => ?_)
      obtain ⟨hv9, e9⟩ := hu
      subst hv9
      cases e9
      refine j_nm (fun w24 ew24 => ?_)
      obtain ⟨hm24, hf24⟩ := hm.setob (th2 := 2) (cp2 := cp) (sz2 := sz) ew24 hsz
      have hfr := hfr.tr hf24
      obtain ⟨h42, h43, h44, h45, h46, h47, h48, h49, h50, h51, h52, h53, hT, hE, hfb, hsz⟩ := id hm24
      refine j_if_eq (pc := 27) (tgt := 41) C dX5_judge_27 (by decide) (fun _ => ?_) (fun z9 => absurd rfl z9)
      refine j_iconst (pc := 41) (v := 0) C dX5_judge_41 (by decide) ?_
      exact ret_i C rfl hr hlk dX5_judge_42 ⟨_, rfl, hfr, Or.inr (Or.inr ⟨c5, c16, hm24.md⟩)⟩ (by decide) (by decide)
    · have c16 : ¬ cp = 0 := c16
      refine j_iconst (pc := 19) (v := 0) C dX5_judge_19 (by decide) ?_
      refine j_goto (pc := 20) (tgt := 24) C dX5_judge_20 (by decide) ?_
      refine jV_i (pc := 24) (k2 := 0) (n2 := 0) (np := 1) (As := [.int 0]) C (ct_goes0 h42) gX5_judge_X5_goesWell rfl (by decide +kernel) ⟨by decide, by decide⟩ h42 rfl rfl rfl (Nat.le_of_ble_eq_true rfl) dX5_judge_24 (by decide) (by decide) ⟨by decide, by decide⟩ (fun v L2 w2 hu => ?_)
      obtain ⟨hv9, e9⟩ := hu
      subst hv9
      cases e9
      refine j_nm (fun w24 ew24 => ?_)
      obtain ⟨hm24, hf24⟩ := hm.setob (th2 := 0) (cp2 := cp) (sz2 := sz) ew24 hsz
      have hfr := hfr.tr hf24
      obtain ⟨h42, h43, h44, h45, h46, h47, h48, h49, h50, h51, h52, h53, hT, hE, hfb, hsz⟩ := id hm24
      refine j_if_eq (pc := 27) (tgt := 41) C dX5_judge_27 (by decide) (fun z9 => absurd z9 (by decide)) (fun _ => ?_)
      refine j_aload_n (pc := 30) C rfl dX5_judge_30 rfl ?_
      refine j_iload_n (pc := 31) C rfl dX5_judge_31 rfl ?_
      refine j_lload_n (pc := 32) C rfl dX5_judge_32 rfl ?_
      refine j_lload (pc := 33) C dX5_judge_33 rfl ?_
      refine jV_i0 (pc := 35) (k2 := 0) (n2 := 0) (np := 3) (As := [.int x, .long fi, .long se]) C (ct_strictest hm24 x fi se) gX5_judge_X5_strictest rfl (by decide +kernel) ⟨by decide, by decide⟩ h42 rfl rfl rfl (Nat.le_of_ble_eq_true rfl) dX5_judge_35 (by decide) (by decide) ⟨by decide, by decide⟩ (fun v hv => ?_)
      subst hv
      refine j_goto (pc := 38) (tgt := 42) C dX5_judge_38 (by decide) ?_
      exact ret_i C rfl hr hlk dX5_judge_42 ⟨_, rfl, hfr, Or.inl ⟨c5, c16, rfl, hm24.md⟩⟩ (by decide) (by decide)
  · have c5 := tf_0 hv1 c5
    refine j_iconst (pc := 8) (v := 1) C dX5_judge_8 (by decide) ?_
    refine j_goto (pc := 9) (tgt := 24) C dX5_judge_9 (by decide) ?_
    refine jV_i (pc := 24) (k2 := 0) (n2 := 0) (np := 1) (As := [.int 1]) C (ct_goes1 (pl := 1) h42 (by decide)) gX5_judge_X5_goesWell rfl (by decide +kernel) ⟨by decide, by decide⟩ h42 rfl rfl rfl (Nat.le_of_ble_eq_true rfl) dX5_judge_24 (by decide) (by decide) ⟨by decide, by decide⟩ (fun v L2 w2 hu => ?_)
    obtain ⟨hv9, e9⟩ := hu
    subst hv9
    cases e9
    refine j_nm (fun w24 ew24 => ?_)
    obtain ⟨hm24, hf24⟩ := hm.setob (th2 := 1) (cp2 := cp) (sz2 := sz) ew24 hsz
    have hfr := hfr.tr hf24
    obtain ⟨h42, h43, h44, h45, h46, h47, h48, h49, h50, h51, h52, h53, hT, hE, hfb, hsz⟩ := id hm24
    refine j_if_eq (pc := 27) (tgt := 41) C dX5_judge_27 (by decide) (fun _ => ?_) (fun z9 => absurd rfl z9)
    refine j_iconst (pc := 41) (v := 0) C dX5_judge_41 (by decide) ?_
    exact ret_i C rfl hr hlk dX5_judge_42 ⟨_, rfl, hfr, Or.inr (Or.inl ⟨c5, hm24.md⟩)⟩ (by decide) (by decide)

set_option maxRecDepth 100000 in
set_option maxHeartbeats 4000000 in
theorem ct_M_judgeByRules {l : Launch} {G : Gp} {L : List Nat} {w : Wn} {am : Nat → Nat} {th cp : Int32} {df : Nat → Int32} {fq : Nat → Nat} {E : Nat → EL} {ns ar ac : Nat → Int32} {mk vl : Nat → Int64} {ks : Nat → Int32} {sz : Nat} {co ro : Nat → Int32} (hm : MB G am L w th cp df fq E ns ar ac mk vl ks sz co ro) (x : Int32) (fi se : Int64) : CI l yX5_judgeByRules wsX5_judgeByRules (rmD 8 0 0) G L w [.ref (am 42), .int x, .long fi, .long se] (fun r u => ∃ w2, u = (L, w2) ∧ FrM L w w2 ∧ ((vld x 32 ∧ r = mxN (fun i => fAct x fi se (df i) (E i)) 4 ∧ MD G am L w2 0 cp df fq E) ∨ (¬ vld x 32 ∧ MD G am L w2 1 cp df fq E))) := by
  refine mk_i (cc := cX5_judgeByRules) (maxL := 6) [some (.ref (am 42)), some (.int x), some (.long fi), none, some (.long se), none] (by decide) rfl (Nat.le_of_ble_eq_true rfl) rfl ?_
  intro p e s m args below meth c A C hr hlk hnm
  obtain ⟨h42, h43, h44, h45, h46, h47, h48, h49, h50, h51, h52, h53, hT, hE, hfb, hsz⟩ := id hm
  have hfr : FrM L w w := Fr.rf
  refine j_aload_n (pc := 0) C rfl dX5_judgeByRules_0 rfl ?_
  refine j_iload_n (pc := 1) C rfl dX5_judgeByRules_1 rfl ?_
  refine jS_i0 (pc := 2) (k2 := 0) (n2 := 0) (np := 1) (As := [.int x]) C (ct_M_isNumber x) gX5_judgeByRules_X5_isNumber rfl (by decide +kernel) ⟨by decide, by decide⟩ rfl rfl (Nat.le_of_ble_eq_true rfl) dX5_judgeByRules_2 (by decide) (by decide) ⟨by decide, by decide⟩ (fun v1 hv1 => ?_)
  refine j_if_eq (pc := 5) (tgt := 12) C dX5_judgeByRules_5 (by decide) (fun c5 => ?_) (fun c5 => ?_)
  · have c5 := tf_0 hv1 c5
    refine j_iconst (pc := 12) (v := 1) C dX5_judgeByRules_12 (by decide) ?_
    refine jV_i (pc := 13) (k2 := 0) (n2 := 0) (np := 1) (As := [.int 1]) C (ct_goes1 (pl := 1) h42 (by decide)) gX5_judgeByRules_X5_goesWell rfl (by decide +kernel) ⟨by decide, by decide⟩ h42 rfl rfl rfl (Nat.le_of_ble_eq_true rfl) dX5_judgeByRules_13 (by decide) (by decide) ⟨by decide, by decide⟩ (fun v L2 w2 hu => ?_)
    obtain ⟨hv9, e9⟩ := hu
    subst hv9
    cases e9
    refine j_nm (fun w13 ew13 => ?_)
    obtain ⟨hm13, hf13⟩ := hm.setob (th2 := 1) (cp2 := cp) (sz2 := sz) ew13 hsz
    have hfr := hfr.tr hf13
    obtain ⟨h42, h43, h44, h45, h46, h47, h48, h49, h50, h51, h52, h53, hT, hE, hfb, hsz⟩ := id hm13
    refine j_if_eq (pc := 16) (tgt := 30) C dX5_judgeByRules_16 (by decide) (fun _ => ?_) (fun z9 => absurd rfl z9)
    refine j_iconst (pc := 30) (v := 0) C dX5_judgeByRules_30 (by decide) ?_
    exact ret_i C rfl hr hlk dX5_judgeByRules_31 ⟨_, rfl, hfr, Or.inr ⟨c5, hm13.md⟩⟩ (by decide) (by decide)
  · have c5 := tf_1 hv1 c5
    refine j_iconst (pc := 8) (v := 0) C dX5_judgeByRules_8 (by decide) ?_
    refine j_goto (pc := 9) (tgt := 13) C dX5_judgeByRules_9 (by decide) ?_
    refine jV_i (pc := 13) (k2 := 0) (n2 := 0) (np := 1) (As := [.int 0]) C (ct_goes0 h42) gX5_judgeByRules_X5_goesWell rfl (by decide +kernel) ⟨by decide, by decide⟩ h42 rfl rfl rfl (Nat.le_of_ble_eq_true rfl) dX5_judgeByRules_13 (by decide) (by decide) ⟨by decide, by decide⟩ (fun v L2 w2 hu => ?_)
    obtain ⟨hv9, e9⟩ := hu
    subst hv9
    cases e9
    refine j_nm (fun w13 ew13 => ?_)
    obtain ⟨hm13, hf13⟩ := hm.setob (th2 := 0) (cp2 := cp) (sz2 := sz) ew13 hsz
    have hfr := hfr.tr hf13
    obtain ⟨h42, h43, h44, h45, h46, h47, h48, h49, h50, h51, h52, h53, hT, hE, hfb, hsz⟩ := id hm13
    refine j_if_eq (pc := 16) (tgt := 30) C dX5_judgeByRules_16 (by decide) (fun z9 => absurd z9 (by decide)) (fun _ => ?_)
    refine j_aload_n (pc := 19) C rfl dX5_judgeByRules_19 rfl ?_
    refine j_iload_n (pc := 20) C rfl dX5_judgeByRules_20 rfl ?_
    refine j_lload_n (pc := 21) C rfl dX5_judgeByRules_21 rfl ?_
    refine j_lload (pc := 22) C dX5_judgeByRules_22 rfl ?_
    refine jV_i0 (pc := 24) (k2 := 0) (n2 := 0) (np := 3) (As := [.int x, .long fi, .long se]) C (ct_strictest hm13 x fi se) gX5_judgeByRules_X5_strictest rfl (by decide +kernel) ⟨by decide, by decide⟩ h42 rfl rfl rfl (Nat.le_of_ble_eq_true rfl) dX5_judgeByRules_24 (by decide) (by decide) ⟨by decide, by decide⟩ (fun v hv => ?_)
    subst hv
    refine j_goto (pc := 27) (tgt := 31) C dX5_judgeByRules_27 (by decide) ?_
    exact ret_i C rfl hr hlk dX5_judgeByRules_31 ⟨_, rfl, hfr, Or.inl ⟨c5, rfl, hm13.md⟩⟩ (by decide) (by decide)

set_option maxRecDepth 100000 in
set_option maxHeartbeats 4000000 in
theorem ct_M_actionOf {l : Launch} {G : Gp} {L : List Nat} {w : Wn} {am : Nat → Nat} {th cp : Int32} {df : Nat → Int32} {fq : Nat → Nat} {E : Nat → EL} {ns ar ac : Nat → Int32} {mk vl : Nat → Int64} {ks : Nat → Int32} {sz : Nat} {co ro : Nat → Int32} (hm : MB G am L w th cp df fq E ns ar ac mk vl ks sz co ro) (x x2 : Int32) (fi se : Int64) : CI l yX5_actionOf wsX5_actionOf (rmD 8 0 0) G L w [.ref (am 42), .int x, .int x2, .long fi, .long se] (fun r u => ∃ w2, u = (L, w2) ∧ FrM L w w2 ∧ ((∃ j, j < 4 ∧ x = nI j ∧ vld x2 32 ∧ r = fAct x2 fi se (df j) (E j) ∧ MD G am L w2 0 cp df fq E) ∨ (¬ (vld x 4 ∧ vld x2 32) ∧ MD G am L w2 1 cp df fq E))) := by
  refine mk_i (cc := cX5_actionOf) (maxL := 7) [some (.ref (am 42)), some (.int x), some (.int x2), some (.long fi), none, some (.long se), none] (by decide) rfl (Nat.le_of_ble_eq_true rfl) rfl ?_
  intro p e s m args below meth c A C hr hlk hnm
  obtain ⟨h42, h43, h44, h45, h46, h47, h48, h49, h50, h51, h52, h53, hT, hE, hfb, hsz⟩ := id hm
  have hfr : FrM L w w := Fr.rf
  refine j_aload_n (pc := 0) C rfl dX5_actionOf_0 rfl ?_
  refine j_iload_n (pc := 1) C rfl dX5_actionOf_1 rfl ?_
  refine jS_i0 (pc := 2) (k2 := 0) (n2 := 0) (np := 1) (As := [.int x]) C (ct_M_isFilter x) gX5_actionOf_X5_isFilter rfl (by decide +kernel) ⟨by decide, by decide⟩ rfl rfl (Nat.le_of_ble_eq_true rfl) dX5_actionOf_2 (by decide) (by decide) ⟨by decide, by decide⟩ (fun v1 hv1 => ?_)
  refine j_if_eq (pc := 5) (tgt := 19) C dX5_actionOf_5 (by decide) (fun c5 => ?_) (fun c5 => ?_)
  · have c5 := tf_0 hv1 c5
    refine j_iconst (pc := 19) (v := 1) C dX5_actionOf_19 (by decide) ?_
    refine jV_i (pc := 20) (k2 := 0) (n2 := 0) (np := 1) (As := [.int 1]) C (ct_goes1 (pl := 1) h42 (by decide)) gX5_actionOf_X5_goesWell rfl (by decide +kernel) ⟨by decide, by decide⟩ h42 rfl rfl rfl (Nat.le_of_ble_eq_true rfl) dX5_actionOf_20 (by decide) (by decide) ⟨by decide, by decide⟩ (fun v L2 w2 hu => ?_)
    obtain ⟨hv9, e9⟩ := hu
    subst hv9
    cases e9
    refine j_nm (fun w20 ew20 => ?_)
    obtain ⟨hm20, hf20⟩ := hm.setob (th2 := 1) (cp2 := cp) (sz2 := sz) ew20 hsz
    have hfr := hfr.tr hf20
    obtain ⟨h42, h43, h44, h45, h46, h47, h48, h49, h50, h51, h52, h53, hT, hE, hfb, hsz⟩ := id hm20
    refine j_if_eq (pc := 23) (tgt := 38) C dX5_actionOf_23 (by decide) (fun _ => ?_) (fun z9 => absurd rfl z9)
    refine j_iconst (pc := 38) (v := 0) C dX5_actionOf_38 (by decide) ?_
    exact ret_i C rfl hr hlk dX5_actionOf_39 ⟨_, rfl, hfr, Or.inr ⟨fun z => c5 z.1, hm20.md⟩⟩ (by decide) (by decide)
  · have c5 := tf_1 hv1 c5
    refine j_iload_n (pc := 8) C rfl dX5_actionOf_8 rfl ?_
    refine jS_i0 (pc := 9) (k2 := 0) (n2 := 0) (np := 1) (As := [.int x2]) C (ct_M_isNumber x2) gX5_actionOf_X5_isNumber rfl (by decide +kernel) ⟨by decide, by decide⟩ rfl rfl (Nat.le_of_ble_eq_true rfl) dX5_actionOf_9 (by decide) (by decide) ⟨by decide, by decide⟩ (fun v2 hv2 => ?_)
    refine j_if_eq (pc := 12) (tgt := 19) C dX5_actionOf_12 (by decide) (fun c12 => ?_) (fun c12 => ?_)
    · have c12 := tf_0 hv2 c12
      refine j_iconst (pc := 19) (v := 1) C dX5_actionOf_19 (by decide) ?_
      refine jV_i (pc := 20) (k2 := 0) (n2 := 0) (np := 1) (As := [.int 1]) C (ct_goes1 (pl := 1) h42 (by decide)) gX5_actionOf_X5_goesWell rfl (by decide +kernel) ⟨by decide, by decide⟩ h42 rfl rfl rfl (Nat.le_of_ble_eq_true rfl) dX5_actionOf_20 (by decide) (by decide) ⟨by decide, by decide⟩ (fun v L2 w2 hu => ?_)
      obtain ⟨hv9, e9⟩ := hu
      subst hv9
      cases e9
      refine j_nm (fun w20 ew20 => ?_)
      obtain ⟨hm20, hf20⟩ := hm.setob (th2 := 1) (cp2 := cp) (sz2 := sz) ew20 hsz
      have hfr := hfr.tr hf20
      obtain ⟨h42, h43, h44, h45, h46, h47, h48, h49, h50, h51, h52, h53, hT, hE, hfb, hsz⟩ := id hm20
      refine j_if_eq (pc := 23) (tgt := 38) C dX5_actionOf_23 (by decide) (fun _ => ?_) (fun z9 => absurd rfl z9)
      refine j_iconst (pc := 38) (v := 0) C dX5_actionOf_38 (by decide) ?_
      exact ret_i C rfl hr hlk dX5_actionOf_39 ⟨_, rfl, hfr, Or.inr ⟨fun z => c12 z.2, hm20.md⟩⟩ (by decide) (by decide)
    · have c12 := tf_1 hv2 c12
      refine j_iconst (pc := 15) (v := 0) C dX5_actionOf_15 (by decide) ?_
      refine j_goto (pc := 16) (tgt := 20) C dX5_actionOf_16 (by decide) ?_
      refine jV_i (pc := 20) (k2 := 0) (n2 := 0) (np := 1) (As := [.int 0]) C (ct_goes0 h42) gX5_actionOf_X5_goesWell rfl (by decide +kernel) ⟨by decide, by decide⟩ h42 rfl rfl rfl (Nat.le_of_ble_eq_true rfl) dX5_actionOf_20 (by decide) (by decide) ⟨by decide, by decide⟩ (fun v L2 w2 hu => ?_)
      obtain ⟨hv9, e9⟩ := hu
      subst hv9
      cases e9
      refine j_nm (fun w20 ew20 => ?_)
      obtain ⟨hm20, hf20⟩ := hm.setob (th2 := 0) (cp2 := cp) (sz2 := sz) ew20 hsz
      have hfr := hfr.tr hf20
      obtain ⟨h42, h43, h44, h45, h46, h47, h48, h49, h50, h51, h52, h53, hT, hE, hfb, hsz⟩ := id hm20
      refine j_if_eq (pc := 23) (tgt := 38) C dX5_actionOf_23 (by decide) (fun z9 => absurd z9 (by decide)) (fun _ => ?_)
      refine j_aload_n (pc := 26) C rfl dX5_actionOf_26 rfl ?_
      refine j_iload_n (pc := 27) C rfl dX5_actionOf_27 rfl ?_
      refine j_iload_n (pc := 28) C rfl dX5_actionOf_28 rfl ?_
      refine j_lload_n (pc := 29) C rfl dX5_actionOf_29 rfl ?_
      refine j_lload (pc := 30) C dX5_actionOf_30 rfl ?_
      obtain ⟨j, hj, rfl⟩ := id c5
      refine jV_i0 (pc := 32) (k2 := 0) (n2 := 0) (np := 4) (As := [.int (nI j), .int x2, .long fi, .long se]) C (ct_judgeBy hm20 hj x2 fi se) gX5_actionOf_X5_judgeBy rfl (by decide +kernel) ⟨by decide, by decide⟩ h42 rfl rfl rfl (Nat.le_of_ble_eq_true rfl) dX5_actionOf_32 (by decide) (by decide) ⟨by decide, by decide⟩ (fun v hv => ?_)
      subst hv
      refine j_goto (pc := 35) (tgt := 39) C dX5_actionOf_35 (by decide) ?_
      exact ret_i C rfl hr hlk dX5_actionOf_39 ⟨_, rfl, hfr, Or.inl ⟨j, hj, rfl, c12, rfl, hm20.md⟩⟩ (by decide) (by decide)

