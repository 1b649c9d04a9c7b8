/-! THE CLASS: its loops over the four filters; the calls that change it -/
set_option maxRecDepth 100000 in
set_option maxHeartbeats 4000000 in
theorem judge_loop {p : Program} {e : Env} {s : State} {m : MethodId} {args : Array Value} {below : List Frame} {meth : Method} {c : Code} {A : Nat → Prop} {xp : String → Sw → Prop} {post : Int32 → Sw → Prop} {l : Launch} {G : Gp} {L : List Nat} {w : Wn} {ad : Nat → Nat} {cp : Int32} {fq : Nat → Nat} {df : Nat → Int32} {E : Nat → EL} (hcs : CS G ad L w cp (cp = 1) fq df E) (hone : cp = 1) {x : Int32} {fi se : Int64} (hend : ∀ r, r = mxN (fun i => actT fq (E i) (df i) x fi se) 4 → post r (L, w)) (C : Cx p s m args c cX4_judge yX4_judge.cls 11 wsX4_judge G A s.heap) (hr : meth.sig.returnType = (some .int)) (hlk : meth.locks = false) : ∀ (f i : Nat) (t : Int32), 4 - i = f → i ≤ 4 → t = mxN (fun i => actT fq (E i) (df i) x fi se) i → J p l e (rmD 30 10 100) s m args below meth c G A s.heap 11 (vx_MQ below (va_Qi post (PB G A) A) (XX G A xp) args s (rmD 30 10 100).cells (rmD 30 10 100).slots A) L w 2 12 25 [some (.ref (ad 0)), some (.int x), some (.long fi), none, some (.long se), none, some (.int t), some (.ref (ad 1)), some (.int (nI 4)), some (.int (nI i)), none] [] := by
  obtain ⟨h0, hfa, hfq, hfb, hpl, hcf, hcp⟩ := id hcs
  intro f
  induction f using Nat.strongRecOn with
  | _ f ih =>
    intro i t hf hi0 ht0
    subst ht0
    refine j_iload (pc := 25) C dX4_judge_25 rfl ?_
    refine j_iload (pc := 27) C dX4_judge_27 rfl ?_
    refine j_icmp_ge (pc := 29) (tgt := 61) C dX4_judge_29 (by decide) (fun c29 => ?_) (fun c29 => ?_)
    · have c29 := nI_le_of (by decide) (by omega) (show nI 4 ≤ nI i from c29)
      refine j_iload (pc := 61) C dX4_judge_61 rfl ?_
      exact xret_i C rfl hr hlk dX4_judge_63 (hend _ (by rw [show i = 4 by omega])) (by decide) (by decide)
    · have c29 := nI_gt_of (by decide) (by omega) (show ¬ nI 4 ≤ nI i from c29)
      have hi : i < 4 := c29
      obtain ⟨ft, tc, cl, hF, hR, hC, hb⟩ := id (hcf i hi)
      have hc1 := hone
      obtain ⟨rfl, hT, hTc⟩ := hb hc1
      refine j_aload (pc := 32) C dX4_judge_32 rfl ?_
      refine j_iload (pc := 34) C dX4_judge_34 rfl ?_
      refine j_aldF (pc := 36) (v := .ref (ad (30 + 3 * i))) C hfa rfl hi (by decide) (far_at (by omega)) dX4_judge_36 ?_
      refine j_astore_10 (pc := 37) C dX4_judge_37 (by decide) rfl ?_
      refine j_iload (pc := 39) C dX4_judge_39 rfl ?_
      refine j_aload (pc := 41) C dX4_judge_41 rfl ?_
      refine j_iload_n (pc := 43) C rfl dX4_judge_43 rfl ?_
      refine j_lload_n (pc := 44) C rfl dX4_judge_44 rfl ?_
      refine j_lload (pc := 45) C dX4_judge_45 rfl ?_
      refine jV_i0 (pc := 47) (k2 := 2) (n2 := 12) (np := 3) (As := [.int x, .long fi, .long se]) C (ct_actionByTree hF hC hT x fi se) gX4_judge_X0_actionByTree rfl (by decide +kernel) ⟨by decide, by decide⟩ hF rfl rfl rfl (Nat.le_of_ble_eq_true rfl) dX4_judge_47 (by decide) (by decide) ⟨by decide, by decide⟩ (fun v hv => ?_)
      subst hv
      refine j_max (pc := 50) C (by decide +kernel) (by decide +kernel) (by decide +kernel) (by decide +kernel) (by decide) (by decide) (Nat.le_of_ble_eq_true rfl) (by decide) (by decide) dX4_judge_50 ?_
      refine j_istore_6 (pc := 53) C dX4_judge_53 (by decide) rfl ?_
      refine j_iinc_9 (pc := 55) (d := 1) C dX4_judge_55 (by decide) rfl rfl ?_
      refine j_lo (by rw [nI_1]) ?_
      refine j_goto (pc := 58) (tgt := 25) C dX4_judge_58 (by decide) ?_
      exact j_weak (lo2 := [some (.ref (ad 0)), some (.int x), some (.long fi), none, some (.long se), none, some (.int (mxN (fun i => actT fq (E i) (df i) x fi se) (i + 1))), some (.ref (ad 1)), some (.int (nI 4)), some (.int (nI (i + 1))), none]) ⟨rfl, rfl, rfl, rfl, rfl, rfl, rfl, rfl, trivial⟩ (ih (4 - (i + 1)) (by omega) (i + 1) _ rfl (by omega) rfl)

set_option maxRecDepth 100000 in
set_option maxHeartbeats 4000000 in
theorem jbr_loop {p : Program} {e : Env} {s : State} {m : MethodId} {args : Array Value} {below : List Frame} {meth : Method} {c : Code} {A : Nat → Prop} {xp : String → Sw → Prop} {post : Int32 → Sw → Prop} {l : Launch} {G : Gp} {L : List Nat} {w : Wn} {ad : Nat → Nat} {cp : Int32} {fq : Nat → Nat} {df : Nat → Int32} {E : Nat → EL} (hcs : CS G ad L w cp (cp = 1) fq df E) {x : Int32} {fi se : Int64} (hend : ∀ r, r = mxN (fun i => fAct x fi se (df i) (E i)) 4 → post r (L, w)) (C : Cx p s m args c cX4_judgeByRules yX4_judgeByRules.cls 11 wsX4_judgeByRules G A s.heap) (hr : meth.sig.returnType = (some .int)) (hlk : meth.locks = false) : ∀ (f i : Nat) (t : Int32), 4 - i = f → i ≤ 4 → t = mxN (fun i => fAct x fi se (df i) (E i)) i → J p l e (rmD 30 10 100) s m args below meth c G A s.heap 11 (vx_MQ below (va_Qi post (PB G A) A) (XX G A xp) args s (rmD 30 10 100).cells (rmD 30 10 100).slots A) L w 1 6 21 [some (.ref (ad 0)), some (.int x), some (.long fi), none, some (.long se), none, some (.int t), some (.ref (ad 1)), some (.int (nI 4)), some (.int (nI i)), none] [] := by
  obtain ⟨h0, hfa, hfq, hfb, hpl, hcf, hcp⟩ := id hcs
  intro f
  induction f using Nat.strongRecOn with
  | _ f ih =>
    intro i t hf hi0 ht0
    subst ht0
    refine j_iload (pc := 21) C dX4_judgeByRules_21 rfl ?_
    refine j_iload (pc := 23) C dX4_judgeByRules_23 rfl ?_
    refine j_icmp_ge (pc := 25) (tgt := 57) C dX4_judgeByRules_25 (by decide) (fun c25 => ?_) (fun c25 => ?_)
    · have c25 := nI_le_of (by decide) (by omega) (show nI 4 ≤ nI i from c25)
      refine j_iload (pc := 57) C dX4_judgeByRules_57 rfl ?_
      exact xret_i C rfl hr hlk dX4_judgeByRules_59 (hend _ (by rw [show i = 4 by omega])) (by decide) (by decide)
    · have c25 := nI_gt_of (by decide) (by omega) (show ¬ nI 4 ≤ nI i from c25)
      have hi : i < 4 := c25
      obtain ⟨ft, tc, cl, hF, hR, hC, hb⟩ := id (hcf i hi)
      refine j_aload (pc := 28) C dX4_judgeByRules_28 rfl ?_
      refine j_iload (pc := 30) C dX4_judgeByRules_30 rfl ?_
      refine j_aldF (pc := 32) (v := .ref (ad (30 + 3 * i))) C hfa rfl hi (by decide) (far_at (by omega)) dX4_judgeByRules_32 ?_
      refine j_astore_10 (pc := 33) C dX4_judgeByRules_33 (by decide) rfl ?_
      refine j_iload (pc := 35) C dX4_judgeByRules_35 rfl ?_
      refine j_aload (pc := 37) C dX4_judgeByRules_37 rfl ?_
      refine j_iload_n (pc := 39) C rfl dX4_judgeByRules_39 rfl ?_
      refine j_lload_n (pc := 40) C rfl dX4_judgeByRules_40 rfl ?_
      refine j_lload (pc := 41) C dX4_judgeByRules_41 rfl ?_
      refine jV_i0 (pc := 43) (k2 := 1) (n2 := 6) (np := 3) (As := [.int x, .long fi, .long se]) C (ct_actionByRules hF hR x fi se) gX4_judgeByRules_X0_actionByRules rfl (by decide +kernel) ⟨by decide, by decide⟩ hF rfl rfl rfl (Nat.le_of_ble_eq_true rfl) dX4_judgeByRules_43 (by decide) (by decide) ⟨by decide, by decide⟩ (fun v hv => ?_)
      subst hv
      refine j_max (pc := 46) C (by decide +kernel) (by decide +kernel) (by decide +kernel) (by decide +kernel) (by decide) (by decide) (Nat.le_of_ble_eq_true rfl) (by decide) (by decide) dX4_judgeByRules_46 ?_
      refine j_istore_6 (pc := 49) C dX4_judgeByRules_49 (by decide) rfl ?_
      refine j_iinc_9 (pc := 51) (d := 1) C dX4_judgeByRules_51 (by decide) rfl rfl ?_
      refine j_lo (by rw [nI_1]) ?_
      refine j_goto (pc := 54) (tgt := 21) C dX4_judgeByRules_54 (by decide) ?_
      exact j_weak (lo2 := [some (.ref (ad 0)), some (.int x), some (.long fi), none, some (.long se), none, some (.int (mxN (fun i => fAct x fi se (df i) (E i)) (i + 1))), some (.ref (ad 1)), some (.int (nI 4)), some (.int (nI (i + 1))), none]) ⟨rfl, rfl, rfl, rfl, rfl, rfl, rfl, rfl, trivial⟩ (ih (4 - (i + 1)) (by omega) (i + 1) _ rfl (by omega) rfl)

set_option maxRecDepth 100000 in
set_option maxHeartbeats 4000000 in
theorem path4_loop {p : Program} {e : Env} {s : State} {m : MethodId} {args : Array Value} {below : List Frame} {meth : Method} {c : Code} {A : Nat → Prop} {xp : String → Sw → Prop} {post : Int32 → Sw → Prop} {l : Launch} {G : Gp} {L : List Nat} {w : Wn} {ad : Nat → Nat} {cp : Int32} {fq : Nat → Nat} {df : Nat → Int32} {E : Nat → EL} (hcs : CS G ad L w cp (cp = 1) fq df E) (hone : cp = 1) {x : Int32} {fi se : Int64} (hend : ∀ r, r = smN (fun i => pthT fq (E i) x fi se) 4 → post r (L, w)) (C : Cx p s m args c cX4_path yX4_path.cls 11 wsX4_path G A s.heap) (hr : meth.sig.returnType = (some .int)) (hlk : meth.locks = false) : ∀ (f i : Nat) (t : Int32), 4 - i = f → i ≤ 4 → t = smN (fun i => pthT fq (E i) x fi se) i → J p l e (rmD 30 10 100) s m args below meth c G A s.heap 11 (vx_MQ below (va_Qi post (PB G A) A) (XX G A xp) args s (rmD 30 10 100).cells (rmD 30 10 100).slots A) L w 2 12 25 [some (.ref (ad 0)), some (.int x), some (.long fi), none, some (.long se), none, some (.int t), some (.ref (ad 1)), some (.int (nI 4)), some (.int (nI i)), none] [] := by
  obtain ⟨h0, hfa, hfq, hfb, hpl, hcf, hcp⟩ := id hcs
  intro f
  induction f using Nat.strongRecOn with
  | _ f ih =>
    intro i t hf hi0 ht0
    subst ht0
    refine j_iload (pc := 25) C dX4_path_25 rfl ?_
    refine j_iload (pc := 27) C dX4_path_27 rfl ?_
    refine j_icmp_ge (pc := 29) (tgt := 59) C dX4_path_29 (by decide) (fun c29 => ?_) (fun c29 => ?_)
    · have c29 := nI_le_of (by decide) (by omega) (show nI 4 ≤ nI i from c29)
      refine j_iload (pc := 59) C dX4_path_59 rfl ?_
      exact xret_i C rfl hr hlk dX4_path_61 (hend _ (by rw [show i = 4 by omega])) (by decide) (by decide)
    · have c29 := nI_gt_of (by decide) (by omega) (show ¬ nI 4 ≤ nI i from c29)
      have hi : i < 4 := c29
      obtain ⟨ft, tc, cl, hF, hR, hC, hb⟩ := id (hcf i hi)
      have hc1 := hone
      obtain ⟨rfl, hT, hTc⟩ := hb hc1
      refine j_aload (pc := 32) C dX4_path_32 rfl ?_
      refine j_iload (pc := 34) C dX4_path_34 rfl ?_
      refine j_aldF (pc := 36) (v := .ref (ad (30 + 3 * i))) C hfa rfl hi (by decide) (far_at (by omega)) dX4_path_36 ?_
      refine j_astore_10 (pc := 37) C dX4_path_37 (by decide) rfl ?_
      refine j_iload (pc := 39) C dX4_path_39 rfl ?_
      refine j_aload (pc := 41) C dX4_path_41 rfl ?_
      refine j_iload_n (pc := 43) C rfl dX4_path_43 rfl ?_
      refine j_lload_n (pc := 44) C rfl dX4_path_44 rfl ?_
      refine j_lload (pc := 45) C dX4_path_45 rfl ?_
      refine jV_i0 (pc := 47) (k2 := 2) (n2 := 12) (np := 3) (As := [.int x, .long fi, .long se]) C (ct_pathOf hF hC hT x fi se) gX4_path_X0_pathOf rfl (by decide +kernel) ⟨by decide, by decide⟩ hF rfl rfl rfl (Nat.le_of_ble_eq_true rfl) dX4_path_47 (by decide) (by decide) ⟨by decide, by decide⟩ (fun v hv => ?_)
      subst hv
      refine j_iadd (pc := 50) C dX4_path_50 ?_
      refine j_istore_6 (pc := 51) C dX4_path_51 (by decide) rfl ?_
      refine j_iinc_9 (pc := 53) (d := 1) C dX4_path_53 (by decide) rfl rfl ?_
      refine j_lo (by rw [nI_1]) ?_
      refine j_goto (pc := 56) (tgt := 25) C dX4_path_56 (by decide) ?_
      exact j_weak (lo2 := [some (.ref (ad 0)), some (.int x), some (.long fi), none, some (.long se), none, some (.int (smN (fun i => pthT fq (E i) x fi se) (i + 1))), some (.ref (ad 1)), some (.int (nI 4)), some (.int (nI (i + 1))), none]) ⟨rfl, rfl, rfl, rfl, rfl, rfl, rfl, rfl, trivial⟩ (ih (4 - (i + 1)) (by omega) (i + 1) _ rfl (by omega) rfl)

set_option maxRecDepth 100000 in
set_option maxHeartbeats 4000000 in
theorem ct_judge {l : Launch} {G : Gp} {L : List Nat} {w : Wn} (hlt : l.stackTraces = false) {ad : Nat → Nat} {cp : Int32} {fq : Nat → Nat} {df : Nat → Int32} {E : Nat → EL} (hcs : CS G ad L w cp (cp = 1) fq df E) (x : Int32) (fi se : Int64) : XI l yX4_judge wsX4_judge (rmD 30 10 100) G L w [.ref (ad 0), .int x, .long fi, .long se] (fun r u => vld x 32 ∧ cp = 1 ∧ r = mxN (fun i => actT fq (E i) (df i) x fi se) 4 ∧ u = (L, w)) (fun E9 u => (E9 = IAE ∧ ¬ vld x 32 ∧ u = (L, w)) ∨ (E9 = ISE ∧ vld x 32 ∧ ¬ cp = 1 ∧ u = (L, w))) := by
  refine mkx_i (cc := cX4_judge) (maxL := 11) [some (.ref (ad 0)), some (.int x), some (.long fi), none, some (.long se), none, none, none, none, none, none] (by decide) rfl (Nat.le_of_ble_eq_true rfl) rfl ?_
  intro p e s m args below meth c A C hr hlk hx0
  have hin_X4 : ∀ x ∈ u_ws RX4 TX4 4, x ∈ wsX4_judge := by decide +kernel
  obtain ⟨h0, hfa, hfq, hfb, hpl, hcf, hcp⟩ := id hcs
  refine j_iload_n (pc := 0) C rfl dX4_judge_0 rfl ?_
  refine jxS_v (pc := 1) (k2 := 1) (n2 := 6) (np := 1) (As := [.int x]) C (ct_reqNumber hlt x) gX4_judge_X4_requireNumber rfl (by decide +kernel) ⟨by decide, by decide⟩ rfl rfl (Nat.le_of_ble_eq_true rfl) dX4_judge_1 (by decide) (by decide) ⟨by decide, by decide⟩ (fun E9 L9 w9 h9 => (by obtain ⟨rfl, hn9, hu9⟩ := h9; cases hu9; exact jx_out C rfl hx0 hlk (Or.inl ⟨rfl, hn9, rfl⟩) (by decide) (by decide))) (fun L9 w9 hv => ?_)
  obtain ⟨hv, hu⟩ := hv
  cases hu
  refine j_aload_n (pc := 4) C rfl dX4_judge_4 rfl ?_
  refine jxV_v (pc := 5) (k2 := 2) (n2 := 12) (np := 0) (As := []) C (ct_reqCompiled hlt hcs) gX4_judge_X4_requireCompiled rfl (by decide +kernel) ⟨by decide, by decide⟩ h0 rfl rfl rfl (Nat.le_of_ble_eq_true rfl) dX4_judge_5 (by decide) (by decide) ⟨by decide, by decide⟩ (fun E9 L9 w9 h9 => (by obtain ⟨rfl, hn9, hu9⟩ := h9; cases hu9; exact jx_out C rfl hx0 hlk (Or.inr ⟨rfl, hv, hn9, rfl⟩) (by decide) (by decide))) (fun L9 w9 hv => ?_)
  obtain ⟨hc1, hu⟩ := hv
  cases hu
  refine j_iconst (pc := 8) (v := 0) C dX4_judge_8 (by decide) ?_
  refine j_istore_6 (pc := 9) C dX4_judge_9 (by decide) rfl ?_
  refine j_aload_n (pc := 11) C rfl dX4_judge_11 rfl ?_
  refine j_get (pc := 12) C hin_X4 h0 rfl 0 (by decide) (by decide +kernel) rfl dX4_judge_12 ?_
  refine j_astore_7 (pc := 15) C dX4_judge_15 (by decide) rfl ?_
  refine j_aload (pc := 17) C dX4_judge_17 rfl ?_
  refine j_alenF (pc := 19) C hfa dX4_judge_19 ?_
  refine j_istore_8 (pc := 20) C dX4_judge_20 (by decide) rfl ?_
  refine j_iconst (pc := 22) (v := 0) C dX4_judge_22 (by decide) ?_
  refine j_istore_9 (pc := 23) C dX4_judge_23 (by decide) rfl ?_
  exact judge_loop hcs hc1 (fun r h => ⟨hv, hc1, h, rfl⟩) C hr hlk 4 0 0 rfl (by decide) rfl

set_option maxRecDepth 100000 in
set_option maxHeartbeats 4000000 in
theorem ct_path {l : Launch} {G : Gp} {L : List Nat} {w : Wn} (hlt : l.stackTraces = false) {ad : Nat → Nat} {cp : Int32} {fq : Nat → Nat} {df : Nat → Int32} {E : Nat → EL} (hcs : CS G ad L w cp (cp = 1) fq df E) (x : Int32) (fi se : Int64) : XI l yX4_path wsX4_path (rmD 30 10 100) G L w [.ref (ad 0), .int x, .long fi, .long se] (fun r u => vld x 32 ∧ cp = 1 ∧ r = smN (fun i => pthT fq (E i) x fi se) 4 ∧ u = (L, w)) (fun E9 u => (E9 = IAE ∧ ¬ vld x 32 ∧ u = (L, w)) ∨ (E9 = ISE ∧ vld x 32 ∧ ¬ cp = 1 ∧ u = (L, w))) := by
  refine mkx_i (cc := cX4_path) (maxL := 11) [some (.ref (ad 0)), some (.int x), some (.long fi), none, some (.long se), none, none, none, none, none, none] (by decide) rfl (Nat.le_of_ble_eq_true rfl) rfl ?_
  intro p e s m args below meth c A C hr hlk hx0
  have hin_X4 : ∀ x ∈ u_ws RX4 TX4 4, x ∈ wsX4_path := by decide +kernel
  obtain ⟨h0, hfa, hfq, hfb, hpl, hcf, hcp⟩ := id hcs
  refine j_iload_n (pc := 0) C rfl dX4_path_0 rfl ?_
  refine jxS_v (pc := 1) (k2 := 1) (n2 := 6) (np := 1) (As := [.int x]) C (ct_reqNumber hlt x) gX4_path_X4_requireNumber rfl (by decide +kernel) ⟨by decide, by decide⟩ rfl rfl (Nat.le_of_ble_eq_true rfl) dX4_path_1 (by decide) (by decide) ⟨by decide, by decide⟩ (fun E9 L9 w9 h9 => (by obtain ⟨rfl, hn9, hu9⟩ := h9; cases hu9; exact jx_out C rfl hx0 hlk (Or.inl ⟨rfl, hn9, rfl⟩) (by decide) (by decide))) (fun L9 w9 hv => ?_)
  obtain ⟨hv, hu⟩ := hv
  cases hu
  refine j_aload_n (pc := 4) C rfl dX4_path_4 rfl ?_
  refine jxV_v (pc := 5) (k2 := 2) (n2 := 12) (np := 0) (As := []) C (ct_reqCompiled hlt hcs) gX4_path_X4_requireCompiled rfl (by decide +kernel) ⟨by decide, by decide⟩ h0 rfl rfl rfl (Nat.le_of_ble_eq_true rfl) dX4_path_5 (by decide) (by decide) ⟨by decide, by decide⟩ (fun E9 L9 w9 h9 => (by obtain ⟨rfl, hn9, hu9⟩ := h9; cases hu9; exact jx_out C rfl hx0 hlk (Or.inr ⟨rfl, hv, hn9, rfl⟩) (by decide) (by decide))) (fun L9 w9 hv => ?_)
  obtain ⟨hc1, hu⟩ := hv
  cases hu
  refine j_iconst (pc := 8) (v := 0) C dX4_path_8 (by decide) ?_
  refine j_istore_6 (pc := 9) C dX4_path_9 (by decide) rfl ?_
  refine j_aload_n (pc := 11) C rfl dX4_path_11 rfl ?_
  refine j_get (pc := 12) C hin_X4 h0 rfl 0 (by decide) (by decide +kernel) rfl dX4_path_12 ?_
  refine j_astore_7 (pc := 15) C dX4_path_15 (by decide) rfl ?_
  refine j_aload (pc := 17) C dX4_path_17 rfl ?_
  refine j_alenF (pc := 19) C hfa dX4_path_19 ?_
  refine j_istore_8 (pc := 20) C dX4_path_20 (by decide) rfl ?_
  refine j_iconst (pc := 22) (v := 0) C dX4_path_22 (by decide) ?_
  refine j_istore_9 (pc := 23) C dX4_path_23 (by decide) rfl ?_
  exact path4_loop hcs hc1 (fun r h => ⟨hv, hc1, h, rfl⟩) C hr hlk 4 0 0 rfl (by decide) rfl

set_option maxRecDepth 100000 in
set_option maxHeartbeats 4000000 in
theorem ct_judgeByRules {l : Launch} {G : Gp} {L : List Nat} {w : Wn} (hlt : l.stackTraces = false) {ad : Nat → Nat} {cp : Int32} {fq : Nat → Nat} {df : Nat → Int32} {E : Nat → EL} (hcs : CS G ad L w cp (cp = 1) fq df E) (x : Int32) (fi se : Int64) : XI l yX4_judgeByRules wsX4_judgeByRules (rmD 30 10 100) G L w [.ref (ad 0), .int x, .long fi, .long se] (fun r u => vld x 32 ∧ r = mxN (fun i => fAct x fi se (df i) (E i)) 4 ∧ u = (L, w)) (fun E9 u => E9 = IAE ∧ ¬ vld x 32 ∧ u = (L, w)) := by
  refine mkx_i (cc := cX4_judgeByRules) (maxL := 11) [some (.ref (ad 0)), some (.int x), some (.long fi), none, some (.long se), none, none, none, none, none, none] (by decide) rfl (Nat.le_of_ble_eq_true rfl) rfl ?_
  intro p e s m args below meth c A C hr hlk hx0
  have hin_X4 : ∀ x ∈ u_ws RX4 TX4 4, x ∈ wsX4_judgeByRules := by decide +kernel
  obtain ⟨h0, hfa, hfq, hfb, hpl, hcf, hcp⟩ := id hcs
  refine j_iload_n (pc := 0) C rfl dX4_judgeByRules_0 rfl ?_
  refine jxS_v (pc := 1) (k2 := 1) (n2 := 6) (np := 1) (As := [.int x]) C (ct_reqNumber hlt x) gX4_judgeByRules_X4_requireNumber rfl (by decide +kernel) ⟨by decide, by decide⟩ rfl rfl (Nat.le_of_ble_eq_true rfl) dX4_judgeByRules_1 (by decide) (by decide) ⟨by decide, by decide⟩ (fun E9 L9 w9 h9 => (by obtain ⟨rfl, hn9, hu9⟩ := h9; cases hu9; exact jx_out C rfl hx0 hlk (⟨rfl, hn9, rfl⟩) (by decide) (by decide))) (fun L9 w9 hv => ?_)
  obtain ⟨hv, hu⟩ := hv
  cases hu
  refine j_iconst (pc := 4) (v := 0) C dX4_judgeByRules_4 (by decide) ?_
  refine j_istore_6 (pc := 5) C dX4_judgeByRules_5 (by decide) rfl ?_
  refine j_aload_n (pc := 7) C rfl dX4_judgeByRules_7 rfl ?_
  refine j_get (pc := 8) C hin_X4 h0 rfl 0 (by decide) (by decide +kernel) rfl dX4_judgeByRules_8 ?_
  refine j_astore_7 (pc := 11) C dX4_judgeByRules_11 (by decide) rfl ?_
  refine j_aload (pc := 13) C dX4_judgeByRules_13 rfl ?_
  refine j_alenF (pc := 15) C hfa dX4_judgeByRules_15 ?_
  refine j_istore_8 (pc := 16) C dX4_judgeByRules_16 (by decide) rfl ?_
  refine j_iconst (pc := 18) (v := 0) C dX4_judgeByRules_18 (by decide) ?_
  refine j_istore_9 (pc := 19) C dX4_judgeByRules_19 (by decide) rfl ?_
  exact jbr_loop hcs (fun r h => ⟨hv, h, rfl⟩) C hr hlk 4 0 0 rfl (by decide) rfl

set_option maxRecDepth 100000 in
set_option maxHeartbeats 4000000 in
theorem wpa_loop {p : Program} {e : Env} {s : State} {m : MethodId} {args : Array Value} {below : List Frame} {meth : Method} {c : Code} {A : Nat → Prop} {post : Int32 → Sw → Prop} {l : Launch} {G : Gp} {L : List Nat} {w : Wn} {ad : Nat → Nat} {cp : Int32} {fq : Nat → Nat} {df : Nat → Int32} {E : Nat → EL} (hcs : CS G ad L w cp True fq df E) (hend : ∀ r, r = smN (fun j => wF fq (E j)) 4 → post r (L, w)) (C : Cx p s m args c cX4_worstPathOfAll yX4_worstPathOfAll.cls 6 wsX4_worstPathOfAll G A s.heap) (hr : meth.sig.returnType = (some .int)) (hlk : meth.locks = false) : ∀ (f i : Nat) (t : Int32), 4 - i = f → i ≤ 4 → t = smN (fun j => wF fq (E j)) i → J p l e (rmD 6 0 0) s m args below meth c G A s.heap 6 (MQ below (va_Qi post (PB G A) A) args s (rmD 6 0 0).cells (rmD 6 0 0).slots A) L w 0 0 13 [some (.ref (ad 0)), some (.int t), some (.ref (ad 1)), some (.int (nI 4)), some (.int (nI i)), none] [] := by
  obtain ⟨h0, hfa, hfq, hfb, hpl, hcf, hcp⟩ := id hcs
  intro f
  induction f using Nat.strongRecOn with
  | _ f ih =>
    intro i t hf hi0 ht0
    subst ht0
    refine j_iload (pc := 13) C dX4_worstPathOfAll_13 rfl ?_
    refine j_iload_n (pc := 15) C rfl dX4_worstPathOfAll_15 rfl ?_
    refine j_icmp_ge (pc := 16) (tgt := 39) C dX4_worstPathOfAll_16 (by decide) (fun c16 => ?_) (fun c16 => ?_)
    · have c16 := nI_le_of (by decide) (by omega) (show nI 4 ≤ nI i from c16)
      refine j_iload_n (pc := 39) C rfl dX4_worstPathOfAll_39 rfl ?_
      exact ret_i C rfl hr hlk dX4_worstPathOfAll_40 (hend _ (by rw [show i = 4 by omega])) (by decide) (by decide)
    · have c16 := nI_gt_of (by decide) (by omega) (show ¬ nI 4 ≤ nI i from c16)
      have hi : i < 4 := c16
      obtain ⟨ft, tc, cl, hF, hR, hC, hb⟩ := id (hcf i hi)
      obtain ⟨rfl, hT, hTc⟩ := hb trivial
      refine j_aload_n (pc := 19) C rfl dX4_worstPathOfAll_19 rfl ?_
      refine j_iload (pc := 20) C dX4_worstPathOfAll_20 rfl ?_
      refine j_aldF (pc := 22) (v := .ref (ad (30 + 3 * i))) C hfa rfl hi (by decide) (far_at (by omega)) dX4_worstPathOfAll_22 ?_
      refine j_astore_5 (pc := 23) C dX4_worstPathOfAll_23 (by decide) rfl ?_
      refine j_iload_n (pc := 25) C rfl dX4_worstPathOfAll_25 rfl ?_
      refine j_aload (pc := 26) C dX4_worstPathOfAll_26 rfl ?_
      refine jV_i0 (pc := 28) (k2 := 0) (n2 := 0) (np := 0) (As := []) C (ct_worstPath hF hC hT) gX4_worstPathOfAll_X0_worstPath rfl (by decide +kernel) ⟨by decide, by decide⟩ hF rfl rfl rfl (Nat.le_of_ble_eq_true rfl) dX4_worstPathOfAll_28 (by decide) (by decide) ⟨by decide, by decide⟩ (fun v hv => ?_)
      subst hv
      refine j_iadd (pc := 31) C dX4_worstPathOfAll_31 ?_
      refine j_istore_1 (pc := 32) C dX4_worstPathOfAll_32 (by decide) rfl ?_
      refine j_iinc_4 (pc := 33) (d := 1) C dX4_worstPathOfAll_33 (by decide) rfl rfl ?_
      refine j_lo (by rw [nI_1]) ?_
      refine j_goto (pc := 36) (tgt := 13) C dX4_worstPathOfAll_36 (by decide) ?_
      exact j_weak (lo2 := [some (.ref (ad 0)), some (.int (smN (fun j => wF fq (E j)) (i + 1))), some (.ref (ad 1)), some (.int (nI 4)), some (.int (nI (i + 1))), none]) ⟨rfl, rfl, rfl, rfl, rfl, trivial⟩ (ih (4 - (i + 1)) (by omega) (i + 1) _ rfl (by omega) rfl)

set_option maxRecDepth 100000 in
set_option maxHeartbeats 4000000 in
theorem ct_wpa {l : Launch} {G : Gp} {L : List Nat} {w : Wn} {ad : Nat → Nat} {cp : Int32} {fq : Nat → Nat} {df : Nat → Int32} {E : Nat → EL} (hcs : CS G ad L w cp True fq df E) : CI l yX4_worstPathOfAll wsX4_worstPathOfAll (rmD 6 0 0) G L w [.ref (ad 0)] (fun r u => r = smN (fun j => wF fq (E j)) 4 ∧ u = (L, w)) := by
  refine mk_i (cc := cX4_worstPathOfAll) (maxL := 6) [some (.ref (ad 0)), none, none, none, none, none] (by decide) rfl (Nat.le_of_ble_eq_true rfl) rfl ?_
  intro p e s m args below meth c A C hr hlk hnm
  have hin_X4 : ∀ x ∈ u_ws RX4 TX4 4, x ∈ wsX4_worstPathOfAll := by decide +kernel
  obtain ⟨h0, hfa, hfq, hfb, hpl, hcf, hcp⟩ := id hcs
  refine j_iconst (pc := 0) (v := 0) C dX4_worstPathOfAll_0 (by decide) ?_
  refine j_istore_1 (pc := 1) C dX4_worstPathOfAll_1 (by decide) rfl ?_
  refine j_aload_n (pc := 2) C rfl dX4_worstPathOfAll_2 rfl ?_
  refine j_get (pc := 3) C hin_X4 h0 rfl 0 (by decide) (by decide +kernel) rfl dX4_worstPathOfAll_3 ?_
  refine j_astore_2 (pc := 6) C dX4_worstPathOfAll_6 (by decide) rfl ?_
  refine j_aload_n (pc := 7) C rfl dX4_worstPathOfAll_7 rfl ?_
  refine j_alenF (pc := 8) C hfa dX4_worstPathOfAll_8 ?_
  refine j_istore_3 (pc := 9) C dX4_worstPathOfAll_9 (by decide) rfl ?_
  refine j_iconst (pc := 10) (v := 0) C dX4_worstPathOfAll_10 (by decide) ?_
  refine j_istore_4 (pc := 11) C dX4_worstPathOfAll_11 (by decide) rfl ?_
  exact wpa_loop hcs (fun r h => ⟨h, rfl⟩) C hr hlk 4 0 0 rfl (by decide) rfl

theorem CSF.weak {G : Gp} {ad : Nat → Nat} {L : List Nat} {w : Wn} {b b2 : Prop} {fq : Nat → Nat} {j : Nat} {df : Int32} {el : EL} (h : CSF G ad L w b fq j df el) (hb : b2 → b) : CSF G ad L w b2 fq j df el := by
  obtain ⟨ft, tc, cl, g1, g2, g3, g4⟩ := h
  exact ⟨ft, tc, cl, g1, g2, g3, fun z => g4 (hb z)⟩
theorem CS.weak {G : Gp} {ad : Nat → Nat} {L : List Nat} {w : Wn} {cp : Int32} {b b2 : Prop} {fq : Nat → Nat} {df : Nat → Int32} {E : Nat → EL} (h : CS G ad L w cp b fq df E) (hb : b2 → b) : CS G ad L w cp b2 fq df E := ⟨h.1, h.2.1, h.2.2.1, h.2.2.2.1, h.2.2.2.2.1, fun j hj => (h.2.2.2.2.2.1 j hj).weak hb, h.2.2.2.2.2.2⟩
theorem frT_C {i : Nat} (hi : i < 4) {L L2 : List Nat} {w w2 : Wn} (h : FrT (30 + 3 * i) (32 + 3 * i) L w L2 w2) : FrC L w L2 w2 := h.mono (fun m z => by unfold MC; omega) (fun m z => by unfold NC; omega)
def CSi (G : Gp) (ad : Nat → Nat) (L : List Nat) (w : Wn) (cp : Int32) (i : Nat) (fq : Nat → Nat) (df : Nat → Int32) (E : Nat → EL) : Prop :=
  Hs L w 0 (ad 0) (sysE ad cp) ∧ Hs L w 1 (ad 1) (farE G ad) ∧ Hs L w 2 (ad 2) (iarE G 32 (fun i => nI (fq i))) ∧ (∀ i, fq i ≤ 1000) ∧ (∃ sz nu we co fp, PL G ad L w sz nu we co fp ∧ PZ co) ∧ (∀ j, j < 4 → CSF G ad L w (j < i) fq j (df j) (E j)) ∧ (cp = 0 ∨ cp = 1)
set_option maxRecDepth 100000 in
set_option maxHeartbeats 4000000 in
theorem plan_loop {p : Program} {e : Env} {s : State} {m : MethodId} {args : Array Value} {below : List Frame} {meth : Method} {c : Code} {A : Nat → Prop} {post : Sw → Prop} {l : Launch} {G : Gp} {ad : Nat → Nat} {cp : Int32} {fq : Nat → Nat} {df : Nat → Int32} {E : Nat → EL} (C : Cx p s m args c cX4_planTrees yX4_planTrees.cls 5 wsX4_planTrees G A s.heap) (hr : meth.sig.returnType = none) (hlk : meth.locks = false) : ∀ (f i : Nat) (L : List Nat) (w : Wn), 4 - i = f → i ≤ 4 → CSi G ad L w cp i fq df E → (∀ (L2 : List Nat) (w2 : Wn), CS G ad L2 w2 cp True fq df E → FrC L w L2 w2 → post (L2, w2)) → J p l e (rmD 18 80 560) s m args below meth c G A s.heap 5 (MQ below (va_Qv post (PB G A) A) args s (rmD 18 80 560).cells (rmD 18 80 560).slots A) L w (20 * i) (140 * i) 10 [some (.ref (ad 0)), some (.ref (ad 1)), some (.int (nI 4)), some (.int (nI i)), none] [] := by
  have hin_X4 : ∀ x ∈ u_ws RX4 TX4 4, x ∈ wsX4_planTrees := by decide +kernel
  intro f
  induction f using Nat.strongRecOn with
  | _ f ih =>
    intro i L w hf hi0 hcs hend
    obtain ⟨h0, hfa, hfq, hfb, hpl, hcf, hcp⟩ := id hcs
    obtain ⟨sz, nu, we, co, fp, hp, hz⟩ := id hpl
    refine j_iload_n (pc := 10) C rfl dX4_planTrees_10 rfl ?_
    refine j_iload_n (pc := 11) C rfl dX4_planTrees_11 rfl ?_
    refine j_icmp_ge (pc := 12) (tgt := 39) C dX4_planTrees_12 (by decide) (fun c12 => ?_) (fun c12 => ?_)
    · have c12 := nI_le_of (by decide) (by omega) (show nI 4 ≤ nI i from c12)
      exact ret_v C rfl hr hlk dX4_planTrees_39 (hend L w ⟨h0, hfa, hfq, hfb, hpl, fun j hj => (hcf j hj).weak (fun _ => by omega), hcp⟩ Fr.rf) (by show 20 * i ≤ 80; omega) (by show 140 * i ≤ 560; omega)
    · have c12 := nI_gt_of (by decide) (by omega) (show ¬ nI 4 ≤ nI i from c12)
      have hi : i < 4 := c12
      obtain ⟨ft, tc, cl, hF, hR, hC, hb⟩ := id (hcf i hi)
      refine j_aload_n (pc := 15) C rfl dX4_planTrees_15 rfl ?_
      refine j_iload_n (pc := 16) C rfl dX4_planTrees_16 rfl ?_
      refine j_aldF (pc := 17) (v := .ref (ad (30 + 3 * i))) C hfa rfl hi (by decide) (far_at (by omega)) dX4_planTrees_17 ?_
      refine j_astore_4 (pc := 18) C dX4_planTrees_18 (by decide) rfl ?_
      refine j_aload (pc := 20) C dX4_planTrees_20 rfl ?_
      refine j_aload_n (pc := 22) C rfl dX4_planTrees_22 rfl ?_
      refine j_get (pc := 23) C hin_X4 h0 rfl 2 (by decide) (by decide +kernel) rfl dX4_planTrees_23 ?_
      refine j_aload_n (pc := 26) C rfl dX4_planTrees_26 rfl ?_
      refine j_get (pc := 27) C hin_X4 h0 rfl 1 (by decide) (by decide +kernel) rfl dX4_planTrees_27 ?_
      refine jV_v (pc := 30) (k2 := (20 * (i + 1))) (n2 := (140 * (i + 1))) (np := 2) (As := [.ref (ad 3), .ref (ad 2)]) C (ct_planTree hF hR hC hp hz hfb hfq ⟨by omega, by omega⟩ ⟨by omega, by omega⟩ ⟨by omega, by omega⟩ (by omega) (by omega) (by omega)) gX4_planTrees_X0_planTree rfl (by decide +kernel) ⟨by decide, by decide⟩ hF rfl rfl rfl (Nat.le_of_ble_eq_true rfl) dX4_planTrees_30 (by show 20 * i + 20 ≤ _; omega) (by show 140 * i + 140 ≤ _; omega) ⟨by show 20 * (i + 1) ≤ 80; omega, by show 140 * (i + 1) ≤ 560; omega⟩ (fun L2 w2 hu => ?_)
      obtain ⟨ft2, tc2, sz2, nu2, we2, co2, fp2, g1, g2, g3, g4, g5, g6, g7, g8⟩ := hu
      dsimp only at g1 g2 g3 g4 g6 g8
      refine j_iinc_3 (pc := 33) (d := 1) C dX4_planTrees_33 (by decide) rfl rfl ?_
      refine j_lo (by rw [nI_1]) ?_
      refine j_goto (pc := 36) (tgt := 10) C dX4_planTrees_36 (by decide) ?_
      refine j_weak (by simp [lw1]) (ih (4 - (i + 1)) (by omega) (i + 1) L2 w2 rfl (by omega) ⟨g8.hs h0 (by omega), g8.hs hfa (by omega), g8.hs hfq (by omega), hfb, ⟨sz2, nu2, we2, co2, fp2, g6, g7⟩, fun j hj => ?_, hcp⟩ (fun L3 w3 k1 k2 => hend L3 w3 k1 ((frT_C hi g8).tr k2)))
      by_cases e : j = i
      · subst e; exact ⟨ft2, tc2, _, g1, g2, g3, fun _ => ⟨rfl, g4, g5⟩⟩
      · exact ((hcf j hj).fr hj g8 (fun m z1 z2 z => by omega) (fun m z1 z2 => ⟨fun z => by omega, fun z => by omega⟩) (fun m z1 _ z => by omega)).weak (fun z => by omega)

set_option maxRecDepth 100000 in
set_option maxHeartbeats 4000000 in
theorem ct_planTrees {l : Launch} {G : Gp} {L : List Nat} {w : Wn} {ad : Nat → Nat} {cp : Int32} {fq : Nat → Nat} {df : Nat → Int32} {E : Nat → EL} (hcs : CS G ad L w cp (cp = 1) fq df E) : CV l yX4_planTrees wsX4_planTrees (rmD 18 80 560) G L w [.ref (ad 0)] (fun u => CS G ad u.1 u.2 cp True fq df E ∧ FrC L w u.1 u.2) := by
  refine mk_v (cc := cX4_planTrees) (maxL := 5) [some (.ref (ad 0)), none, none, none, none] (by decide) rfl (Nat.le_of_ble_eq_true rfl) rfl ?_
  intro p e s m args below meth c A C hr hlk hnm
  have hin_X4 : ∀ x ∈ u_ws RX4 TX4 4, x ∈ wsX4_planTrees := by decide +kernel
  obtain ⟨h0, hfa, hfq, hfb, hpl, hcf, hcp⟩ := id hcs
  refine j_aload_n (pc := 0) C rfl dX4_planTrees_0 rfl ?_
  refine j_get (pc := 1) C hin_X4 h0 rfl 0 (by decide) (by decide +kernel) rfl dX4_planTrees_1 ?_
  refine j_astore_1 (pc := 4) C dX4_planTrees_4 (by decide) rfl ?_
  refine j_aload_n (pc := 5) C rfl dX4_planTrees_5 rfl ?_
  refine j_alenF (pc := 6) C hfa dX4_planTrees_6 ?_
  refine j_istore_2 (pc := 7) C dX4_planTrees_7 (by decide) rfl ?_
  refine j_iconst (pc := 8) (v := 0) C dX4_planTrees_8 (by decide) ?_
  refine j_istore_3 (pc := 9) C dX4_planTrees_9 (by decide) rfl ?_
  exact plan_loop C hr hlk 4 0 L w rfl (by decide) ⟨h0, hfa, hfq, hfb, hpl, fun j hj => (hcf j hj).weak (fun z => absurd z (Nat.not_lt_zero j)), hcp⟩ (fun L2 w2 k1 k2 => ⟨k1, k2⟩)

