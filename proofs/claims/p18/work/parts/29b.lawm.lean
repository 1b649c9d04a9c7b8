/-! THE LAW'S OWN CALLS: what is thrown is told by a number -/
set_option maxRecDepth 100000 in
set_option maxHeartbeats 4000000 in
theorem ct_L_add {l : Launch} {G : Gp} {L : List Nat} {w : Wn} {q0 a : Nat} {fs : List Value} {PP : Int32 → Sw → Prop} {XP : String → Sw → Prop} {p0 p1 p2 p5 : Int32} {p3 p4 : Int64} (h0 : Hs L w q0 a (.inr (5, fs))) (hx : XI l yX4_add wsX4_add (rmD 30 100 1000) G L w [.ref a, .int p0, .int p1, .int p2, .long p3, .long p4, .int p5] PP XP) (hX : ∀ E9 u, XP E9 u → E9 = IAE ∨ E9 = ISE) : CI l yL_add wsL_add (rmD 31 100 1000) G L w [.ref a, .int p0, .int p1, .int p2, .long p3, .long p4, .int p5] (fun r u => PP r u ∨ (r = -99999 ∧ XP IAE u) ∨ (r = -99999 ∧ XP ISE u)) := by
  refine mk_iH (cc := cL_add) (maxL := 10) [some (.ref a), some (.int p0), some (.int p1), some (.int p2), some (.long p3), none, some (.long p4), none, some (.int p5), none] (by decide) rfl (Nat.le_of_ble_eq_true rfl) rfl ?_
  intro p e s m args below meth c A C hr hlk htb
  refine j_aload_n (pc := 0) C rfl dL_add_0 rfl ?_
  refine j_iload_n (pc := 1) C rfl dL_add_1 rfl ?_
  refine j_iload_n (pc := 2) C rfl dL_add_2 rfl ?_
  refine j_iload_n (pc := 3) C rfl dL_add_3 rfl ?_
  refine j_lload (pc := 4) C dL_add_4 rfl ?_
  refine j_lload (pc := 6) C dL_add_6 rfl ?_
  refine j_iload (pc := 8) C dL_add_8 rfl ?_
  refine jxV_i (pc := 10) (k2 := 100) (n2 := 1000) (np := 6) (As := [.int p0, .int p1, .int p2, .long p3, .long p4, .int p5]) C hx gL_add_X4_add rfl (by decide +kernel) ⟨by decide, by decide⟩ h0 rfl rfl rfl (Nat.le_of_ble_eq_true rfl) dL_add_10 (by decide) (by decide) ⟨by decide, by decide⟩ (fun E9 L9 w9 h9 => ?_) (fun v L2 w2 hu => ?_)
  · rcases hX _ _ h9 with rfl | rfl
    · refine jx_catch C [] ⟨0, 13, 14, 22⟩ [⟨0, 13, 19, 25⟩] htb (fun z hz => by cases hz) (by decide) (by decide) (by decide +kernel) (by decide +kernel) (fun q9 => ?_)
      refine j_astore_9 (pc := 14) C dL_add_14 (by decide) rfl ?_
      refine j_ldc (pc := 16) (v := (-99999)) C dL_add_16 (by decide +kernel) ?_
      exact ret_i C rfl hr hlk dL_add_18 (Or.inr (Or.inl ⟨rfl, h9⟩)) (by decide) (by decide)
    · refine jx_catch C [⟨0, 13, 14, 22⟩] ⟨0, 13, 19, 25⟩ [] htb (fun z hz => Or.inr (by rw [List.mem_singleton.mp hz]; exact ⟨by decide, IAE, by decide +kernel, by decide⟩)) (by decide) (by decide) (by decide +kernel) (by decide +kernel) (fun q9 => ?_)
      refine j_astore_9 (pc := 19) C dL_add_19 (by decide) rfl ?_
      refine j_ldc (pc := 21) (v := (-99999)) C dL_add_21 (by decide +kernel) ?_
      exact ret_i C rfl hr hlk dL_add_23 (Or.inr (Or.inr ⟨rfl, h9⟩)) (by decide) (by decide)
  exact ret_i C rfl hr hlk dL_add_13 (Or.inl hu) (by decide) (by decide)

set_option maxRecDepth 100000 in
set_option maxHeartbeats 4000000 in
theorem ct_L_remove {l : Launch} {G : Gp} {L : List Nat} {w : Wn} {q0 a : Nat} {fs : List Value} {PP : Int32 → Sw → Prop} {XP : String → Sw → Prop} {p0 p1 : Int32} (h0 : Hs L w q0 a (.inr (5, fs))) (hx : XI l yX4_remove wsX4_remove (rmD 30 100 1000) G L w [.ref a, .int p0, .int p1] PP XP) (hX : ∀ E9 u, XP E9 u → E9 = IAE ∨ E9 = IOE) : CI l yL_remove wsL_remove (rmD 31 100 1000) G L w [.ref a, .int p0, .int p1] (fun r u => PP r u ∨ (r = -99999 ∧ XP IAE u) ∨ (r = -99999 ∧ XP IOE u)) := by
  refine mk_iH (cc := cL_remove) (maxL := 4) [some (.ref a), some (.int p0), some (.int p1), none] (by decide) rfl (Nat.le_of_ble_eq_true rfl) rfl ?_
  intro p e s m args below meth c A C hr hlk htb
  refine j_aload_n (pc := 0) C rfl dL_remove_0 rfl ?_
  refine j_iload_n (pc := 1) C rfl dL_remove_1 rfl ?_
  refine j_iload_n (pc := 2) C rfl dL_remove_2 rfl ?_
  refine jxV_i (pc := 3) (k2 := 100) (n2 := 1000) (np := 2) (As := [.int p0, .int p1]) C hx gL_remove_X4_remove rfl (by decide +kernel) ⟨by decide, by decide⟩ h0 rfl rfl rfl (Nat.le_of_ble_eq_true rfl) dL_remove_3 (by decide) (by decide) ⟨by decide, by decide⟩ (fun E9 L9 w9 h9 => ?_) (fun v L2 w2 hu => ?_)
  · rcases hX _ _ h9 with rfl | rfl
    · refine jx_catch C [] ⟨0, 6, 7, 22⟩ [⟨0, 6, 11, 30⟩] htb (fun z hz => by cases hz) (by decide) (by decide) (by decide +kernel) (by decide +kernel) (fun q9 => ?_)
      refine j_astore_3 (pc := 7) C dL_remove_7 (by decide) rfl ?_
      refine j_ldc (pc := 8) (v := (-99999)) C dL_remove_8 (by decide +kernel) ?_
      exact ret_i C rfl hr hlk dL_remove_10 (Or.inr (Or.inl ⟨rfl, h9⟩)) (by decide) (by decide)
    · refine jx_catch C [⟨0, 6, 7, 22⟩] ⟨0, 6, 11, 30⟩ [] htb (fun z hz => Or.inr (by rw [List.mem_singleton.mp hz]; exact ⟨by decide, IAE, by decide +kernel, by decide⟩)) (by decide) (by decide) (by decide +kernel) (by decide +kernel) (fun q9 => ?_)
      refine j_astore_3 (pc := 11) C dL_remove_11 (by decide) rfl ?_
      refine j_ldc (pc := 12) (v := (-99999)) C dL_remove_12 (by decide +kernel) ?_
      exact ret_i C rfl hr hlk dL_remove_14 (Or.inr (Or.inr ⟨rfl, h9⟩)) (by decide) (by decide)
  exact ret_i C rfl hr hlk dL_remove_6 (Or.inl hu) (by decide) (by decide)

set_option maxRecDepth 100000 in
set_option maxHeartbeats 4000000 in
theorem ct_L_setDefault {l : Launch} {G : Gp} {L : List Nat} {w : Wn} {q0 a : Nat} {fs : List Value} {PP : Int32 → Sw → Prop} {XP : String → Sw → Prop} {p0 p1 : Int32} (h0 : Hs L w q0 a (.inr (5, fs))) (hx : XI l yX4_setDefault wsX4_setDefault (rmD 30 100 1000) G L w [.ref a, .int p0, .int p1] PP XP) (hX : ∀ E9 u, XP E9 u → E9 = IAE) : CI l yL_setDefault wsL_setDefault (rmD 31 100 1000) G L w [.ref a, .int p0, .int p1] (fun r u => PP r u ∨ (r = -99999 ∧ XP IAE u) ∨ (r = 0 ∧ False)) := by
  refine mk_iH (cc := cL_setDefault) (maxL := 4) [some (.ref a), some (.int p0), some (.int p1), none] (by decide) rfl (Nat.le_of_ble_eq_true rfl) rfl ?_
  intro p e s m args below meth c A C hr hlk htb
  refine j_aload_n (pc := 0) C rfl dL_setDefault_0 rfl ?_
  refine j_iload_n (pc := 1) C rfl dL_setDefault_1 rfl ?_
  refine j_iload_n (pc := 2) C rfl dL_setDefault_2 rfl ?_
  refine jxV_i (pc := 3) (k2 := 100) (n2 := 1000) (np := 2) (As := [.int p0, .int p1]) C hx gL_setDefault_X4_setDefault rfl (by decide +kernel) ⟨by decide, by decide⟩ h0 rfl rfl rfl (Nat.le_of_ble_eq_true rfl) dL_setDefault_3 (by decide) (by decide) ⟨by decide, by decide⟩ (fun E9 L9 w9 h9 => ?_) (fun v L2 w2 hu => ?_)
  · cases hX _ _ h9
    refine jx_catch C [] ⟨0, 6, 7, 22⟩ [] htb (fun z hz => by cases hz) (by decide) (by decide) (by decide +kernel) (by decide +kernel) (fun q9 => ?_)
    refine j_astore_3 (pc := 7) C dL_setDefault_7 (by decide) rfl ?_
    refine j_ldc (pc := 8) (v := (-99999)) C dL_setDefault_8 (by decide +kernel) ?_
    exact ret_i C rfl hr hlk dL_setDefault_10 (Or.inr (Or.inl ⟨rfl, h9⟩)) (by decide) (by decide)
  exact ret_i C rfl hr hlk dL_setDefault_6 (Or.inl hu) (by decide) (by decide)

set_option maxRecDepth 100000 in
set_option maxHeartbeats 4000000 in
theorem ct_L_setFrequency {l : Launch} {G : Gp} {L : List Nat} {w : Wn} {q0 a : Nat} {fs : List Value} {PP : Int32 → Sw → Prop} {XP : String → Sw → Prop} {p0 p1 : Int32} (h0 : Hs L w q0 a (.inr (5, fs))) (hx : XI l yX4_setFrequency wsX4_setFrequency (rmD 30 100 1000) G L w [.ref a, .int p0, .int p1] PP XP) (hX : ∀ E9 u, XP E9 u → E9 = IAE) : CI l yL_setFrequency wsL_setFrequency (rmD 31 100 1000) G L w [.ref a, .int p0, .int p1] (fun r u => PP r u ∨ (r = -99999 ∧ XP IAE u) ∨ (r = 0 ∧ False)) := by
  refine mk_iH (cc := cL_setFrequency) (maxL := 4) [some (.ref a), some (.int p0), some (.int p1), none] (by decide) rfl (Nat.le_of_ble_eq_true rfl) rfl ?_
  intro p e s m args below meth c A C hr hlk htb
  refine j_aload_n (pc := 0) C rfl dL_setFrequency_0 rfl ?_
  refine j_iload_n (pc := 1) C rfl dL_setFrequency_1 rfl ?_
  refine j_iload_n (pc := 2) C rfl dL_setFrequency_2 rfl ?_
  refine jxV_i (pc := 3) (k2 := 100) (n2 := 1000) (np := 2) (As := [.int p0, .int p1]) C hx gL_setFrequency_X4_setFrequency rfl (by decide +kernel) ⟨by decide, by decide⟩ h0 rfl rfl rfl (Nat.le_of_ble_eq_true rfl) dL_setFrequency_3 (by decide) (by decide) ⟨by decide, by decide⟩ (fun E9 L9 w9 h9 => ?_) (fun v L2 w2 hu => ?_)
  · cases hX _ _ h9
    refine jx_catch C [] ⟨0, 6, 7, 22⟩ [] htb (fun z hz => by cases hz) (by decide) (by decide) (by decide +kernel) (by decide +kernel) (fun q9 => ?_)
    refine j_astore_3 (pc := 7) C dL_setFrequency_7 (by decide) rfl ?_
    refine j_ldc (pc := 8) (v := (-99999)) C dL_setFrequency_8 (by decide +kernel) ?_
    exact ret_i C rfl hr hlk dL_setFrequency_10 (Or.inr (Or.inl ⟨rfl, h9⟩)) (by decide) (by decide)
  exact ret_i C rfl hr hlk dL_setFrequency_6 (Or.inl hu) (by decide) (by decide)

set_option maxRecDepth 100000 in
set_option maxHeartbeats 4000000 in
theorem ct_L_compile {l : Launch} {G : Gp} {L : List Nat} {w : Wn} {q0 a : Nat} {fs : List Value} {PP : Int32 → Sw → Prop} {XP : String → Sw → Prop} {p0 : Int32} (h0 : Hs L w q0 a (.inr (5, fs))) (hx : XI l yX4_compile wsX4_compile (rmD 30 100 1000) G L w [.ref a, .int p0] PP XP) (hX : ∀ E9 u, XP E9 u → E9 = IAE) : CI l yL_compile wsL_compile (rmD 31 100 1000) G L w [.ref a, .int p0] (fun r u => PP r u ∨ (r = -99999 ∧ XP IAE u) ∨ (r = 0 ∧ False)) := by
  refine mk_iH (cc := cL_compile) (maxL := 3) [some (.ref a), some (.int p0), none] (by decide) rfl (Nat.le_of_ble_eq_true rfl) rfl ?_
  intro p e s m args below meth c A C hr hlk htb
  refine j_aload_n (pc := 0) C rfl dL_compile_0 rfl ?_
  refine j_iload_n (pc := 1) C rfl dL_compile_1 rfl ?_
  refine jxV_i (pc := 2) (k2 := 100) (n2 := 1000) (np := 1) (As := [.int p0]) C hx gL_compile_X4_compile rfl (by decide +kernel) ⟨by decide, by decide⟩ h0 rfl rfl rfl (Nat.le_of_ble_eq_true rfl) dL_compile_2 (by decide) (by decide) ⟨by decide, by decide⟩ (fun E9 L9 w9 h9 => ?_) (fun v L2 w2 hu => ?_)
  · cases hX _ _ h9
    refine jx_catch C [] ⟨0, 5, 6, 22⟩ [] htb (fun z hz => by cases hz) (by decide) (by decide) (by decide +kernel) (by decide +kernel) (fun q9 => ?_)
    refine j_astore_2 (pc := 6) C dL_compile_6 (by decide) rfl ?_
    refine j_ldc (pc := 7) (v := (-99999)) C dL_compile_7 (by decide +kernel) ?_
    exact ret_i C rfl hr hlk dL_compile_9 (Or.inr (Or.inl ⟨rfl, h9⟩)) (by decide) (by decide)
  exact ret_i C rfl hr hlk dL_compile_5 (Or.inl hu) (by decide) (by decide)

set_option maxRecDepth 100000 in
set_option maxHeartbeats 4000000 in
theorem ct_L_judge {l : Launch} {G : Gp} {L : List Nat} {w : Wn} {q0 a : Nat} {fs : List Value} {PP : Int32 → Sw → Prop} {XP : String → Sw → Prop} {p0 : Int32} {p1 p2 : Int64} (h0 : Hs L w q0 a (.inr (5, fs))) (hx : XI l yX4_judge wsX4_judge (rmD 30 10 100) G L w [.ref a, .int p0, .long p1, .long p2] PP XP) (hX : ∀ E9 u, XP E9 u → E9 = IAE ∨ E9 = ISE) : CI l yL_judge wsL_judge (rmD 31 10 100) G L w [.ref a, .int p0, .long p1, .long p2] (fun r u => PP r u ∨ (r = -99999 ∧ XP IAE u) ∨ (r = -1 ∧ XP ISE u)) := by
  refine mk_iH (cc := cL_judge) (maxL := 7) [some (.ref a), some (.int p0), some (.long p1), none, some (.long p2), none, none] (by decide) rfl (Nat.le_of_ble_eq_true rfl) rfl ?_
  intro p e s m args below meth c A C hr hlk htb
  refine j_aload_n (pc := 0) C rfl dL_judge_0 rfl ?_
  refine j_iload_n (pc := 1) C rfl dL_judge_1 rfl ?_
  refine j_lload_n (pc := 2) C rfl dL_judge_2 rfl ?_
  refine j_lload (pc := 3) C dL_judge_3 rfl ?_
  refine jxV_i (pc := 5) (k2 := 10) (n2 := 100) (np := 3) (As := [.int p0, .long p1, .long p2]) C hx gL_judge_X4_judge rfl (by decide +kernel) ⟨by decide, by decide⟩ h0 rfl rfl rfl (Nat.le_of_ble_eq_true rfl) dL_judge_5 (by decide) (by decide) ⟨by decide, by decide⟩ (fun E9 L9 w9 h9 => ?_) (fun v L2 w2 hu => ?_)
  · rcases hX _ _ h9 with rfl | rfl
    · refine jx_catch C [] ⟨0, 8, 9, 22⟩ [⟨0, 8, 14, 25⟩] htb (fun z hz => by cases hz) (by decide) (by decide) (by decide +kernel) (by decide +kernel) (fun q9 => ?_)
      refine j_astore_6 (pc := 9) C dL_judge_9 (by decide) rfl ?_
      refine j_ldc (pc := 11) (v := (-99999)) C dL_judge_11 (by decide +kernel) ?_
      exact ret_i C rfl hr hlk dL_judge_13 (Or.inr (Or.inl ⟨rfl, h9⟩)) (by decide) (by decide)
    · refine jx_catch C [⟨0, 8, 9, 22⟩] ⟨0, 8, 14, 25⟩ [] htb (fun z hz => Or.inr (by rw [List.mem_singleton.mp hz]; exact ⟨by decide, IAE, by decide +kernel, by decide⟩)) (by decide) (by decide) (by decide +kernel) (by decide +kernel) (fun q9 => ?_)
      refine j_astore_6 (pc := 14) C dL_judge_14 (by decide) rfl ?_
      refine j_iconst (pc := 16) (v := (-1)) C dL_judge_16 (by decide) ?_
      exact ret_i C rfl hr hlk dL_judge_17 (Or.inr (Or.inr ⟨rfl, h9⟩)) (by decide) (by decide)
  exact ret_i C rfl hr hlk dL_judge_8 (Or.inl hu) (by decide) (by decide)

set_option maxRecDepth 100000 in
set_option maxHeartbeats 4000000 in
theorem ct_L_path {l : Launch} {G : Gp} {L : List Nat} {w : Wn} {q0 a : Nat} {fs : List Value} {PP : Int32 → Sw → Prop} {XP : String → Sw → Prop} {p0 : Int32} {p1 p2 : Int64} (h0 : Hs L w q0 a (.inr (5, fs))) (hx : XI l yX4_path wsX4_path (rmD 30 10 100) G L w [.ref a, .int p0, .long p1, .long p2] PP XP) (hX : ∀ E9 u, XP E9 u → E9 = IAE ∨ E9 = ISE) : CI l yL_path wsL_path (rmD 31 10 100) G L w [.ref a, .int p0, .long p1, .long p2] (fun r u => PP r u ∨ (r = -99999 ∧ XP IAE u) ∨ (r = -1 ∧ XP ISE u)) := by
  refine mk_iH (cc := cL_path) (maxL := 7) [some (.ref a), some (.int p0), some (.long p1), none, some (.long p2), none, none] (by decide) rfl (Nat.le_of_ble_eq_true rfl) rfl ?_
  intro p e s m args below meth c A C hr hlk htb
  refine j_aload_n (pc := 0) C rfl dL_path_0 rfl ?_
  refine j_iload_n (pc := 1) C rfl dL_path_1 rfl ?_
  refine j_lload_n (pc := 2) C rfl dL_path_2 rfl ?_
  refine j_lload (pc := 3) C dL_path_3 rfl ?_
  refine jxV_i (pc := 5) (k2 := 10) (n2 := 100) (np := 3) (As := [.int p0, .long p1, .long p2]) C hx gL_path_X4_path rfl (by decide +kernel) ⟨by decide, by decide⟩ h0 rfl rfl rfl (Nat.le_of_ble_eq_true rfl) dL_path_5 (by decide) (by decide) ⟨by decide, by decide⟩ (fun E9 L9 w9 h9 => ?_) (fun v L2 w2 hu => ?_)
  · rcases hX _ _ h9 with rfl | rfl
    · refine jx_catch C [] ⟨0, 8, 9, 22⟩ [⟨0, 8, 14, 25⟩] htb (fun z hz => by cases hz) (by decide) (by decide) (by decide +kernel) (by decide +kernel) (fun q9 => ?_)
      refine j_astore_6 (pc := 9) C dL_path_9 (by decide) rfl ?_
      refine j_ldc (pc := 11) (v := (-99999)) C dL_path_11 (by decide +kernel) ?_
      exact ret_i C rfl hr hlk dL_path_13 (Or.inr (Or.inl ⟨rfl, h9⟩)) (by decide) (by decide)
    · refine jx_catch C [⟨0, 8, 9, 22⟩] ⟨0, 8, 14, 25⟩ [] htb (fun z hz => Or.inr (by rw [List.mem_singleton.mp hz]; exact ⟨by decide, IAE, by decide +kernel, by decide⟩)) (by decide) (by decide) (by decide +kernel) (by decide +kernel) (fun q9 => ?_)
      refine j_astore_6 (pc := 14) C dL_path_14 (by decide) rfl ?_
      refine j_iconst (pc := 16) (v := (-1)) C dL_path_16 (by decide) ?_
      exact ret_i C rfl hr hlk dL_path_17 (Or.inr (Or.inr ⟨rfl, h9⟩)) (by decide) (by decide)
  exact ret_i C rfl hr hlk dL_path_8 (Or.inl hu) (by decide) (by decide)

