/-! THE LAW'S OWN METHODS: they call the class, and tell what was thrown -/
theorem met_ofWH {l : Launch} {y : MethodName} {ws ws' : List Cond} {rm : Room} {Pc : Array Value → State → Prop} {Qc : Array Value → State → Outcome → State → Prop} {mc ms : Nat} {free : Addr → Prop} {cc : ByteArray} {maxL : Nat} {ret : Option FieldType} {hh : List (Nat × Nat × Nat × Nat)}
    (hy : plainName y.cls = true) (hw : ws = Cond.codeWith y cc maxL ret hh :: ws')
    (body : ∀ p e s m args below meth c s₁, BodyLoose p l y (headSpec ws rm) cc maxL ret e s m args below meth c s₁ → c.maxLocals = maxL → Pc args s →
      W p l e (headSpec ws rm).room s m args below meth c s.heap [] 0 0 (MQ below Qc args s mc ms free) (entryFrame m args maxL)) : Met l y ws rm Pc Qc mc ms free := by
  refine MetFree.of_bodyS (code := cc) (maxLocals := maxL) (ret := ret) hy ?_ ?_
  · intro args s m h hn
    obtain ⟨m9, meth, c, hn9, h1, h2, h3, h4, -, h5, h6, -⟩ := Cond.codeWith_spec (atoms_spec (ws := ws) h _ (by rw [hw]; exact List.mem_cons_self))
    cases hn.symm.trans hn9
    exact ⟨meth, c, h1, h2, h3, h4, h5, h6⟩
  · intro p e s m args below meth c s₁ B hml hP _
    have hh0 : s₁.heap = s.heap := by rw [B.state]; rfl
    obtain ⟨t, a1, o, b1, b2, b3⟩ := body p e s m args below meth c s₁ B hml hP s₁ hh0 (Stand.of_body B)
    exact ⟨t, o, a1, b1, b2, ⟨b3.1, b3.2⟩⟩
theorem mk_iH {l : Launch} {y : MethodName} {ws ws' : List Cond} {rm : Room} {G : Gp} {L : List Nat} {w : Wn} {av : List Value} {post : Int32 → Sw → Prop} {cc : ByteArray} {maxL : Nat} {ret : Option FieldType} {hh : List (Nat × Nat × Nat × Nat)} (lo : List (Option Value)) (hy : plainName y.cls = true) (hw : ws = Cond.codeWith y cc maxL ret hh :: ws') (hlen : (lg_sl av).length ≤ maxL) (hlo : lq 0 lo = lv_args 0 av)
    (body : ∀ (p : Program) (e : Env) (s : State) (m : MethodId) (args : Array Value) (below : List Frame) (meth : Method) (c : Code) (A : Nat → Prop), Cx p s m args c cc y.cls maxL ws G A s.heap → meth.sig.returnType = ret → meth.locks = false → c.exceptionTable.toList = tableOf hh → J p l e rm s m args below meth c G A s.heap maxL (MQ below (va_Qi post (PB G A) A) args s rm.cells rm.slots A) L w 0 0 0 lo []) : CI l y ws rm G L w av post := by
  intro sz
  refine met_ofWH (cc := cc) (maxL := maxL) (ret := ret) (hh := hh) hy hw ?_
  intro p e s m args below meth c s₁ B hml hv
  obtain ⟨rfl, hsz, hP, hK, hD0, hE⟩ := hv
  subst hsz
  have hts := atoms_spec (ws := ws) B.pre
  have hown := findClass_of_methodNamed B.named
  have hD := hD0.self (sz := s.heap.size)
  have htb : c.exceptionTable.toList = tableOf hh := vx_table (x := y) B (hts _ (by rw [hw]; exact List.mem_cons_self))
  generalize hAe : va_A (L.map w) s.heap.size = A at hD hE ⊢
  have hA : ∀ q : Nat, s.heap.size ≤ q → A q := fun q h => by rw [← hAe]; exact Or.inr h
  have hl := lv_entry av (n := maxL) hlen
  rw [lg_entry_eq]
  generalize (lg_sl av ++ List.replicate (maxL - (lg_sl av).length) Slot.unset).toArray = ls at hl ⊢
  rw [← hlo] at hl
  exact body p e s m _ below meth c A ⟨B.exec, B.bytes, hml, hown, hts, hK, hA, hE⟩ B.returns B.notSynchronized htb s.heap [] ls hP hD va_S.rf hl
section JCATCH
variable {p : Program} {l : Launch} {e : Env} {R : Room} {s : State} {m : MethodId} {args : Array Value} {below : List Frame} {meth : Method} {c : Code} {G : Gp} {A : Nat → Prop} {H0 : Heap} {nL : Nat} {Q : State → Prop} {L : List Nat} {w : Wn} {k n : Nat} {pc : Nat} {lo : List (Option Value)} {st : List Value} {cc : ByteArray} {own : String} {Ts : List Cond}
theorem jx_catch (C : Cx p s m args c cc own nL Ts G A H0) {E : String} (pre : List ExceptionTableEntry) (x : ExceptionTableEntry) (suf : List ExceptionTableEntry) (hsplit : c.exceptionTable.toList = pre ++ x :: suf) (hpass : ∀ z ∈ pre, covers z pc = false ∨ (z.catchType ≠ 0 ∧ ∃ nm : String, Cond.classLink own z.catchType nm ∈ Ts ∧ (E, nm) ∈ xncs)) (hx : covers x pc = true) (h0 : x.catchType ≠ 0) (hlink : Cond.classLink own x.catchType E ∈ Ts) (hcast : Cond.castable E E ∈ xwords)
    (kk : ∀ q : Nat, J p l e R s m args below meth c G A H0 nL Q L w k n x.handlerPc lo [.ref q]) : JX p l e R s m args below meth c G A H0 nL Q L w k n pc lo st E := fun H locs ls q ce hP hD hS hl hcell hv hcl => by
  refine vx_catch C.2.2.2.1 pre x suf hsplit (fun z hz => ?_) hx h0 (C.2.2.2.2.1 _ hlink) (va_Nw.use (xk_all _ hcast).2 (C.2.2.2.2.2.2.2.2.2.2.2.1 _ hcast)) hcell hv hcl (kk q H locs ls hP hD hS hl)
  rcases hpass z hz with h | ⟨h1, nm, h2, h3⟩
  · exact Or.inl h
  · exact Or.inr ⟨h1, nm, C.2.2.2.2.1 _ h2, C.2.2.2.2.2.2.2.2.2.2.2.2.2.2.2.2 (E, nm) h3⟩
theorem run_SW (C : Cx p s m args c cc own nL Ts G A H0) {y : MethodName} {bytes : ByteArray} {maxL np index : Nat} {ret : Option FieldType} {hh : List (Nat × Nat × Nat × Nat)} {ws : List Cond} {rm : Room} {Qc : Nat → Array Value → State → Outcome → State → Prop} {st0 As : List Value} (hM : ∀ sz, Met l y ws (rm) (PreW G L w sz (As)) (Qc sz) rm.cells rm.slots (va_A (L.map w) sz)) (cw : vx_CSW R s args own index y bytes maxL ret hh ws rm rm.cells rm.slots np) (hst : st0 = As.reverse ++ st) (hn9 : As.length = np) (hst9 : (st.map fun v => v.category).sum ≤ 8) (hdg : decode cc pc = .ok (.invokestatic index, 3)) (hf : k + rm.cells ≤ R.cells ∧ n + rm.slots ≤ R.slots) : RunOK p l e R s m args below meth c G A H0 nL L w k n rm.cells rm.slots pc lo st0 st (fun sz => Qc sz (As).toArray) := fun H locs ls hP hD hS hl => vx_runSW ⟨C.1, C.2.1, C.2.2.1, C.2.2.2.1, C.2.2.2.2.1⟩ (hM H.size) cw ⟨preW_blind, preW_of C hP hD hS⟩ rfl hn9 hl.1 hst (lv_room hst9) hdg hf
theorem jSW_i (C : Cx p s m args c cc own nL Ts G A H0) {y : MethodName} {bytes : ByteArray} {maxL np index : Nat} {ret : Option FieldType} {hh : List (Nat × Nat × Nat × Nat)} {ws ws9 : List Cond} {rm : Room} {st0 As : List Value} {post : Int32 → Sw → Prop} (hM : CI l y ws rm G L w As post) (hG : GoodIn Ts (va_wsS own index y ws)) (hw9 : ws = Cond.codeWith y bytes maxL ret hh :: ws9) (hd : y.cls ≠ "java/lang/invoke/MethodHandle" ∧ y.cls ≠ "java/lang/invoke/VarHandle" ∧ (parseMethodDescriptor y.desc).map (fun d => d.parameters.length) = some np) (hR9 : rm.frames + 1 ≤ R.frames ∧ 8 + (maxL + 11) + rm.locals ≤ R.locals)  (hst : st0 = As.reverse ++ st) (hn9 : As.length = np) (hst9 : (st.map fun v => v.category).sum ≤ 8) (hdg : decode cc pc = .ok (.invokestatic index, 3)) {k2 n2 : Nat} (hk2 : k + rm.cells ≤ k2) (hn2 : n + rm.slots ≤ n2) (hRR : k2 ≤ R.cells ∧ n2 ≤ R.slots) (kk : ∀ (r : Int32) (L2 : List Nat) (w2 : Wn), post r (L2, w2) → J p l e R s m args below meth c G A H0 nL Q L2 w2 k2 n2 (pc + 3) (lo) (.int r :: st)) : J p l e R s m args below meth c G A H0 nL Q L w k n pc (lo) (st0) := call_i C (run_SW C hM (vx_cwSW np C.2.2.2.2.1 hG hw9 rfl rfl hd hR9) hst hn9 hst9 hdg ⟨Nat.le_trans hk2 hRR.1, Nat.le_trans hn2 hRR.2⟩) hk2 hn2 kk
end JCATCH
set_option maxRecDepth 100000 in
set_option maxHeartbeats 4000000 in
theorem ct_L_add {l : Launch} {G : Gp} {L : List Nat} {w : Wn} {a ao : Nat} {fo : Nat → Int64} {fs : List Value} {PP : Int32 → Sw → Prop} {XP : String → Sw → Prop} {p0 p1 p2 p5 : Int32} {p3 p4 : Int64} (h0 : Hs L w 0 a (.inr (5, fs))) (hx : XI l yX4_add wsX4_add (rmD 30 100 1000) G L w [.ref a, .int p0, .int p1, .int p2, .long p3, .long p4, .int p5] PP XP) (hP : ∀ r L2 w2, PP r (L2, w2) → Hs L2 w2 54 ao (jarE G 1 fo)) (hX : ∀ E9 u, XP E9 u → E9 = IAE ∨ E9 = ISE) : CI l yL_add wsL_add (rmD 31 100 1000) G L w [.ref a, .int p0, .int p1, .int p2, .long p3, .long p4, .int p5, .ref ao] (fun k9 u => (k9 = 0 ∧ ∃ r w9, PP r (u.1, w9) ∧ u.2 = va_up w9 54 (ao, jarE G 1 (vp_updL fo 0 r.toInt64))) ∨ (k9 = 1 ∧ XP IAE u) ∨ (k9 = 2 ∧ XP ISE u)) := by
  refine mk_iH (cc := cL_add) (maxL := 11) [some (.ref a), some (.int p0), some (.int p1), some (.int p2), some (.long p3), none, some (.long p4), none, some (.int p5), some (.ref ao), none] (by decide) rfl (Nat.le_of_ble_eq_true rfl) rfl ?_
  intro p e s m args below meth c A C hr hlk htb
  refine j_aload (pc := 0) C dL_add_0 rfl ?_
  refine j_iconst (pc := 2) (v := 0) C dL_add_2 (by decide) ?_
  refine j_aload_n (pc := 3) C rfl dL_add_3 rfl ?_
  refine j_iload_n (pc := 4) C rfl dL_add_4 rfl ?_
  refine j_iload_n (pc := 5) C rfl dL_add_5 rfl ?_
  refine j_iload_n (pc := 6) C rfl dL_add_6 rfl ?_
  refine j_lload (pc := 7) C dL_add_7 rfl ?_
  refine j_lload (pc := 9) C dL_add_9 rfl ?_
  refine j_iload (pc := 11) C dL_add_11 rfl ?_
  refine jxV_i (pc := 13) (k2 := 100) (n2 := 1000) (np := 6) (As := [.int p0, .int p1, .int p2, .long p3, .long p4, .int p5]) C hx gL_add_X4_add rfl (by decide +kernel) ⟨by decide, by decide⟩ h0 rfl rfl rfl (Nat.le_of_ble_eq_true rfl) dL_add_13 (by decide) (by decide) ⟨by decide, by decide⟩ (fun E9 L9 w9 h9 => ?_) (fun v L2 w2 hu => ?_)
  · rcases hX _ _ h9 with rfl | rfl
    · refine jx_catch C [] ⟨0, 18, 21, 13⟩ [⟨0, 18, 25, 15⟩] htb (fun z hz => by cases hz) (by decide) (by decide) (by decide +kernel) (by decide +kernel) (fun q9 => ?_)
      refine j_astore_10 (pc := 21) C dL_add_21 (by decide) rfl ?_
      refine j_iconst (pc := 23) (v := 1) C dL_add_23 (by decide) ?_
      exact ret_i C rfl hr hlk dL_add_24 (Or.inr (Or.inl ⟨rfl, h9⟩)) (by decide) (by decide)
    · refine jx_catch C [⟨0, 18, 21, 13⟩] ⟨0, 18, 25, 15⟩ [] htb (fun z hz => Or.inr (by rw [List.mem_singleton.mp hz]; exact ⟨by decide, IAE, by decide +kernel, by decide⟩)) (by decide) (by decide) (by decide +kernel) (by decide +kernel) (fun q9 => ?_)
      refine j_astore_10 (pc := 25) C dL_add_25 (by decide) rfl ?_
      refine j_iconst (pc := 27) (v := 2) C dL_add_27 (by decide) ?_
      exact ret_i C rfl hr hlk dL_add_28 (Or.inr (Or.inr ⟨rfl, h9⟩)) (by decide) (by decide)
  have hO := hP _ _ _ hu
  refine j_i2l (pc := 16) C dL_add_16 ?_
  refine j_last (pc := 17) C hO rfl (show 0 < 1 by decide) (by decide) dL_add_17 ?_
  refine j_goto (pc := 18) (tgt := 29) C dL_add_18 (by decide) ?_
  refine j_iconst (pc := 29) (v := 0) C dL_add_29 (by decide) ?_
  exact ret_i C rfl hr hlk dL_add_30 (Or.inl ⟨rfl, v, w2, hu, rfl⟩) (by decide) (by decide)

set_option maxRecDepth 100000 in
set_option maxHeartbeats 4000000 in
theorem ct_L_remove {l : Launch} {G : Gp} {L : List Nat} {w : Wn} {a ao : Nat} {fo : Nat → Int64} {fs : List Value} {PP : Int32 → Sw → Prop} {XP : String → Sw → Prop} {p0 p1 : Int32} (h0 : Hs L w 0 a (.inr (5, fs))) (hx : XI l yX4_remove wsX4_remove (rmD 30 100 1000) G L w [.ref a, .int p0, .int p1] PP XP) (hP : ∀ r L2 w2, PP r (L2, w2) → Hs L2 w2 54 ao (jarE G 1 fo)) (hX : ∀ E9 u, XP E9 u → E9 = IAE ∨ E9 = IOE) : CI l yL_remove wsL_remove (rmD 31 100 1000) G L w [.ref a, .int p0, .int p1, .ref ao] (fun k9 u => (k9 = 0 ∧ ∃ r w9, PP r (u.1, w9) ∧ u.2 = va_up w9 54 (ao, jarE G 1 (vp_updL fo 0 r.toInt64))) ∨ (k9 = 1 ∧ XP IAE u) ∨ (k9 = 2 ∧ XP IOE u)) := by
  refine mk_iH (cc := cL_remove) (maxL := 5) [some (.ref a), some (.int p0), some (.int p1), some (.ref ao), none] (by decide) rfl (Nat.le_of_ble_eq_true rfl) rfl ?_
  intro p e s m args below meth c A C hr hlk htb
  refine j_aload_n (pc := 0) C rfl dL_remove_0 rfl ?_
  refine j_iconst (pc := 1) (v := 0) C dL_remove_1 (by decide) ?_
  refine j_aload_n (pc := 2) C rfl dL_remove_2 rfl ?_
  refine j_iload_n (pc := 3) C rfl dL_remove_3 rfl ?_
  refine j_iload_n (pc := 4) C rfl dL_remove_4 rfl ?_
  refine jxV_i (pc := 5) (k2 := 100) (n2 := 1000) (np := 2) (As := [.int p0, .int p1]) C hx gL_remove_X4_remove rfl (by decide +kernel) ⟨by decide, by decide⟩ h0 rfl rfl rfl (Nat.le_of_ble_eq_true rfl) dL_remove_5 (by decide) (by decide) ⟨by decide, by decide⟩ (fun E9 L9 w9 h9 => ?_) (fun v L2 w2 hu => ?_)
  · rcases hX _ _ h9 with rfl | rfl
    · refine jx_catch C [] ⟨0, 10, 13, 13⟩ [⟨0, 10, 17, 21⟩] htb (fun z hz => by cases hz) (by decide) (by decide) (by decide +kernel) (by decide +kernel) (fun q9 => ?_)
      refine j_astore_4 (pc := 13) C dL_remove_13 (by decide) rfl ?_
      refine j_iconst (pc := 15) (v := 1) C dL_remove_15 (by decide) ?_
      exact ret_i C rfl hr hlk dL_remove_16 (Or.inr (Or.inl ⟨rfl, h9⟩)) (by decide) (by decide)
    · refine jx_catch C [⟨0, 10, 13, 13⟩] ⟨0, 10, 17, 21⟩ [] htb (fun z hz => Or.inr (by rw [List.mem_singleton.mp hz]; exact ⟨by decide, IAE, by decide +kernel, by decide⟩)) (by decide) (by decide) (by decide +kernel) (by decide +kernel) (fun q9 => ?_)
      refine j_astore_4 (pc := 17) C dL_remove_17 (by decide) rfl ?_
      refine j_iconst (pc := 19) (v := 2) C dL_remove_19 (by decide) ?_
      exact ret_i C rfl hr hlk dL_remove_20 (Or.inr (Or.inr ⟨rfl, h9⟩)) (by decide) (by decide)
  have hO := hP _ _ _ hu
  refine j_i2l (pc := 8) C dL_remove_8 ?_
  refine j_last (pc := 9) C hO rfl (show 0 < 1 by decide) (by decide) dL_remove_9 ?_
  refine j_goto (pc := 10) (tgt := 21) C dL_remove_10 (by decide) ?_
  refine j_iconst (pc := 21) (v := 0) C dL_remove_21 (by decide) ?_
  exact ret_i C rfl hr hlk dL_remove_22 (Or.inl ⟨rfl, v, w2, hu, rfl⟩) (by decide) (by decide)

set_option maxRecDepth 100000 in
set_option maxHeartbeats 4000000 in
theorem ct_L_setDefault {l : Launch} {G : Gp} {L : List Nat} {w : Wn} {a ao : Nat} {fo : Nat → Int64} {fs : List Value} {PP : Int32 → Sw → Prop} {XP : String → Sw → Prop} {p0 p1 : Int32} (h0 : Hs L w 0 a (.inr (5, fs))) (hx : XI l yX4_setDefault wsX4_setDefault (rmD 30 100 1000) G L w [.ref a, .int p0, .int p1] PP XP) (hP : ∀ r L2 w2, PP r (L2, w2) → Hs L2 w2 54 ao (jarE G 1 fo)) (hX : ∀ E9 u, XP E9 u → E9 = IAE) : CI l yL_setDefault wsL_setDefault (rmD 31 100 1000) G L w [.ref a, .int p0, .int p1, .ref ao] (fun k9 u => (k9 = 0 ∧ ∃ r w9, PP r (u.1, w9) ∧ u.2 = va_up w9 54 (ao, jarE G 1 (vp_updL fo 0 r.toInt64))) ∨ (k9 = 1 ∧ XP IAE u) ∨ (k9 = 2 ∧ False)) := by
  refine mk_iH (cc := cL_setDefault) (maxL := 5) [some (.ref a), some (.int p0), some (.int p1), some (.ref ao), none] (by decide) rfl (Nat.le_of_ble_eq_true rfl) rfl ?_
  intro p e s m args below meth c A C hr hlk htb
  refine j_aload_n (pc := 0) C rfl dL_setDefault_0 rfl ?_
  refine j_iconst (pc := 1) (v := 0) C dL_setDefault_1 (by decide) ?_
  refine j_aload_n (pc := 2) C rfl dL_setDefault_2 rfl ?_
  refine j_iload_n (pc := 3) C rfl dL_setDefault_3 rfl ?_
  refine j_iload_n (pc := 4) C rfl dL_setDefault_4 rfl ?_
  refine jxV_i (pc := 5) (k2 := 100) (n2 := 1000) (np := 2) (As := [.int p0, .int p1]) C hx gL_setDefault_X4_setDefault rfl (by decide +kernel) ⟨by decide, by decide⟩ h0 rfl rfl rfl (Nat.le_of_ble_eq_true rfl) dL_setDefault_5 (by decide) (by decide) ⟨by decide, by decide⟩ (fun E9 L9 w9 h9 => ?_) (fun v L2 w2 hu => ?_)
  · cases hX _ _ h9
    refine jx_catch C [] ⟨0, 10, 13, 13⟩ [] htb (fun z hz => by cases hz) (by decide) (by decide) (by decide +kernel) (by decide +kernel) (fun q9 => ?_)
    refine j_astore_4 (pc := 13) C dL_setDefault_13 (by decide) rfl ?_
    refine j_iconst (pc := 15) (v := 1) C dL_setDefault_15 (by decide) ?_
    exact ret_i C rfl hr hlk dL_setDefault_16 (Or.inr (Or.inl ⟨rfl, h9⟩)) (by decide) (by decide)
  have hO := hP _ _ _ hu
  refine j_i2l (pc := 8) C dL_setDefault_8 ?_
  refine j_last (pc := 9) C hO rfl (show 0 < 1 by decide) (by decide) dL_setDefault_9 ?_
  refine j_goto (pc := 10) (tgt := 17) C dL_setDefault_10 (by decide) ?_
  refine j_iconst (pc := 17) (v := 0) C dL_setDefault_17 (by decide) ?_
  exact ret_i C rfl hr hlk dL_setDefault_18 (Or.inl ⟨rfl, v, w2, hu, rfl⟩) (by decide) (by decide)

set_option maxRecDepth 100000 in
set_option maxHeartbeats 4000000 in
theorem ct_L_setFrequency {l : Launch} {G : Gp} {L : List Nat} {w : Wn} {a ao : Nat} {fo : Nat → Int64} {fs : List Value} {PP : Int32 → Sw → Prop} {XP : String → Sw → Prop} {p0 p1 : Int32} (h0 : Hs L w 0 a (.inr (5, fs))) (hx : XI l yX4_setFrequency wsX4_setFrequency (rmD 30 100 1000) G L w [.ref a, .int p0, .int p1] PP XP) (hP : ∀ r L2 w2, PP r (L2, w2) → Hs L2 w2 54 ao (jarE G 1 fo)) (hX : ∀ E9 u, XP E9 u → E9 = IAE) : CI l yL_setFrequency wsL_setFrequency (rmD 31 100 1000) G L w [.ref a, .int p0, .int p1, .ref ao] (fun k9 u => (k9 = 0 ∧ ∃ r w9, PP r (u.1, w9) ∧ u.2 = va_up w9 54 (ao, jarE G 1 (vp_updL fo 0 r.toInt64))) ∨ (k9 = 1 ∧ XP IAE u) ∨ (k9 = 2 ∧ False)) := by
  refine mk_iH (cc := cL_setFrequency) (maxL := 5) [some (.ref a), some (.int p0), some (.int p1), some (.ref ao), none] (by decide) rfl (Nat.le_of_ble_eq_true rfl) rfl ?_
  intro p e s m args below meth c A C hr hlk htb
  refine j_aload_n (pc := 0) C rfl dL_setFrequency_0 rfl ?_
  refine j_iconst (pc := 1) (v := 0) C dL_setFrequency_1 (by decide) ?_
  refine j_aload_n (pc := 2) C rfl dL_setFrequency_2 rfl ?_
  refine j_iload_n (pc := 3) C rfl dL_setFrequency_3 rfl ?_
  refine j_iload_n (pc := 4) C rfl dL_setFrequency_4 rfl ?_
  refine jxV_i (pc := 5) (k2 := 100) (n2 := 1000) (np := 2) (As := [.int p0, .int p1]) C hx gL_setFrequency_X4_setFrequency rfl (by decide +kernel) ⟨by decide, by decide⟩ h0 rfl rfl rfl (Nat.le_of_ble_eq_true rfl) dL_setFrequency_5 (by decide) (by decide) ⟨by decide, by decide⟩ (fun E9 L9 w9 h9 => ?_) (fun v L2 w2 hu => ?_)
  · cases hX _ _ h9
    refine jx_catch C [] ⟨0, 10, 13, 13⟩ [] htb (fun z hz => by cases hz) (by decide) (by decide) (by decide +kernel) (by decide +kernel) (fun q9 => ?_)
    refine j_astore_4 (pc := 13) C dL_setFrequency_13 (by decide) rfl ?_
    refine j_iconst (pc := 15) (v := 1) C dL_setFrequency_15 (by decide) ?_
    exact ret_i C rfl hr hlk dL_setFrequency_16 (Or.inr (Or.inl ⟨rfl, h9⟩)) (by decide) (by decide)
  have hO := hP _ _ _ hu
  refine j_i2l (pc := 8) C dL_setFrequency_8 ?_
  refine j_last (pc := 9) C hO rfl (show 0 < 1 by decide) (by decide) dL_setFrequency_9 ?_
  refine j_goto (pc := 10) (tgt := 17) C dL_setFrequency_10 (by decide) ?_
  refine j_iconst (pc := 17) (v := 0) C dL_setFrequency_17 (by decide) ?_
  exact ret_i C rfl hr hlk dL_setFrequency_18 (Or.inl ⟨rfl, v, w2, hu, rfl⟩) (by decide) (by decide)

set_option maxRecDepth 100000 in
set_option maxHeartbeats 4000000 in
theorem ct_L_rules {l : Launch} {G : Gp} {L : List Nat} {w : Wn} {a ao : Nat} {fo : Nat → Int64} {fs : List Value} {PP : Int32 → Sw → Prop} {XP : String → Sw → Prop} {p0 : Int32} (h0 : Hs L w 0 a (.inr (5, fs))) (hx : XI l yX4_rules wsX4_rules (rmD 30 100 1000) G L w [.ref a, .int p0] PP XP) (hP : ∀ r L2 w2, PP r (L2, w2) → Hs L2 w2 54 ao (jarE G 1 fo)) (hX : ∀ E9 u, XP E9 u → E9 = IAE) : CI l yL_rules wsL_rules (rmD 31 100 1000) G L w [.ref a, .int p0, .ref ao] (fun k9 u => (k9 = 0 ∧ ∃ r w9, PP r (u.1, w9) ∧ u.2 = va_up w9 54 (ao, jarE G 1 (vp_updL fo 0 r.toInt64))) ∨ (k9 = 1 ∧ XP IAE u) ∨ (k9 = 2 ∧ False)) := by
  refine mk_iH (cc := cL_rules) (maxL := 4) [some (.ref a), some (.int p0), some (.ref ao), none] (by decide) rfl (Nat.le_of_ble_eq_true rfl) rfl ?_
  intro p e s m args below meth c A C hr hlk htb
  refine j_aload_n (pc := 0) C rfl dL_rules_0 rfl ?_
  refine j_iconst (pc := 1) (v := 0) C dL_rules_1 (by decide) ?_
  refine j_aload_n (pc := 2) C rfl dL_rules_2 rfl ?_
  refine j_iload_n (pc := 3) C rfl dL_rules_3 rfl ?_
  refine jxV_i (pc := 4) (k2 := 100) (n2 := 1000) (np := 1) (As := [.int p0]) C hx gL_rules_X4_rules rfl (by decide +kernel) ⟨by decide, by decide⟩ h0 rfl rfl rfl (Nat.le_of_ble_eq_true rfl) dL_rules_4 (by decide) (by decide) ⟨by decide, by decide⟩ (fun E9 L9 w9 h9 => ?_) (fun v L2 w2 hu => ?_)
  · cases hX _ _ h9
    refine jx_catch C [] ⟨0, 9, 12, 13⟩ [] htb (fun z hz => by cases hz) (by decide) (by decide) (by decide +kernel) (by decide +kernel) (fun q9 => ?_)
    refine j_astore_3 (pc := 12) C dL_rules_12 (by decide) rfl ?_
    refine j_iconst (pc := 13) (v := 1) C dL_rules_13 (by decide) ?_
    exact ret_i C rfl hr hlk dL_rules_14 (Or.inr (Or.inl ⟨rfl, h9⟩)) (by decide) (by decide)
  have hO := hP _ _ _ hu
  refine j_i2l (pc := 7) C dL_rules_7 ?_
  refine j_last (pc := 8) C hO rfl (show 0 < 1 by decide) (by decide) dL_rules_8 ?_
  refine j_goto (pc := 9) (tgt := 15) C dL_rules_9 (by decide) ?_
  refine j_iconst (pc := 15) (v := 0) C dL_rules_15 (by decide) ?_
  exact ret_i C rfl hr hlk dL_rules_16 (Or.inl ⟨rfl, v, w2, hu, rfl⟩) (by decide) (by decide)

set_option maxRecDepth 100000 in
set_option maxHeartbeats 4000000 in
theorem ct_L_hider {l : Launch} {G : Gp} {L : List Nat} {w : Wn} {a ao : Nat} {fo : Nat → Int64} {fs : List Value} {PP : Int32 → Sw → Prop} {XP : String → Sw → Prop} {p0 p1 : Int32} (h0 : Hs L w 0 a (.inr (5, fs))) (hx : XI l yX4_hider wsX4_hider (rmD 30 100 1000) G L w [.ref a, .int p0, .int p1] PP XP) (hP : ∀ r L2 w2, PP r (L2, w2) → Hs L2 w2 54 ao (jarE G 1 fo)) (hX : ∀ E9 u, XP E9 u → E9 = IAE ∨ E9 = IOE) : CI l yL_hider wsL_hider (rmD 31 100 1000) G L w [.ref a, .int p0, .int p1, .ref ao] (fun k9 u => (k9 = 0 ∧ ∃ r w9, PP r (u.1, w9) ∧ u.2 = va_up w9 54 (ao, jarE G 1 (vp_updL fo 0 r.toInt64))) ∨ (k9 = 1 ∧ XP IAE u) ∨ (k9 = 2 ∧ XP IOE u)) := by
  refine mk_iH (cc := cL_hider) (maxL := 5) [some (.ref a), some (.int p0), some (.int p1), some (.ref ao), none] (by decide) rfl (Nat.le_of_ble_eq_true rfl) rfl ?_
  intro p e s m args below meth c A C hr hlk htb
  refine j_aload_n (pc := 0) C rfl dL_hider_0 rfl ?_
  refine j_iconst (pc := 1) (v := 0) C dL_hider_1 (by decide) ?_
  refine j_aload_n (pc := 2) C rfl dL_hider_2 rfl ?_
  refine j_iload_n (pc := 3) C rfl dL_hider_3 rfl ?_
  refine j_iload_n (pc := 4) C rfl dL_hider_4 rfl ?_
  refine jxV_i (pc := 5) (k2 := 100) (n2 := 1000) (np := 2) (As := [.int p0, .int p1]) C hx gL_hider_X4_hider rfl (by decide +kernel) ⟨by decide, by decide⟩ h0 rfl rfl rfl (Nat.le_of_ble_eq_true rfl) dL_hider_5 (by decide) (by decide) ⟨by decide, by decide⟩ (fun E9 L9 w9 h9 => ?_) (fun v L2 w2 hu => ?_)
  · rcases hX _ _ h9 with rfl | rfl
    · refine jx_catch C [] ⟨0, 10, 13, 13⟩ [⟨0, 10, 17, 21⟩] htb (fun z hz => by cases hz) (by decide) (by decide) (by decide +kernel) (by decide +kernel) (fun q9 => ?_)
      refine j_astore_4 (pc := 13) C dL_hider_13 (by decide) rfl ?_
      refine j_iconst (pc := 15) (v := 1) C dL_hider_15 (by decide) ?_
      exact ret_i C rfl hr hlk dL_hider_16 (Or.inr (Or.inl ⟨rfl, h9⟩)) (by decide) (by decide)
    · refine jx_catch C [⟨0, 10, 13, 13⟩] ⟨0, 10, 17, 21⟩ [] htb (fun z hz => Or.inr (by rw [List.mem_singleton.mp hz]; exact ⟨by decide, IAE, by decide +kernel, by decide⟩)) (by decide) (by decide) (by decide +kernel) (by decide +kernel) (fun q9 => ?_)
      refine j_astore_4 (pc := 17) C dL_hider_17 (by decide) rfl ?_
      refine j_iconst (pc := 19) (v := 2) C dL_hider_19 (by decide) ?_
      exact ret_i C rfl hr hlk dL_hider_20 (Or.inr (Or.inr ⟨rfl, h9⟩)) (by decide) (by decide)
  have hO := hP _ _ _ hu
  refine j_i2l (pc := 8) C dL_hider_8 ?_
  refine j_last (pc := 9) C hO rfl (show 0 < 1 by decide) (by decide) dL_hider_9 ?_
  refine j_goto (pc := 10) (tgt := 21) C dL_hider_10 (by decide) ?_
  refine j_iconst (pc := 21) (v := 0) C dL_hider_21 (by decide) ?_
  exact ret_i C rfl hr hlk dL_hider_22 (Or.inl ⟨rfl, v, w2, hu, rfl⟩) (by decide) (by decide)

set_option maxRecDepth 100000 in
set_option maxHeartbeats 4000000 in
theorem ct_L_compile {l : Launch} {G : Gp} {L : List Nat} {w : Wn} {a ao : Nat} {fo : Nat → Int64} {fs : List Value} {PP : Int32 → Sw → Prop} {XP : String → Sw → Prop} {p0 : Int32} (h0 : Hs L w 0 a (.inr (5, fs))) (hx : XI l yX4_compile wsX4_compile (rmD 30 100 1000) G L w [.ref a, .int p0] PP XP) (hP : ∀ r L2 w2, PP r (L2, w2) → Hs L2 w2 54 ao (jarE G 1 fo)) (hX : ∀ E9 u, XP E9 u → E9 = IAE) : CI l yL_compile wsL_compile (rmD 31 100 1000) G L w [.ref a, .int p0, .ref ao] (fun k9 u => (k9 = 0 ∧ ∃ r w9, PP r (u.1, w9) ∧ u.2 = va_up w9 54 (ao, jarE G 1 (vp_updL fo 0 r.toInt64))) ∨ (k9 = 1 ∧ XP IAE u) ∨ (k9 = 2 ∧ False)) := by
  refine mk_iH (cc := cL_compile) (maxL := 4) [some (.ref a), some (.int p0), some (.ref ao), none] (by decide) rfl (Nat.le_of_ble_eq_true rfl) rfl ?_
  intro p e s m args below meth c A C hr hlk htb
  refine j_aload_n (pc := 0) C rfl dL_compile_0 rfl ?_
  refine j_iconst (pc := 1) (v := 0) C dL_compile_1 (by decide) ?_
  refine j_aload_n (pc := 2) C rfl dL_compile_2 rfl ?_
  refine j_iload_n (pc := 3) C rfl dL_compile_3 rfl ?_
  refine jxV_i (pc := 4) (k2 := 100) (n2 := 1000) (np := 1) (As := [.int p0]) C hx gL_compile_X4_compile rfl (by decide +kernel) ⟨by decide, by decide⟩ h0 rfl rfl rfl (Nat.le_of_ble_eq_true rfl) dL_compile_4 (by decide) (by decide) ⟨by decide, by decide⟩ (fun E9 L9 w9 h9 => ?_) (fun v L2 w2 hu => ?_)
  · cases hX _ _ h9
    refine jx_catch C [] ⟨0, 9, 12, 13⟩ [] htb (fun z hz => by cases hz) (by decide) (by decide) (by decide +kernel) (by decide +kernel) (fun q9 => ?_)
    refine j_astore_3 (pc := 12) C dL_compile_12 (by decide) rfl ?_
    refine j_iconst (pc := 13) (v := 1) C dL_compile_13 (by decide) ?_
    exact ret_i C rfl hr hlk dL_compile_14 (Or.inr (Or.inl ⟨rfl, h9⟩)) (by decide) (by decide)
  have hO := hP _ _ _ hu
  refine j_i2l (pc := 7) C dL_compile_7 ?_
  refine j_last (pc := 8) C hO rfl (show 0 < 1 by decide) (by decide) dL_compile_8 ?_
  refine j_goto (pc := 9) (tgt := 15) C dL_compile_9 (by decide) ?_
  refine j_iconst (pc := 15) (v := 0) C dL_compile_15 (by decide) ?_
  exact ret_i C rfl hr hlk dL_compile_16 (Or.inl ⟨rfl, v, w2, hu, rfl⟩) (by decide) (by decide)

set_option maxRecDepth 100000 in
set_option maxHeartbeats 4000000 in
theorem ct_L_test {l : Launch} {G : Gp} {L : List Nat} {w : Wn} {a ao : Nat} {fo : Nat → Int64} {fs : List Value} {PP : Int32 → Sw → Prop} {XP : String → Sw → Prop} {p0 p1 : Int32} (h0 : Hs L w 0 a (.inr (5, fs))) (hx : XI l yX4_test wsX4_test (rmD 30 100 1000) G L w [.ref a, .int p0, .int p1] PP XP) (hP : ∀ r L2 w2, PP r (L2, w2) → Hs L2 w2 54 ao (jarE G 1 fo)) (hX : ∀ E9 u, XP E9 u → E9 = IAE ∨ E9 = ISE) : CI l yL_test wsL_test (rmD 31 100 1000) G L w [.ref a, .int p0, .int p1, .ref ao] (fun k9 u => (k9 = 0 ∧ ∃ r w9, PP r (u.1, w9) ∧ u.2 = va_up w9 54 (ao, jarE G 1 (vp_updL fo 0 r.toInt64))) ∨ (k9 = 1 ∧ XP IAE u) ∨ (k9 = 2 ∧ XP ISE u)) := by
  refine mk_iH (cc := cL_test) (maxL := 5) [some (.ref a), some (.int p0), some (.int p1), some (.ref ao), none] (by decide) rfl (Nat.le_of_ble_eq_true rfl) rfl ?_
  intro p e s m args below meth c A C hr hlk htb
  refine j_aload_n (pc := 0) C rfl dL_test_0 rfl ?_
  refine j_iconst (pc := 1) (v := 0) C dL_test_1 (by decide) ?_
  refine j_aload_n (pc := 2) C rfl dL_test_2 rfl ?_
  refine j_iload_n (pc := 3) C rfl dL_test_3 rfl ?_
  refine j_iload_n (pc := 4) C rfl dL_test_4 rfl ?_
  refine jxV_i (pc := 5) (k2 := 100) (n2 := 1000) (np := 2) (As := [.int p0, .int p1]) C hx gL_test_X4_test rfl (by decide +kernel) ⟨by decide, by decide⟩ h0 rfl rfl rfl (Nat.le_of_ble_eq_true rfl) dL_test_5 (by decide) (by decide) ⟨by decide, by decide⟩ (fun E9 L9 w9 h9 => ?_) (fun v L2 w2 hu => ?_)
  · rcases hX _ _ h9 with rfl | rfl
    · refine jx_catch C [] ⟨0, 10, 13, 13⟩ [⟨0, 10, 17, 15⟩] htb (fun z hz => by cases hz) (by decide) (by decide) (by decide +kernel) (by decide +kernel) (fun q9 => ?_)
      refine j_astore_4 (pc := 13) C dL_test_13 (by decide) rfl ?_
      refine j_iconst (pc := 15) (v := 1) C dL_test_15 (by decide) ?_
      exact ret_i C rfl hr hlk dL_test_16 (Or.inr (Or.inl ⟨rfl, h9⟩)) (by decide) (by decide)
    · refine jx_catch C [⟨0, 10, 13, 13⟩] ⟨0, 10, 17, 15⟩ [] htb (fun z hz => Or.inr (by rw [List.mem_singleton.mp hz]; exact ⟨by decide, IAE, by decide +kernel, by decide⟩)) (by decide) (by decide) (by decide +kernel) (by decide +kernel) (fun q9 => ?_)
      refine j_astore_4 (pc := 17) C dL_test_17 (by decide) rfl ?_
      refine j_iconst (pc := 19) (v := 2) C dL_test_19 (by decide) ?_
      exact ret_i C rfl hr hlk dL_test_20 (Or.inr (Or.inr ⟨rfl, h9⟩)) (by decide) (by decide)
  have hO := hP _ _ _ hu
  refine j_i2l (pc := 8) C dL_test_8 ?_
  refine j_last (pc := 9) C hO rfl (show 0 < 1 by decide) (by decide) dL_test_9 ?_
  refine j_goto (pc := 10) (tgt := 21) C dL_test_10 (by decide) ?_
  refine j_iconst (pc := 21) (v := 0) C dL_test_21 (by decide) ?_
  exact ret_i C rfl hr hlk dL_test_22 (Or.inl ⟨rfl, v, w2, hu, rfl⟩) (by decide) (by decide)

set_option maxRecDepth 100000 in
set_option maxHeartbeats 4000000 in
theorem ct_L_cost {l : Launch} {G : Gp} {L : List Nat} {w : Wn} {a ao : Nat} {fo : Nat → Int64} {fs : List Value} {PP : Int32 → Sw → Prop} {XP : String → Sw → Prop} {p0 : Int32} (h0 : Hs L w 0 a (.inr (5, fs))) (hx : XI l yX4_cost wsX4_cost (rmD 30 100 1000) G L w [.ref a, .int p0] PP XP) (hP : ∀ r L2 w2, PP r (L2, w2) → Hs L2 w2 54 ao (jarE G 1 fo)) (hX : ∀ E9 u, XP E9 u → E9 = IAE ∨ E9 = ISE) : CI l yL_cost wsL_cost (rmD 31 100 1000) G L w [.ref a, .int p0, .ref ao] (fun k9 u => (k9 = 0 ∧ ∃ r w9, PP r (u.1, w9) ∧ u.2 = va_up w9 54 (ao, jarE G 1 (vp_updL fo 0 r.toInt64))) ∨ (k9 = 1 ∧ XP IAE u) ∨ (k9 = 2 ∧ XP ISE u)) := by
  refine mk_iH (cc := cL_cost) (maxL := 4) [some (.ref a), some (.int p0), some (.ref ao), none] (by decide) rfl (Nat.le_of_ble_eq_true rfl) rfl ?_
  intro p e s m args below meth c A C hr hlk htb
  refine j_aload_n (pc := 0) C rfl dL_cost_0 rfl ?_
  refine j_iconst (pc := 1) (v := 0) C dL_cost_1 (by decide) ?_
  refine j_aload_n (pc := 2) C rfl dL_cost_2 rfl ?_
  refine j_iload_n (pc := 3) C rfl dL_cost_3 rfl ?_
  refine jxV_i (pc := 4) (k2 := 100) (n2 := 1000) (np := 1) (As := [.int p0]) C hx gL_cost_X4_cost rfl (by decide +kernel) ⟨by decide, by decide⟩ h0 rfl rfl rfl (Nat.le_of_ble_eq_true rfl) dL_cost_4 (by decide) (by decide) ⟨by decide, by decide⟩ (fun E9 L9 w9 h9 => ?_) (fun v L2 w2 hu => ?_)
  · rcases hX _ _ h9 with rfl | rfl
    · refine jx_catch C [] ⟨0, 9, 12, 13⟩ [⟨0, 9, 15, 15⟩] htb (fun z hz => by cases hz) (by decide) (by decide) (by decide +kernel) (by decide +kernel) (fun q9 => ?_)
      refine j_astore_3 (pc := 12) C dL_cost_12 (by decide) rfl ?_
      refine j_iconst (pc := 13) (v := 1) C dL_cost_13 (by decide) ?_
      exact ret_i C rfl hr hlk dL_cost_14 (Or.inr (Or.inl ⟨rfl, h9⟩)) (by decide) (by decide)
    · refine jx_catch C [⟨0, 9, 12, 13⟩] ⟨0, 9, 15, 15⟩ [] htb (fun z hz => Or.inr (by rw [List.mem_singleton.mp hz]; exact ⟨by decide, IAE, by decide +kernel, by decide⟩)) (by decide) (by decide) (by decide +kernel) (by decide +kernel) (fun q9 => ?_)
      refine j_astore_3 (pc := 15) C dL_cost_15 (by decide) rfl ?_
      refine j_iconst (pc := 16) (v := 2) C dL_cost_16 (by decide) ?_
      exact ret_i C rfl hr hlk dL_cost_17 (Or.inr (Or.inr ⟨rfl, h9⟩)) (by decide) (by decide)
  have hO := hP _ _ _ hu
  refine j_i2l (pc := 7) C dL_cost_7 ?_
  refine j_last (pc := 8) C hO rfl (show 0 < 1 by decide) (by decide) dL_cost_8 ?_
  refine j_goto (pc := 9) (tgt := 18) C dL_cost_9 (by decide) ?_
  refine j_iconst (pc := 18) (v := 0) C dL_cost_18 (by decide) ?_
  exact ret_i C rfl hr hlk dL_cost_19 (Or.inl ⟨rfl, v, w2, hu, rfl⟩) (by decide) (by decide)

set_option maxRecDepth 100000 in
set_option maxHeartbeats 4000000 in
theorem ct_L_worst {l : Launch} {G : Gp} {L : List Nat} {w : Wn} {a ao : Nat} {fo : Nat → Int64} {fs : List Value} {PP : Int32 → Sw → Prop} {XP : String → Sw → Prop} {p0 : Int32} (h0 : Hs L w 0 a (.inr (5, fs))) (hx : XI l yX4_worst wsX4_worst (rmD 30 100 1000) G L w [.ref a, .int p0] PP XP) (hP : ∀ r L2 w2, PP r (L2, w2) → Hs L2 w2 54 ao (jarE G 1 fo)) (hX : ∀ E9 u, XP E9 u → E9 = IAE ∨ E9 = ISE) : CI l yL_worst wsL_worst (rmD 31 100 1000) G L w [.ref a, .int p0, .ref ao] (fun k9 u => (k9 = 0 ∧ ∃ r w9, PP r (u.1, w9) ∧ u.2 = va_up w9 54 (ao, jarE G 1 (vp_updL fo 0 r.toInt64))) ∨ (k9 = 1 ∧ XP IAE u) ∨ (k9 = 2 ∧ XP ISE u)) := by
  refine mk_iH (cc := cL_worst) (maxL := 4) [some (.ref a), some (.int p0), some (.ref ao), none] (by decide) rfl (Nat.le_of_ble_eq_true rfl) rfl ?_
  intro p e s m args below meth c A C hr hlk htb
  refine j_aload_n (pc := 0) C rfl dL_worst_0 rfl ?_
  refine j_iconst (pc := 1) (v := 0) C dL_worst_1 (by decide) ?_
  refine j_aload_n (pc := 2) C rfl dL_worst_2 rfl ?_
  refine j_iload_n (pc := 3) C rfl dL_worst_3 rfl ?_
  refine jxV_i (pc := 4) (k2 := 100) (n2 := 1000) (np := 1) (As := [.int p0]) C hx gL_worst_X4_worst rfl (by decide +kernel) ⟨by decide, by decide⟩ h0 rfl rfl rfl (Nat.le_of_ble_eq_true rfl) dL_worst_4 (by decide) (by decide) ⟨by decide, by decide⟩ (fun E9 L9 w9 h9 => ?_) (fun v L2 w2 hu => ?_)
  · rcases hX _ _ h9 with rfl | rfl
    · refine jx_catch C [] ⟨0, 9, 12, 13⟩ [⟨0, 9, 15, 15⟩] htb (fun z hz => by cases hz) (by decide) (by decide) (by decide +kernel) (by decide +kernel) (fun q9 => ?_)
      refine j_astore_3 (pc := 12) C dL_worst_12 (by decide) rfl ?_
      refine j_iconst (pc := 13) (v := 1) C dL_worst_13 (by decide) ?_
      exact ret_i C rfl hr hlk dL_worst_14 (Or.inr (Or.inl ⟨rfl, h9⟩)) (by decide) (by decide)
    · refine jx_catch C [⟨0, 9, 12, 13⟩] ⟨0, 9, 15, 15⟩ [] htb (fun z hz => Or.inr (by rw [List.mem_singleton.mp hz]; exact ⟨by decide, IAE, by decide +kernel, by decide⟩)) (by decide) (by decide) (by decide +kernel) (by decide +kernel) (fun q9 => ?_)
      refine j_astore_3 (pc := 15) C dL_worst_15 (by decide) rfl ?_
      refine j_iconst (pc := 16) (v := 2) C dL_worst_16 (by decide) ?_
      exact ret_i C rfl hr hlk dL_worst_17 (Or.inr (Or.inr ⟨rfl, h9⟩)) (by decide) (by decide)
  have hO := hP _ _ _ hu
  refine j_i2l (pc := 7) C dL_worst_7 ?_
  refine j_last (pc := 8) C hO rfl (show 0 < 1 by decide) (by decide) dL_worst_8 ?_
  refine j_goto (pc := 9) (tgt := 18) C dL_worst_9 (by decide) ?_
  refine j_iconst (pc := 18) (v := 0) C dL_worst_18 (by decide) ?_
  exact ret_i C rfl hr hlk dL_worst_19 (Or.inl ⟨rfl, v, w2, hu, rfl⟩) (by decide) (by decide)

set_option maxRecDepth 100000 in
set_option maxHeartbeats 4000000 in
theorem ct_L_judge {l : Launch} {G : Gp} {L : List Nat} {w : Wn} {a ao : Nat} {fo : Nat → Int64} {fs : List Value} {PP : Int32 → Sw → Prop} {XP : String → Sw → Prop} {p0 : Int32} {p1 p2 : Int64} (h0 : Hs L w 0 a (.inr (5, fs))) (hx : XI l yX4_judge wsX4_judge (rmD 30 100 1000) G L w [.ref a, .int p0, .long p1, .long p2] PP XP) (hP : ∀ r L2 w2, PP r (L2, w2) → Hs L2 w2 54 ao (jarE G 1 fo)) (hX : ∀ E9 u, XP E9 u → E9 = IAE ∨ E9 = ISE) : CI l yL_judge wsL_judge (rmD 31 100 1000) G L w [.ref a, .int p0, .long p1, .long p2, .ref ao] (fun k9 u => (k9 = 0 ∧ ∃ r w9, PP r (u.1, w9) ∧ u.2 = va_up w9 54 (ao, jarE G 1 (vp_updL fo 0 r.toInt64))) ∨ (k9 = 1 ∧ XP IAE u) ∨ (k9 = 2 ∧ XP ISE u)) := by
  refine mk_iH (cc := cL_judge) (maxL := 8) [some (.ref a), some (.int p0), some (.long p1), none, some (.long p2), none, some (.ref ao), none] (by decide) rfl (Nat.le_of_ble_eq_true rfl) rfl ?_
  intro p e s m args below meth c A C hr hlk htb
  refine j_aload (pc := 0) C dL_judge_0 rfl ?_
  refine j_iconst (pc := 2) (v := 0) C dL_judge_2 (by decide) ?_
  refine j_aload_n (pc := 3) C rfl dL_judge_3 rfl ?_
  refine j_iload_n (pc := 4) C rfl dL_judge_4 rfl ?_
  refine j_lload_n (pc := 5) C rfl dL_judge_5 rfl ?_
  refine j_lload (pc := 6) C dL_judge_6 rfl ?_
  refine jxV_i (pc := 8) (k2 := 100) (n2 := 1000) (np := 3) (As := [.int p0, .long p1, .long p2]) C hx gL_judge_X4_judge rfl (by decide +kernel) ⟨by decide, by decide⟩ h0 rfl rfl rfl (Nat.le_of_ble_eq_true rfl) dL_judge_8 (by decide) (by decide) ⟨by decide, by decide⟩ (fun E9 L9 w9 h9 => ?_) (fun v L2 w2 hu => ?_)
  · rcases hX _ _ h9 with rfl | rfl
    · refine jx_catch C [] ⟨0, 13, 16, 13⟩ [⟨0, 13, 20, 15⟩] htb (fun z hz => by cases hz) (by decide) (by decide) (by decide +kernel) (by decide +kernel) (fun q9 => ?_)
      refine j_astore_7 (pc := 16) C dL_judge_16 (by decide) rfl ?_
      refine j_iconst (pc := 18) (v := 1) C dL_judge_18 (by decide) ?_
      exact ret_i C rfl hr hlk dL_judge_19 (Or.inr (Or.inl ⟨rfl, h9⟩)) (by decide) (by decide)
    · refine jx_catch C [⟨0, 13, 16, 13⟩] ⟨0, 13, 20, 15⟩ [] htb (fun z hz => Or.inr (by rw [List.mem_singleton.mp hz]; exact ⟨by decide, IAE, by decide +kernel, by decide⟩)) (by decide) (by decide) (by decide +kernel) (by decide +kernel) (fun q9 => ?_)
      refine j_astore_7 (pc := 20) C dL_judge_20 (by decide) rfl ?_
      refine j_iconst (pc := 22) (v := 2) C dL_judge_22 (by decide) ?_
      exact ret_i C rfl hr hlk dL_judge_23 (Or.inr (Or.inr ⟨rfl, h9⟩)) (by decide) (by decide)
  have hO := hP _ _ _ hu
  refine j_i2l (pc := 11) C dL_judge_11 ?_
  refine j_last (pc := 12) C hO rfl (show 0 < 1 by decide) (by decide) dL_judge_12 ?_
  refine j_goto (pc := 13) (tgt := 24) C dL_judge_13 (by decide) ?_
  refine j_iconst (pc := 24) (v := 0) C dL_judge_24 (by decide) ?_
  exact ret_i C rfl hr hlk dL_judge_25 (Or.inl ⟨rfl, v, w2, hu, rfl⟩) (by decide) (by decide)

set_option maxRecDepth 100000 in
set_option maxHeartbeats 4000000 in
theorem ct_L_judgeByRules {l : Launch} {G : Gp} {L : List Nat} {w : Wn} {a ao : Nat} {fo : Nat → Int64} {fs : List Value} {PP : Int32 → Sw → Prop} {XP : String → Sw → Prop} {p0 : Int32} {p1 p2 : Int64} (h0 : Hs L w 0 a (.inr (5, fs))) (hx : XI l yX4_judgeByRules wsX4_judgeByRules (rmD 30 100 1000) G L w [.ref a, .int p0, .long p1, .long p2] PP XP) (hP : ∀ r L2 w2, PP r (L2, w2) → Hs L2 w2 54 ao (jarE G 1 fo)) (hX : ∀ E9 u, XP E9 u → E9 = IAE) : CI l yL_judgeByRules wsL_judgeByRules (rmD 31 100 1000) G L w [.ref a, .int p0, .long p1, .long p2, .ref ao] (fun k9 u => (k9 = 0 ∧ ∃ r w9, PP r (u.1, w9) ∧ u.2 = va_up w9 54 (ao, jarE G 1 (vp_updL fo 0 r.toInt64))) ∨ (k9 = 1 ∧ XP IAE u) ∨ (k9 = 2 ∧ False)) := by
  refine mk_iH (cc := cL_judgeByRules) (maxL := 8) [some (.ref a), some (.int p0), some (.long p1), none, some (.long p2), none, some (.ref ao), none] (by decide) rfl (Nat.le_of_ble_eq_true rfl) rfl ?_
  intro p e s m args below meth c A C hr hlk htb
  refine j_aload (pc := 0) C dL_judgeByRules_0 rfl ?_
  refine j_iconst (pc := 2) (v := 0) C dL_judgeByRules_2 (by decide) ?_
  refine j_aload_n (pc := 3) C rfl dL_judgeByRules_3 rfl ?_
  refine j_iload_n (pc := 4) C rfl dL_judgeByRules_4 rfl ?_
  refine j_lload_n (pc := 5) C rfl dL_judgeByRules_5 rfl ?_
  refine j_lload (pc := 6) C dL_judgeByRules_6 rfl ?_
  refine jxV_i (pc := 8) (k2 := 100) (n2 := 1000) (np := 3) (As := [.int p0, .long p1, .long p2]) C hx gL_judgeByRules_X4_judgeByRules rfl (by decide +kernel) ⟨by decide, by decide⟩ h0 rfl rfl rfl (Nat.le_of_ble_eq_true rfl) dL_judgeByRules_8 (by decide) (by decide) ⟨by decide, by decide⟩ (fun E9 L9 w9 h9 => ?_) (fun v L2 w2 hu => ?_)
  · cases hX _ _ h9
    refine jx_catch C [] ⟨0, 13, 16, 13⟩ [] htb (fun z hz => by cases hz) (by decide) (by decide) (by decide +kernel) (by decide +kernel) (fun q9 => ?_)
    refine j_astore_7 (pc := 16) C dL_judgeByRules_16 (by decide) rfl ?_
    refine j_iconst (pc := 18) (v := 1) C dL_judgeByRules_18 (by decide) ?_
    exact ret_i C rfl hr hlk dL_judgeByRules_19 (Or.inr (Or.inl ⟨rfl, h9⟩)) (by decide) (by decide)
  have hO := hP _ _ _ hu
  refine j_i2l (pc := 11) C dL_judgeByRules_11 ?_
  refine j_last (pc := 12) C hO rfl (show 0 < 1 by decide) (by decide) dL_judgeByRules_12 ?_
  refine j_goto (pc := 13) (tgt := 20) C dL_judgeByRules_13 (by decide) ?_
  refine j_iconst (pc := 20) (v := 0) C dL_judgeByRules_20 (by decide) ?_
  exact ret_i C rfl hr hlk dL_judgeByRules_21 (Or.inl ⟨rfl, v, w2, hu, rfl⟩) (by decide) (by decide)

set_option maxRecDepth 100000 in
set_option maxHeartbeats 4000000 in
theorem ct_L_path {l : Launch} {G : Gp} {L : List Nat} {w : Wn} {a ao : Nat} {fo : Nat → Int64} {fs : List Value} {PP : Int32 → Sw → Prop} {XP : String → Sw → Prop} {p0 : Int32} {p1 p2 : Int64} (h0 : Hs L w 0 a (.inr (5, fs))) (hx : XI l yX4_path wsX4_path (rmD 30 100 1000) G L w [.ref a, .int p0, .long p1, .long p2] PP XP) (hP : ∀ r L2 w2, PP r (L2, w2) → Hs L2 w2 54 ao (jarE G 1 fo)) (hX : ∀ E9 u, XP E9 u → E9 = IAE ∨ E9 = ISE) : CI l yL_path wsL_path (rmD 31 100 1000) G L w [.ref a, .int p0, .long p1, .long p2, .ref ao] (fun k9 u => (k9 = 0 ∧ ∃ r w9, PP r (u.1, w9) ∧ u.2 = va_up w9 54 (ao, jarE G 1 (vp_updL fo 0 r.toInt64))) ∨ (k9 = 1 ∧ XP IAE u) ∨ (k9 = 2 ∧ XP ISE u)) := by
  refine mk_iH (cc := cL_path) (maxL := 8) [some (.ref a), some (.int p0), some (.long p1), none, some (.long p2), none, some (.ref ao), none] (by decide) rfl (Nat.le_of_ble_eq_true rfl) rfl ?_
  intro p e s m args below meth c A C hr hlk htb
  refine j_aload (pc := 0) C dL_path_0 rfl ?_
  refine j_iconst (pc := 2) (v := 0) C dL_path_2 (by decide) ?_
  refine j_aload_n (pc := 3) C rfl dL_path_3 rfl ?_
  refine j_iload_n (pc := 4) C rfl dL_path_4 rfl ?_
  refine j_lload_n (pc := 5) C rfl dL_path_5 rfl ?_
  refine j_lload (pc := 6) C dL_path_6 rfl ?_
  refine jxV_i (pc := 8) (k2 := 100) (n2 := 1000) (np := 3) (As := [.int p0, .long p1, .long p2]) C hx gL_path_X4_path rfl (by decide +kernel) ⟨by decide, by decide⟩ h0 rfl rfl rfl (Nat.le_of_ble_eq_true rfl) dL_path_8 (by decide) (by decide) ⟨by decide, by decide⟩ (fun E9 L9 w9 h9 => ?_) (fun v L2 w2 hu => ?_)
  · rcases hX _ _ h9 with rfl | rfl
    · refine jx_catch C [] ⟨0, 13, 16, 13⟩ [⟨0, 13, 20, 15⟩] htb (fun z hz => by cases hz) (by decide) (by decide) (by decide +kernel) (by decide +kernel) (fun q9 => ?_)
      refine j_astore_7 (pc := 16) C dL_path_16 (by decide) rfl ?_
      refine j_iconst (pc := 18) (v := 1) C dL_path_18 (by decide) ?_
      exact ret_i C rfl hr hlk dL_path_19 (Or.inr (Or.inl ⟨rfl, h9⟩)) (by decide) (by decide)
    · refine jx_catch C [⟨0, 13, 16, 13⟩] ⟨0, 13, 20, 15⟩ [] htb (fun z hz => Or.inr (by rw [List.mem_singleton.mp hz]; exact ⟨by decide, IAE, by decide +kernel, by decide⟩)) (by decide) (by decide) (by decide +kernel) (by decide +kernel) (fun q9 => ?_)
      refine j_astore_7 (pc := 20) C dL_path_20 (by decide) rfl ?_
      refine j_iconst (pc := 22) (v := 2) C dL_path_22 (by decide) ?_
      exact ret_i C rfl hr hlk dL_path_23 (Or.inr (Or.inr ⟨rfl, h9⟩)) (by decide) (by decide)
  have hO := hP _ _ _ hu
  refine j_i2l (pc := 11) C dL_path_11 ?_
  refine j_last (pc := 12) C hO rfl (show 0 < 1 by decide) (by decide) dL_path_12 ?_
  refine j_goto (pc := 13) (tgt := 24) C dL_path_13 (by decide) ?_
  refine j_iconst (pc := 24) (v := 0) C dL_path_24 (by decide) ?_
  exact ret_i C rfl hr hlk dL_path_25 (Or.inl ⟨rfl, v, w2, hu, rfl⟩) (by decide) (by decide)

set_option maxRecDepth 100000 in
set_option maxHeartbeats 4000000 in
theorem ct_L_actionOf {l : Launch} {G : Gp} {L : List Nat} {w : Wn} {a ao : Nat} {fo : Nat → Int64} {fs : List Value} {PP : Int32 → Sw → Prop} {XP : String → Sw → Prop} {p0 p1 : Int32} {p2 p3 : Int64} (h0 : Hs L w 0 a (.inr (5, fs))) (hx : XI l yX4_actionOf wsX4_actionOf (rmD 30 100 1000) G L w [.ref a, .int p0, .int p1, .long p2, .long p3] PP XP) (hP : ∀ r L2 w2, PP r (L2, w2) → Hs L2 w2 54 ao (jarE G 1 fo)) (hX : ∀ E9 u, XP E9 u → E9 = IAE) : CI l yL_actionOf wsL_actionOf (rmD 31 100 1000) G L w [.ref a, .int p0, .int p1, .long p2, .long p3, .ref ao] (fun k9 u => (k9 = 0 ∧ ∃ r w9, PP r (u.1, w9) ∧ u.2 = va_up w9 54 (ao, jarE G 1 (vp_updL fo 0 r.toInt64))) ∨ (k9 = 1 ∧ XP IAE u) ∨ (k9 = 2 ∧ False)) := by
  refine mk_iH (cc := cL_actionOf) (maxL := 9) [some (.ref a), some (.int p0), some (.int p1), some (.long p2), none, some (.long p3), none, some (.ref ao), none] (by decide) rfl (Nat.le_of_ble_eq_true rfl) rfl ?_
  intro p e s m args below meth c A C hr hlk htb
  refine j_aload (pc := 0) C dL_actionOf_0 rfl ?_
  refine j_iconst (pc := 2) (v := 0) C dL_actionOf_2 (by decide) ?_
  refine j_aload_n (pc := 3) C rfl dL_actionOf_3 rfl ?_
  refine j_iload_n (pc := 4) C rfl dL_actionOf_4 rfl ?_
  refine j_iload_n (pc := 5) C rfl dL_actionOf_5 rfl ?_
  refine j_lload_n (pc := 6) C rfl dL_actionOf_6 rfl ?_
  refine j_lload (pc := 7) C dL_actionOf_7 rfl ?_
  refine jxV_i (pc := 9) (k2 := 100) (n2 := 1000) (np := 4) (As := [.int p0, .int p1, .long p2, .long p3]) C hx gL_actionOf_X4_actionOf rfl (by decide +kernel) ⟨by decide, by decide⟩ h0 rfl rfl rfl (Nat.le_of_ble_eq_true rfl) dL_actionOf_9 (by decide) (by decide) ⟨by decide, by decide⟩ (fun E9 L9 w9 h9 => ?_) (fun v L2 w2 hu => ?_)
  · cases hX _ _ h9
    refine jx_catch C [] ⟨0, 14, 17, 13⟩ [] htb (fun z hz => by cases hz) (by decide) (by decide) (by decide +kernel) (by decide +kernel) (fun q9 => ?_)
    refine j_astore_8 (pc := 17) C dL_actionOf_17 (by decide) rfl ?_
    refine j_iconst (pc := 19) (v := 1) C dL_actionOf_19 (by decide) ?_
    exact ret_i C rfl hr hlk dL_actionOf_20 (Or.inr (Or.inl ⟨rfl, h9⟩)) (by decide) (by decide)
  have hO := hP _ _ _ hu
  refine j_i2l (pc := 12) C dL_actionOf_12 ?_
  refine j_last (pc := 13) C hO rfl (show 0 < 1 by decide) (by decide) dL_actionOf_13 ?_
  refine j_goto (pc := 14) (tgt := 21) C dL_actionOf_14 (by decide) ?_
  refine j_iconst (pc := 21) (v := 0) C dL_actionOf_21 (by decide) ?_
  exact ret_i C rfl hr hlk dL_actionOf_22 (Or.inl ⟨rfl, v, w2, hu, rfl⟩) (by decide) (by decide)

