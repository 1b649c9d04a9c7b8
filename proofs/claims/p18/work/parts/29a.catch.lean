/-! THE LAW'S OWN METHODS: they call the class, and tell what was thrown -/
theorem met_ofWH {l : Launch} {y : MethodName} {ws ws' : List Cond} {rm : Room} {Pc : Array Value → State → Prop} {Qc : Array Value → State → Outcome → State → Prop} {mc ms : Nat} {free : Addr → Prop} {cc : ByteArray} {maxL : Nat} {ret : Option FieldType} {hh : List (Nat × Nat × Nat × Nat)}
    (hy : plainName y.cls = true) (hw : ws = Cond.codeWith y cc maxL ret hh :: ws')
    (body : ∀ p e s m args below meth c s₁, BodyLoose p l y (headSpec ws rm) cc maxL ret e s m args below meth c s₁ → c.maxLocals = maxL → Pc args s →
      W p l e (headSpec ws rm).room s m args below meth c s.heap [] 0 0 (MQ below Qc args s mc ms free) (entryFrame m args maxL)) : Met l y ws rm Pc Qc mc ms free := by
  refine MetFree.of_bodyS (code := cc) (maxLocals := maxL) (ret := ret) hy ?_ ?_
  · intro args s m h hn
    obtain ⟨m9, meth, c, hn9, h1, h2, h3, h4, -, h5, h6, -⟩ := Cond.codeWith_spec (atoms_spec (ws := ws) h _ (by rw [hw]; exact List.mem_cons_self))
    cases hn.symm.trans hn9
    exact ⟨meth, c, h1, h2, h3, h4, h5, h6⟩
  · intro p e s m args below meth c s₁ B hml hP _
    have hh0 : s₁.heap = s.heap := by rw [B.state]; rfl
    obtain ⟨t, a1, o, b1, b2, b3⟩ := body p e s m args below meth c s₁ B hml hP s₁ hh0 (Stand.of_body B)
    exact ⟨t, o, a1, b1, b2, ⟨b3.1, b3.2⟩⟩
theorem mk_iH {l : Launch} {y : MethodName} {ws ws' : List Cond} {rm : Room} {G : Gp} {L : List Nat} {w : Wn} {av : List Value} {post : Int32 → Sw → Prop} {cc : ByteArray} {maxL : Nat} {ret : Option FieldType} {hh : List (Nat × Nat × Nat × Nat)} (lo : List (Option Value)) (hy : plainName y.cls = true) (hw : ws = Cond.codeWith y cc maxL ret hh :: ws') (hlen : (lg_sl av).length ≤ maxL) (hlo : lq 0 lo = lv_args 0 av)
    (body : ∀ (p : Program) (e : Env) (s : State) (m : MethodId) (args : Array Value) (below : List Frame) (meth : Method) (c : Code) (A : Nat → Prop), Cx p s m args c cc y.cls maxL ws G A s.heap → meth.sig.returnType = ret → meth.locks = false → c.exceptionTable.toList = tableOf hh → J p l e rm s m args below meth c G A s.heap maxL (MQ below (va_Qi post (PB G A) A) args s rm.cells rm.slots A) L w 0 0 0 lo []) : CI l y ws rm G L w av post := by
  intro sz
  refine met_ofWH (cc := cc) (maxL := maxL) (ret := ret) (hh := hh) hy hw ?_
  intro p e s m args below meth c s₁ B hml hv
  obtain ⟨rfl, hsz, hP, hK, hD0, hE⟩ := hv
  subst hsz
  have hts := atoms_spec (ws := ws) B.pre
  have hown := findClass_of_methodNamed B.named
  have hD := hD0.self (sz := s.heap.size)
  have htb : c.exceptionTable.toList = tableOf hh := vx_table (x := y) B (hts _ (by rw [hw]; exact List.mem_cons_self))
  generalize hAe : va_A (L.map w) s.heap.size = A at hD hE ⊢
  have hA : ∀ q : Nat, s.heap.size ≤ q → A q := fun q h => by rw [← hAe]; exact Or.inr h
  have hl := lv_entry av (n := maxL) hlen
  rw [lg_entry_eq]
  generalize (lg_sl av ++ List.replicate (maxL - (lg_sl av).length) Slot.unset).toArray = ls at hl ⊢
  rw [← hlo] at hl
  exact body p e s m _ below meth c A ⟨B.exec, B.bytes, hml, hown, hts, hK, hA, hE⟩ B.returns B.notSynchronized htb s.heap [] ls hP hD va_S.rf hl
section JCATCH
variable {p : Program} {l : Launch} {e : Env} {R : Room} {s : State} {m : MethodId} {args : Array Value} {below : List Frame} {meth : Method} {c : Code} {G : Gp} {A : Nat → Prop} {H0 : Heap} {nL : Nat} {Q : State → Prop} {L : List Nat} {w : Wn} {k n : Nat} {pc : Nat} {lo : List (Option Value)} {st : List Value} {cc : ByteArray} {own : String} {Ts : List Cond}
theorem jx_catch (C : Cx p s m args c cc own nL Ts G A H0) {E : String} (pre : List ExceptionTableEntry) (x : ExceptionTableEntry) (suf : List ExceptionTableEntry) (hsplit : c.exceptionTable.toList = pre ++ x :: suf) (hpass : ∀ z ∈ pre, covers z pc = false ∨ (z.catchType ≠ 0 ∧ ∃ nm : String, Cond.classLink own z.catchType nm ∈ Ts ∧ (E, nm) ∈ xncs)) (hx : covers x pc = true) (h0 : x.catchType ≠ 0) (hlink : Cond.classLink own x.catchType E ∈ Ts) (hcast : Cond.castable E E ∈ xwords)
    (kk : ∀ q : Nat, J p l e R s m args below meth c G A H0 nL Q L w k n x.handlerPc lo [.ref q]) : JX p l e R s m args below meth c G A H0 nL Q L w k n pc lo st E := fun H locs ls q ce hP hD hS hl hcell hv hcl => by
  refine vx_catch C.2.2.2.1 pre x suf hsplit (fun z hz => ?_) hx h0 (C.2.2.2.2.1 _ hlink) (va_Nw.use (xk_all _ hcast).2 (C.2.2.2.2.2.2.2.2.2.2.2.1 _ hcast)) hcell hv hcl (kk q H locs ls hP hD hS hl)
  rcases hpass z hz with h | ⟨h1, nm, h2, h3⟩
  · exact Or.inl h
  · exact Or.inr ⟨h1, nm, C.2.2.2.2.1 _ h2, C.2.2.2.2.2.2.2.2.2.2.2.2.2.2.2.2 (E, nm) h3⟩
theorem run_SW (C : Cx p s m args c cc own nL Ts G A H0) {y : MethodName} {bytes : ByteArray} {maxL np index : Nat} {ret : Option FieldType} {hh : List (Nat × Nat × Nat × Nat)} {ws : List Cond} {rm : Room} {Qc : Nat → Array Value → State → Outcome → State → Prop} {st0 As : List Value} (hM : ∀ sz, Met l y ws (rm) (PreW G L w sz (As)) (Qc sz) rm.cells rm.slots (va_A (L.map w) sz)) (cw : vx_CSW R s args own index y bytes maxL ret hh ws rm rm.cells rm.slots np) (hst : st0 = As.reverse ++ st) (hn9 : As.length = np) (hst9 : (st.map fun v => v.category).sum ≤ 8) (hdg : decode cc pc = .ok (.invokestatic index, 3)) (hf : k + rm.cells ≤ R.cells ∧ n + rm.slots ≤ R.slots) : RunOK p l e R s m args below meth c G A H0 nL L w k n rm.cells rm.slots pc lo st0 st (fun sz => Qc sz (As).toArray) := fun H locs ls hP hD hS hl => vx_runSW ⟨C.1, C.2.1, C.2.2.1, C.2.2.2.1, C.2.2.2.2.1⟩ (hM H.size) cw ⟨preW_blind, preW_of C hP hD hS⟩ rfl hn9 hl.1 hst (lv_room hst9) hdg hf
theorem jSW_i (C : Cx p s m args c cc own nL Ts G A H0) {y : MethodName} {bytes : ByteArray} {maxL np index : Nat} {ret : Option FieldType} {hh : List (Nat × Nat × Nat × Nat)} {ws ws9 : List Cond} {rm : Room} {st0 As : List Value} {post : Int32 → Sw → Prop} (hM : CI l y ws rm G L w As post) (hG : GoodIn Ts (va_wsS own index y ws)) (hw9 : ws = Cond.codeWith y bytes maxL ret hh :: ws9) (hd : y.cls ≠ "java/lang/invoke/MethodHandle" ∧ y.cls ≠ "java/lang/invoke/VarHandle" ∧ (parseMethodDescriptor y.desc).map (fun d => d.parameters.length) = some np) (hR9 : rm.frames + 1 ≤ R.frames ∧ 8 + (maxL + 11) + rm.locals ≤ R.locals)  (hst : st0 = As.reverse ++ st) (hn9 : As.length = np) (hst9 : (st.map fun v => v.category).sum ≤ 8) (hdg : decode cc pc = .ok (.invokestatic index, 3)) {k2 n2 : Nat} (hk2 : k + rm.cells ≤ k2) (hn2 : n + rm.slots ≤ n2) (hRR : k2 ≤ R.cells ∧ n2 ≤ R.slots) (kk : ∀ (r : Int32) (L2 : List Nat) (w2 : Wn), post r (L2, w2) → J p l e R s m args below meth c G A H0 nL Q L2 w2 k2 n2 (pc + 3) (lo) (.int r :: st)) : J p l e R s m args below meth c G A H0 nL Q L w k n pc (lo) (st0) := call_i C (run_SW C hM (vx_cwSW np C.2.2.2.2.1 hG hw9 rfl rfl hd hR9) hst hn9 hst9 hdg ⟨Nat.le_trans hk2 hRR.1, Nat.le_trans hn2 hRR.2⟩) hk2 hn2 kk
end JCATCH
section JSCR
variable {p : Program} {l : Launch} {e : Env} {R : Room} {s : State} {m : MethodId} {args : Array Value} {below : List Frame} {meth : Method} {c : Code} {G : Gp} {A : Nat → Prop} {H0 : Heap} {nL : Nat} {Q : State → Prop} {L : List Nat} {w : Wn} {k n : Nat} {pc : Nat} {lo : List (Option Value)} {st : List Value} {cc : ByteArray} {own : String} {Ts : List Cond}
theorem j_sld (C : Cx p s m args c cc own nL Ts G A H0) {b LL : Nat} {xs : Nat → Int32} (hX : va_X b LL xs s H0) (hbl : b < H0.size) (hbA : ¬ A b) {j : Nat} (hj : j < LL) (hL : LL < 2147483648) (hdg : decode cc pc = .ok (.iaload, 1)) (kk : J p l e R s m args below meth c G A H0 nL Q L w k n (pc + 1) lo (.int (xs j) :: st)) : J p l e R s m args below meth c G A H0 nL Q L w k n pc lo (.int (nI j) :: .ref b :: st) := fun H locs ls hP hD hS hl => va_sld C.1 C.2.1 hX hbl hbA hS (vp_in_nI hj hL) hdg (by rw [nI_clamp (by omega)]; exact kk H locs ls hP hD hS hl)
theorem j_slen (C : Cx p s m args c cc own nL Ts G A H0) {b LL : Nat} {xs : Nat → Int32} (hX : va_X b LL xs s H0) (hbl : b < H0.size) (hbA : ¬ A b) (hdg : decode cc pc = .ok (.arraylength, 1)) (kk : J p l e R s m args below meth c G A H0 nL Q L w k n (pc + 1) lo (.int (nI LL) :: st)) : J p l e R s m args below meth c G A H0 nL Q L w k n pc lo (.ref b :: st) := fun H locs ls hP hD hS hl => va_slen C.1 C.2.1 hX hbl hbA hS hdg (kk H locs ls hP hD hS hl)
theorem j_tblIn (C : Cx p s m args c cc own nL Ts G A H0) {dflt lo9 hi9 : Int} {offs : Array Int} {len : Nat} {x : Int32} {off : Int} {tgt : Nat} (hdg : decode cc pc = .ok (.tableswitch dflt lo9 hi9 offs, len)) (h1 : ¬ x.toInt < lo9) (h2 : ¬ hi9 < x.toInt) (ho : offs[(x.toInt - lo9).toNat]? = some off) (ht : (pc : Int) + off = (tgt : Int)) (kk : J p l e R s m args below meth c G A H0 nL Q L w k n tgt lo st) : J p l e R s m args below meth c G A H0 nL Q L w k n pc lo (.int x :: st) := fun H locs ls hP hD hS hl => lv_tableIn C.1 C.2.1 hdg h1 h2 ho ht (kk H locs ls hP hD hS hl)
theorem j_tblOut (C : Cx p s m args c cc own nL Ts G A H0) {dflt lo9 hi9 : Int} {offs : Array Int} {len : Nat} {x : Int32} {tgt : Nat} (hdg : decode cc pc = .ok (.tableswitch dflt lo9 hi9 offs, len)) (h : x.toInt < lo9 ∨ hi9 < x.toInt) (ht : (pc : Int) + dflt = (tgt : Int)) (kk : J p l e R s m args below meth c G A H0 nL Q L w k n tgt lo st) : J p l e R s m args below meth c G A H0 nL Q L w k n pc lo (.int x :: st) := fun H locs ls hP hD hS hl => lv_tableOut C.1 C.2.1 hdg h ht (kk H locs ls hP hD hS hl)
end JSCR
