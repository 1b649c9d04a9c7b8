/-! CONTRACTS over the named world -/
def PreW (G : Gp) (L : List Nat) (w : Wn) (sz : Nat) (av : List Value) : Array Value → State → Prop := va_Pc av (fun U => U.heap.size = sz ∧ va_P G.1 vwCl (L.map w) U.heap ∧ va_K G.1 vwCl (tysG G) U ∧ va_D (fun _ => True) (L.map w) ∧ Ext G (va_A (L.map w) sz) U U.heap)
def PB (G : Gp) (A : Nat → Prop) (u : Sw) (t : State) : Prop := va_P G.1 vwCl (u.1.map u.2) t.heap ∧ va_D A (u.1.map u.2)
def CI (l : Launch) (y : MethodName) (ws : List Cond) (rm : Room) (G : Gp) (L : List Nat) (w : Wn) (av : List Value) (post : Int32 → Sw → Prop) : Prop := ∀ sz : Nat, Met l y ws rm (PreW G L w sz av) (va_Qi post (PB G (va_A (L.map w) sz)) (va_A (L.map w) sz)) rm.cells rm.slots (va_A (L.map w) sz)
def CL (l : Launch) (y : MethodName) (ws : List Cond) (rm : Room) (G : Gp) (L : List Nat) (w : Wn) (av : List Value) (post : Int64 → Sw → Prop) : Prop := ∀ sz : Nat, Met l y ws rm (PreW G L w sz av) (va_Ql post (PB G (va_A (L.map w) sz)) (va_A (L.map w) sz)) rm.cells rm.slots (va_A (L.map w) sz)
def CV (l : Launch) (y : MethodName) (ws : List Cond) (rm : Room) (G : Gp) (L : List Nat) (w : Wn) (av : List Value) (post : Sw → Prop) : Prop := ∀ sz : Nat, Met l y ws rm (PreW G L w sz av) (va_Qv post (PB G (va_A (L.map w) sz)) (va_A (L.map w) sz)) rm.cells rm.slots (va_A (L.map w) sz)
def CQ (l : Launch) (y : MethodName) (ws : List Cond) (rm : Room) (G : Gp) (L : List Nat) (w : Wn) (av : List Value) (post : Option Nat → Sw → Prop) : Prop := ∀ sz : Nat, Met l y ws rm (PreW G L w sz av) (va_Qq post (PB G (va_A (L.map w) sz)) (va_A (L.map w) sz)) rm.cells rm.slots (va_A (L.map w) sz)
def XX (G : Gp) (A : Nat → Prop) (xp : String → Sw → Prop) : String → State → State → Prop := vx_X (fun u : String × Sw => xp u.1 u.2) (fun E u t => E = u.1 ∧ PB G A u.2 t) A
def XI (l : Launch) (y : MethodName) (ws : List Cond) (rm : Room) (G : Gp) (L : List Nat) (w : Wn) (av : List Value) (post : Int32 → Sw → Prop) (xp : String → Sw → Prop) : Prop := ∀ sz : Nat, vx_Met l y ws rm (PreW G L w sz av) (va_Qi post (PB G (va_A (L.map w) sz)) (va_A (L.map w) sz)) (XX G (va_A (L.map w) sz) xp) rm.cells rm.slots (va_A (L.map w) sz)
def XV (l : Launch) (y : MethodName) (ws : List Cond) (rm : Room) (G : Gp) (L : List Nat) (w : Wn) (av : List Value) (post : Sw → Prop) (xp : String → Sw → Prop) : Prop := ∀ sz : Nat, vx_Met l y ws rm (PreW G L w sz av) (va_Qv post (PB G (va_A (L.map w) sz)) (va_A (L.map w) sz)) (XX G (va_A (L.map w) sz) xp) rm.cells rm.slots (va_A (L.map w) sz)
theorem preW_blind {G : Gp} {L : List Nat} {w : Wn} {sz : Nat} {av : List Value} : FrameBlind (PreW G L w sz av) := fun a U g mk h => by
  obtain ⟨h0, h1, h2, h3, h4, h5⟩ := h
  exact ⟨h0, h1, h2, va_K.moved (u := U) (U := U.calling g mk a) (Vm.Alike.refl U.vm) h3, h4, Ext.same (u := U) (U := U.calling g mk a) rfl h5⟩
section JCALL
variable {p : Program} {l : Launch} {e : Env} {R : Room} {s : State} {m : MethodId} {args : Array Value} {below : List Frame} {meth : Method} {c : Code} {G : Gp} {A : Nat → Prop} {H0 : Heap} {nL : Nat} {Q : State → Prop} {L : List Nat} {w : Wn} {k n : Nat} {pc : Nat} {lo : List (Option Value)} {st : List Value} {cc : ByteArray} {own : String} {Ts : List Cond}
theorem fr_A {H : Heap} {locs : List Loc} (hD : va_D A (L.map w)) (hS : va_S A H0 H locs) (hA : ∀ q, H0.size ≤ q → A q) : ∀ q, va_A (L.map w) H.size q → A q := by
  intro q h
  rcases h with ⟨k, e, h⟩ | h
  · exact hD.2 k (q, e) h
  · exact hA q (Nat.le_trans hS.1 h)
theorem preW_of (C : Cx p s m args c cc own nL Ts G A H0) {H : Heap} {locs : List Loc} (hP : va_P G.1 vwCl (L.map w) H) (hD : va_D A (L.map w)) (hS : va_S A H0 H locs) {av : List Value} : ∀ U : State, U.heap = H → s.WarmedH U.vm → PreW G L w H.size av av.toArray U := fun U hU hW => by
  refine ⟨rfl, by rw [hU], by rw [hU]; exact hP, va_K.moved hW.alike C.2.2.2.2.2.1, ⟨hD.1, fun _ _ _ => trivial⟩, ?_⟩
  rw [hU]
  exact C.2.2.2.2.2.2.2.at' hS hW (fr_A hD hS C.2.2.2.2.2.2.1)
def RunOK (p : Program) (l : Launch) (e : Env) (R : Room) (s : State) (m : MethodId) (args : Array Value) (below : List Frame) (meth : Method) (c : Code) (G : Gp) (A : Nat → Prop) (H0 : Heap) (nL : Nat) (L : List Nat) (w : Wn) (k n mc ms : Nat) (pc : Nat) (lo : List (Option Value)) (st0 st : List Value) (Qa : Nat → State → Outcome → State → Prop) : Prop := ∀ (H : Heap) (locs : List Loc) (ls : Array Slot), va_P G.1 vwCl (L.map w) H → va_D A (L.map w) → va_S A H0 H locs → lv_has ls nL (lq 0 lo) → va_Run p l e R s m args below meth c H locs k n mc ms (F0 m pc ls st0) st (Qa H.size) (va_A (L.map w) H.size)
def RunX (p : Program) (l : Launch) (e : Env) (R : Room) (s : State) (m : MethodId) (args : Array Value) (below : List Frame) (meth : Method) (c : Code) (G : Gp) (A : Nat → Prop) (H0 : Heap) (nL : Nat) (L : List Nat) (w : Wn) (k n mc ms : Nat) (pc : Nat) (lo : List (Option Value)) (st0 st : List Value) (Qa : Nat → State → Outcome → State → Prop) (XC : Nat → String → State → State → Prop) : Prop := ∀ (H : Heap) (locs : List Loc) (ls : Array Slot), va_P G.1 vwCl (L.map w) H → va_D A (L.map w) → va_S A H0 H locs → lv_has ls nL (lq 0 lo) → vx_Run p l e R s m args below meth c H locs k n mc ms (F0 m pc ls st0) st (Qa H.size) (XC H.size) (va_A (L.map w) H.size)
theorem run_V (C : Cx p s m args c cc own nL Ts G A H0) {y : MethodName} {bytes : ByteArray} {maxL np index : Nat} {ret : Option FieldType} {ws : List Cond} {rm : Room} {Qc : Nat → Array Value → State → Outcome → State → Prop} {st0 As : List Value} {Cn : String} {b : Nat} (hM : ∀ sz, Met l y ws (rm) (PreW G L w sz (.ref b :: As)) (Qc sz) rm.cells rm.slots (va_A (L.map w) sz)) (cw : CallW R s args own Cn index y bytes maxL ret ws rm rm.cells rm.slots np) {qb ci : Nat} {fs : List Value} {T : u_T} {N : Nat} (recv : Hs L w qb b (.inr (ci, fs))) (hc : vwCl[ci]? = some (Cn, T, N)) (hst : st0 = As.reverse ++ .ref b :: st) (hn9 : As.length = np) (hst9 : (st.map fun v => v.category).sum ≤ 8) (hdg : decode cc pc = .ok (.invokevirtual index, 3)) (hf : k + rm.cells ≤ R.cells ∧ n + rm.slots ≤ R.slots) : RunOK p l e R s m args below meth c G A H0 nL L w k n rm.cells rm.slots pc lo st0 st (fun sz => Qc sz (Value.ref b :: As).toArray) := fun H locs ls hP hD hS hl => va_runV ⟨C.1, C.2.1, C.2.2.1, C.2.2.2.1, C.2.2.2.2.1⟩ (hM H.size) cw ⟨preW_blind, by obtain ⟨j, -, hj⟩ := hs_at recv; exact va_recv C.2.2.2.2.2.1 hP hc hj, preW_of C hP hD hS⟩ rfl hn9 hl.1 hst (lv_room hst9) hdg hf
theorem run_S (C : Cx p s m args c cc own nL Ts G A H0) {y : MethodName} {bytes : ByteArray} {maxL np index : Nat} {ret : Option FieldType} {ws : List Cond} {rm : Room} {Qc : Nat → Array Value → State → Outcome → State → Prop} {st0 As : List Value} (hM : ∀ sz, Met l y ws (rm) (PreW G L w sz (As)) (Qc sz) rm.cells rm.slots (va_A (L.map w) sz)) (cw : CallB R s args own index y bytes maxL ret ws rm rm.cells rm.slots np ∧ (Cond.static y).before args s = true) (hst : st0 = As.reverse ++ st) (hn9 : As.length = np) (hst9 : (st.map fun v => v.category).sum ≤ 8) (hdg : decode cc pc = .ok (.invokestatic index, 3)) (hf : k + rm.cells ≤ R.cells ∧ n + rm.slots ≤ R.slots) : RunOK p l e R s m args below meth c G A H0 nL L w k n rm.cells rm.slots pc lo st0 st (fun sz => Qc sz (As).toArray) := fun H locs ls hP hD hS hl => va_runS ⟨C.1, C.2.1, C.2.2.1, C.2.2.2.1, C.2.2.2.2.1⟩ (hM H.size) cw ⟨preW_blind, preW_of C hP hD hS⟩ rfl hn9 hl.1 hst (lv_room hst9) hdg hf
theorem run_I (C : Cx p s m args c cc own nL Ts G A H0) {y : MethodName} {bytes : ByteArray} {maxL np index : Nat} {ret : Option FieldType} {ws : List Cond} {rm : Room} {Qc : Nat → Array Value → State → Outcome → State → Prop} {st0 As : List Value} {b : Nat} (hM : ∀ sz, Met l y ws (rm) (PreW G L w sz (.ref b :: As)) (Qc sz) rm.cells rm.slots (va_A (L.map w) sz)) (cw : CallB R s args own index y bytes maxL none ws rm rm.cells rm.slots np ∧ y.name = "<init>" ∧ (Cond.instanceMethod y).before args s = true) (hst : st0 = As.reverse ++ .ref b :: st) (hn9 : As.length = np) (hst9 : (st.map fun v => v.category).sum ≤ 8) (hdg : decode cc pc = .ok (.invokespecial index, 3)) (hf : k + rm.cells ≤ R.cells ∧ n + rm.slots ≤ R.slots) : RunOK p l e R s m args below meth c G A H0 nL L w k n rm.cells rm.slots pc lo st0 st (fun sz => Qc sz (Value.ref b :: As).toArray) := fun H locs ls hP hD hS hl => va_runI ⟨C.1, C.2.1, C.2.2.1, C.2.2.2.1, C.2.2.2.2.1⟩ (hM H.size) cw ⟨preW_blind, preW_of C hP hD hS⟩ rfl hn9 hl.1 hst (lv_room hst9) hdg hf
theorem run_IN (C : Cx p s m args c cc own nL Ts G A H0) {y : MethodName} {bytes : ByteArray} {maxL np index : Nat} {ret : Option FieldType} {ws : List Cond} {rm : Room} {Qc : Nat → Array Value → State → Outcome → State → Prop} {st0 As : List Value} {b : Nat} {host : String} (hM : ∀ sz, Met l y ws (rm) (PreW G L w sz (.ref b :: As)) (Qc sz) rm.cells rm.slots (va_A (L.map w) sz)) (cw : va_CN R s args own index y host bytes maxL none ws rm rm.cells rm.slots np ∧ y.name = "<init>" ∧ (Cond.instanceMethod y).before args s = true) (hst : st0 = As.reverse ++ .ref b :: st) (hn9 : As.length = np) (hst9 : (st.map fun v => v.category).sum ≤ 8) (hdg : decode cc pc = .ok (.invokespecial index, 3)) (hf : k + rm.cells ≤ R.cells ∧ n + rm.slots ≤ R.slots) : RunOK p l e R s m args below meth c G A H0 nL L w k n rm.cells rm.slots pc lo st0 st (fun sz => Qc sz (Value.ref b :: As).toArray) := fun H locs ls hP hD hS hl => va_runIN ⟨C.1, C.2.1, C.2.2.1, C.2.2.2.1, C.2.2.2.2.1⟩ (hM H.size) cw ⟨preW_blind, preW_of C hP hD hS⟩ rfl hn9 hl.1 hst (lv_room hst9) hdg hf
theorem runx_V (C : Cx p s m args c cc own nL Ts G A H0) {y : MethodName} {bytes : ByteArray} {maxL np index : Nat} {ret : Option FieldType} {ws : List Cond} {rm : Room} {Qc : Nat → Array Value → State → Outcome → State → Prop} {XC : Nat → String → State → State → Prop} {st0 As : List Value} {Cn : String} {b : Nat} (hM : ∀ sz, vx_Met l y ws (rm) (PreW G L w sz (.ref b :: As)) (Qc sz) (XC sz) rm.cells rm.slots (va_A (L.map w) sz)) (cw : CallW R s args own Cn index y bytes maxL ret ws rm rm.cells rm.slots np) {qb ci : Nat} {fs : List Value} {T : u_T} {N : Nat} (recv : Hs L w qb b (.inr (ci, fs))) (hc : vwCl[ci]? = some (Cn, T, N)) (hst : st0 = As.reverse ++ .ref b :: st) (hn9 : As.length = np) (hst9 : (st.map fun v => v.category).sum ≤ 8) (hdg : decode cc pc = .ok (.invokevirtual index, 3)) (hf : k + rm.cells ≤ R.cells ∧ n + rm.slots ≤ R.slots) : RunX p l e R s m args below meth c G A H0 nL L w k n rm.cells rm.slots pc lo st0 st (fun sz => Qc sz (Value.ref b :: As).toArray) XC := fun H locs ls hP hD hS hl => vx_runV ⟨C.1, C.2.1, C.2.2.1, C.2.2.2.1, C.2.2.2.2.1⟩ (hM H.size) cw ⟨preW_blind, by obtain ⟨j, -, hj⟩ := hs_at recv; exact va_recv C.2.2.2.2.2.1 hP hc hj, preW_of C hP hD hS⟩ rfl hn9 hl.1 hst (lv_room hst9) hdg hf
theorem runx_S (C : Cx p s m args c cc own nL Ts G A H0) {y : MethodName} {bytes : ByteArray} {maxL np index : Nat} {ret : Option FieldType} {ws : List Cond} {rm : Room} {Qc : Nat → Array Value → State → Outcome → State → Prop} {XC : Nat → String → State → State → Prop} {st0 As : List Value} (hM : ∀ sz, vx_Met l y ws (rm) (PreW G L w sz (As)) (Qc sz) (XC sz) rm.cells rm.slots (va_A (L.map w) sz)) (cw : CallB R s args own index y bytes maxL ret ws rm rm.cells rm.slots np ∧ (Cond.static y).before args s = true) (hst : st0 = As.reverse ++ st) (hn9 : As.length = np) (hst9 : (st.map fun v => v.category).sum ≤ 8) (hdg : decode cc pc = .ok (.invokestatic index, 3)) (hf : k + rm.cells ≤ R.cells ∧ n + rm.slots ≤ R.slots) : RunX p l e R s m args below meth c G A H0 nL L w k n rm.cells rm.slots pc lo st0 st (fun sz => Qc sz (As).toArray) XC := fun H locs ls hP hD hS hl => vx_runS ⟨C.1, C.2.1, C.2.2.1, C.2.2.2.1, C.2.2.2.2.1⟩ (hM H.size) cw ⟨preW_blind, preW_of C hP hD hS⟩ rfl hn9 hl.1 hst (lv_room hst9) hdg hf
/-- an exception of the class E over the frame -/
def JX (p : Program) (l : Launch) (e : Env) (R : Room) (s : State) (m : MethodId) (args : Array Value) (below : List Frame) (meth : Method) (c : Code) (G : Gp) (A : Nat → Prop) (H0 : Heap) (nL : Nat) (Q : State → Prop) (L : List Nat) (w : Wn) (k n : Nat) (pc : Nat) (lo : List (Option Value)) (st : List Value) (E : String) : Prop :=
  ∀ (H : Heap) (locs : List Loc) (ls : Array Slot) (q : Addr) (ce : Cell), va_P G.1 vwCl (L.map w) H → va_D A (L.map w) → va_S A H0 H locs → lv_has ls nL (lq 0 lo) → H[q]? = some ce → ce.vm = .none → s.vm.findClass E = some ce.cls → vx_W p l e R s m args below meth c H locs k n Q (F0 m pc ls st) q
theorem call_i (C : Cx p s m args c cc own nL Ts G A H0) {st0 av : List Value} {mc ms : Nat} {post : Int32 → Sw → Prop} (hr : RunOK p l e R s m args below meth c G A H0 nL L w k n mc ms pc lo st0 st (fun sz => va_Qi post (PB G (va_A (L.map w) sz)) (va_A (L.map w) sz) av.toArray)) {k2 n2 : Nat} (hk2 : k + mc ≤ k2) (hn2 : n + ms ≤ n2) (kk : ∀ (r : Int32) (L2 : List Nat) (w2 : Wn), post r (L2, w2) → J p l e R s m args below meth c G A H0 nL Q L2 w2 k2 n2 (pc + 3) (lo) (.int r :: st)) : J p l e R s m args below meth c G A H0 nL Q L w k n pc (lo) (st0) := fun H locs ls hP hD hS hl => va_calli (hr H locs ls hP hD hS hl) hS (fun q _ h => fr_A hD hS C.2.2.2.2.2.2.1 q h) (fr_A hD hS C.2.2.2.2.2.2.1) (fun r u t H1 locs1 ht hvm hw hB hz1 hk1 hS1 => W.widen hk2 hn2 (kk r u.1 u.2 hw H1 locs1 ls (by rw [← ht]; exact hB.1) ⟨hB.2.1, fun k9 q9 h9 => fr_A hD hS C.2.2.2.2.2.2.1 _ (hB.2.2 k9 q9 h9)⟩ hS1 hl))
theorem callx_i (C : Cx p s m args c cc own nL Ts G A H0) {st0 av : List Value} {mc ms : Nat} {post : Int32 → Sw → Prop} {xp : String → Sw → Prop} (hr : RunX p l e R s m args below meth c G A H0 nL L w k n mc ms pc lo st0 st (fun sz => va_Qi post (PB G (va_A (L.map w) sz)) (va_A (L.map w) sz) av.toArray) (fun sz => XX G (va_A (L.map w) sz) xp)) {k2 n2 : Nat} (hk2 : k + mc ≤ k2) (hn2 : n + ms ≤ n2) (kx : ∀ (E : String) (L2 : List Nat) (w2 : Wn), xp E (L2, w2) → JX p l e R s m args below meth c G A H0 nL Q L2 w2 k2 n2 pc lo st E) (kk : ∀ (r : Int32) (L2 : List Nat) (w2 : Wn), post r (L2, w2) → J p l e R s m args below meth c G A H0 nL Q L2 w2 k2 n2 (pc + 3) (lo) (.int r :: st)) : J p l e R s m args below meth c G A H0 nL Q L w k n pc (lo) (st0) := fun H locs ls hP hD hS hl => vx_calli (hr H locs ls hP hD hS hl) hS (fun q _ h => fr_A hD hS C.2.2.2.2.2.2.1 q h) (fr_A hD hS C.2.2.2.2.2.2.1) (fun q _ h => fr_A hD hS C.2.2.2.2.2.2.1 q h) (fun E ce q9 u t H1 locs1 ht hvm hw hB hz1 hk1 hS1 h7 h8 h9 => by
    obtain ⟨rfl, hB⟩ := hB
    exact vx_widen hk2 hn2 (kx u.1 u.2.1 u.2.2 hw H1 locs1 ls q9 ce (by rw [← ht]; exact hB.1) ⟨hB.2.1, fun k9 q9 h9 => fr_A hD hS C.2.2.2.2.2.2.1 _ (hB.2.2 k9 q9 h9)⟩ hS1 hl h7 h8 h9)) (fun r u t H1 locs1 ht hvm hw hB hz1 hk1 hS1 => W.widen hk2 hn2 (kk r u.1 u.2 hw H1 locs1 ls (by rw [← ht]; exact hB.1) ⟨hB.2.1, fun k9 q9 h9 => fr_A hD hS C.2.2.2.2.2.2.1 _ (hB.2.2 k9 q9 h9)⟩ hS1 hl))
theorem call_l (C : Cx p s m args c cc own nL Ts G A H0) {st0 av : List Value} {mc ms : Nat} {post : Int64 → Sw → Prop} (hr : RunOK p l e R s m args below meth c G A H0 nL L w k n mc ms pc lo st0 st (fun sz => va_Ql post (PB G (va_A (L.map w) sz)) (va_A (L.map w) sz) av.toArray)) {k2 n2 : Nat} (hk2 : k + mc ≤ k2) (hn2 : n + ms ≤ n2) (kk : ∀ (r : Int64) (L2 : List Nat) (w2 : Wn), post r (L2, w2) → J p l e R s m args below meth c G A H0 nL Q L2 w2 k2 n2 (pc + 3) (lo) (.long r :: st)) : J p l e R s m args below meth c G A H0 nL Q L w k n pc (lo) (st0) := fun H locs ls hP hD hS hl => va_calll (hr H locs ls hP hD hS hl) hS (fun q _ h => fr_A hD hS C.2.2.2.2.2.2.1 q h) (fr_A hD hS C.2.2.2.2.2.2.1) (fun r u t H1 locs1 ht hvm hw hB hz1 hk1 hS1 => W.widen hk2 hn2 (kk r u.1 u.2 hw H1 locs1 ls (by rw [← ht]; exact hB.1) ⟨hB.2.1, fun k9 q9 h9 => fr_A hD hS C.2.2.2.2.2.2.1 _ (hB.2.2 k9 q9 h9)⟩ hS1 hl))
theorem call_q (C : Cx p s m args c cc own nL Ts G A H0) {st0 av : List Value} {mc ms : Nat} {post : Option Nat → Sw → Prop} (hr : RunOK p l e R s m args below meth c G A H0 nL L w k n mc ms pc lo st0 st (fun sz => va_Qq post (PB G (va_A (L.map w) sz)) (va_A (L.map w) sz) av.toArray)) {k2 n2 : Nat} (hk2 : k + mc ≤ k2) (hn2 : n + ms ≤ n2) (kk : ∀ (r : Option Nat) (L2 : List Nat) (w2 : Wn), post r (L2, w2) → J p l e R s m args below meth c G A H0 nL Q L2 w2 k2 n2 (pc + 3) (lo) (va_rf r :: st)) : J p l e R s m args below meth c G A H0 nL Q L w k n pc (lo) (st0) := fun H locs ls hP hD hS hl => va_callq (hr H locs ls hP hD hS hl) hS (fun q _ h => fr_A hD hS C.2.2.2.2.2.2.1 q h) (fr_A hD hS C.2.2.2.2.2.2.1) (fun r u t H1 locs1 ht hvm hw hB hz1 hk1 hS1 => W.widen hk2 hn2 (kk r u.1 u.2 hw H1 locs1 ls (by rw [← ht]; exact hB.1) ⟨hB.2.1, fun k9 q9 h9 => fr_A hD hS C.2.2.2.2.2.2.1 _ (hB.2.2 k9 q9 h9)⟩ hS1 hl))
theorem call_v (C : Cx p s m args c cc own nL Ts G A H0) {st0 av : List Value} {mc ms : Nat} {post : Sw → Prop} (hr : RunOK p l e R s m args below meth c G A H0 nL L w k n mc ms pc lo st0 st (fun sz => va_Qv post (PB G (va_A (L.map w) sz)) (va_A (L.map w) sz) av.toArray)) {k2 n2 : Nat} (hk2 : k + mc ≤ k2) (hn2 : n + ms ≤ n2) (kk : ∀ (L2 : List Nat) (w2 : Wn), post (L2, w2) → J p l e R s m args below meth c G A H0 nL Q L2 w2 k2 n2 (pc + 3) (lo) (st)) : J p l e R s m args below meth c G A H0 nL Q L w k n pc (lo) (st0) := fun H locs ls hP hD hS hl => va_callv (hr H locs ls hP hD hS hl) hS (fun q _ h => fr_A hD hS C.2.2.2.2.2.2.1 q h) (fr_A hD hS C.2.2.2.2.2.2.1) (fun u t H1 locs1 ht hvm hw hB hz1 hk1 hS1 => W.widen hk2 hn2 (kk u.1 u.2 hw H1 locs1 ls (by rw [← ht]; exact hB.1) ⟨hB.2.1, fun k9 q9 h9 => fr_A hD hS C.2.2.2.2.2.2.1 _ (hB.2.2 k9 q9 h9)⟩ hS1 hl))
theorem callx_v (C : Cx p s m args c cc own nL Ts G A H0) {st0 av : List Value} {mc ms : Nat} {post : Sw → Prop} {xp : String → Sw → Prop} (hr : RunX p l e R s m args below meth c G A H0 nL L w k n mc ms pc lo st0 st (fun sz => va_Qv post (PB G (va_A (L.map w) sz)) (va_A (L.map w) sz) av.toArray) (fun sz => XX G (va_A (L.map w) sz) xp)) {k2 n2 : Nat} (hk2 : k + mc ≤ k2) (hn2 : n + ms ≤ n2) (kx : ∀ (E : String) (L2 : List Nat) (w2 : Wn), xp E (L2, w2) → JX p l e R s m args below meth c G A H0 nL Q L2 w2 k2 n2 pc lo st E) (kk : ∀ (L2 : List Nat) (w2 : Wn), post (L2, w2) → J p l e R s m args below meth c G A H0 nL Q L2 w2 k2 n2 (pc + 3) (lo) (st)) : J p l e R s m args below meth c G A H0 nL Q L w k n pc (lo) (st0) := fun H locs ls hP hD hS hl => vx_callv (hr H locs ls hP hD hS hl) hS (fun q _ h => fr_A hD hS C.2.2.2.2.2.2.1 q h) (fr_A hD hS C.2.2.2.2.2.2.1) (fun q _ h => fr_A hD hS C.2.2.2.2.2.2.1 q h) (fun E ce q9 u t H1 locs1 ht hvm hw hB hz1 hk1 hS1 h7 h8 h9 => by
    obtain ⟨rfl, hB⟩ := hB
    exact vx_widen hk2 hn2 (kx u.1 u.2.1 u.2.2 hw H1 locs1 ls q9 ce (by rw [← ht]; exact hB.1) ⟨hB.2.1, fun k9 q9 h9 => fr_A hD hS C.2.2.2.2.2.2.1 _ (hB.2.2 k9 q9 h9)⟩ hS1 hl h7 h8 h9)) (fun u t H1 locs1 ht hvm hw hB hz1 hk1 hS1 => W.widen hk2 hn2 (kk u.1 u.2 hw H1 locs1 ls (by rw [← ht]; exact hB.1) ⟨hB.2.1, fun k9 q9 h9 => fr_A hD hS C.2.2.2.2.2.2.1 _ (hB.2.2 k9 q9 h9)⟩ hS1 hl))
theorem ret_i (C : Cx p s m args c cc own nL Ts G A H0) (hH : H0 = s.heap) {mc ms : Nat} {post : Int32 → Sw → Prop} {r : Int32} (hr : meth.sig.returnType = some .int) (hlk : meth.locks = false) (hdg : decode cc pc = .ok (.ireturn, 1)) (hp : post r (L, w)) (hk9 : k ≤ mc) (hn9 : n ≤ ms) : J p l e R s m args below meth c G A H0 nL (MQ below (va_Qi post (PB G A) A) args s mc ms A) L w k n pc (lo) ([.int r]) := fun H locs ls hP hD hS hl => by
  subst hH
  exact W.widen hk9 hn9 (W.iret C.1 C.2.1 hr (fun t ht hW => ⟨⟨r, (L, w), rfl, hp, by rw [ht]; exact hP, hD⟩, hS.F ht⟩) hS.2.2 hdg hlk)
theorem ret_z (C : Cx p s m args c cc own nL Ts G A H0) (hH : H0 = s.heap) {mc ms : Nat} {post : Int32 → Sw → Prop} {r : Int32} {ty : FieldType} (hr : meth.sig.returnType = some ty) (hlk : meth.locks = false) (hz : narrow ty (.int r) = .int r) (hdg : decode cc pc = .ok (.ireturn, 1)) (hp : post r (L, w)) (hk9 : k ≤ mc) (hn9 : n ≤ ms) : J p l e R s m args below meth c G A H0 nL (MQ below (va_Qi post (PB G A) A) args s mc ms A) L w k n pc (lo) ([.int r]) := fun H locs ls hP hD hS hl => by
  subst hH
  exact W.widen hk9 hn9 (W.zret C.1 C.2.1 hr hz (fun t ht hW => ⟨⟨r, (L, w), rfl, hp, by rw [ht]; exact hP, hD⟩, hS.F ht⟩) hS.2.2 hdg hlk)
theorem ret_v (C : Cx p s m args c cc own nL Ts G A H0) (hH : H0 = s.heap) {mc ms : Nat} {post : Sw → Prop} (hr : meth.sig.returnType = none) (hlk : meth.locks = false) (hdg : decode cc pc = .ok (.return_, 1)) (hp : post (L, w)) (hk9 : k ≤ mc) (hn9 : n ≤ ms) : J p l e R s m args below meth c G A H0 nL (MQ below (va_Qv post (PB G A) A) args s mc ms A) L w k n pc (lo) ([]) := fun H locs ls hP hD hS hl => by
  subst hH
  exact W.widen hk9 hn9 (W.vret C.1 C.2.1 hr (fun t ht hW => ⟨⟨(L, w), rfl, hp, by rw [ht]; exact hP, hD⟩, hS.F ht⟩) hS.2.2 hdg hlk)
theorem xret_i (C : Cx p s m args c cc own nL Ts G A H0) (hH : H0 = s.heap) {mc ms : Nat} {post : Int32 → Sw → Prop} {xp : String → Sw → Prop} {r : Int32} (hr : meth.sig.returnType = some .int) (hlk : meth.locks = false) (hdg : decode cc pc = .ok (.ireturn, 1)) (hp : post r (L, w)) (hk9 : k ≤ mc) (hn9 : n ≤ ms) : J p l e R s m args below meth c G A H0 nL (vx_MQ below (va_Qi post (PB G A) A) (XX G A xp) args s mc ms A) L w k n pc (lo) ([.int r]) := fun H locs ls hP hD hS hl => by
  subst hH
  exact W.widen hk9 hn9 (vx_ret (W.iret C.1 C.2.1 hr (fun t ht hW => ⟨⟨r, (L, w), rfl, hp, by rw [ht]; exact hP, hD⟩, hS.F ht⟩) hS.2.2 hdg hlk))
theorem xret_z (C : Cx p s m args c cc own nL Ts G A H0) (hH : H0 = s.heap) {mc ms : Nat} {post : Int32 → Sw → Prop} {xp : String → Sw → Prop} {r : Int32} {ty : FieldType} (hr : meth.sig.returnType = some ty) (hlk : meth.locks = false) (hz : narrow ty (.int r) = .int r) (hdg : decode cc pc = .ok (.ireturn, 1)) (hp : post r (L, w)) (hk9 : k ≤ mc) (hn9 : n ≤ ms) : J p l e R s m args below meth c G A H0 nL (vx_MQ below (va_Qi post (PB G A) A) (XX G A xp) args s mc ms A) L w k n pc (lo) ([.int r]) := fun H locs ls hP hD hS hl => by
  subst hH
  exact W.widen hk9 hn9 (vx_ret (W.zret C.1 C.2.1 hr hz (fun t ht hW => ⟨⟨r, (L, w), rfl, hp, by rw [ht]; exact hP, hD⟩, hS.F ht⟩) hS.2.2 hdg hlk))
theorem xret_v (C : Cx p s m args c cc own nL Ts G A H0) (hH : H0 = s.heap) {mc ms : Nat} {post : Sw → Prop} {xp : String → Sw → Prop} (hr : meth.sig.returnType = none) (hlk : meth.locks = false) (hdg : decode cc pc = .ok (.return_, 1)) (hp : post (L, w)) (hk9 : k ≤ mc) (hn9 : n ≤ ms) : J p l e R s m args below meth c G A H0 nL (vx_MQ below (va_Qv post (PB G A) A) (XX G A xp) args s mc ms A) L w k n pc (lo) ([]) := fun H locs ls hP hD hS hl => by
  subst hH
  exact W.widen hk9 hn9 (vx_ret (W.vret C.1 C.2.1 hr (fun t ht hW => ⟨⟨(L, w), rfl, hp, by rw [ht]; exact hP, hD⟩, hS.F ht⟩) hS.2.2 hdg hlk))
theorem ret_l (C : Cx p s m args c cc own nL Ts G A H0) (hH : H0 = s.heap) {mc ms : Nat} {post : Int64 → Sw → Prop} {r : Int64} (hr : meth.sig.returnType = some .long) (hlk : meth.locks = false) (hdg : decode cc pc = .ok (.lreturn, 1)) (hp : post r (L, w)) (hk9 : k ≤ mc) (hn9 : n ≤ ms) : J p l e R s m args below meth c G A H0 nL (MQ below (va_Ql post (PB G A) A) args s mc ms A) L w k n pc (lo) ([.long r]) := fun H locs ls hP hD hS hl => by
  subst hH
  exact W.widen hk9 hn9 (W.lret C.1 C.2.1 hr (fun t ht hW => ⟨⟨r, (L, w), rfl, hp, by rw [ht]; exact hP, hD⟩, hS.F ht⟩) hS.2.2 hdg hlk)
theorem ret_a (C : Cx p s m args c cc own nL Ts G A H0) (hH : H0 = s.heap) {mc ms : Nat} {post : Option Nat → Sw → Prop} {r : Option Nat} {v : Value} {rt : FieldType} (hv : va_rf r = v) (hr : meth.sig.returnType = some rt) (hrt : (∃ n9, rt = FieldType.object n9) ∨ ∃ t9, rt = FieldType.array t9) (hlk : meth.locks = false) (hdg : decode cc pc = .ok (.areturn, 1)) (hp : post r (L, w)) (hk9 : k ≤ mc) (hn9 : n ≤ ms) : J p l e R s m args below meth c G A H0 nL (MQ below (va_Qq post (PB G A) A) args s mc ms A) L w k n pc (lo) ([v]) := fun H locs ls hP hD hS hl => by
  subst hH
  subst hv
  exact W.widen hk9 hn9 (W.aret C.1 C.2.1 hr hrt (by cases r with | none => exact Or.inl rfl | some a => exact Or.inr ⟨a, rfl⟩) (fun t ht hW => ⟨⟨r, (L, w), rfl, hp, by rw [ht]; exact hP, hD⟩, hS.F ht⟩) hS.2.2 hdg hlk)
end JCALL
theorem mk_i {l : Launch} {y : MethodName} {ws ws' : List Cond} {rm : Room} {G : Gp} {L : List Nat} {w : Wn} {av : List Value} {post : Int32 → Sw → Prop} {cc : ByteArray} {maxL : Nat} {ret : Option FieldType} (lo : List (Option Value)) (hy : plainName y.cls = true) (hw : ws = Cond.code y cc maxL ret :: ws') (hlen : (lg_sl av).length ≤ maxL) (hlo : lq 0 lo = lv_args 0 av)
    (body : ∀ (p : Program) (e : Env) (s : State) (m : MethodId) (args : Array Value) (below : List Frame) (meth : Method) (c : Code) (A : Nat → Prop), Cx p s m args c cc y.cls maxL ws G A s.heap → meth.sig.returnType = ret → meth.locks = false → (y.name = meth.name) → J p l e rm s m args below meth c G A s.heap maxL (MQ below (va_Qi post (PB G A) A) args s rm.cells rm.slots A) L w 0 0 0 lo []) : CI l y ws rm G L w av post := by
  intro sz
  refine Met.ofW (cc := cc) (maxL := maxL) (ret := ret) hy hw ?_
  intro p e s m args below meth c s₁ B hml hv
  obtain ⟨rfl, hsz, hP, hK, hD0, hE⟩ := hv
  subst hsz
  have hts := atoms_spec (ws := ws) B.pre
  have hown := findClass_of_methodNamed B.named
  have hD := hD0.self (sz := s.heap.size)
  have hnm : y.name = meth.name := (name_of_methodNamed B.named B.method).1.symm
  generalize hAe : va_A (L.map w) s.heap.size = A at hD hE ⊢
  have hA : ∀ q : Nat, s.heap.size ≤ q → A q := fun q h => by rw [← hAe]; exact Or.inr h
  have hl := lv_entry av (n := maxL) hlen
  rw [lg_entry_eq]
  generalize (lg_sl av ++ List.replicate (maxL - (lg_sl av).length) Slot.unset).toArray = ls at hl ⊢
  rw [← hlo] at hl
  exact body p e s m _ below meth c A ⟨B.exec, B.bytes, hml, hown, hts, hK, hA, hE⟩ B.returns B.notSynchronized hnm s.heap [] ls hP hD va_S.rf hl
theorem mk_l {l : Launch} {y : MethodName} {ws ws' : List Cond} {rm : Room} {G : Gp} {L : List Nat} {w : Wn} {av : List Value} {post : Int64 → Sw → Prop} {cc : ByteArray} {maxL : Nat} {ret : Option FieldType} (lo : List (Option Value)) (hy : plainName y.cls = true) (hw : ws = Cond.code y cc maxL ret :: ws') (hlen : (lg_sl av).length ≤ maxL) (hlo : lq 0 lo = lv_args 0 av)
    (body : ∀ (p : Program) (e : Env) (s : State) (m : MethodId) (args : Array Value) (below : List Frame) (meth : Method) (c : Code) (A : Nat → Prop), Cx p s m args c cc y.cls maxL ws G A s.heap → meth.sig.returnType = ret → meth.locks = false → (y.name = meth.name) → J p l e rm s m args below meth c G A s.heap maxL (MQ below (va_Ql post (PB G A) A) args s rm.cells rm.slots A) L w 0 0 0 lo []) : CL l y ws rm G L w av post := by
  intro sz
  refine Met.ofW (cc := cc) (maxL := maxL) (ret := ret) hy hw ?_
  intro p e s m args below meth c s₁ B hml hv
  obtain ⟨rfl, hsz, hP, hK, hD0, hE⟩ := hv
  subst hsz
  have hts := atoms_spec (ws := ws) B.pre
  have hown := findClass_of_methodNamed B.named
  have hD := hD0.self (sz := s.heap.size)
  have hnm : y.name = meth.name := (name_of_methodNamed B.named B.method).1.symm
  generalize hAe : va_A (L.map w) s.heap.size = A at hD hE ⊢
  have hA : ∀ q : Nat, s.heap.size ≤ q → A q := fun q h => by rw [← hAe]; exact Or.inr h
  have hl := lv_entry av (n := maxL) hlen
  rw [lg_entry_eq]
  generalize (lg_sl av ++ List.replicate (maxL - (lg_sl av).length) Slot.unset).toArray = ls at hl ⊢
  rw [← hlo] at hl
  exact body p e s m _ below meth c A ⟨B.exec, B.bytes, hml, hown, hts, hK, hA, hE⟩ B.returns B.notSynchronized hnm s.heap [] ls hP hD va_S.rf hl
theorem mk_q {l : Launch} {y : MethodName} {ws ws' : List Cond} {rm : Room} {G : Gp} {L : List Nat} {w : Wn} {av : List Value} {post : Option Nat → Sw → Prop} {cc : ByteArray} {maxL : Nat} {ret : Option FieldType} (lo : List (Option Value)) (hy : plainName y.cls = true) (hw : ws = Cond.code y cc maxL ret :: ws') (hlen : (lg_sl av).length ≤ maxL) (hlo : lq 0 lo = lv_args 0 av)
    (body : ∀ (p : Program) (e : Env) (s : State) (m : MethodId) (args : Array Value) (below : List Frame) (meth : Method) (c : Code) (A : Nat → Prop), Cx p s m args c cc y.cls maxL ws G A s.heap → meth.sig.returnType = ret → meth.locks = false → (y.name = meth.name) → J p l e rm s m args below meth c G A s.heap maxL (MQ below (va_Qq post (PB G A) A) args s rm.cells rm.slots A) L w 0 0 0 lo []) : CQ l y ws rm G L w av post := by
  intro sz
  refine Met.ofW (cc := cc) (maxL := maxL) (ret := ret) hy hw ?_
  intro p e s m args below meth c s₁ B hml hv
  obtain ⟨rfl, hsz, hP, hK, hD0, hE⟩ := hv
  subst hsz
  have hts := atoms_spec (ws := ws) B.pre
  have hown := findClass_of_methodNamed B.named
  have hD := hD0.self (sz := s.heap.size)
  have hnm : y.name = meth.name := (name_of_methodNamed B.named B.method).1.symm
  generalize hAe : va_A (L.map w) s.heap.size = A at hD hE ⊢
  have hA : ∀ q : Nat, s.heap.size ≤ q → A q := fun q h => by rw [← hAe]; exact Or.inr h
  have hl := lv_entry av (n := maxL) hlen
  rw [lg_entry_eq]
  generalize (lg_sl av ++ List.replicate (maxL - (lg_sl av).length) Slot.unset).toArray = ls at hl ⊢
  rw [← hlo] at hl
  exact body p e s m _ below meth c A ⟨B.exec, B.bytes, hml, hown, hts, hK, hA, hE⟩ B.returns B.notSynchronized hnm s.heap [] ls hP hD va_S.rf hl
theorem mk_v {l : Launch} {y : MethodName} {ws ws' : List Cond} {rm : Room} {G : Gp} {L : List Nat} {w : Wn} {av : List Value} {post : Sw → Prop} {cc : ByteArray} {maxL : Nat} {ret : Option FieldType} (lo : List (Option Value)) (hy : plainName y.cls = true) (hw : ws = Cond.code y cc maxL ret :: ws') (hlen : (lg_sl av).length ≤ maxL) (hlo : lq 0 lo = lv_args 0 av)
    (body : ∀ (p : Program) (e : Env) (s : State) (m : MethodId) (args : Array Value) (below : List Frame) (meth : Method) (c : Code) (A : Nat → Prop), Cx p s m args c cc y.cls maxL ws G A s.heap → meth.sig.returnType = ret → meth.locks = false → (y.name = meth.name) → J p l e rm s m args below meth c G A s.heap maxL (MQ below (va_Qv post (PB G A) A) args s rm.cells rm.slots A) L w 0 0 0 lo []) : CV l y ws rm G L w av post := by
  intro sz
  refine Met.ofW (cc := cc) (maxL := maxL) (ret := ret) hy hw ?_
  intro p e s m args below meth c s₁ B hml hv
  obtain ⟨rfl, hsz, hP, hK, hD0, hE⟩ := hv
  subst hsz
  have hts := atoms_spec (ws := ws) B.pre
  have hown := findClass_of_methodNamed B.named
  have hD := hD0.self (sz := s.heap.size)
  have hnm : y.name = meth.name := (name_of_methodNamed B.named B.method).1.symm
  generalize hAe : va_A (L.map w) s.heap.size = A at hD hE ⊢
  have hA : ∀ q : Nat, s.heap.size ≤ q → A q := fun q h => by rw [← hAe]; exact Or.inr h
  have hl := lv_entry av (n := maxL) hlen
  rw [lg_entry_eq]
  generalize (lg_sl av ++ List.replicate (maxL - (lg_sl av).length) Slot.unset).toArray = ls at hl ⊢
  rw [← hlo] at hl
  exact body p e s m _ below meth c A ⟨B.exec, B.bytes, hml, hown, hts, hK, hA, hE⟩ B.returns B.notSynchronized hnm s.heap [] ls hP hD va_S.rf hl
theorem mkx_i {l : Launch} {y : MethodName} {ws ws' : List Cond} {rm : Room} {G : Gp} {L : List Nat} {w : Wn} {av : List Value} {post : Int32 → Sw → Prop} {xp : String → Sw → Prop} {cc : ByteArray} {maxL : Nat} {ret : Option FieldType} (lo : List (Option Value)) (hy : plainName y.cls = true) (hw : ws = Cond.code y cc maxL ret :: ws') (hlen : (lg_sl av).length ≤ maxL) (hlo : lq 0 lo = lv_args 0 av)
    (body : ∀ (p : Program) (e : Env) (s : State) (m : MethodId) (args : Array Value) (below : List Frame) (meth : Method) (c : Code) (A : Nat → Prop), Cx p s m args c cc y.cls maxL ws G A s.heap → meth.sig.returnType = ret → meth.locks = false → (∀ x ∈ c.exceptionTable.toList, False) → J p l e rm s m args below meth c G A s.heap maxL (vx_MQ below (va_Qi post (PB G A) A) (XX G A xp) args s rm.cells rm.slots A) L w 0 0 0 lo []) : XI l y ws rm G L w av post xp := by
  intro sz
  refine vx_ofW (cc := cc) (maxL := maxL) (ret := ret) hy hw ?_
  intro p e s m args below meth c s₁ B hml hx0 hv
  obtain ⟨rfl, hsz, hP, hK, hD0, hE⟩ := hv
  subst hsz
  have hts := atoms_spec (ws := ws) B.pre
  have hown := findClass_of_methodNamed B.named
  have hD := hD0.self (sz := s.heap.size)
  generalize hAe : va_A (L.map w) s.heap.size = A at hD hE ⊢
  have hA : ∀ q : Nat, s.heap.size ≤ q → A q := fun q h => by rw [← hAe]; exact Or.inr h
  have hl := lv_entry av (n := maxL) hlen
  rw [lg_entry_eq]
  generalize (lg_sl av ++ List.replicate (maxL - (lg_sl av).length) Slot.unset).toArray = ls at hl ⊢
  rw [← hlo] at hl
  exact body p e s m _ below meth c A ⟨B.exec, B.bytes, hml, hown, hts, hK, hA, hE⟩ B.returns B.notSynchronized hx0 s.heap [] ls hP hD va_S.rf hl
theorem mkx_v {l : Launch} {y : MethodName} {ws ws' : List Cond} {rm : Room} {G : Gp} {L : List Nat} {w : Wn} {av : List Value} {post : Sw → Prop} {xp : String → Sw → Prop} {cc : ByteArray} {maxL : Nat} {ret : Option FieldType} (lo : List (Option Value)) (hy : plainName y.cls = true) (hw : ws = Cond.code y cc maxL ret :: ws') (hlen : (lg_sl av).length ≤ maxL) (hlo : lq 0 lo = lv_args 0 av)
    (body : ∀ (p : Program) (e : Env) (s : State) (m : MethodId) (args : Array Value) (below : List Frame) (meth : Method) (c : Code) (A : Nat → Prop), Cx p s m args c cc y.cls maxL ws G A s.heap → meth.sig.returnType = ret → meth.locks = false → (∀ x ∈ c.exceptionTable.toList, False) → J p l e rm s m args below meth c G A s.heap maxL (vx_MQ below (va_Qv post (PB G A) A) (XX G A xp) args s rm.cells rm.slots A) L w 0 0 0 lo []) : XV l y ws rm G L w av post xp := by
  intro sz
  refine vx_ofW (cc := cc) (maxL := maxL) (ret := ret) hy hw ?_
  intro p e s m args below meth c s₁ B hml hx0 hv
  obtain ⟨rfl, hsz, hP, hK, hD0, hE⟩ := hv
  subst hsz
  have hts := atoms_spec (ws := ws) B.pre
  have hown := findClass_of_methodNamed B.named
  have hD := hD0.self (sz := s.heap.size)
  generalize hAe : va_A (L.map w) s.heap.size = A at hD hE ⊢
  have hA : ∀ q : Nat, s.heap.size ≤ q → A q := fun q h => by rw [← hAe]; exact Or.inr h
  have hl := lv_entry av (n := maxL) hlen
  rw [lg_entry_eq]
  generalize (lg_sl av ++ List.replicate (maxL - (lg_sl av).length) Slot.unset).toArray = ls at hl ⊢
  rw [← hlo] at hl
  exact body p e s m _ below meth c A ⟨B.exec, B.bytes, hml, hown, hts, hK, hA, hE⟩ B.returns B.notSynchronized hx0 s.heap [] ls hP hD va_S.rf hl
