/-! SMALL THINGS OF THE LAW: low, bits, cell -/
section JSL
variable {p : Program} {l : Launch} {e : Env} {R : Room} {s : State} {m : MethodId} {args : Array Value} {below : List Frame} {meth : Method} {c : Code} {G : Gp} {A : Nat → Prop} {H0 : Heap} {nL : Nat} {Q : State → Prop} {L : List Nat} {w : Wn} {k n : Nat} {pc : Nat} {lo : List (Option Value)} {st : List Value} {cc : ByteArray} {own : String} {Ts : List Cond}
theorem jS_l0 (C : Cx p s m args c cc own nL Ts G A H0) {y : MethodName} {bytes : ByteArray} {maxL np index : Nat} {ret : Option FieldType} {ws ws9 : List Cond} {rm : Room} {st0 As : List Value} {post : Int64 → Prop} (hM : CL l y ws rm G L w As (fun r u => post r ∧ u = (L, w))) (hG : GoodIn Ts (va_wsS own index y ws)) (hw9 : ws = Cond.code y bytes maxL ret :: ws9) (hd : y.cls ≠ "java/lang/invoke/MethodHandle" ∧ y.cls ≠ "java/lang/invoke/VarHandle" ∧ (parseMethodDescriptor y.desc).map (fun d => d.parameters.length) = some np) (hR9 : rm.frames + 1 ≤ R.frames ∧ 8 + (maxL + 11) + rm.locals ≤ R.locals)  (hst : st0 = As.reverse ++ st) (hn9 : As.length = np) (hst9 : (st.map fun v => v.category).sum ≤ 8) (hdg : decode cc pc = .ok (.invokestatic index, 3)) {k2 n2 : Nat} (hk2 : k + rm.cells ≤ k2) (hn2 : n + rm.slots ≤ n2) (hRR : k2 ≤ R.cells ∧ n2 ≤ R.slots) (kk : ∀ (r : Int64), post r → J p l e R s m args below meth c G A H0 nL Q L w k2 n2 (pc + 3) (lo) (.long r :: st)) : J p l e R s m args below meth c G A H0 nL Q L w k n pc (lo) (st0) := call_l C (run_S C hM (va_cwS np C.2.2.2.2.1 hG hw9 rfl rfl hd hR9) hst hn9 hst9 hdg ⟨Nat.le_trans hk2 hRR.1, Nat.le_trans hn2 hRR.2⟩) hk2 hn2 (fun r L2 w2 h => by obtain ⟨h1, h2⟩ := h; cases h2; exact kk r h1)
/-- a callee that reads the script too -/
def PreX (G : Gp) (L : List Nat) (w : Wn) (b LL : Nat) (xs : Nat → Int32) (sz : Nat) (av : List Value) : Array Value → State → Prop := fun a U => PreW G L w sz av a U ∧ va_X b LL xs U U.heap ∧ ¬ va_A (L.map w) sz b
def CIX (l : Launch) (y : MethodName) (ws : List Cond) (rm : Room) (G : Gp) (L : List Nat) (w : Wn) (b LL : Nat) (xs : Nat → Int32) (av : List Value) (post : Int32 → Sw → Prop) : Prop := ∀ sz : Nat, Met l y ws rm (PreX G L w b LL xs sz av) (va_Qi post (PB G (va_A (L.map w) sz)) (va_A (L.map w) sz)) rm.cells rm.slots (va_A (L.map w) sz)
theorem preX_blind {b LL : Nat} {xs : Nat → Int32} {sz : Nat} {av : List Value} : FrameBlind (PreX G L w b LL xs sz av) := fun a U g mk h => ⟨preW_blind a U g mk h.1, va_X.moved (u := U) (U := U.calling g mk a) (Vm.Alike.refl U.vm) h.2.1, h.2.2⟩
theorem preX_of (C : Cx p s m args c cc own nL Ts G A H0) {b LL : Nat} {xs : Nat → Int32} (hX : va_X b LL xs s H0) (hbl : b < H0.size) (hbA : ¬ A b) {H : Heap} {locs : List Loc} (hP : va_P G.1 vwCl (L.map w) H) (hD : va_D A (L.map w)) (hS : va_S A H0 H locs) {av : List Value} : ∀ U : State, U.heap = H → s.WarmedH U.vm → PreX G L w b LL xs H.size av av.toArray U := fun U hU hW => ⟨preW_of C hP hD hS U hU hW, by
  rw [hU]
  exact va_X.moved hW.alike (va_X.kept hX (hS.2.1 b hbl hbA)), fun h => hbA (fr_A hD hS C.2.2.2.2.2.2.1 b h)⟩
theorem run_SX (C : Cx p s m args c cc own nL Ts G A H0) {b LL : Nat} {xs : Nat → Int32} (hX : va_X b LL xs s H0) (hbl : b < H0.size) (hbA : ¬ A b) {y : MethodName} {bytes : ByteArray} {maxL np index : Nat} {ret : Option FieldType} {ws : List Cond} {rm : Room} {Qc : Nat → Array Value → State → Outcome → State → Prop} {st0 As : List Value} (hM : ∀ sz, Met l y ws (rm) (PreX G L w b LL xs sz (As)) (Qc sz) rm.cells rm.slots (va_A (L.map w) sz)) (cw : CallB R s args own index y bytes maxL ret ws rm rm.cells rm.slots np ∧ (Cond.static y).before args s = true) (hst : st0 = As.reverse ++ st) (hn9 : As.length = np) (hst9 : (st.map fun v => v.category).sum ≤ 8) (hdg : decode cc pc = .ok (.invokestatic index, 3)) (hf : k + rm.cells ≤ R.cells ∧ n + rm.slots ≤ R.slots) : RunOK p l e R s m args below meth c G A H0 nL L w k n rm.cells rm.slots pc lo st0 st (fun sz => Qc sz (As).toArray) := fun H locs ls hP hD hS hl => va_runS ⟨C.1, C.2.1, C.2.2.1, C.2.2.2.1, C.2.2.2.2.1⟩ (hM H.size) cw ⟨preX_blind, preX_of C hX hbl hbA hP hD hS⟩ rfl hn9 hl.1 hst (lv_room hst9) hdg hf
theorem jSX_i0 (C : Cx p s m args c cc own nL Ts G A H0) {b LL : Nat} {xs : Nat → Int32} (hX : va_X b LL xs s H0) (hbl : b < H0.size) (hbA : ¬ A b) {y : MethodName} {bytes : ByteArray} {maxL np index : Nat} {ret : Option FieldType} {ws ws9 : List Cond} {rm : Room} {st0 As : List Value} {post : Int32 → Prop} (hM : CIX l y ws rm G L w b LL xs As (fun r u => post r ∧ u = (L, w))) (hG : GoodIn Ts (va_wsS own index y ws)) (hw9 : ws = Cond.code y bytes maxL ret :: ws9) (hd : y.cls ≠ "java/lang/invoke/MethodHandle" ∧ y.cls ≠ "java/lang/invoke/VarHandle" ∧ (parseMethodDescriptor y.desc).map (fun d => d.parameters.length) = some np) (hR9 : rm.frames + 1 ≤ R.frames ∧ 8 + (maxL + 11) + rm.locals ≤ R.locals)  (hst : st0 = As.reverse ++ st) (hn9 : As.length = np) (hst9 : (st.map fun v => v.category).sum ≤ 8) (hdg : decode cc pc = .ok (.invokestatic index, 3)) {k2 n2 : Nat} (hk2 : k + rm.cells ≤ k2) (hn2 : n + rm.slots ≤ n2) (hRR : k2 ≤ R.cells ∧ n2 ≤ R.slots) (kk : ∀ (r : Int32), post r → J p l e R s m args below meth c G A H0 nL Q L w k2 n2 (pc + 3) (lo) (.int r :: st)) : J p l e R s m args below meth c G A H0 nL Q L w k n pc (lo) (st0) := call_i C (run_SX C hX hbl hbA hM (va_cwS np C.2.2.2.2.1 hG hw9 rfl rfl hd hR9) hst hn9 hst9 hdg ⟨Nat.le_trans hk2 hRR.1, Nat.le_trans hn2 hRR.2⟩) hk2 hn2 (fun r L2 w2 h => by obtain ⟨h1, h2⟩ := h; cases h2; exact kk r h1)
theorem mk_iX {y : MethodName} {ws ws' : List Cond} {rm : Room} {b LL : Nat} {xs : Nat → Int32} {av : List Value} {post : Int32 → Sw → Prop} {maxL : Nat} {ret : Option FieldType} (lo : List (Option Value)) (hy : plainName y.cls = true) (hw : ws = Cond.code y cc maxL ret :: ws') (hlen : (lg_sl av).length ≤ maxL) (hlo : lq 0 lo = lv_args 0 av)
    (body : ∀ (p : Program) (e : Env) (s : State) (m : MethodId) (args : Array Value) (below : List Frame) (meth : Method) (c : Code) (A : Nat → Prop), Cx p s m args c cc y.cls maxL ws G A s.heap → meth.sig.returnType = ret → meth.locks = false → va_X b LL xs s s.heap → b < s.heap.size → ¬ A b → J p l e rm s m args below meth c G A s.heap maxL (MQ below (va_Qi post (PB G A) A) args s rm.cells rm.slots A) L w 0 0 0 lo []) : CIX l y ws rm G L w b LL xs av post := by
  intro sz
  refine Met.ofW (cc := cc) (maxL := maxL) (ret := ret) hy hw ?_
  intro p e s m args below meth c s₁ B hml hv
  obtain ⟨⟨rfl, hsz, hP, hK, hD0, hE⟩, hX, hbA⟩ := hv
  subst hsz
  have hts := atoms_spec (ws := ws) B.pre
  have hown := findClass_of_methodNamed B.named
  have hD := hD0.self (sz := s.heap.size)
  have hbl : b < s.heap.size := by
    obtain ⟨scr, h1, -⟩ := hX
    exact (Array.getElem?_eq_some_iff.mp h1).1
  generalize hAe : va_A (L.map w) s.heap.size = A at hD hE hbA ⊢
  have hA : ∀ q : Nat, s.heap.size ≤ q → A q := fun q h => by rw [← hAe]; exact Or.inr h
  have hl := lv_entry av (n := maxL) hlen
  rw [lg_entry_eq]
  generalize (lg_sl av ++ List.replicate (maxL - (lg_sl av).length) Slot.unset).toArray = ls at hl ⊢
  rw [← hlo] at hl
  exact body p e s m _ below meth c A ⟨B.exec, B.bytes, hml, hown, hts, hK, hA, hE⟩ B.returns B.notSynchronized hX hbl hbA s.heap [] ls hP hD va_S.rf hl
end JSL
def lowF (v n : Int32) : Int32 := (v &&& 2147483647) - (v &&& 2147483647) / n * n
theorem lowF_v (v : Int32) {k : Nat} (h0 : 0 < k) (hk : k < 2147483648) : vld (lowF v (nI k)) k := by
  obtain ⟨j, hj, e⟩ := pk_andE v (m := 2147483647) 31 (by decide)
  unfold lowF
  rw [e, pk_rem hj h0 hk]
  exact ⟨j % k, Nat.mod_lt _ h0, rfl⟩
theorem low5 (v : Int32) : vld (lowF v 5 * 6) 32 := by
  obtain ⟨j, hj, e⟩ := lowF_v v (k := 5) (by decide) (by decide)
  have e2 : lowF v 5 = nI j := e
  exact ⟨j * 6, by omega, by rw [e2]; exact pk_mul j 6⟩
theorem low4 (v : Int32) : vld (lowF v 4) 4 := lowF_v v (k := 4) (by decide) (by decide)
def bitsF (v : Int32) : Int64 := ((lowF v 4).toInt64 <<< ((31 : Int32).toInt64 &&& 63)) ||| ((lowF (v >>> ((3 : Int32) &&& 31)) 4).toInt64 <<< ((4 : Int32).toInt64 &&& 63)) ||| (if lowF (v >>> ((6 : Int32) &&& 31)) 9 = 0 then -9223372036854775808 else 0)
set_option maxRecDepth 100000 in
set_option maxHeartbeats 4000000 in
theorem ct_low {l : Launch} {G : Gp} {L : List Nat} {w : Wn} (v n : Int32) (hn : ¬ n = 0) : CI l yL_low wsL_low (rmD 1 0 0) G L w [.int v, .int n] (fun r u => r = lowF v n ∧ u = (L, w)) := by
  refine mk_i (cc := cL_low) (maxL := 2) [some (.int v), some (.int n)] (by decide) rfl (Nat.le_of_ble_eq_true rfl) rfl ?_
  intro p e s m args below meth c A C hr hlk hnm
  refine j_iload_n (pc := 0) C rfl dL_low_0 rfl ?_
  refine j_ldc (pc := 1) (v := 2147483647) C dL_low_1 (by decide +kernel) ?_
  refine j_iand (pc := 3) C dL_low_3 ?_
  refine j_iload_n (pc := 4) C rfl dL_low_4 rfl ?_
  refine j_irem (pc := 5) C dL_low_5 hn ?_
  exact ret_i C rfl hr hlk dL_low_6 (⟨rfl, rfl⟩) (by decide) (by decide)

set_option maxRecDepth 100000 in
set_option maxHeartbeats 4000000 in
theorem ct_bits {l : Launch} {G : Gp} {L : List Nat} {w : Wn} (v : Int32) : CL l yL_bits wsL_bits (rmD 2 0 0) G L w [.int v] (fun r u => r = bitsF v ∧ u = (L, w)) := by
  refine mk_l (cc := cL_bits) (maxL := 1) [some (.int v)] (by decide) rfl (Nat.le_of_ble_eq_true rfl) rfl ?_
  intro p e s m args below meth c A C hr hlk hnm
  refine j_iload_n (pc := 0) C rfl dL_bits_0 rfl ?_
  refine j_iconst (pc := 1) (v := 4) C dL_bits_1 (by decide) ?_
  refine jS_i0 (pc := 2) (k2 := 0) (n2 := 0) (np := 2) (As := [.int (v), .int 4]) C (ct_low (v) 4 (by decide)) gL_bits_L_low rfl (by decide +kernel) ⟨by decide, by decide⟩ rfl rfl (Nat.le_of_ble_eq_true rfl) dL_bits_2 (by decide) (by decide) ⟨by decide, by decide⟩ (fun v1 hv1 => ?_)
  refine j_i2l (pc := 5) C dL_bits_5 ?_
  refine j_bipush (pc := 6) (v := 31) C dL_bits_6 (by decide) ?_
  refine j_lshl (pc := 8) C dL_bits_8 ?_
  refine j_iload_n (pc := 9) C rfl dL_bits_9 rfl ?_
  refine j_iconst (pc := 10) (v := 3) C dL_bits_10 (by decide) ?_
  refine j_ishr (pc := 11) C dL_bits_11 ?_
  refine j_iconst (pc := 12) (v := 4) C dL_bits_12 (by decide) ?_
  refine jS_i0 (pc := 13) (k2 := 0) (n2 := 0) (np := 2) (As := [.int (v >>> ((3 : Int32) &&& 31)), .int 4]) C (ct_low (v >>> ((3 : Int32) &&& 31)) 4 (by decide)) gL_bits_L_low rfl (by decide +kernel) ⟨by decide, by decide⟩ rfl rfl (Nat.le_of_ble_eq_true rfl) dL_bits_13 (by decide) (by decide) ⟨by decide, by decide⟩ (fun v2 hv2 => ?_)
  refine j_i2l (pc := 16) C dL_bits_16 ?_
  refine j_iconst (pc := 17) (v := 4) C dL_bits_17 (by decide) ?_
  refine j_lshl (pc := 18) C dL_bits_18 ?_
  refine j_lor (pc := 19) C dL_bits_19 ?_
  refine j_iload_n (pc := 20) C rfl dL_bits_20 rfl ?_
  refine j_bipush (pc := 21) (v := 6) C dL_bits_21 (by decide) ?_
  refine j_ishr (pc := 23) C dL_bits_23 ?_
  refine j_bipush (pc := 24) (v := 9) C dL_bits_24 (by decide) ?_
  have k39 : ∀ z : Int64, z = (if lowF (v >>> ((6 : Int32) &&& 31)) 9 = 0 then -9223372036854775808 else 0) → J p l e (rmD 2 0 0) s m args below meth c G A s.heap 1 (MQ below (va_Ql (fun r u => r = bitsF v ∧ u = (L, w)) (PB G A) A) args s (rmD 2 0 0).cells (rmD 2 0 0).slots A) L w 0 0 39 [some (.int v)] [.long z, .long (v1.toInt64 <<< ((31 : Int32).toInt64 &&& 63) ||| v2.toInt64 <<< ((4 : Int32).toInt64 &&& 63))] := fun z hz => by
    refine j_lor (pc := 39) C dL_bits_39 ?_
    exact ret_l C rfl hr hlk dL_bits_40 ⟨by rw [hz, hv1, hv2]; rfl, rfl⟩ (by decide) (by decide)
  refine jS_i0 (pc := 26) (k2 := 0) (n2 := 0) (np := 2) (As := [.int (v >>> ((6 : Int32) &&& 31)), .int 9]) C (ct_low (v >>> ((6 : Int32) &&& 31)) 9 (by decide)) gL_bits_L_low rfl (by decide +kernel) ⟨by decide, by decide⟩ rfl rfl (Nat.le_of_ble_eq_true rfl) dL_bits_26 (by decide) (by decide) ⟨by decide, by decide⟩ (fun v3 hv3 => ?_)
  refine j_if_ne (pc := 29) (tgt := 38) C dL_bits_29 (by decide) (fun c29 => ?_) (fun c29 => ?_)
  · have hb9 : (0 : Int64) = (if lowF (v >>> ((6 : Int32) &&& 31)) 9 = 0 then -9223372036854775808 else 0) := by rw [if_neg (by rw [← hv3]; exact c29)]
    refine j_lconst (pc := 38) (v := 0) C dL_bits_38 (by decide) ?_
    exact k39 _ hb9
  · have hb9 : (-9223372036854775808 : Int64) = (if lowF (v >>> ((6 : Int32) &&& 31)) 9 = 0 then -9223372036854775808 else 0) := by rw [if_pos (by rw [← hv3]; exact c29)]
    refine j_ldc2 (pc := 32) (v := (-9223372036854775808)) C dL_bits_32 (by decide +kernel) ?_
    refine j_goto (pc := 35) (tgt := 39) C dL_bits_35 (by decide) ?_
    exact k39 _ hb9

set_option maxRecDepth 100000 in
set_option maxHeartbeats 4000000 in
theorem ct_cell {l : Launch} {G : Gp} {L : List Nat} {w : Wn} {b LL : Nat} {xs : Nat → Int32} (hLL : LL ≤ 1000) {kk : Nat} (hkk : kk ≤ 1000) : CIX l yL_cell wsL_cell (rmD 1 0 0) G L w b LL xs [.ref b, .int (nI kk)] (fun r u => True ∧ u = (L, w)) := by
  refine mk_iX (cc := cL_cell) (maxL := 2) [some (.ref b), some (.int (nI kk))] (by decide) rfl (Nat.le_of_ble_eq_true rfl) rfl ?_
  intro p e s m args below meth c A C hr hlk hX hbl hbA
  refine j_iload_n (pc := 0) C rfl dL_cell_0 rfl ?_
  refine j_aload_n (pc := 1) C rfl dL_cell_1 rfl ?_
  refine j_slen (pc := 2) C hX hbl hbA dL_cell_2 ?_
  refine j_icmp_ge (pc := 3) (tgt := 12) C dL_cell_3 (by decide) (fun c3 => ?_) (fun c3 => ?_)
  · refine j_sipush (pc := 12) (v := 7919) C dL_cell_12 (by decide) ?_
    refine j_iload_n (pc := 15) C rfl dL_cell_15 rfl ?_
    refine j_sipush (pc := 16) (v := 673) C dL_cell_16 (by decide) ?_
    refine j_iadd (pc := 19) C dL_cell_19 ?_
    refine j_imul (pc := 20) C dL_cell_20 ?_
    refine j_iload_n (pc := 21) C rfl dL_cell_21 rfl ?_
    refine j_sipush (pc := 22) (v := 1163) C dL_cell_22 (by decide) ?_
    refine j_iadd (pc := 25) C dL_cell_25 ?_
    refine j_imul (pc := 26) C dL_cell_26 ?_
    exact ret_i C rfl hr hlk dL_cell_27 (⟨trivial, rfl⟩) (by decide) (by decide)
  · refine j_aload_n (pc := 6) C rfl dL_cell_6 rfl ?_
    refine j_iload_n (pc := 7) C rfl dL_cell_7 rfl ?_
    refine j_sld (pc := 8) C hX hbl hbA (j := kk) (by exact Nat.not_le.mp (fun q => c3 (nI_le q (by omega)))) (by omega) dL_cell_8 ?_
    refine j_goto (pc := 9) (tgt := 27) C dL_cell_9 (by decide) ?_
    exact ret_i C rfl hr hlk dL_cell_27 (⟨trivial, rfl⟩) (by decide) (by decide)

