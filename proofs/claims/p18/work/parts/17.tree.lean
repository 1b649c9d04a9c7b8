/-! THE FILTER: its tree -/
/-- the tree of the run (i, l), t tests ahead of it, as it lies in the heap -/
def TrH (L : List Nat) (w : Wn) (ky : Nat → Int32) (wt : Nat → Nat) : Nat → Nat → Nat → Nat → Option Nat → Prop
  | 0, _, l, _, a => l = 0 ∧ a = none
  | f + 1, i, l, t, a => (l = 0 ∧ a = none) ∨ (0 < l ∧ ∃ qb b le gr, a = some b ∧ 1000 ≤ qb ∧ Hs L w qb b (nodeE (ky (rt wt i l)) (nI (t + 1)) le gr) ∧ TrH L w ky wt f i (rt wt i l - i) (t + 1) le ∧ TrH L w ky wt f (rt wt i l + 1) (i + l - rt wt i l - 1) (t + 1) gr)
theorem TrH.fr {M N : Nat → Prop} {L L2 : List Nat} {w w2 : Wn} {ky : Nat → Int32} {wt : Nat → Nat} (hf : Fr M N L w L2 w2) (hM : ∀ m, 1000 ≤ m → m ∈ L → ¬ M m) : ∀ (f i l t : Nat) (a : Option Nat), TrH L w ky wt f i l t a → TrH L2 w2 ky wt f i l t a
  | 0, _, _, _, _, h => h
  | f + 1, i, l, t, a, h => by
    rcases h with h | ⟨h0, qb, b, le, gr, h1, h2, h3, h4, h5⟩
    · exact Or.inl h
    · exact Or.inr ⟨h0, qb, b, le, gr, h1, h2, hf.hs h3 (hM qb h2 h3.1), TrH.fr hf hM f _ _ _ _ h4, TrH.fr hf hM f _ _ _ _ h5⟩
theorem TrH.no {L : List Nat} {w : Wn} {ky : Nat → Int32} {wt : Nat → Nat} {f i l t : Nat} (h : TrH L w ky wt f i l t none) : l = 0 := by
  cases f with
  | zero => exact h.1
  | succ f =>
    rcases h with h | ⟨h0, qb, b, le, gr, h1, h2⟩
    · exact h.1
    · cases h1
def fndT (ky : Nat → Int32) (wt : Nat → Nat) (x : Int32) : Nat → Nat → Nat → Bool
  | 0, _, _ => false
  | f + 1, i, l => if l = 0 then false else if x = ky (rt wt i l) then true else if x < ky (rt wt i l) then fndT ky wt x f i (rt wt i l - i) else fndT ky wt x f (rt wt i l + 1) (i + l - rt wt i l - 1)
theorem walk_0 {ky : Nat → Int32} {wt : Nat → Nat} {x : Int32} (f i t : Nat) : walk ky wt x f i 0 t = t := by cases f <;> simp [walk]
theorem fndT_0 {ky : Nat → Int32} {wt : Nat → Nat} {x : Int32} (f i : Nat) : fndT ky wt x f i 0 = false := by cases f <;> simp [fndT]
theorem down_0 {ky : Nat → Int32} {wt : Nat → Nat} (f i p : Nat) : down ky wt f i 0 p = -1 := by cases f <;> simp [down]
def LOK (L : List Nat) (w : Wn) (x : Int32) (W : Nat) (F : Bool) (r : Option Nat) : Prop := (r = none ∧ W = 0 ∧ F = false) ∨ ∃ qb b nu te le gr, r = some b ∧ Hs L w qb b (nodeE nu te le gr) ∧ te = nI W ∧ (nu = x ↔ F = true)
section JREF
variable {p : Program} {l : Launch} {e : Env} {R : Room} {s : State} {m : MethodId} {args : Array Value} {below : List Frame} {meth : Method} {c : Code} {G : Gp} {A : Nat → Prop} {H0 : Heap} {nL : Nat} {Q : State → Prop} {L : List Nat} {w : Wn} {k n : Nat} {pc : Nat} {lo : List (Option Value)} {st : List Value} {cc : ByteArray} {own : String} {Ts : List Cond}
theorem j_aload_nR (C : Cx p s m args c cc own nL Ts G A H0) {kk9 : Fin 4} {i : Nat} {r : Option Nat} (hi : (kk9 : Nat) = i) (hdg : decode cc pc = .ok (.aload_n kk9, 1)) (hl9 : lo[i]? = some (some (va_rf r))) (kk : J p l e R s m args below meth c G A H0 nL Q L w k n (pc + 1) lo (va_rf r :: st)) : J p l e R s m args below meth c G A H0 nL Q L w k n pc lo st := by
  cases r with
  | none => exact j_aload_nN C hi hdg hl9 kk
  | some a => exact j_aload_n C hi hdg hl9 kk
theorem j_astoreR_2 (C : Cx p s m args c cc own nL Ts G A H0) {a0 a1 a2 : Option Value} {t9 : List (Option Value)} {r : Option Nat} (hdg : decode cc pc = .ok (.astore_n 2, 1)) (hn9 : 2 < nL) (ho : okc a1 = true) (kk : J p l e R s m args below meth c G A H0 nL Q L w k n (pc + 1) (a0 :: a1 :: some (va_rf r) :: t9) st) : J p l e R s m args below meth c G A H0 nL Q L w k n pc (a0 :: a1 :: a2 :: t9) (va_rf r :: st) := by
  cases r with
  | none => exact j_astore_2N C hdg hn9 ho kk
  | some a => exact j_astore_2 C hdg hn9 ho kk
theorem j_astoreR_3 (C : Cx p s m args c cc own nL Ts G A H0) {a0 a1 a2 a3 : Option Value} {t9 : List (Option Value)} {r : Option Nat} (hdg : decode cc pc = .ok (.astore_n 3, 1)) (hn9 : 3 < nL) (ho : okc a2 = true) (kk : J p l e R s m args below meth c G A H0 nL Q L w k n (pc + 1) (a0 :: a1 :: a2 :: some (va_rf r) :: t9) st) : J p l e R s m args below meth c G A H0 nL Q L w k n pc (a0 :: a1 :: a2 :: a3 :: t9) (va_rf r :: st) := by
  cases r with
  | none => exact j_astore_3N C hdg hn9 ho kk
  | some a => exact j_astore_3 C hdg hn9 ho kk
theorem okc_rf (r : Option Nat) : okc (some (va_rf r)) = true := by cases r <;> rfl
end JREF
set_option maxRecDepth 100000 in
set_option maxHeartbeats 4000000 in
theorem last_end {p : Program} {e : Env} {s : State} {m : MethodId} {args : Array Value} {below : List Frame} {meth : Method} {c : Code} {A : Nat → Prop} {post : Option Nat → Sw → Prop} {l : Launch} {G : Gp} {L : List Nat} {w : Wn} {aF : Nat} {x : Int32} {lr : Option Nat} (hp : post lr (L, w)) (C : Cx p s m args c cX0_lastTest yX0_lastTest.cls 4 wsX0_lastTest G A s.heap) (hr : meth.sig.returnType = (some (.object "SyscallFilter$Node"))) (hlk : meth.locks = false) :  J p l e (rmD 2 0 0) s m args below meth c G A s.heap 4 (MQ below (va_Qq post (PB G A) A) args s (rmD 2 0 0).cells (rmD 2 0 0).slots A) L w 0 0 10 [some (.ref aF), some (.int x), some (va_rf lr), some (.null)] [] := by
  skip
  refine j_aload_nN (pc := 10) C rfl dX0_lastTest_10 rfl ?_
  refine j_ifnullN (pc := 11) (tgt := 25) C dX0_lastTest_11 (by decide) ?_
  refine j_aload_nR (pc := 25) C rfl dX0_lastTest_25 rfl ?_
  exact ret_a (r := lr) C rfl rfl hr (Or.inl ⟨_, rfl⟩) hlk dX0_lastTest_26 hp (by decide) (by decide)

set_option maxRecDepth 100000 in
set_option maxHeartbeats 4000000 in
theorem last_loop {p : Program} {e : Env} {s : State} {m : MethodId} {args : Array Value} {below : List Frame} {meth : Method} {c : Code} {A : Nat → Prop} {post : Option Nat → Sw → Prop} {l : Launch} {G : Gp} {L : List Nat} {w : Wn} {aF : Nat} {x : Int32} {ky : Nat → Int32} {wt : Nat → Nat} (C : Cx p s m args c cX0_lastTest yX0_lastTest.cls 4 wsX0_lastTest G A s.heap) (hr : meth.sig.returnType = (some (.object "SyscallFilter$Node"))) (hlk : meth.locks = false) : ∀ (f i l9 t : Nat) (a lr : Option Nat), TrH L w ky wt f i l9 t a → (a = none → (lr = none ∧ t = 0) ∨ ∃ qb b nu te le gr, lr = some b ∧ Hs L w qb b (nodeE nu te le gr) ∧ te = nI t ∧ nu ≠ x) → (∀ r, LOK L w x (walk ky wt x f i l9 t) (fndT ky wt x f i l9) r → post r (L, w)) → J p l e (rmD 2 0 0) s m args below meth c G A s.heap 4 (MQ below (va_Qq post (PB G A) A) args s (rmD 2 0 0).cells (rmD 2 0 0).slots A) L w 0 0 10 [some (.ref aF), some (.int x), some (va_rf lr), some (va_rf a)] [] := by
  intro f
  induction f with
  | zero =>
    intro i l9 t a lr ht hl0 hend
    obtain ⟨h1, h2⟩ := ht
    subst h1; subst h2
    refine last_end (hend _ ?_) C hr hlk
    rw [walk_0, fndT_0]
    rcases hl0 rfl with ⟨g1, g2⟩ | ⟨qb, b, nu, te, le, gr, g1, g2, g3, g4⟩
    · exact Or.inl ⟨g1, g2, rfl⟩
    · exact Or.inr ⟨qb, b, nu, te, le, gr, g1, g2, g3, ⟨fun z => absurd z g4, fun z => by cases z⟩⟩
  | succ f ih =>
    intro i l9 t a lr ht hl0 hend
    rcases ht with ⟨h1, h2⟩ | ⟨h0, qb, b, le, gr, h1, h2, h3, h4, h5⟩
    · subst h1; subst h2
      refine last_end (hend _ ?_) C hr hlk
      rw [walk_0, fndT_0]
      rcases hl0 rfl with ⟨g1, g2⟩ | ⟨qb, b, nu, te, le, gr, g1, g2, g3, g4⟩
      · exact Or.inl ⟨g1, g2, rfl⟩
      · exact Or.inr ⟨qb, b, nu, te, le, gr, g1, g2, g3, ⟨fun z => absurd z g4, fun z => by cases z⟩⟩
    · subst h1
      refine j_aload_n (pc := 10) C rfl dX0_lastTest_10 rfl ?_
      refine j_ifnull (pc := 11) C dX0_lastTest_11 ?_
      refine j_aload_n (pc := 14) C rfl dX0_lastTest_14 rfl ?_
      refine j_astore_2 (pc := 15) C dX0_lastTest_15 (by decide) rfl ?_
      refine j_aload_n (pc := 16) C rfl dX0_lastTest_16 rfl ?_
      refine j_iload_n (pc := 17) C rfl dX0_lastTest_17 rfl ?_
      refine jV_q0 (pc := 18) (k2 := 0) (n2 := 0) (np := 1) (As := [.int x]) C (ct_X1_towards h3 x) gX0_lastTest_X1_towards rfl (by decide +kernel) ⟨by decide, by decide⟩ h3 rfl rfl rfl (Nat.le_of_ble_eq_true rfl) dX0_lastTest_18 (by decide) (by decide) ⟨by decide, by decide⟩ (fun v hv => ?_)
      refine j_astoreR_3 (pc := 21) C dX0_lastTest_21 (by decide) rfl ?_
      refine j_goto (pc := 22) (tgt := 10) C dX0_lastTest_22 (by decide) ?_
      unfold tow at hv
      have hn0 : l9 ≠ 0 := by omega
      by_cases c1 : x = ky (rt wt i l9)
      · rw [if_pos c1] at hv
        subst hv
        refine last_end (lr := some b) (hend _ (Or.inr ⟨qb, b, _, _, le, gr, rfl, h3, ?_, ?_⟩)) C hr hlk
        · rw [walk, if_neg hn0, if_pos c1]
        · rw [fndT, if_neg hn0, if_pos c1]; exact ⟨fun _ => rfl, fun _ => c1.symm⟩
      · rw [if_neg c1] at hv
        have lst : ∀ z : Option Nat, z = none → (some b = none ∧ t + 1 = 0) ∨ ∃ qb2 b2 nu te le2 gr2, some b = some b2 ∧ Hs L w qb2 b2 (nodeE nu te le2 gr2) ∧ te = nI (t + 1) ∧ nu ≠ x := fun z _ => Or.inr ⟨qb, b, _, _, le, gr, rfl, h3, rfl, fun z => c1 z.symm⟩
        by_cases c2 : x < ky (rt wt i l9)
        · rw [if_pos c2] at hv
          subst hv
          exact ih _ _ (t + 1) v (some b) h4 (lst v) (fun r hr9 => hend r (by rw [walk, fndT, if_neg hn0, if_neg c1, if_pos c2, if_neg hn0, if_neg c1, if_pos c2]; exact hr9))
        · rw [if_neg c2] at hv
          subst hv
          exact ih _ _ (t + 1) v (some b) h5 (lst v) (fun r hr9 => hend r (by rw [walk, fndT, if_neg hn0, if_neg c1, if_neg c2, if_neg hn0, if_neg c1, if_neg c2]; exact hr9))

set_option maxRecDepth 100000 in
set_option maxHeartbeats 4000000 in
theorem ct_lastTest {l : Launch} {G : Gp} {L : List Nat} {w : Wn} {qF aF rl rc : Nat} {df tc : Int32} {ft : Option Nat} (hF : Hs L w qF aF (filE rl rc df ft tc)) {ky : Nat → Int32} {wt : Nat → Nat} {f n : Nat} (ht : TrH L w ky wt f 0 n 0 ft) (x : Int32) : CQ l yX0_lastTest wsX0_lastTest (rmD 2 0 0) G L w [.ref aF, .int x] (fun r u => LOK L w x (walk ky wt x f 0 n 0) (fndT ky wt x f 0 n) r ∧ u = (L, w)) := by
  refine mk_q (cc := cX0_lastTest) (maxL := 4) [some (.ref aF), some (.int x), none, none] (by decide) rfl (Nat.le_of_ble_eq_true rfl) rfl ?_
  intro p e s m args below meth c A C hr hlk hnm
  have hin_X0 : ∀ x ∈ u_ws RX0 TX0 5, x ∈ wsX0_lastTest := by decide +kernel
  refine j_aload_n (pc := 0) C rfl dX0_lastTest_0 rfl ?_
  refine j_get (pc := 1) C hin_X0 hF rfl 3 (by decide) (by decide +kernel) rfl dX0_lastTest_1 ?_
  refine j_astoreR_2 (pc := 4) C dX0_lastTest_4 (by decide) rfl ?_
  refine j_aload_n (pc := 5) C rfl dX0_lastTest_5 rfl ?_
  refine j_get (pc := 6) C hin_X0 hF rfl 3 (by decide) (by decide +kernel) rfl dX0_lastTest_6 ?_
  refine j_astoreR_3 (pc := 9) C dX0_lastTest_9 (by decide) (okc_rf _) ?_
  exact last_loop C hr hlk f 0 n 0 ft ft ht (fun z => Or.inl ⟨z, rfl⟩) (fun r h => ⟨h, rfl⟩)

set_option maxRecDepth 100000 in
set_option maxHeartbeats 4000000 in
theorem ct_numberTests {l : Launch} {G : Gp} {L : List Nat} {w : Wn} {qF aF rl rc : Nat} {df tc : Int32} {ft : Option Nat} (hF : Hs L w qF aF (filE rl rc df ft tc)) {ky : Nat → Int32} {wt : Nat → Nat} {f n : Nat} (ht : TrH L w ky wt f 0 n 0 ft) (x : Int32) : CI l yX0_numberTests wsX0_numberTests (rmD 3 0 0) G L w [.ref aF, .int x] (fun r u => r = nI (walk ky wt x f 0 n 0) ∧ u = (L, w)) := by
  refine mk_i (cc := cX0_numberTests) (maxL := 3) [some (.ref aF), some (.int x), none] (by decide) rfl (Nat.le_of_ble_eq_true rfl) rfl ?_
  intro p e s m args below meth c A C hr hlk hnm
  have hin_X1 : ∀ x ∈ u_ws RX1 TX1 4, x ∈ wsX0_numberTests := by decide +kernel
  refine j_aload_n (pc := 0) C rfl dX0_numberTests_0 rfl ?_
  refine j_iload_n (pc := 1) C rfl dX0_numberTests_1 rfl ?_
  refine jV_q0 (pc := 2) (k2 := 0) (n2 := 0) (np := 1) (As := [.int x]) C (ct_lastTest hF ht x) gX0_numberTests_X0_lastTest rfl (by decide +kernel) ⟨by decide, by decide⟩ hF rfl rfl rfl (Nat.le_of_ble_eq_true rfl) dX0_numberTests_2 (by decide) (by decide) ⟨by decide, by decide⟩ (fun v hv => ?_)
  refine j_astoreR_2 (pc := 5) C dX0_numberTests_5 (by decide) rfl ?_
  rcases hv with ⟨g1, g2, g3⟩ | ⟨qb, b, nu, te, le, gr, g1, g2, g3, g4⟩
  · subst g1
    refine j_aload_nN (pc := 6) C rfl dX0_numberTests_6 rfl ?_
    refine j_ifnonnullN (pc := 7) C dX0_numberTests_7 ?_
    refine j_iconst (pc := 10) (v := 0) C dX0_numberTests_10 (by decide) ?_
    refine j_goto (pc := 11) (tgt := 18) C dX0_numberTests_11 (by decide) ?_
    exact ret_i C rfl hr hlk dX0_numberTests_18 ⟨by rw [g2]; rfl, rfl⟩ (by decide) (by decide)
  · subst g1
    refine j_aload_n (pc := 6) C rfl dX0_numberTests_6 rfl ?_
    refine j_ifnonnull (pc := 7) (tgt := 14) C dX0_numberTests_7 (by decide) ?_
    refine j_aload_n (pc := 14) C rfl dX0_numberTests_14 rfl ?_
    refine j_getN (pc := 15) (host := RX4) C hin_X1 g2 rfl 1 (by decide) (by decide +kernel) rfl dX0_numberTests_15 ?_
    exact ret_i C rfl hr hlk dX0_numberTests_18 ⟨g3, rfl⟩ (by decide) (by decide)

set_option maxRecDepth 100000 in
set_option maxHeartbeats 4000000 in
theorem ct_actionByTree {l : Launch} {G : Gp} {L : List Nat} {w : Wn} {qF aF rl rc : Nat} {df tc : Int32} {ft : Option Nat} (hF : Hs L w qF aF (filE rl rc df ft tc)) {qc : Nat} {cl : EL} (hC : Lst G L w qc rc cl) {ky : Nat → Int32} {wt : Nat → Nat} {f n : Nat} (ht : TrH L w ky wt f 0 n 0 ft) (x : Int32) (fi se : Int64) : CI l yX0_actionByTree wsX0_actionByTree (rmD 5 0 0) G L w [.ref aF, .int x, .long fi, .long se] (fun r u => r = (if fndT ky wt x f 0 n = true then fAct x fi se df cl else df) ∧ u = (L, w)) := by
  refine mk_i (cc := cX0_actionByTree) (maxL := 7) [some (.ref aF), some (.int x), some (.long fi), none, some (.long se), none, none] (by decide) rfl (Nat.le_of_ble_eq_true rfl) rfl ?_
  intro p e s m args below meth c A C hr hlk hnm
  have hin_X1 : ∀ x ∈ u_ws RX1 TX1 4, x ∈ wsX0_actionByTree := by decide +kernel
  have hin_X0 : ∀ x ∈ u_ws RX0 TX0 5, x ∈ wsX0_actionByTree := by decide +kernel
  refine j_aload_n (pc := 0) C rfl dX0_actionByTree_0 rfl ?_
  refine j_iload_n (pc := 1) C rfl dX0_actionByTree_1 rfl ?_
  refine jV_q0 (pc := 2) (k2 := 0) (n2 := 0) (np := 1) (As := [.int x]) C (ct_lastTest hF ht x) gX0_actionByTree_X0_lastTest rfl (by decide +kernel) ⟨by decide, by decide⟩ hF rfl rfl rfl (Nat.le_of_ble_eq_true rfl) dX0_actionByTree_2 (by decide) (by decide) ⟨by decide, by decide⟩ (fun v hv => ?_)
  rcases hv with ⟨g1, g2, g3⟩ | ⟨qb, b, nu, te, le, gr, g1, g2, g3, g4⟩
  · subst g1
    refine j_astore_6N (pc := 5) C dX0_actionByTree_5 (by decide) rfl ?_
    refine j_aloadN (pc := 7) C dX0_actionByTree_7 rfl ?_
    refine j_ifnullN (pc := 9) (tgt := 21) C dX0_actionByTree_9 (by decide) ?_
    refine j_aload_n (pc := 21) C rfl dX0_actionByTree_21 rfl ?_
    refine j_get (pc := 22) C hin_X0 hF rfl 2 (by decide) (by decide +kernel) rfl dX0_actionByTree_22 ?_
    exact ret_i C rfl hr hlk dX0_actionByTree_25 ⟨by rw [g3]; rfl, rfl⟩ (by decide) (by decide)
  · subst g1
    refine j_astore_6 (pc := 5) C dX0_actionByTree_5 (by decide) rfl ?_
    refine j_aload (pc := 7) C dX0_actionByTree_7 rfl ?_
    refine j_ifnull (pc := 9) C dX0_actionByTree_9 ?_
    refine j_aload (pc := 12) C dX0_actionByTree_12 rfl ?_
    refine j_getN (pc := 14) (host := RX4) C hin_X1 g2 rfl 0 (by decide) (by decide +kernel) rfl dX0_actionByTree_14 ?_
    refine j_iload_n (pc := 17) C rfl dX0_actionByTree_17 rfl ?_
    refine j_icmp_eq (pc := 18) (tgt := 26) C dX0_actionByTree_18 (by decide) (fun c18 => ?_) (fun c18 => ?_)
    · refine j_aload_n (pc := 26) C rfl dX0_actionByTree_26 rfl ?_
      refine j_aload_n (pc := 27) C rfl dX0_actionByTree_27 rfl ?_
      refine j_get (pc := 28) C hin_X0 hF rfl 1 (by decide) (by decide +kernel) rfl dX0_actionByTree_28 ?_
      refine j_iload_n (pc := 31) C rfl dX0_actionByTree_31 rfl ?_
      refine j_lload_n (pc := 32) C rfl dX0_actionByTree_32 rfl ?_
      refine j_lload (pc := 33) C dX0_actionByTree_33 rfl ?_
      refine jV_i0 (pc := 35) (k2 := 0) (n2 := 0) (np := 4) (As := [.ref rc, .int x, .long fi, .long se]) C (ct_afm hF hC x fi se) gX0_actionByTree_X0_actionOfFirstMatch rfl (by decide +kernel) ⟨by decide, by decide⟩ hF rfl rfl rfl (Nat.le_of_ble_eq_true rfl) dX0_actionByTree_35 (by decide) (by decide) ⟨by decide, by decide⟩ (fun v hv => ?_)
      exact ret_i C rfl hr hlk dX0_actionByTree_38 ⟨by rw [if_pos (g4.mp c18)]; exact hv, rfl⟩ (by decide) (by decide)
    · refine j_aload_n (pc := 21) C rfl dX0_actionByTree_21 rfl ?_
      refine j_get (pc := 22) C hin_X0 hF rfl 2 (by decide) (by decide +kernel) rfl dX0_actionByTree_22 ?_
      exact ret_i C rfl hr hlk dX0_actionByTree_25 ⟨by rw [if_neg (fun z => c18 (g4.mpr z))], rfl⟩ (by decide) (by decide)

set_option maxRecDepth 100000 in
set_option maxHeartbeats 4000000 in
theorem path_loop {p : Program} {e : Env} {s : State} {m : MethodId} {args : Array Value} {below : List Frame} {meth : Method} {c : Code} {A : Nat → Prop} {post : Int32 → Sw → Prop} {l : Launch} {G : Gp} {L : List Nat} {w : Wn} {qF aF rl rc : Nat} {df tc : Int32} {ft : Option Nat} (hF : Hs L w qF aF (filE rl rc df ft tc)) {qc : Nat} {cl : EL} (hC : Lst G L w qc rc cl) {x : Int32} {fi se : Int64} {T0 : Int32} (hend : ∀ r, r = T0 → post r (L, w)) (C : Cx p s m args c cX0_pathOf yX0_pathOf.cls 9 wsX0_pathOf G A s.heap) (hr : meth.sig.returnType = (some .int)) (hlk : meth.locks = false) : ∀ (f i : Nat) (t : Int32), cl.length - i = f → i ≤ cl.length → t + pRT x fi se (cl.drop i) = T0 → J p l e (rmD 4 0 0) s m args below meth c G A s.heap 9 (MQ below (va_Qi post (PB G A) A) args s (rmD 4 0 0).cells (rmD 4 0 0).slots A) L w 0 0 10 [some (.ref aF), some (.int x), some (.long fi), none, some (.long se), none, some (.int t), some (.int (nI i)), none] [] := by
  have hin_X0 : ∀ x ∈ u_ws RX0 TX0 5, x ∈ wsX0_pathOf := by decide +kernel
  have hin_X3 : ∀ x ∈ u_ws RX3 TX3 5, x ∈ wsX0_pathOf := by decide +kernel
  obtain ⟨mcC, edC, hc, hc2⟩ := id hC
  have hc10 := hC.le
  intro f
  induction f using Nat.strongRecOn with
  | _ f ih =>
    intro i t hf hi0 h0
    refine j_iload (pc := 10) C dX0_pathOf_10 rfl ?_
    refine j_aload_n (pc := 12) C rfl dX0_pathOf_12 rfl ?_
    refine j_get (pc := 13) C hin_X0 hF rfl 1 (by decide) (by decide +kernel) rfl dX0_pathOf_13 ?_
    refine jV_i0 (pc := 16) (k2 := 0) (n2 := 0) (np := 0) (As := []) C (ct_lsize (el := cl) hc) gX0_pathOf_Jx4a65c_size_8abf5 rfl (by decide +kernel) ⟨by decide, by decide⟩ hc rfl rfl rfl (Nat.le_of_ble_eq_true rfl) dX0_pathOf_16 (by decide) (by decide) ⟨by decide, by decide⟩ (fun v hv => ?_)
    subst hv
    refine j_icmp_ge (pc := 19) (tgt := 78) C dX0_pathOf_19 (by decide) (fun c19 => ?_) (fun c19 => ?_)
    · have c19 := nI_le_of (by omega) (by omega) c19
      refine j_iload (pc := 78) C dX0_pathOf_78 rfl ?_
      exact ret_i C rfl hr hlk dX0_pathOf_80 (hend _ (by rw [← h0, List.drop_of_length_le (by omega)]; exact (Int32.add_zero _).symm)) (by decide) (by decide)
    · have c19 := nI_gt_of (by omega) (by omega) c19
      have hi : i < cl.length := c19
      obtain ⟨qe, hqe, hE⟩ := hC.ru hi
      refine j_aload_n (pc := 22) C rfl dX0_pathOf_22 rfl ?_
      refine j_get (pc := 23) C hin_X0 hF rfl 1 (by decide) (by decide +kernel) rfl dX0_pathOf_23 ?_
      refine j_iload (pc := 26) C dX0_pathOf_26 rfl ?_
      refine jV_q0 (pc := 28) (k2 := 0) (n2 := 0) (np := 1) (As := [.int (nI i)]) C (ct_lget hC hi) gX0_pathOf_Jx4a65c_get_915e3 rfl (by decide +kernel) ⟨by decide, by decide⟩ hc rfl rfl rfl (Nat.le_of_ble_eq_true rfl) dX0_pathOf_28 (by decide) (by decide) ⟨by decide, by decide⟩ (fun v hv => ?_)
      subst hv
      refine j_castS (pc := 31) C hE rfl (by decide +kernel) dX0_pathOf_31 ?_
      refine j_astore_8 (pc := 34) C dX0_pathOf_34 (by decide) rfl ?_
      refine j_aload (pc := 36) C dX0_pathOf_36 rfl ?_
      refine j_getN (pc := 38) (host := RX4) C hin_X3 hE rfl 0 (by decide) (by decide +kernel) rfl dX0_pathOf_38 ?_
      refine j_iload_n (pc := 41) C rfl dX0_pathOf_41 rfl ?_
      refine j_icmp_ne (pc := 42) (tgt := 72) C dX0_pathOf_42 (by decide) (fun c42 => ?_) (fun c42 => ?_)
      · refine j_iinc_7 (pc := 72) (d := 1) C dX0_pathOf_72 (by decide) rfl rfl ?_
        refine j_lo (by rw [nI_1]) ?_
        refine j_goto (pc := 75) (tgt := 10) C dX0_pathOf_75 (by decide) ?_
        first | exact j_weak (by simp [lw1]) (ih (cl.length - (i + 1)) (by omega) (i + 1) t rfl (by omega) (by rw [← h0, drop_at hi]; show _ = _ + pRT x fi se (_ :: _); rw [pRT]; rw [if_neg c42])) | exact j_weak (by simp [lw1]) (ih (cl.length - (i + 1)) (by omega) (i + 1) (t + tstT (cl[i]).2 fi se) rfl (by omega) (by rw [← h0, drop_at hi]; show _ = _ + pRT x fi se (_ :: _); rw [pRT]; rw [if_pos c42, if_neg (by rw [c66]; decide), Int32.add_assoc]))
      · refine j_iload (pc := 45) C dX0_pathOf_45 rfl ?_
        refine j_aload (pc := 47) C dX0_pathOf_47 rfl ?_
        refine j_lload_n (pc := 49) C rfl dX0_pathOf_49 rfl ?_
        refine j_lload (pc := 50) C dX0_pathOf_50 rfl ?_
        refine jV_i0 (pc := 52) (k2 := 0) (n2 := 0) (np := 2) (As := [.long fi, .long se]) C (ct_X3_testsFor hE fi se) gX0_pathOf_X3_testsFor rfl (by decide +kernel) ⟨by decide, by decide⟩ hE rfl rfl rfl (Nat.le_of_ble_eq_true rfl) dX0_pathOf_52 (by decide) (by decide) ⟨by decide, by decide⟩ (fun vt hvt => ?_)
        subst hvt
        refine j_iadd (pc := 55) C dX0_pathOf_55 ?_
        refine j_istore_6 (pc := 56) C dX0_pathOf_56 (by decide) rfl ?_
        refine j_aload (pc := 58) C dX0_pathOf_58 rfl ?_
        refine j_lload_n (pc := 60) C rfl dX0_pathOf_60 rfl ?_
        refine j_lload (pc := 61) C dX0_pathOf_61 rfl ?_
        refine jV_i0 (pc := 63) (k2 := 0) (n2 := 0) (np := 2) (As := [.long fi, .long se]) C (ct_X3_matches hE fi se) gX0_pathOf_X3_matches rfl (by decide +kernel) ⟨by decide, by decide⟩ hE rfl rfl rfl (Nat.le_of_ble_eq_true rfl) dX0_pathOf_63 (by decide) (by decide) ⟨by decide, by decide⟩ (fun vm hvm => ?_)
        subst hvm
        refine j_if_eq (pc := 66) (tgt := 72) C dX0_pathOf_66 (by decide) (fun c66 => ?_) (fun c66 => ?_)
        · have c66 := bI_0 c66
          refine j_iinc_7 (pc := 72) (d := 1) C dX0_pathOf_72 (by decide) rfl rfl ?_
          refine j_lo (by rw [nI_1]) ?_
          refine j_goto (pc := 75) (tgt := 10) C dX0_pathOf_75 (by decide) ?_
          first | exact j_weak (by simp [lw1]) (ih (cl.length - (i + 1)) (by omega) (i + 1) t rfl (by omega) (by rw [← h0, drop_at hi]; show _ = _ + pRT x fi se (_ :: _); rw [pRT]; rw [if_neg c42])) | exact j_weak (by simp [lw1]) (ih (cl.length - (i + 1)) (by omega) (i + 1) (t + tstT (cl[i]).2 fi se) rfl (by omega) (by rw [← h0, drop_at hi]; show _ = _ + pRT x fi se (_ :: _); rw [pRT]; rw [if_pos c42, if_neg (by rw [c66]; decide), Int32.add_assoc]))
        · have c66 := bI_1 c66
          refine j_iload (pc := 69) C dX0_pathOf_69 rfl ?_
          exact ret_i C rfl hr hlk dX0_pathOf_71 (hend _ (by rw [← h0, drop_at hi, pRT, if_pos c42, if_pos c66])) (by decide) (by decide)

set_option maxRecDepth 100000 in
set_option maxHeartbeats 4000000 in
theorem ct_pathOf {l : Launch} {G : Gp} {L : List Nat} {w : Wn} {qF aF rl rc : Nat} {df tc : Int32} {ft : Option Nat} (hF : Hs L w qF aF (filE rl rc df ft tc)) {qc : Nat} {cl : EL} (hC : Lst G L w qc rc cl) {ky : Nat → Int32} {wt : Nat → Nat} {f n : Nat} (ht : TrH L w ky wt f 0 n 0 ft) (x : Int32) (fi se : Int64) : CI l yX0_pathOf wsX0_pathOf (rmD 4 0 0) G L w [.ref aF, .int x, .long fi, .long se] (fun r u => r = nI (walk ky wt x f 0 n 0) + pRT x fi se cl ∧ u = (L, w)) := by
  refine mk_i (cc := cX0_pathOf) (maxL := 9) [some (.ref aF), some (.int x), some (.long fi), none, some (.long se), none, none, none, none] (by decide) rfl (Nat.le_of_ble_eq_true rfl) rfl ?_
  intro p e s m args below meth c A C hr hlk hnm
  refine j_aload_n (pc := 0) C rfl dX0_pathOf_0 rfl ?_
  refine j_iload_n (pc := 1) C rfl dX0_pathOf_1 rfl ?_
  refine jV_i0 (pc := 2) (k2 := 0) (n2 := 0) (np := 1) (As := [.int x]) C (ct_numberTests hF ht x) gX0_pathOf_X0_numberTests rfl (by decide +kernel) ⟨by decide, by decide⟩ hF rfl rfl rfl (Nat.le_of_ble_eq_true rfl) dX0_pathOf_2 (by decide) (by decide) ⟨by decide, by decide⟩ (fun v hv => ?_)
  refine j_istore_6 (pc := 5) C dX0_pathOf_5 (by decide) rfl ?_
  refine j_iconst (pc := 7) (v := 0) C dX0_pathOf_7 (by decide) ?_
  refine j_istore_7 (pc := 8) C dX0_pathOf_8 (by decide) rfl ?_
  exact path_loop hF hC (fun r h => ⟨h, rfl⟩) C hr hlk (cl.length - 0) 0 v rfl (Nat.zero_le _) (by rw [hv]; rfl)

def wstT (ky : Nat → Int32) (wt : Nat → Nat) (f n : Nat) (cl : EL) : Int32 := mxN (fun k => nI (walk ky wt (nI k) f 0 n 0) + mRT (nI k) cl) 32
set_option maxRecDepth 100000 in
set_option maxHeartbeats 4000000 in
theorem wst_loop {p : Program} {e : Env} {s : State} {m : MethodId} {args : Array Value} {below : List Frame} {meth : Method} {c : Code} {A : Nat → Prop} {post : Int32 → Sw → Prop} {l : Launch} {G : Gp} {L : List Nat} {w : Wn} {qF aF rl rc : Nat} {df tc : Int32} {ft : Option Nat} (hF : Hs L w qF aF (filE rl rc df ft tc)) {qc : Nat} {cl : EL} (hC : Lst G L w qc rc cl) {ky : Nat → Int32} {wt : Nat → Nat} {f n : Nat} (ht : TrH L w ky wt f 0 n 0 ft) (hend : ∀ r, r = wstT ky wt f n cl → post r (L, w)) (C : Cx p s m args c cX0_worstPath yX0_worstPath.cls 3 wsX0_worstPath G A s.heap) (hr : meth.sig.returnType = (some .int)) (hlk : meth.locks = false) : ∀ (f9 i : Nat) (t : Int32), 32 - i = f9 → i ≤ 32 → t = mxN (fun k => nI (walk ky wt (nI k) f 0 n 0) + mRT (nI k) cl) i → J p l e (rmD 5 0 0) s m args below meth c G A s.heap 3 (MQ below (va_Qi post (PB G A) A) args s (rmD 5 0 0).cells (rmD 5 0 0).slots A) L w 0 0 4 [some (.ref aF), some (.int t), some (.int (nI i))] [] := by
  intro f9
  induction f9 using Nat.strongRecOn with
  | _ f9 ih =>
    intro i t hf hi0 h0
    refine j_iload_n (pc := 4) C rfl dX0_worstPath_4 rfl ?_
    refine j_bipush (pc := 5) (v := 32) C dX0_worstPath_5 (by decide) ?_
    refine j_icmp_ge (pc := 7) (tgt := 32) C dX0_worstPath_7 (by decide) (fun c7 => ?_) (fun c7 => ?_)
    · have c7 := nI_le_of (by decide) (by omega) (show nI 32 ≤ nI i from c7)
      refine j_iload_n (pc := 32) C rfl dX0_worstPath_32 rfl ?_
      exact ret_i C rfl hr hlk dX0_worstPath_33 (hend _ (by rw [h0, show i = 32 by omega]; rfl)) (by decide) (by decide)
    · have c7 := nI_gt_of (by decide) (by omega) (show ¬ nI 32 ≤ nI i from c7)
      refine j_iload_n (pc := 10) C rfl dX0_worstPath_10 rfl ?_
      refine j_aload_n (pc := 11) C rfl dX0_worstPath_11 rfl ?_
      refine j_iload_n (pc := 12) C rfl dX0_worstPath_12 rfl ?_
      refine jV_i0 (pc := 13) (k2 := 0) (n2 := 0) (np := 1) (As := [.int (nI i)]) C (ct_numberTests hF ht (nI i)) gX0_worstPath_X0_numberTests rfl (by decide +kernel) ⟨by decide, by decide⟩ hF rfl rfl rfl (Nat.le_of_ble_eq_true rfl) dX0_worstPath_13 (by decide) (by decide) ⟨by decide, by decide⟩ (fun v1 hv1 => ?_)
      subst hv1
      refine j_aload_n (pc := 16) C rfl dX0_worstPath_16 rfl ?_
      refine j_iload_n (pc := 17) C rfl dX0_worstPath_17 rfl ?_
      refine jV_i0 (pc := 18) (k2 := 0) (n2 := 0) (np := 1) (As := [.int (nI i)]) C (ct_mostRuleTests hF hC (nI i)) gX0_worstPath_X0_mostRuleTests rfl (by decide +kernel) ⟨by decide, by decide⟩ hF rfl rfl rfl (Nat.le_of_ble_eq_true rfl) dX0_worstPath_18 (by decide) (by decide) ⟨by decide, by decide⟩ (fun v2 hv2 => ?_)
      subst hv2
      refine j_iadd (pc := 21) C dX0_worstPath_21 ?_
      refine j_max (pc := 22) C (by decide +kernel) (by decide +kernel) (by decide +kernel) (by decide +kernel) (by decide) (by decide) (Nat.le_of_ble_eq_true rfl) (by decide) (by decide) dX0_worstPath_22 ?_
      refine j_istore_1 (pc := 25) C dX0_worstPath_25 (by decide) rfl ?_
      refine j_iinc_2 (pc := 26) (d := 1) C dX0_worstPath_26 (by decide) rfl rfl ?_
      refine j_lo (by rw [nI_1]) ?_
      refine j_goto (pc := 29) (tgt := 4) C dX0_worstPath_29 (by decide) ?_
      exact ih (32 - (i + 1)) (by omega) (i + 1) _ rfl (by omega) (by rw [h0]; rfl)

set_option maxRecDepth 100000 in
set_option maxHeartbeats 4000000 in
theorem ct_worstPath {l : Launch} {G : Gp} {L : List Nat} {w : Wn} {qF aF rl rc : Nat} {df tc : Int32} {ft : Option Nat} (hF : Hs L w qF aF (filE rl rc df ft tc)) {qc : Nat} {cl : EL} (hC : Lst G L w qc rc cl) {ky : Nat → Int32} {wt : Nat → Nat} {f n : Nat} (ht : TrH L w ky wt f 0 n 0 ft) : CI l yX0_worstPath wsX0_worstPath (rmD 5 0 0) G L w [.ref aF] (fun r u => r = wstT ky wt f n cl ∧ u = (L, w)) := by
  refine mk_i (cc := cX0_worstPath) (maxL := 3) [some (.ref aF), none, none] (by decide) rfl (Nat.le_of_ble_eq_true rfl) rfl ?_
  intro p e s m args below meth c A C hr hlk hnm
  refine j_iconst (pc := 0) (v := 0) C dX0_worstPath_0 (by decide) ?_
  refine j_istore_1 (pc := 1) C dX0_worstPath_1 (by decide) rfl ?_
  refine j_iconst (pc := 2) (v := 0) C dX0_worstPath_2 (by decide) ?_
  refine j_istore_2 (pc := 3) C dX0_worstPath_3 (by decide) rfl ?_
  exact wst_loop hF hC ht (fun r h => ⟨h, rfl⟩) C hr hlk 32 0 0 rfl (by decide) rfl

