/-! THE LIST: java.util.ArrayList, at most ten elements -/
abbrev listE (mc : Int32) (ed : Nat) (sz : Int32) : va_E := .inr (0, [.int mc, .ref ed, .int sz])
abbrev arrE (G : Gp) (N : Nat) (row : Nat → Option Nat) : va_E := .inl (G.2.1 3, N, .inr (.inr (.inr (.inr row))))
/-- what a step may change (M) and make (N) -/
def Fr (M N : Nat → Prop) (L : List Nat) (w : Wn) (L2 : List Nat) (w2 : Wn) : Prop := (∀ m, m ∈ L → m ∈ L2) ∧ (∀ m, m ∈ L → ¬ M m → w2 m = w m) ∧ (∀ m, m ∈ L2 → m ∈ L ∨ N m)
theorem Fr.rf {M N : Nat → Prop} {L : List Nat} {w : Wn} : Fr M N L w L w := ⟨fun _ h => h, fun _ _ _ => rfl, fun _ h => Or.inl h⟩
theorem Fr.up {N : Nat → Prop} {L : List Nat} {w w2 : Wn} {q : Nat} {x : Nat × va_E} (e : w2 = va_up w q x) : Fr (fun m => m = q) N L w L w2 := ⟨fun _ h => h, fun m _ h => by rw [e, va_up_ne _ _ h], fun _ h => Or.inl h⟩
theorem Fr.push {M : Nat → Prop} {L : List Nat} {w w2 : Wn} {q : Nat} {x : Nat × va_E} (e : w2 = va_up w q x) (hq : q ∉ L) : Fr M (fun m => m = q) L w (L ++ [q]) w2 := ⟨fun _ h => List.mem_append_left _ h, fun m h _ => by rw [e, va_up_ne _ _ (fun z => hq (by rw [← z]; exact h))], fun m h => (List.mem_append.mp h).elim Or.inl (fun h => Or.inr (List.mem_singleton.mp h))⟩
theorem Fr.mono {M N M' N' : Nat → Prop} {L L2 : List Nat} {w w2 : Wn} (h : Fr M N L w L2 w2) (hM : ∀ m, M m → M' m) (hN : ∀ m, N m → N' m) : Fr M' N' L w L2 w2 := ⟨h.1, fun m h1 h2 => h.2.1 m h1 (fun q => h2 (hM m q)), fun m h1 => (h.2.2 m h1).elim Or.inl (fun q => Or.inr (hN m q))⟩
theorem Fr.tr {M N : Nat → Prop} {L L2 L3 : List Nat} {w w2 w3 : Wn} (h : Fr M N L w L2 w2) (g : Fr M N L2 w2 L3 w3) : Fr M N L w L3 w3 := ⟨fun m q => g.1 m (h.1 m q), fun m q z => (g.2.1 m (h.1 m q) z).trans (h.2.1 m q z), fun m q => (g.2.2 m q).elim (fun q => h.2.2 m q) Or.inr⟩
theorem Fr.hs {M N : Nat → Prop} {L L2 : List Nat} {w w2 : Wn} (h : Fr M N L w L2 w2) {n a : Nat} {e : va_E} (g : Hs L w n a e) (hn : ¬ M n) : Hs L2 w2 n a e := ⟨h.1 n g.1, by rw [h.2.1 n g.1 hn]; exact g.2⟩
theorem Fr.no {M N : Nat → Prop} {L L2 : List Nat} {w w2 : Wn} (h : Fr M N L w L2 w2) {n : Nat} (hn : n ∉ L) (hN : ¬ N n) : n ∉ L2 := fun q => (h.2.2 n q).elim hn hN
theorem up_id {w : Wn} {q a : Nat} {x : va_E} (h : w q = (a, x)) : va_up w q (a, x) = w := by
  funext m
  by_cases e : m = q
  · subst e; rw [h]; simp [va_up]
  · rw [va_up_ne _ _ e]
section JCPY
variable {p : Program} {l : Launch} {e : Env} {R : Room} {s : State} {m : MethodId} {args : Array Value} {below : List Frame} {meth : Method} {c : Code} {G : Gp} {A : Nat → Prop} {H0 : Heap} {nL : Nat} {Q : State → Prop} {L : List Nat} {w : Wn} {k n : Nat} {pc : Nat} {lo : List (Option Value)} {st : List Value} {cc : ByteArray} {own : String} {Ts : List Cond}
theorem any_rule (C : Cx p s m args c cc own nL Ts G A H0) {H : Heap} (hP : va_P G.1 vwCl (L.map w) H) {q b : Nat} {r : RV} (h : Hs L w q b (ruleE r)) : va_Any "java/lang/Object" s H b := by
  obtain ⟨j, -, hj⟩ := hs_at h
  refine va_rAny C.2.2.2.2.2.1 hP hj rfl (fun comp c0 h1 h2 => ?_)
  have hc : va_Nw (.castable RX3 "java/lang/Object") s := C.2.2.2.2.2.2.2.2.2.2.2.1 _ (by decide +kernel)
  obtain ⟨c3, c4, hc3, hc4, hasg⟩ := Cond.castable_spec hc
  cases hc3.symm.trans h2
  cases hc4.symm.trans h1
  exact hasg
theorem j_copy (C : Cx p s m args c cc own nL Ts G A H0) {index q a N : Nat} {f : Nat → Option Nat} {sp dp cn : Int32} {i j z : Nat} (h : Hs L w q a (.inl (G.2.1 3, N, .inr (.inr (.inr (.inr f)))))) (hl9 : Cond.methodLink own index arraycopyName ∈ Ts) (hn9 : Cond.native arraycopyName ∈ Ts) (hs9 : Cond.static arraycopyName ∈ Ts) (hi9 : Cond.initialized "java/lang/System" ∈ Ts) (hsp : sp = nI i) (hdp : dp = nI j) (hcn : cn = nI z) (hN : N < 2147483648) (h4 : i + z ≤ N) (h5 : j + z ≤ N)
    (hel : ∀ x : Nat, x < z → ∀ y : Nat, f (i + x) = some y → ∃ qy r, Hs L w qy y (ruleE r)) (hf9 : 1 ≤ R.frames) (hr9 : 40 ≤ R.locals) (hst9 : (st.map fun v => v.category).sum ≤ 8) (hdg : decode cc pc = .ok (.invokestatic index, 3))
    (kk : J p l e R s m args below meth c G A H0 nL Q L (va_up w q (a, .inl (G.2.1 3, N, .inr (.inr (.inr (.inr (va_cpy f f i j z))))))) k n (pc + 3) lo st) : J p l e R s m args below meth c G A H0 nL Q L w k n pc lo (.int cn :: .int dp :: .ref a :: .int sp :: .ref a :: st) := fun H locs ls hP hD hS hl => by
  subst hsp hdp hcn
  have e1 : (nI i).toNatClampNeg = i := nI_clamp (by omega)
  have e2 : (nI j).toNatClampNeg = j := nI_clamp (by omega)
  have e3 : (nI z).toNatClampNeg = z := nI_clamp (by omega)
  obtain ⟨j9, hj0, hj9⟩ := hs_at h
  refine va_copyM (E0 := "java/lang/Object") (E1 := "java/lang/Object") C.1 C.2.1 (by rw [C.2.2.1]; exact hl.1.symm) C.2.2.2.1 (C.2.2.2.2.1 _ hl9) (C.2.2.2.2.1 _ hn9) (C.2.2.2.2.1 _ hs9) (C.2.2.2.2.1 _ hi9) C.2.2.2.2.2.1 hP hD hS j9 j9 3 3 hj9 hj9 rfl rfl (nI_pos (by omega)) (nI_pos (by omega)) (nI_pos (by omega)) (by rw [e1, e3]; exact h4) (by rw [e2, e3]; exact h5) (fun x hx y hy => ?_) hf9 (by simp [nativeFrameWords]; omega) hdg (fun H1 locs1 hP1 hD1 hS1 => kk H1 locs1 ls ?_ ?_ hS1 hl)
  · rw [e3] at hx
    rw [e1] at hy
    obtain ⟨qy, r, hr⟩ := hel x hx y hy
    exact any_rule C hP hr
  · rw [← hs_set hD hj0, ← e1, ← e2, ← e3, nI_clamp (by omega), nI_clamp (by omega), nI_clamp (by omega)]
    rw [e1, e2, e3] at hP1
    exact hP1
  · rw [← hs_set hD hj0]
    rw [e1, e2, e3] at hD1
    exact hD1
end JCPY
set_option maxRecDepth 100000 in
set_option maxHeartbeats 4000000 in
theorem ct_AC_init {l : Launch} {G : Gp} {L : List Nat} {w : Wn} {a : Nat} : CV l yJxa1e45_init_da8c8 wsJxa1e45_init_da8c8 (rmD 2 0 0) G L w [.ref a] (fun u => u = (L, w)) := by
  refine mk_v (cc := cJxa1e45_init_da8c8) (maxL := 1) [some (.ref a)] (by decide) rfl (Nat.le_of_ble_eq_true rfl) rfl ?_
  intro p e s m args below meth c A C hr hlk hnm
  refine j_aload_n (pc := 0) C rfl dJxa1e45_init_da8c8_0 rfl ?_
  refine j_objInit (pc := 1) C (by decide +kernel) (by decide +kernel) (by decide +kernel) (Nat.le_of_ble_eq_true rfl) (by decide) (by decide) (by decide) (by decide) dJxa1e45_init_da8c8_1 ?_
  exact ret_v C rfl hr hlk dJxa1e45_init_da8c8_4 rfl (by decide) (by decide)

set_option maxRecDepth 100000 in
set_option maxHeartbeats 4000000 in
theorem ct_AL_init {l : Launch} {G : Gp} {L : List Nat} {w : Wn} {q a : Nat} (h : Hs L w q a (.inr (0, [.int 0, .null, .int 0]))) : CV l yJxc12de_init_da8c8 wsJxc12de_init_da8c8 (rmD 3 0 0) G L w [.ref a] (fun u => u = (L, w)) := by
  refine mk_v (cc := cJxc12de_init_da8c8) (maxL := 1) [some (.ref a)] (by decide) rfl (Nat.le_of_ble_eq_true rfl) rfl ?_
  intro p e s m args below meth c A C hr hlk hnm
  have hin_Jx4a65c : ∀ x ∈ u_ws RJx4a65c TJx4a65c 3, x ∈ wsJxc12de_init_da8c8 := by decide +kernel
  have h0 := h
  refine j_aload_n (pc := 0) C rfl dJxc12de_init_da8c8_0 rfl ?_
  refine jI_v0 (pc := 1) (k2 := 0) (n2 := 0) (np := 0) (As := []) C (ct_AC_init) gJxc12de_init_da8c8_Jxa1e45_init_da8c8 rfl (by decide +kernel) (by decide +kernel) (by decide +kernel) rfl (by decide +kernel) ⟨by decide, by decide⟩ rfl rfl (Nat.le_of_ble_eq_true rfl) dJxc12de_init_da8c8_1 (by decide) (by decide) ⟨by decide, by decide⟩ ?_
  refine j_aload_n (pc := 4) C rfl dJxc12de_init_da8c8_4 rfl ?_
  refine j_iconst (pc := 5) (v := 0) C dJxc12de_init_da8c8_5 (by decide) ?_
  refine j_put (pc := 6) (fs2 := [.int 0, .null, .int 0]) C hin_Jx4a65c h rfl 0 (by decide) tyJx4a65c tyJx4a65c_ok nmJx4a65c (by decide +kernel) rfl (tyJx4a65c_ok 0 (by decide)) rfl rfl (Nat.le_of_ble_eq_true rfl) rfl dJxc12de_init_da8c8_6 ?_
  refine j_nm (fun w6 ew6 => ?_)
  have h : Hs L w6 q a (.inr (0, [.int 0, .null, .int 0])) := by rw [ew6]; exact h.me
  exact ret_v C rfl hr hlk dJxc12de_init_da8c8_9 (by show (L, w6) = _; rw [ew6, up_id h0.2]) (by decide) (by decide)

set_option maxRecDepth 100000 in
set_option maxHeartbeats 4000000 in
theorem ct_list_init {l : Launch} {G : Gp} {L : List Nat} {w : Wn} {q a : Nat} (h : Hs L w q a (.inr (0, [.int 0, .null, .int 0]))) : CV l yJx4a65c_init_da8c8 wsJx4a65c_init_da8c8 (rmD 4 0 0) G L w [.ref a] (fun u => u = (L, va_up w q (a, listE 0 G.2.2.1 0))) := by
  refine mk_v (cc := cJx4a65c_init_da8c8) (maxL := 1) [some (.ref a)] (by decide) rfl (Nat.le_of_ble_eq_true rfl) rfl ?_
  intro p e s m args below meth c A C hr hlk hnm
  have hin_Jx4a65c : ∀ x ∈ u_ws RJx4a65c TJx4a65c 3, x ∈ wsJx4a65c_init_da8c8 := by decide +kernel
  refine j_aload_n (pc := 0) C rfl dJx4a65c_init_da8c8_0 rfl ?_
  refine jI_v0 (pc := 1) (k2 := 0) (n2 := 0) (np := 0) (As := []) C (ct_AL_init h) gJx4a65c_init_da8c8_Jxc12de_init_da8c8 rfl (by decide +kernel) (by decide +kernel) (by decide +kernel) rfl (by decide +kernel) ⟨by decide, by decide⟩ rfl rfl (Nat.le_of_ble_eq_true rfl) dJx4a65c_init_da8c8_1 (by decide) (by decide) ⟨by decide, by decide⟩ ?_
  refine j_aload_n (pc := 4) C rfl dJx4a65c_init_da8c8_4 rfl ?_
  refine j_gets (pc := 5) C rfl (by decide +kernel) dJx4a65c_init_da8c8_5 ?_
  refine j_put (pc := 8) (fs2 := [.int 0, .ref G.2.2.1, .int 0]) C hin_Jx4a65c h rfl 1 (by decide) tyJx4a65c tyJx4a65c_ok nmJx4a65c (by decide +kernel) rfl (tyJx4a65c_ok 1 (by decide)) rfl rfl (Nat.le_of_ble_eq_true rfl) rfl dJx4a65c_init_da8c8_8 ?_
  refine j_nm (fun w8 ew8 => ?_)
  have h : Hs L w8 q a (.inr (0, [.int 0, .ref G.2.2.1, .int 0])) := by rw [ew8]; exact h.me
  exact ret_v C rfl hr hlk dJx4a65c_init_da8c8_11 (by show (L, w8) = _; rw [ew8]) (by decide) (by decide)

set_option maxRecDepth 100000 in
set_option maxHeartbeats 4000000 in
theorem ct_size {l : Launch} {G : Gp} {L : List Nat} {w : Wn} {q a ed : Nat} {mc sz : Int32} (h : Hs L w q a (listE mc ed sz)) : CI l yJx4a65c_size_8abf5 wsJx4a65c_size_8abf5 (rmD 1 0 0) G L w [.ref a] (fun r u => r = sz ∧ u = (L, w)) := by
  refine mk_i (cc := cJx4a65c_size_8abf5) (maxL := 1) [some (.ref a)] (by decide) rfl (Nat.le_of_ble_eq_true rfl) rfl ?_
  intro p e s m args below meth c A C hr hlk hnm
  have hin_Jx4a65c : ∀ x ∈ u_ws RJx4a65c TJx4a65c 3, x ∈ wsJx4a65c_size_8abf5 := by decide +kernel
  refine j_aload_n (pc := 0) C rfl dJx4a65c_size_8abf5_0 rfl ?_
  refine j_get (pc := 1) C hin_Jx4a65c h rfl 2 (by decide) (by decide +kernel) rfl dJx4a65c_size_8abf5_1 ?_
  exact ret_i C rfl hr hlk dJx4a65c_size_8abf5_4 ⟨rfl, rfl⟩ (by decide) (by decide)

set_option maxRecDepth 100000 in
set_option maxHeartbeats 4000000 in
theorem ct_elementData {l : Launch} {G : Gp} {L : List Nat} {w : Wn} {q a ed : Nat} {mc sz : Int32} (h : Hs L w q a (listE mc ed sz)) {qe N : Nat} {row : Nat → Option Nat} (he : Hs L w qe ed (arrE G N row)) {j b : Nat} (hj : j < N) (hN : N < 2147483648) (hb : row j = some b) : CQ l yJx4a65c_elementData_915e3 wsJx4a65c_elementData_915e3 (rmD 1 0 0) G L w [.ref a, .int (nI j)] (fun r u => r = some b ∧ u = (L, w)) := by
  refine mk_q (cc := cJx4a65c_elementData_915e3) (maxL := 2) [some (.ref a), some (.int (nI j))] (by decide) rfl (Nat.le_of_ble_eq_true rfl) rfl ?_
  intro p e s m args below meth c A C hr hlk hnm
  have hin_Jx4a65c : ∀ x ∈ u_ws RJx4a65c TJx4a65c 3, x ∈ wsJx4a65c_elementData_915e3 := by decide +kernel
  refine j_aload_n (pc := 0) C rfl dJx4a65c_elementData_915e3_0 rfl ?_
  refine j_get (pc := 1) C hin_Jx4a65c h rfl 1 (by decide) (by decide +kernel) rfl dJx4a65c_elementData_915e3_1 ?_
  refine j_iload_n (pc := 4) C rfl dJx4a65c_elementData_915e3_4 rfl ?_
  refine j_aldO (pc := 5) (v := .ref b) C he rfl hj hN (by rw [hb]; rfl) dJx4a65c_elementData_915e3_5 ?_
  exact ret_a (r := some b) C rfl rfl hr (Or.inl ⟨_, rfl⟩) hlk dJx4a65c_elementData_915e3_6 ⟨rfl, rfl⟩ (by decide) (by decide)

set_option maxRecDepth 100000 in
set_option maxHeartbeats 4000000 in
theorem ct_check3 {l : Launch} {G : Gp} {L : List Nat} {w : Wn} {j n : Nat} (hj : j < n) (hN : n < 2147483648) : CI l yJ3_checkIndex_8e157 wsJ3_checkIndex_8e157 (rmD 1 0 0) G L w [.int (nI j), .int (nI n), .null] (fun r u => r = nI j ∧ u = (L, w)) := by
  refine mk_i (cc := cJ3_checkIndex_8e157) (maxL := 3) [some (.int (nI j)), some (.int (nI n)), some (.null)] (by decide) rfl (Nat.le_of_ble_eq_true rfl) rfl ?_
  intro p e s m args below meth c A C hr hlk hnm
  have hN1 : j < 2 ^ 31 := by omega
  have hN1b : n < 2 ^ 31 := by omega
  refine j_iload_n (pc := 0) C rfl dJ3_checkIndex_8e157_0 rfl ?_
  refine j_if_lt (pc := 1) (tgt := 9) C dJ3_checkIndex_8e157_1 (by decide) (fun c1 => ?_) (fun c1 => ?_)
  · first | exact absurd c1 (nI_pos hN1) | exact absurd (nI_lt hj hN1b) c6
  · refine j_iload_n (pc := 4) C rfl dJ3_checkIndex_8e157_4 rfl ?_
    refine j_iload_n (pc := 5) C rfl dJ3_checkIndex_8e157_5 rfl ?_
    refine j_icmp_lt (pc := 6) (tgt := 16) C dJ3_checkIndex_8e157_6 (by decide) (fun c6 => ?_) (fun c6 => ?_)
    · refine j_iload_n (pc := 16) C rfl dJ3_checkIndex_8e157_16 rfl ?_
      exact ret_i C rfl hr hlk dJ3_checkIndex_8e157_17 ⟨rfl, rfl⟩ (by decide) (by decide)
    · first | exact absurd c1 (nI_pos hN1) | exact absurd (nI_lt hj hN1b) c6

set_option maxRecDepth 100000 in
set_option maxHeartbeats 4000000 in
theorem ct_check {l : Launch} {G : Gp} {L : List Nat} {w : Wn} {j n : Nat} (hj : j < n) (hN : n < 2147483648) : CI l yJ15_checkIndex_7cf53 wsJ15_checkIndex_7cf53 (rmD 2 0 0) G L w [.int (nI j), .int (nI n)] (fun r u => r = nI j ∧ u = (L, w)) := by
  refine mk_i (cc := cJ15_checkIndex_7cf53) (maxL := 2) [some (.int (nI j)), some (.int (nI n))] (by decide) rfl (Nat.le_of_ble_eq_true rfl) rfl ?_
  intro p e s m args below meth c A C hr hlk hnm
  refine j_iload_n (pc := 0) C rfl dJ15_checkIndex_7cf53_0 rfl ?_
  refine j_iload_n (pc := 1) C rfl dJ15_checkIndex_7cf53_1 rfl ?_
  refine j_null (pc := 2) C dJ15_checkIndex_7cf53_2 ?_
  refine jS_i0 (pc := 3) (k2 := 0) (n2 := 0) (np := 3) (As := [.int (nI j), .int (nI n), .null]) C (ct_check3 hj hN) gJ15_checkIndex_7cf53_J3_checkIndex_8e157 rfl (by decide +kernel) ⟨by decide, by decide⟩ rfl rfl (Nat.le_of_ble_eq_true rfl) dJ15_checkIndex_7cf53_3 (by decide) (by decide) ⟨by decide, by decide⟩ (fun v hv => ?_)
  exact ret_i C rfl hr hlk dJ15_checkIndex_7cf53_6 ⟨hv, rfl⟩ (by decide) (by decide)

set_option maxRecDepth 100000 in
set_option maxHeartbeats 4000000 in
theorem ct_get {l : Launch} {G : Gp} {L : List Nat} {w : Wn} {q a ed : Nat} {mc : Int32} {n : Nat} (h : Hs L w q a (listE mc ed (nI n))) {qe N : Nat} {row : Nat → Option Nat} (he : Hs L w qe ed (arrE G N row)) {j b : Nat} (hj : j < N) (hN : N < 2147483648) (hb : row j = some b) (hjn : j < n) (hnN : n < 2147483648) : CQ l yJx4a65c_get_915e3 wsJx4a65c_get_915e3 (rmD 3 0 0) G L w [.ref a, .int (nI j)] (fun r u => r = some b ∧ u = (L, w)) := by
  refine mk_q (cc := cJx4a65c_get_915e3) (maxL := 2) [some (.ref a), some (.int (nI j))] (by decide) rfl (Nat.le_of_ble_eq_true rfl) rfl ?_
  intro p e s m args below meth c A C hr hlk hnm
  have hin_Jx4a65c : ∀ x ∈ u_ws RJx4a65c TJx4a65c 3, x ∈ wsJx4a65c_get_915e3 := by decide +kernel
  refine j_iload_n (pc := 0) C rfl dJx4a65c_get_915e3_0 rfl ?_
  refine j_aload_n (pc := 1) C rfl dJx4a65c_get_915e3_1 rfl ?_
  refine j_get (pc := 2) C hin_Jx4a65c h rfl 2 (by decide) (by decide +kernel) rfl dJx4a65c_get_915e3_2 ?_
  refine jS_i0 (pc := 5) (k2 := 0) (n2 := 0) (np := 2) (As := [.int (nI j), .int (nI n)]) C (ct_check hjn hnN) gJx4a65c_get_915e3_J15_checkIndex_7cf53 rfl (by decide +kernel) ⟨by decide, by decide⟩ rfl rfl (Nat.le_of_ble_eq_true rfl) dJx4a65c_get_915e3_5 (by decide) (by decide) ⟨by decide, by decide⟩ (fun v hv => ?_)
  refine j_pop (pc := 8) C dJx4a65c_get_915e3_8 rfl ?_
  refine j_aload_n (pc := 9) C rfl dJx4a65c_get_915e3_9 rfl ?_
  refine j_iload_n (pc := 10) C rfl dJx4a65c_get_915e3_10 rfl ?_
  refine jV_q0 (pc := 11) (k2 := 0) (n2 := 0) (np := 1) (As := [.int (nI j)]) C (ct_elementData h he hj hN hb) gJx4a65c_get_915e3_Jx4a65c_elementData_915e3 rfl (by decide +kernel) ⟨by decide, by decide⟩ h rfl rfl rfl (Nat.le_of_ble_eq_true rfl) dJx4a65c_get_915e3_11 (by decide) (by decide) ⟨by decide, by decide⟩ (fun v2 hv2 => ?_)
  subst hv2
  exact ret_a (r := some b) C rfl rfl hr (Or.inl ⟨_, rfl⟩) hlk dJx4a65c_get_915e3_14 ⟨rfl, rfl⟩ (by decide) (by decide)

