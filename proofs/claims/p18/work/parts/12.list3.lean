/-! THE LIST, its changes, whole -/
def AddP (G : Gp) (q a n : Nat) (row : Nat → Option Nat) (b : Nat) (L : List Nat) (w : Wn) (u : Sw) : Prop := ∃ mc ed row2, Hs u.1 u.2 q a (listE mc ed (nI (n + 1))) ∧ Hs u.1 u.2 (q + 100) ed (arrE G 10 row2) ∧ (∀ i, i < n → row2 i = row i) ∧ row2 n = some b ∧ Fr (fun m => m = q ∨ m = q + 100) (fun m => m = q + 100) L w u.1 u.2
set_option maxRecDepth 100000 in
set_option maxHeartbeats 4000000 in
theorem ct_add1B {l : Launch} {G : Gp} {L : List Nat} {w : Wn} {q a ed : Nat} {mc : Int32} {n : Nat} (h : Hs L w q a (listE mc ed (nI n))) {row : Nat → Option Nat} (he : Hs L w (q + 100) ed (arrE G 10 row)) (hn : n < 10) {qb b : Nat} {r : RV} (hb : Hs L w qb b (ruleE r)) (hqb : 1000 ≤ qb) (hqs : q < 100) : CI l yJx4a65c_add_9ea2d wsJx4a65c_add_9ea2d (rmD 5 1 10) G L w [.ref a, .ref b] (fun r u => r = 1 ∧ AddP G q a n row b L w u) := by
  refine mk_i (cc := cJx4a65c_add_9ea2d) (maxL := 2) [some (.ref a), some (.ref b)] (by decide) rfl (Nat.le_of_ble_eq_true rfl) rfl ?_
  intro p e s m args below meth c A C hr hlk hnm
  have hin_Jx4a65c : ∀ x ∈ u_ws RJx4a65c TJx4a65c 3, x ∈ wsJx4a65c_add_9ea2d := by decide +kernel
  refine j_aload_n (pc := 0) C rfl dJx4a65c_add_9ea2d_0 rfl ?_
  refine j_dup (pc := 1) C dJx4a65c_add_9ea2d_1 rfl ?_
  refine j_getM (pc := 2) (ref := RJx4a65c) C hin_Jx4a65c h rfl 0 (by decide) (by decide +kernel) (by decide +kernel) rfl dJx4a65c_add_9ea2d_2 ?_
  refine j_iconst (pc := 5) (v := 1) C dJx4a65c_add_9ea2d_5 (by decide) ?_
  refine j_iadd (pc := 6) C dJx4a65c_add_9ea2d_6 ?_
  refine j_putM (pc := 7) (ref := RJx4a65c) (fs2 := [.int (mc + 1), .ref ed, .int (nI n)]) C hin_Jx4a65c h rfl 0 (by decide) tyJx4a65c tyJx4a65c_ok nmJx4a65c (by decide +kernel) (by decide +kernel) rfl (tyJx4a65c_ok 0 (by decide)) rfl rfl (Nat.le_of_ble_eq_true rfl) rfl dJx4a65c_add_9ea2d_7 ?_
  refine j_nm (fun w7 ew7 => ?_)
  have h : Hs L w7 q a (.inr (0, [.int (mc + 1), .ref ed, .int (nI n)])) := by rw [ew7]; exact h.me
  have hb := hs_up1 hb ew7 (by omega)
  have he := hs_up1 he ew7 (by omega)
  refine j_aload_n (pc := 10) C rfl dJx4a65c_add_9ea2d_10 rfl ?_
  refine j_aload_n (pc := 11) C rfl dJx4a65c_add_9ea2d_11 rfl ?_
  refine j_aload_n (pc := 12) C rfl dJx4a65c_add_9ea2d_12 rfl ?_
  refine j_get (pc := 13) C hin_Jx4a65c h rfl 1 (by decide) (by decide +kernel) rfl dJx4a65c_add_9ea2d_13 ?_
  refine j_aload_n (pc := 16) C rfl dJx4a65c_add_9ea2d_16 rfl ?_
  refine j_get (pc := 17) C hin_Jx4a65c h rfl 2 (by decide) (by decide +kernel) rfl dJx4a65c_add_9ea2d_17 ?_
  refine jV_v (pc := 20) (k2 := 1) (n2 := 10) (np := 3) (As := [.ref b, .ref ed, .int (nI n)]) C (ct_add3B h he hn hb hqb hqs) gJx4a65c_add_9ea2d_Jx4a65c_add_72be8 rfl (by decide +kernel) ⟨by decide, by decide⟩ h rfl rfl rfl (Nat.le_of_ble_eq_true rfl) dJx4a65c_add_9ea2d_20 (by decide) (by decide) ⟨by decide, by decide⟩ (fun L2 w2 hu => ?_)
  refine j_iconst (pc := 23) (v := 1) C dJx4a65c_add_9ea2d_23 (by decide) ?_
  refine ret_z C rfl hr hlk (by decide) dJx4a65c_add_9ea2d_24 ⟨rfl, mc + 1, ed, _, by rw [hu]; exact Hs.me (h.up (by omega)), by rw [hu]; exact Hs.up he.me (by omega), fun i hi => va_up_ne _ _ (by omega), by simp [va_up], ?_⟩ (by decide) (by decide)
  cases hu
  exact ((Fr.up ew7).mono (fun m h => Or.inl h) (fun m h => h)).tr (((Fr.up rfl).mono (fun m h => Or.inr h) (fun m h => h)).tr ((Fr.up rfl).mono (fun m h => Or.inl h) (fun m h => h)))

set_option maxRecDepth 100000 in
set_option maxHeartbeats 4000000 in
theorem ct_add1A {l : Launch} {G : Gp} {L : List Nat} {w : Wn} {q a : Nat} {mc : Int32} (h : Hs L w q a (listE mc G.2.2.1 0)) (hq : (q + 100) ∉ L) {qb b : Nat} {r : RV} (hb : Hs L w qb b (ruleE r)) (hqb : 1000 ≤ qb) (hqs : q < 100) : CI l yJx4a65c_add_9ea2d wsJx4a65c_add_9ea2d (rmD 5 1 10) G L w [.ref a, .ref b] (fun r u => r = 1 ∧ AddP G q a 0 (fun _ => none) b L w u) := by
  refine mk_i (cc := cJx4a65c_add_9ea2d) (maxL := 2) [some (.ref a), some (.ref b)] (by decide) rfl (Nat.le_of_ble_eq_true rfl) rfl ?_
  intro p e s m args below meth c A C hr hlk hnm
  have hin_Jx4a65c : ∀ x ∈ u_ws RJx4a65c TJx4a65c 3, x ∈ wsJx4a65c_add_9ea2d := by decide +kernel
  refine j_aload_n (pc := 0) C rfl dJx4a65c_add_9ea2d_0 rfl ?_
  refine j_dup (pc := 1) C dJx4a65c_add_9ea2d_1 rfl ?_
  refine j_getM (pc := 2) (ref := RJx4a65c) C hin_Jx4a65c h rfl 0 (by decide) (by decide +kernel) (by decide +kernel) rfl dJx4a65c_add_9ea2d_2 ?_
  refine j_iconst (pc := 5) (v := 1) C dJx4a65c_add_9ea2d_5 (by decide) ?_
  refine j_iadd (pc := 6) C dJx4a65c_add_9ea2d_6 ?_
  refine j_putM (pc := 7) (ref := RJx4a65c) (fs2 := [.int (mc + 1), .ref G.2.2.1, .int 0]) C hin_Jx4a65c h rfl 0 (by decide) tyJx4a65c tyJx4a65c_ok nmJx4a65c (by decide +kernel) (by decide +kernel) rfl (tyJx4a65c_ok 0 (by decide)) rfl rfl (Nat.le_of_ble_eq_true rfl) rfl dJx4a65c_add_9ea2d_7 ?_
  refine j_nm (fun w7 ew7 => ?_)
  have h : Hs L w7 q a (.inr (0, [.int (mc + 1), .ref G.2.2.1, .int 0])) := by rw [ew7]; exact h.me
  have hb := hs_up1 hb ew7 (by omega)
  refine j_aload_n (pc := 10) C rfl dJx4a65c_add_9ea2d_10 rfl ?_
  refine j_aload_n (pc := 11) C rfl dJx4a65c_add_9ea2d_11 rfl ?_
  refine j_aload_n (pc := 12) C rfl dJx4a65c_add_9ea2d_12 rfl ?_
  refine j_get (pc := 13) C hin_Jx4a65c h rfl 1 (by decide) (by decide +kernel) rfl dJx4a65c_add_9ea2d_13 ?_
  refine j_aload_n (pc := 16) C rfl dJx4a65c_add_9ea2d_16 rfl ?_
  refine j_get (pc := 17) C hin_Jx4a65c h rfl 2 (by decide) (by decide +kernel) rfl dJx4a65c_add_9ea2d_17 ?_
  refine jV_v (pc := 20) (k2 := 1) (n2 := 10) (np := 3) (As := [.ref b, .ref G.2.2.1, .int 0]) C (ct_add3A h hq hb hqb hqs) gJx4a65c_add_9ea2d_Jx4a65c_add_72be8 rfl (by decide +kernel) ⟨by decide, by decide⟩ h rfl rfl rfl (Nat.le_of_ble_eq_true rfl) dJx4a65c_add_9ea2d_20 (by decide) (by decide) ⟨by decide, by decide⟩ (fun L2 w2 hu => ?_)
  obtain ⟨e2, hu⟩ := hu
  refine j_iconst (pc := 23) (v := 1) C dJx4a65c_add_9ea2d_23 (by decide) ?_
  refine ret_z C rfl hr hlk (by decide) dJx4a65c_add_9ea2d_24 ⟨rfl, mc + 1, e2, _, by rw [hu]; exact ⟨List.mem_append_left _ h.1, if_pos rfl⟩, by rw [hu]; exact Hs.up Hs.nw (by omega), fun i hi => absurd hi (by omega), by simp [va_up], ?_⟩ (by decide) (by decide)
  cases hu
  exact ((Fr.up ew7).mono (fun m h => Or.inl h) (fun m h => h)).tr (((Fr.push rfl hq).mono (fun m (h : False) => h.elim) (fun m h => h)).tr ((Fr.up rfl).mono (fun m h => Or.inl h) (fun m h => h)))

set_option maxRecDepth 100000 in
set_option maxHeartbeats 4000000 in
theorem clear_loop {p : Program} {l : Launch} {e : Env} {s : State} {m : MethodId} {args : Array Value} {below : List Frame} {meth : Method} {c : Code} {A : Nat → Prop} {G : Gp} {L : List Nat} {q a ed : Nat} {n : Nat} {post : Sw → Prop} (C : Cx p s m args c cJx4a65c_clear_da8c8 yJx4a65c_clear_da8c8.cls 4 wsJx4a65c_clear_da8c8 G A s.heap) (hr : meth.sig.returnType = none) (hlk : meth.locks = false) (hn : n ≤ 10) :
    ∀ (f i : Nat) (w : Wn) (row : Nat → Option Nat), i + f = n → Hs L w (q + 100) ed (arrE G 10 row) → (∀ (w2 : Wn) (row2 : Nat → Option Nat), Hs L w2 (q + 100) ed (arrE G 10 row2) → Fr (fun m => m = q + 100) (fun _ => False) L w L w2 → post (L, w2)) → J p l e (rmD 1 0 0) s m args below meth c G A s.heap 4 (MQ below (va_Qv post (PB G A) A) args s (rmD 1 0 0).cells (rmD 1 0 0).slots A) L w 0 0 27 [some (.ref a), some (.ref ed), some (.int (nI n)), some (.int (nI i))] [] := by
  intro f
  induction f with
  | zero =>
    intro i w row hi he hp
    have e : i = n := by omega
    subst e
    refine j_iload_n (pc := 27) C rfl dJx4a65c_clear_da8c8_27 rfl ?_
    refine j_iload_n (pc := 28) C rfl dJx4a65c_clear_da8c8_28 rfl ?_
    refine j_icmp_ge (pc := 29) (tgt := 42) C dJx4a65c_clear_da8c8_29 (by decide) (fun _ => ?_) (fun z9 => absurd (nI_le (Nat.le_refl i) (by omega)) z9)
    exact ret_v C rfl hr hlk dJx4a65c_clear_da8c8_42 (hp w row he Fr.rf) (by decide) (by decide)
  | succ f ih =>
    intro i w row hi he hp
    refine j_iload_n (pc := 27) C rfl dJx4a65c_clear_da8c8_27 rfl ?_
    refine j_iload_n (pc := 28) C rfl dJx4a65c_clear_da8c8_28 rfl ?_
    refine j_icmp_ge (pc := 29) (tgt := 42) C dJx4a65c_clear_da8c8_29 (by decide) (fun z9 => absurd z9 (nI_ge (by omega) (by omega))) (fun _ => ?_)
    refine j_aload_n (pc := 32) C rfl dJx4a65c_clear_da8c8_32 rfl ?_
    refine j_iload_n (pc := 33) C rfl dJx4a65c_clear_da8c8_33 rfl ?_
    refine j_null (pc := 34) C dJx4a65c_clear_da8c8_34 ?_
    refine j_astON (pc := 35) C he rfl (show i < 10 by omega) (by decide) dJx4a65c_clear_da8c8_35 ?_
    refine j_nm (fun w35 ew35 => ?_)
    have he2 : Hs L w35 (q + 100) ed (arrE G 10 (va_up row i none)) := by rw [ew35]; exact he.me
    refine j_iinc_3 (pc := 36) (d := 1) C dJx4a65c_clear_da8c8_36 (by decide) rfl rfl ?_
    refine j_lo (by rw [nI_1]) ?_
    refine j_goto (pc := 39) (tgt := 27) C dJx4a65c_clear_da8c8_39 (by decide) ?_
    exact ih (i + 1) w35 _ (by omega) he2 (fun w2 row2 h2 hf => hp w2 row2 h2 ((Fr.up ew35).tr hf))
set_option maxRecDepth 100000 in
set_option maxHeartbeats 4000000 in
theorem ct_clearB {l : Launch} {G : Gp} {L : List Nat} {w : Wn} {q a ed : Nat} {mc : Int32} {n : Nat} (h : Hs L w q a (listE mc ed (nI n))) {row : Nat → Option Nat} (he : Hs L w (q + 100) ed (arrE G 10 row)) (hn : n ≤ 10) : CV l yJx4a65c_clear_da8c8 wsJx4a65c_clear_da8c8 (rmD 1 0 0) G L w [.ref a] (fun u => ∃ mc2 row2, Hs u.1 u.2 q a (listE mc2 ed 0) ∧ Hs u.1 u.2 (q + 100) ed (arrE G 10 row2) ∧ Fr (fun m => m = q ∨ m = q + 100) (fun _ => False) L w u.1 u.2 ∧ u.1 = L) := by
  refine mk_v (cc := cJx4a65c_clear_da8c8) (maxL := 4) [some (.ref a), none, none, none] (by decide) rfl (Nat.le_of_ble_eq_true rfl) rfl ?_
  intro p e s m args below meth c A C hr hlk hnm
  have hin_Jx4a65c : ∀ x ∈ u_ws RJx4a65c TJx4a65c 3, x ∈ wsJx4a65c_clear_da8c8 := by decide +kernel
  refine j_aload_n (pc := 0) C rfl dJx4a65c_clear_da8c8_0 rfl ?_
  refine j_dup (pc := 1) C dJx4a65c_clear_da8c8_1 rfl ?_
  refine j_getM (pc := 2) (ref := RJx4a65c) C hin_Jx4a65c h rfl 0 (by decide) (by decide +kernel) (by decide +kernel) rfl dJx4a65c_clear_da8c8_2 ?_
  refine j_iconst (pc := 5) (v := 1) C dJx4a65c_clear_da8c8_5 (by decide) ?_
  refine j_iadd (pc := 6) C dJx4a65c_clear_da8c8_6 ?_
  refine j_putM (pc := 7) (ref := RJx4a65c) (fs2 := [.int (mc + 1), .ref ed, .int (nI n)]) C hin_Jx4a65c h rfl 0 (by decide) tyJx4a65c tyJx4a65c_ok nmJx4a65c (by decide +kernel) (by decide +kernel) rfl (tyJx4a65c_ok 0 (by decide)) rfl rfl (Nat.le_of_ble_eq_true rfl) rfl dJx4a65c_clear_da8c8_7 ?_
  refine j_nm (fun w7 ew7 => ?_)
  have h : Hs L w7 q a (.inr (0, [.int (mc + 1), .ref ed, .int (nI n)])) := by rw [ew7]; exact h.me
  have he := hs_up1 he ew7 (by omega)
  refine j_aload_n (pc := 10) C rfl dJx4a65c_clear_da8c8_10 rfl ?_
  refine j_get (pc := 11) C hin_Jx4a65c h rfl 1 (by decide) (by decide +kernel) rfl dJx4a65c_clear_da8c8_11 ?_
  refine j_astore_1 (pc := 14) C dJx4a65c_clear_da8c8_14 (by decide) rfl ?_
  refine j_aload_n (pc := 15) C rfl dJx4a65c_clear_da8c8_15 rfl ?_
  refine j_get (pc := 16) C hin_Jx4a65c h rfl 2 (by decide) (by decide +kernel) rfl dJx4a65c_clear_da8c8_16 ?_
  refine j_istore_2 (pc := 19) C dJx4a65c_clear_da8c8_19 (by decide) rfl ?_
  refine j_aload_n (pc := 20) C rfl dJx4a65c_clear_da8c8_20 rfl ?_
  refine j_iconst (pc := 21) (v := 0) C dJx4a65c_clear_da8c8_21 (by decide) ?_
  refine j_dup_x1 (pc := 22) C dJx4a65c_clear_da8c8_22 rfl rfl ?_
  refine j_put (pc := 23) (fs2 := [.int (mc + 1), .ref ed, .int 0]) C hin_Jx4a65c h rfl 2 (by decide) tyJx4a65c tyJx4a65c_ok nmJx4a65c (by decide +kernel) rfl (tyJx4a65c_ok 2 (by decide)) rfl rfl (Nat.le_of_ble_eq_true rfl) rfl dJx4a65c_clear_da8c8_23 ?_
  refine j_nm (fun w23 ew23 => ?_)
  have h : Hs L w23 q a (.inr (0, [.int (mc + 1), .ref ed, .int 0])) := by rw [ew23]; exact h.me
  have he := hs_up1 he ew23 (by omega)
  refine j_istore_3 (pc := 26) C dJx4a65c_clear_da8c8_26 (by decide) rfl ?_
  exact clear_loop C hr hlk hn n 0 w23 row (by omega) he (fun w2 row2 h2 hf => ⟨mc + 1, row2, hf.hs h (by omega), h2, (((Fr.up ew7).tr (Fr.up ew23)).mono (fun m h => Or.inl h) (fun m h => h)).tr (hf.mono (fun m h => Or.inr h) (fun m h => h)), rfl⟩)

set_option maxRecDepth 100000 in
set_option maxHeartbeats 4000000 in
theorem ct_clearA {l : Launch} {G : Gp} {L : List Nat} {w : Wn} {q a ed : Nat} {mc : Int32} (h : Hs L w q a (listE mc ed 0)) : CV l yJx4a65c_clear_da8c8 wsJx4a65c_clear_da8c8 (rmD 1 0 0) G L w [.ref a] (fun u => u = (L, va_up w q (a, listE (mc + 1) ed 0))) := by
  refine mk_v (cc := cJx4a65c_clear_da8c8) (maxL := 4) [some (.ref a), none, none, none] (by decide) rfl (Nat.le_of_ble_eq_true rfl) rfl ?_
  intro p e s m args below meth c A C hr hlk hnm
  have hin_Jx4a65c : ∀ x ∈ u_ws RJx4a65c TJx4a65c 3, x ∈ wsJx4a65c_clear_da8c8 := by decide +kernel
  refine j_aload_n (pc := 0) C rfl dJx4a65c_clear_da8c8_0 rfl ?_
  refine j_dup (pc := 1) C dJx4a65c_clear_da8c8_1 rfl ?_
  refine j_getM (pc := 2) (ref := RJx4a65c) C hin_Jx4a65c h rfl 0 (by decide) (by decide +kernel) (by decide +kernel) rfl dJx4a65c_clear_da8c8_2 ?_
  refine j_iconst (pc := 5) (v := 1) C dJx4a65c_clear_da8c8_5 (by decide) ?_
  refine j_iadd (pc := 6) C dJx4a65c_clear_da8c8_6 ?_
  refine j_putM (pc := 7) (ref := RJx4a65c) (fs2 := [.int (mc + 1), .ref ed, .int 0]) C hin_Jx4a65c h rfl 0 (by decide) tyJx4a65c tyJx4a65c_ok nmJx4a65c (by decide +kernel) (by decide +kernel) rfl (tyJx4a65c_ok 0 (by decide)) rfl rfl (Nat.le_of_ble_eq_true rfl) rfl dJx4a65c_clear_da8c8_7 ?_
  refine j_nm (fun w7 ew7 => ?_)
  have h : Hs L w7 q a (.inr (0, [.int (mc + 1), .ref ed, .int 0])) := by rw [ew7]; exact h.me
  refine j_aload_n (pc := 10) C rfl dJx4a65c_clear_da8c8_10 rfl ?_
  refine j_get (pc := 11) C hin_Jx4a65c h rfl 1 (by decide) (by decide +kernel) rfl dJx4a65c_clear_da8c8_11 ?_
  refine j_astore_1 (pc := 14) C dJx4a65c_clear_da8c8_14 (by decide) rfl ?_
  refine j_aload_n (pc := 15) C rfl dJx4a65c_clear_da8c8_15 rfl ?_
  refine j_get (pc := 16) C hin_Jx4a65c h rfl 2 (by decide) (by decide +kernel) rfl dJx4a65c_clear_da8c8_16 ?_
  refine j_istore_2 (pc := 19) C dJx4a65c_clear_da8c8_19 (by decide) rfl ?_
  refine j_aload_n (pc := 20) C rfl dJx4a65c_clear_da8c8_20 rfl ?_
  refine j_iconst (pc := 21) (v := 0) C dJx4a65c_clear_da8c8_21 (by decide) ?_
  refine j_dup_x1 (pc := 22) C dJx4a65c_clear_da8c8_22 rfl rfl ?_
  refine j_put (pc := 23) (fs2 := [.int (mc + 1), .ref ed, .int 0]) C hin_Jx4a65c h rfl 2 (by decide) tyJx4a65c tyJx4a65c_ok nmJx4a65c (by decide +kernel) rfl (tyJx4a65c_ok 2 (by decide)) rfl rfl (Nat.le_of_ble_eq_true rfl) rfl dJx4a65c_clear_da8c8_23 ?_
  refine j_nm (fun w23 ew23 => ?_)
  have h : Hs L w23 q a (.inr (0, [.int (mc + 1), .ref ed, .int 0])) := by rw [ew23]; exact h.me
  refine j_istore_3 (pc := 26) C dJx4a65c_clear_da8c8_26 (by decide) rfl ?_
  refine j_iload_n (pc := 27) C rfl dJx4a65c_clear_da8c8_27 rfl ?_
  refine j_iload_n (pc := 28) C rfl dJx4a65c_clear_da8c8_28 rfl ?_
  refine j_icmp_ge (pc := 29) (tgt := 42) C dJx4a65c_clear_da8c8_29 (by decide) (fun _ => ?_) (fun z9 => absurd (by decide) z9)
  exact ret_v C rfl hr hlk dJx4a65c_clear_da8c8_42 (by show (L, w23) = _; rw [ew23, ew7, bx_uu]) (by decide) (by decide)

def shf (row : Nat → Option Nat) (i : Nat) : Nat → Option Nat := fun k => if k < i then row k else row (k + 1)
set_option maxRecDepth 100000 in
set_option maxHeartbeats 4000000 in
theorem ct_fastRemove {l : Launch} {G : Gp} {L : List Nat} {w : Wn} {q a ed : Nat} {mc : Int32} {n : Nat} (h : Hs L w q a (listE mc ed (nI n))) {row : Nat → Option Nat} (he : Hs L w (q + 100) ed (arrE G 10 row)) (hn : n ≤ 10) {i : Nat} (hi : i < n) (hqs : q < 100) (hel : ∀ x : Nat, x < n → ∀ y : Nat, row x = some y → ∃ qy r, 1000 ≤ qy ∧ Hs L w qy y (ruleE r)) : CV l yJx4a65c_fastRemove_b59b0 wsJx4a65c_fastRemove_b59b0 (rmD 2 0 0) G L w [.ref a, .ref ed, .int (nI i)] (fun u => ∃ mc2 row2, Hs u.1 u.2 q a (listE mc2 ed (nI (n - 1))) ∧ Hs u.1 u.2 (q + 100) ed (arrE G 10 row2) ∧ (∀ k, k < n - 1 → row2 k = shf row i k) ∧ Fr (fun m => m = q ∨ m = q + 100) (fun _ => False) L w u.1 u.2 ∧ u.1 = L) := by
  refine mk_v (cc := cJx4a65c_fastRemove_b59b0) (maxL := 4) [some (.ref a), some (.ref ed), some (.int (nI i)), none] (by decide) rfl (Nat.le_of_ble_eq_true rfl) rfl ?_
  intro p e s m args below meth c A C hr hlk hnm
  have hin_Jx4a65c : ∀ x ∈ u_ws RJx4a65c TJx4a65c 3, x ∈ wsJx4a65c_fastRemove_b59b0 := by decide +kernel
  refine j_aload_n (pc := 0) C rfl dJx4a65c_fastRemove_b59b0_0 rfl ?_
  refine j_dup (pc := 1) C dJx4a65c_fastRemove_b59b0_1 rfl ?_
  refine j_getM (pc := 2) (ref := RJx4a65c) C hin_Jx4a65c h rfl 0 (by decide) (by decide +kernel) (by decide +kernel) rfl dJx4a65c_fastRemove_b59b0_2 ?_
  refine j_iconst (pc := 5) (v := 1) C dJx4a65c_fastRemove_b59b0_5 (by decide) ?_
  refine j_iadd (pc := 6) C dJx4a65c_fastRemove_b59b0_6 ?_
  refine j_putM (pc := 7) (ref := RJx4a65c) (fs2 := [.int (mc + 1), .ref ed, .int (nI n)]) C hin_Jx4a65c h rfl 0 (by decide) tyJx4a65c tyJx4a65c_ok nmJx4a65c (by decide +kernel) (by decide +kernel) rfl (tyJx4a65c_ok 0 (by decide)) rfl rfl (Nat.le_of_ble_eq_true rfl) rfl dJx4a65c_fastRemove_b59b0_7 ?_
  refine j_nm (fun w7 ew7 => ?_)
  have h : Hs L w7 q a (.inr (0, [.int (mc + 1), .ref ed, .int (nI n)])) := by rw [ew7]; exact h.me
  have he := hs_up1 he ew7 (by omega)
  have hel1 : ∀ x : Nat, x < n → ∀ y : Nat, row x = some y → ∃ qy r, Hs L w7 qy y (ruleE r) := fun x hx y hy => by obtain ⟨qy, r, h1, h2⟩ := hel x hx y hy; exact ⟨qy, r, hs_up1 h2 ew7 (by omega)⟩
  refine j_aload_n (pc := 10) C rfl dJx4a65c_fastRemove_b59b0_10 rfl ?_
  refine j_get (pc := 11) C hin_Jx4a65c h rfl 2 (by decide) (by decide +kernel) rfl dJx4a65c_fastRemove_b59b0_11 ?_
  refine j_iconst (pc := 14) (v := 1) C dJx4a65c_fastRemove_b59b0_14 (by decide) ?_
  refine j_isub (pc := 15) C dJx4a65c_fastRemove_b59b0_15 ?_
  refine j_st (by rw [show (1 : Int32) = nI 1 from rfl, pk_sub (by omega)]) ?_
  refine j_dup (pc := 16) C dJx4a65c_fastRemove_b59b0_16 rfl ?_
  refine j_istore_3 (pc := 17) C dJx4a65c_fastRemove_b59b0_17 (by decide) rfl ?_
  refine j_iload_n (pc := 18) C rfl dJx4a65c_fastRemove_b59b0_18 rfl ?_
  refine j_icmp_le (pc := 19) (tgt := 34) C dJx4a65c_fastRemove_b59b0_19 (by decide) (fun c19 => ?_) (fun c19 => ?_)
  · have c19 := (nI_leI (by omega) (by omega)).mp c19
    refine j_aload_n (pc := 34) C rfl dJx4a65c_fastRemove_b59b0_34 rfl ?_
    refine j_aload_n (pc := 35) C rfl dJx4a65c_fastRemove_b59b0_35 rfl ?_
    refine j_iload_n (pc := 36) C rfl dJx4a65c_fastRemove_b59b0_36 rfl ?_
    refine j_dup_x1 (pc := 37) C dJx4a65c_fastRemove_b59b0_37 rfl rfl ?_
    refine j_put (pc := 38) (fs2 := [.int (mc + 1), .ref ed, .int (nI (n - 1))]) C hin_Jx4a65c h rfl 2 (by decide) tyJx4a65c tyJx4a65c_ok nmJx4a65c (by decide +kernel) rfl (tyJx4a65c_ok 2 (by decide)) rfl rfl (Nat.le_of_ble_eq_true rfl) rfl dJx4a65c_fastRemove_b59b0_38 ?_
    refine j_nm (fun w38 ew38 => ?_)
    have h : Hs L w38 q a (.inr (0, [.int (mc + 1), .ref ed, .int (nI (n - 1))])) := by rw [ew38]; exact h.me
    have he := hs_up1 he ew38 (by omega)
    refine j_null (pc := 41) C dJx4a65c_fastRemove_b59b0_41 ?_
    refine j_astON (pc := 42) C he rfl (show n - 1 < 10 by omega) (by decide) dJx4a65c_fastRemove_b59b0_42 ?_
    refine j_nm (fun w42 ew42 => ?_)
    have h := hs_up1 h ew42 (by omega)
    have he : Hs L w42 (q + 100) ed (arrE G 10 (va_up row (n - 1) none)) := by rw [ew42]; exact he.me
    exact ret_v C rfl hr hlk dJx4a65c_fastRemove_b59b0_43 ⟨mc + 1, _, h, he, fun k hk => by unfold shf; rw [va_up_ne _ _ (by omega)]; first | (rw [if_pos (by omega)]; done) | (by_cases z : k < i; (rw [if_pos z, pk_cpy_out (Or.inl z)]); (rw [if_neg z, pk_cpy_in (by omega) (by omega)]; congr 1; omega)), ((Fr.up ew7).mono (fun m h => Or.inl h) (fun m h => h)).tr ((((Fr.up ew38).mono (fun m h => Or.inl h) (fun m h => h)).tr ((Fr.up ew42).mono (fun m h => Or.inr h) (fun m h => h)))), rfl⟩ (by decide) (by decide)
  · have c19 := fun z9 => c19 ((nI_leI (by omega) (by omega)).mpr z9)
    refine j_aload_n (pc := 22) C rfl dJx4a65c_fastRemove_b59b0_22 rfl ?_
    refine j_iload_n (pc := 23) C rfl dJx4a65c_fastRemove_b59b0_23 rfl ?_
    refine j_iconst (pc := 24) (v := 1) C dJx4a65c_fastRemove_b59b0_24 (by decide) ?_
    refine j_iadd (pc := 25) C dJx4a65c_fastRemove_b59b0_25 ?_
    refine j_st (by rw [nI_1]) ?_
    refine j_aload_n (pc := 26) C rfl dJx4a65c_fastRemove_b59b0_26 rfl ?_
    refine j_iload_n (pc := 27) C rfl dJx4a65c_fastRemove_b59b0_27 rfl ?_
    refine j_iload_n (pc := 28) C rfl dJx4a65c_fastRemove_b59b0_28 rfl ?_
    refine j_iload_n (pc := 29) C rfl dJx4a65c_fastRemove_b59b0_29 rfl ?_
    refine j_isub (pc := 30) C dJx4a65c_fastRemove_b59b0_30 ?_
    refine j_st (by rw [pk_sub (by omega)]) ?_
    refine j_copy (pc := 31) C he (by decide +kernel) (by decide +kernel) (by decide +kernel) (by decide +kernel) rfl rfl rfl (by decide) (show i + 1 + (n - 1 - i) ≤ 10 by omega) (show i + (n - 1 - i) ≤ 10 by omega) (fun x hx y hy => hel1 _ (by omega) y hy) (by decide) (by decide) (Nat.le_of_ble_eq_true rfl) dJx4a65c_fastRemove_b59b0_31 ?_
    refine j_nm (fun w31 ew31 => ?_)
    have h := hs_up1 h ew31 (by omega)
    have he : Hs L w31 (q + 100) ed (arrE G 10 (va_cpy row row (i + 1) i (n - 1 - i))) := by rw [ew31]; exact he.me
    refine j_aload_n (pc := 34) C rfl dJx4a65c_fastRemove_b59b0_34 rfl ?_
    refine j_aload_n (pc := 35) C rfl dJx4a65c_fastRemove_b59b0_35 rfl ?_
    refine j_iload_n (pc := 36) C rfl dJx4a65c_fastRemove_b59b0_36 rfl ?_
    refine j_dup_x1 (pc := 37) C dJx4a65c_fastRemove_b59b0_37 rfl rfl ?_
    refine j_put (pc := 38) (fs2 := [.int (mc + 1), .ref ed, .int (nI (n - 1))]) C hin_Jx4a65c h rfl 2 (by decide) tyJx4a65c tyJx4a65c_ok nmJx4a65c (by decide +kernel) rfl (tyJx4a65c_ok 2 (by decide)) rfl rfl (Nat.le_of_ble_eq_true rfl) rfl dJx4a65c_fastRemove_b59b0_38 ?_
    refine j_nm (fun w38 ew38 => ?_)
    have h : Hs L w38 q a (.inr (0, [.int (mc + 1), .ref ed, .int (nI (n - 1))])) := by rw [ew38]; exact h.me
    have he := hs_up1 he ew38 (by omega)
    refine j_null (pc := 41) C dJx4a65c_fastRemove_b59b0_41 ?_
    refine j_astON (pc := 42) C he rfl (show n - 1 < 10 by omega) (by decide) dJx4a65c_fastRemove_b59b0_42 ?_
    refine j_nm (fun w42 ew42 => ?_)
    have h := hs_up1 h ew42 (by omega)
    have he : Hs L w42 (q + 100) ed (arrE G 10 (va_up (va_cpy row row (i + 1) i (n - 1 - i)) (n - 1) none)) := by rw [ew42]; exact he.me
    exact ret_v C rfl hr hlk dJx4a65c_fastRemove_b59b0_43 ⟨mc + 1, _, h, he, fun k hk => by unfold shf; rw [va_up_ne _ _ (by omega)]; first | (rw [if_pos (by omega)]; done) | (by_cases z : k < i; (rw [if_pos z, pk_cpy_out (Or.inl z)]); (rw [if_neg z, pk_cpy_in (by omega) (by omega)]; congr 1; omega)), ((Fr.up ew7).mono (fun m h => Or.inl h) (fun m h => h)).tr ((((Fr.up ew31).mono (fun m h => Or.inr h) (fun m h => h))).tr (((Fr.up ew38).mono (fun m h => Or.inl h) (fun m h => h)).tr ((Fr.up ew42).mono (fun m h => Or.inr h) (fun m h => h)))), rfl⟩ (by decide) (by decide)

set_option maxRecDepth 100000 in
set_option maxHeartbeats 4000000 in
theorem ct_remove {l : Launch} {G : Gp} {L : List Nat} {w : Wn} {q a ed : Nat} {mc : Int32} {n : Nat} (h : Hs L w q a (listE mc ed (nI n))) {row : Nat → Option Nat} (he : Hs L w (q + 100) ed (arrE G 10 row)) (hn : n ≤ 10) {i : Nat} (hi : i < n) (hqs : q < 100) (hel : ∀ x : Nat, x < n → ∀ y : Nat, row x = some y → ∃ qy r, 1000 ≤ qy ∧ Hs L w qy y (ruleE r)) {b : Nat} (hb : row i = some b) : CQ l yJx4a65c_remove_915e3 wsJx4a65c_remove_915e3 (rmD 3 0 0) G L w [.ref a, .int (nI i)] (fun r u => r = some b ∧ (∃ mc2 row2, Hs u.1 u.2 q a (listE mc2 ed (nI (n - 1))) ∧ Hs u.1 u.2 (q + 100) ed (arrE G 10 row2) ∧ (∀ k, k < n - 1 → row2 k = shf row i k) ∧ Fr (fun m => m = q ∨ m = q + 100) (fun _ => False) L w u.1 u.2 ∧ u.1 = L)) := by
  refine mk_q (cc := cJx4a65c_remove_915e3) (maxL := 4) [some (.ref a), some (.int (nI i)), none, none] (by decide) rfl (Nat.le_of_ble_eq_true rfl) rfl ?_
  intro p e s m args below meth c A C hr hlk hnm
  have hin_Jx4a65c : ∀ x ∈ u_ws RJx4a65c TJx4a65c 3, x ∈ wsJx4a65c_remove_915e3 := by decide +kernel
  refine j_iload_n (pc := 0) C rfl dJx4a65c_remove_915e3_0 rfl ?_
  refine j_aload_n (pc := 1) C rfl dJx4a65c_remove_915e3_1 rfl ?_
  refine j_get (pc := 2) C hin_Jx4a65c h rfl 2 (by decide) (by decide +kernel) rfl dJx4a65c_remove_915e3_2 ?_
  refine jS_i0 (pc := 5) (k2 := 0) (n2 := 0) (np := 2) (As := [.int (nI i), .int (nI n)]) C (ct_check hi (by omega)) gJx4a65c_remove_915e3_J15_checkIndex_7cf53 rfl (by decide +kernel) ⟨by decide, by decide⟩ rfl rfl (Nat.le_of_ble_eq_true rfl) dJx4a65c_remove_915e3_5 (by decide) (by decide) ⟨by decide, by decide⟩ (fun v5 hv5 => ?_)
  refine j_pop (pc := 8) C dJx4a65c_remove_915e3_8 rfl ?_
  refine j_aload_n (pc := 9) C rfl dJx4a65c_remove_915e3_9 rfl ?_
  refine j_get (pc := 10) C hin_Jx4a65c h rfl 1 (by decide) (by decide +kernel) rfl dJx4a65c_remove_915e3_10 ?_
  refine j_astore_2 (pc := 13) C dJx4a65c_remove_915e3_13 (by decide) rfl ?_
  refine j_aload_n (pc := 14) C rfl dJx4a65c_remove_915e3_14 rfl ?_
  refine j_iload_n (pc := 15) C rfl dJx4a65c_remove_915e3_15 rfl ?_
  refine j_aldO (pc := 16) (v := .ref b) C he rfl (show i < 10 by omega) (by decide) (by rw [hb]; rfl) dJx4a65c_remove_915e3_16 ?_
  refine j_astore_3 (pc := 17) C dJx4a65c_remove_915e3_17 (by decide) rfl ?_
  refine j_aload_n (pc := 18) C rfl dJx4a65c_remove_915e3_18 rfl ?_
  refine j_aload_n (pc := 19) C rfl dJx4a65c_remove_915e3_19 rfl ?_
  refine j_iload_n (pc := 20) C rfl dJx4a65c_remove_915e3_20 rfl ?_
  refine jV_v (pc := 21) (k2 := 0) (n2 := 0) (np := 2) (As := [.ref ed, .int (nI i)]) C (ct_fastRemove h he hn hi hqs hel) gJx4a65c_remove_915e3_Jx4a65c_fastRemove_b59b0 rfl (by decide +kernel) ⟨by decide, by decide⟩ h rfl rfl rfl (Nat.le_of_ble_eq_true rfl) dJx4a65c_remove_915e3_21 (by decide) (by decide) ⟨by decide, by decide⟩ (fun L2 w2 hu => ?_)
  refine j_aload_n (pc := 24) C rfl dJx4a65c_remove_915e3_24 rfl ?_
  exact ret_a (r := some b) C rfl rfl hr (Or.inl ⟨_, rfl⟩) hlk dJx4a65c_remove_915e3_25 ⟨rfl, hu⟩ (by decide) (by decide)

