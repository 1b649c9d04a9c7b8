/-! THE FILTER: its list of rules, what is hidden, what is reached -/
abbrev filE (rl rc : Nat) (df : Int32) (ft : Option Nat) (tc : Int32) : va_E := .inr (1, [.ref rl, .ref rc, .int df, va_rf ft, .int tc])
theorem nI_lt_of {a b : Nat} (ha : a < 2147483648) (hb : b < 2147483648) (h : nI a < nI b) : a < b := (nI_ltI ha hb).mp h
theorem nI_ge_of {a b : Nat} (ha : a < 2147483648) (hb : b < 2147483648) (h : ¬ nI a < nI b) : b ≤ a := Nat.not_lt.mp (fun q => h ((nI_ltI ha hb).mpr q))
theorem nI_le_of {a b : Nat} (ha : a < 2147483648) (hb : b < 2147483648) (h : nI a ≤ nI b) : a ≤ b := (nI_leI ha hb).mp h
theorem nI_gt_of {a b : Nat} (ha : a < 2147483648) (hb : b < 2147483648) (h : ¬ nI a ≤ nI b) : b < a := Nat.not_le.mp (fun q => h ((nI_leI ha hb).mpr q))
theorem nI_inj {a b : Nat} (ha : a < 2147483648) (hb : b < 2147483648) (h : nI a = nI b) : a = b := (nI_eq ha hb).mp h
theorem nI_ne {a b : Nat} (ha : a < 2147483648) (hb : b < 2147483648) (h : ¬ nI a = nI b) : a ≠ b := fun q => h (by rw [q])
theorem onI_m1 {o : Option Nat} (h : ∀ j, o = some j → j < 2147483648) (e : onI o = -1) : o = none := by
  cases o with
  | none => rfl
  | some j =>
    have h1 := h j rfl
    have h2 : (nI j).toInt = -1 := by rw [show nI j = -1 from e]; rfl
    rw [nI_toInt h1] at h2
    omega
theorem hid_lt {rs : List RV} {i j : Nat} (h : hid rs i = some j) : j ≤ i := by
  unfold hid at h
  split at h
  · cases h; exact Nat.le_refl _
  · have := (fstF_some _ _ h).1; omega
set_option maxRecDepth 100000 in
set_option maxHeartbeats 4000000 in
theorem ct_isFull {l : Launch} {G : Gp} {L : List Nat} {w : Wn} {qF aF rl rc : Nat} {df tc : Int32} {ft : Option Nat} (hF : Hs L w qF aF (filE rl rc df ft tc)) {qr : Nat} {el : EL} (hR : Lst G L w qr rl el) : CI l yX0_isFull wsX0_isFull (rmD 2 0 0) G L w [.ref aF] (fun r u => r = bI (decide (10 ≤ el.length)) ∧ u = (L, w)) := by
  refine mk_i (cc := cX0_isFull) (maxL := 1) [some (.ref aF)] (by decide) rfl (Nat.le_of_ble_eq_true rfl) rfl ?_
  intro p e s m args below meth c A C hr hlk hnm
  have hin_X0 : ∀ x ∈ u_ws RX0 TX0 5, x ∈ wsX0_isFull := by decide +kernel
  obtain ⟨mcR, edR, hl, hl2⟩ := id hR
  have hn10 := hR.le
  refine j_aload_n (pc := 0) C rfl dX0_isFull_0 rfl ?_
  refine j_get (pc := 1) C hin_X0 hF rfl 0 (by decide) (by decide +kernel) rfl dX0_isFull_1 ?_
  refine jV_i0 (pc := 4) (k2 := 0) (n2 := 0) (np := 0) (As := []) C (ct_lsize (el := el) hl) gX0_isFull_Jx4a65c_size_8abf5 rfl (by decide +kernel) ⟨by decide, by decide⟩ hl rfl rfl rfl (Nat.le_of_ble_eq_true rfl) dX0_isFull_4 (by decide) (by decide) ⟨by decide, by decide⟩ (fun v hv => ?_)
  subst hv
  refine j_bipush (pc := 7) (v := 10) C dX0_isFull_7 (by decide) ?_
  refine j_icmp_lt (pc := 9) (tgt := 16) C dX0_isFull_9 (by decide) (fun c9 => ?_) (fun c9 => ?_)
  · have c9 := nI_lt_of (by omega) (by decide) (show nI el.length < nI 10 from c9)
    refine j_iconst (pc := 16) (v := 0) C dX0_isFull_16 (by decide) ?_
    exact ret_z C rfl hr hlk (by decide) dX0_isFull_17 ⟨by simp [bI]; omega, rfl⟩ (by decide) (by decide)
  · have c9 := nI_ge_of (by omega) (by decide) (show ¬ nI el.length < nI 10 from c9)
    refine j_iconst (pc := 12) (v := 1) C dX0_isFull_12 (by decide) ?_
    refine j_goto (pc := 13) (tgt := 17) C dX0_isFull_13 (by decide) ?_
    exact ret_z C rfl hr hlk (by decide) dX0_isFull_17 ⟨by simp [bI]; omega, rfl⟩ (by decide) (by decide)

theorem nI_sub1 (n : Nat) : nI (n + 1) - 1 = nI n := nI_pred n
set_option maxRecDepth 100000 in
set_option maxHeartbeats 4000000 in
theorem ct_append {l : Launch} {G : Gp} {L : List Nat} {w : Wn} {qF aF rl rc : Nat} {df tc : Int32} {ft : Option Nat} (hF : Hs L w qF aF (filE rl rc df ft tc)) {qr : Nat} {el : EL} (hR : Lst G L w qr rl el) (hn : el.length < 10) {b : Nat} {r : RV} (hb : RulAt L w b r) (hq : qr < 100) (hqF : ¬ (qF = qr ∨ qF = qr + 100)) : CI l yX0_append wsX0_append (rmD 6 1 10) G L w [.ref aF, .ref b] (fun x u => x = nI el.length ∧ Lst G u.1 u.2 qr rl (el ++ [(b, r)]) ∧ FrL qr L w u.1 u.2) := by
  refine mk_i (cc := cX0_append) (maxL := 2) [some (.ref aF), some (.ref b)] (by decide) rfl (Nat.le_of_ble_eq_true rfl) rfl ?_
  intro p e s m args below meth c A C hr hlk hnm
  have hin_X0 : ∀ x ∈ u_ws RX0 TX0 5, x ∈ wsX0_append := by decide +kernel
  obtain ⟨mcR, edR, hl, hl2⟩ := id hR
  refine j_aload_n (pc := 0) C rfl dX0_append_0 rfl ?_
  refine j_get (pc := 1) C hin_X0 hF rfl 0 (by decide) (by decide +kernel) rfl dX0_append_1 ?_
  refine j_aload_n (pc := 4) C rfl dX0_append_4 rfl ?_
  refine jV_i (pc := 5) (k2 := 1) (n2 := 10) (np := 1) (As := [.ref b]) C (ct_ladd hR hn hb hq) gX0_append_Jx4a65c_add_9ea2d rfl (by decide +kernel) ⟨by decide, by decide⟩ hl rfl rfl rfl (Nat.le_of_ble_eq_true rfl) dX0_append_5 (by decide) (by decide) ⟨by decide, by decide⟩ (fun v L2 w2 hu => ?_)
  obtain ⟨-, hR2, hfr⟩ := hu
  obtain ⟨mcS, edS, hlS, -⟩ := id hR2
  have hF := hfr.hs hF hqF
  refine j_pop (pc := 8) C dX0_append_8 rfl ?_
  refine j_aload_n (pc := 9) C rfl dX0_append_9 rfl ?_
  refine j_get (pc := 10) C hin_X0 hF rfl 0 (by decide) (by decide +kernel) rfl dX0_append_10 ?_
  refine jV_i0 (pc := 13) (k2 := 1) (n2 := 10) (np := 0) (As := []) C (ct_lsize hlS) gX0_append_Jx4a65c_size_8abf5 rfl (by decide +kernel) ⟨by decide, by decide⟩ hlS rfl rfl rfl (Nat.le_of_ble_eq_true rfl) dX0_append_13 (by decide) (by decide) ⟨by decide, by decide⟩ (fun v hv => ?_)
  subst hv
  refine j_iconst (pc := 16) (v := 1) C dX0_append_16 (by decide) ?_
  refine j_isub (pc := 17) C dX0_append_17 ?_
  exact ret_i C rfl hr hlk dX0_append_18 ⟨by rw [List.length_append]; exact nI_sub1 el.length, hR2, hfr⟩ (by decide) (by decide)

set_option maxRecDepth 100000 in
set_option maxHeartbeats 4000000 in
theorem ct_drop {l : Launch} {G : Gp} {L : List Nat} {w : Wn} {qF aF rl rc : Nat} {df tc : Int32} {ft : Option Nat} (hF : Hs L w qF aF (filE rl rc df ft tc)) {qr : Nat} {el : EL} (hR : Lst G L w qr rl el) {i : Nat} (hi : i < el.length) (hq : qr < 100) (hqF : ¬ (qF = qr ∨ qF = qr + 100)) : CI l yX0_drop wsX0_drop (rmD 4 0 0) G L w [.ref aF, .int (nI i)] (fun x u => x = nI (el.length - 1) ∧ Lst G u.1 u.2 qr rl (el.eraseIdx i) ∧ FrL qr L w u.1 u.2) := by
  refine mk_i (cc := cX0_drop) (maxL := 2) [some (.ref aF), some (.int (nI i))] (by decide) rfl (Nat.le_of_ble_eq_true rfl) rfl ?_
  intro p e s m args below meth c A C hr hlk hnm
  have hin_X0 : ∀ x ∈ u_ws RX0 TX0 5, x ∈ wsX0_drop := by decide +kernel
  obtain ⟨mcR, edR, hl, hl2⟩ := id hR
  have hn10 := hR.le
  refine j_iload_n (pc := 0) C rfl dX0_drop_0 rfl ?_
  refine j_if_lt (pc := 1) (tgt := 24) C dX0_drop_1 (by decide) (fun c1 => ?_) (fun c1 => ?_)
  · exact absurd c1 (nI_pos (by omega))
  · refine j_iload_n (pc := 4) C rfl dX0_drop_4 rfl ?_
    refine j_aload_n (pc := 5) C rfl dX0_drop_5 rfl ?_
    refine j_get (pc := 6) C hin_X0 hF rfl 0 (by decide) (by decide +kernel) rfl dX0_drop_6 ?_
    refine jV_i0 (pc := 9) (k2 := 0) (n2 := 0) (np := 0) (As := []) C (ct_lsize (el := el) hl) gX0_drop_Jx4a65c_size_8abf5 rfl (by decide +kernel) ⟨by decide, by decide⟩ hl rfl rfl rfl (Nat.le_of_ble_eq_true rfl) dX0_drop_9 (by decide) (by decide) ⟨by decide, by decide⟩ (fun v hv => ?_)
    subst hv
    refine j_icmp_ge (pc := 12) (tgt := 24) C dX0_drop_12 (by decide) (fun c12 => ?_) (fun c12 => ?_)
    · exact absurd c12 (nI_ge hi (by omega))
    · refine j_aload_n (pc := 15) C rfl dX0_drop_15 rfl ?_
      refine j_get (pc := 16) C hin_X0 hF rfl 0 (by decide) (by decide +kernel) rfl dX0_drop_16 ?_
      refine j_iload_n (pc := 19) C rfl dX0_drop_19 rfl ?_
      refine jV_q (pc := 20) (k2 := 0) (n2 := 0) (np := 1) (As := [.int (nI i)]) C (ct_lremove hR hi hq) gX0_drop_Jx4a65c_remove_915e3 rfl (by decide +kernel) ⟨by decide, by decide⟩ hl rfl rfl rfl (Nat.le_of_ble_eq_true rfl) dX0_drop_20 (by decide) (by decide) ⟨by decide, by decide⟩ (fun v L2 w2 hu => ?_)
      obtain ⟨rfl, hR2, hfr⟩ := hu
      obtain ⟨mcS, edS, hlS, -⟩ := id hR2
      have hF := hfr.hs hF hqF
      refine j_pop (pc := 23) C dX0_drop_23 rfl ?_
      refine j_aload_n (pc := 24) C rfl dX0_drop_24 rfl ?_
      refine j_get (pc := 25) C hin_X0 hF rfl 0 (by decide) (by decide +kernel) rfl dX0_drop_25 ?_
      refine jV_i0 (pc := 28) (k2 := 0) (n2 := 0) (np := 0) (As := []) C (ct_lsize hlS) gX0_drop_Jx4a65c_size_8abf5 rfl (by decide +kernel) ⟨by decide, by decide⟩ hlS rfl rfl rfl (Nat.le_of_ble_eq_true rfl) dX0_drop_28 (by decide) (by decide) ⟨by decide, by decide⟩ (fun v2 hv2 => ?_)
      subst hv2
      exact ret_i C rfl hr hlk dX0_drop_31 ⟨by rw [List.length_eraseIdx_of_lt hi], hR2, hfr⟩ (by decide) (by decide)

set_option maxRecDepth 100000 in
set_option maxHeartbeats 4000000 in
theorem hider_loop {post : Int32 → Sw → Prop} {p : Program} {e : Env} {s : State} {m : MethodId} {args : Array Value} {below : List Frame} {meth : Method} {c : Code} {A : Nat → Prop} {l : Launch} {G : Gp} {L : List Nat} {w : Wn} {qF aF rl rc : Nat} {df tc : Int32} {ft : Option Nat} (hF : Hs L w qF aF (filE rl rc df ft tc)) {qr : Nat} {el : EL} (hR : Lst G L w qr rl el) {i : Nat} (hi : i < el.length) {qh : Nat} (hH : Hs L w qh (el[i]).1 (ruleE (el[i]).2)) (hnv : nevB ((rul el).getD i d0) = false) (hend : ∀ x, x = onI (hid (rul el) i) → post x (L, w)) (C : Cx p s m args c cX0_hiderOf yX0_hiderOf.cls 4 wsX0_hiderOf G A s.heap) (hr : meth.sig.returnType = (some .int)) (hlk : meth.locks = false) : ∀ (f j : Nat), i - j = f → j ≤ i → (∀ k, k < j → covB ((rul el).getD k d0) ((rul el).getD i d0) = false) → J p l e (rmD 4 0 0) s m args below meth c G A s.heap 4 (MQ below (va_Qi post (PB G A) A) args s (rmD 4 0 0).cells (rmD 4 0 0).slots A) L w 0 0 40 [some (.ref aF), some (.int (nI i)), some (.ref (el[i]).1), some (.int (nI j))] [] := by
  have hin_X0 : ∀ x ∈ u_ws RX0 TX0 5, x ∈ wsX0_hiderOf := by decide +kernel
  obtain ⟨mcR, edR, hl, hl2⟩ := id hR
  have hn10 := hR.le
  intro f
  induction f using Nat.strongRecOn with
  | _ f ih =>
    intro j hf hj0 h0
    refine j_iload_n (pc := 40) C rfl dX0_hiderOf_40 rfl ?_
    refine j_iload_n (pc := 41) C rfl dX0_hiderOf_41 rfl ?_
    refine j_icmp_ge (pc := 42) (tgt := 71) C dX0_hiderOf_42 (by decide) (fun c42 => ?_) (fun c42 => ?_)
    · have c42 := nI_le_of (by omega) (by omega) c42
      refine j_iconst (pc := 71) (v := (-1)) C dX0_hiderOf_71 (by decide) ?_
      exact ret_i C rfl hr hlk dX0_hiderOf_72 (hend _ (by unfold hid; rw [hnv]; simp only [Bool.false_eq_true, if_false]; rw [(fstF_no _ i).mpr (fun k hk => h0 k (by omega))]; rfl)) (by decide) (by decide)
    · have c42 := nI_gt_of (by omega) (by omega) c42
      have hj : j < i := c42
      obtain ⟨qe, hqe, hE⟩ := hR.ru (Nat.lt_trans hj hi)
      refine j_aload_n (pc := 45) C rfl dX0_hiderOf_45 rfl ?_
      refine j_get (pc := 46) C hin_X0 hF rfl 0 (by decide) (by decide +kernel) rfl dX0_hiderOf_46 ?_
      refine j_iload_n (pc := 49) C rfl dX0_hiderOf_49 rfl ?_
      refine jV_q0 (pc := 50) (k2 := 0) (n2 := 0) (np := 1) (As := [.int (nI j)]) C (ct_lget hR (Nat.lt_trans hj hi)) gX0_hiderOf_Jx4a65c_get_915e3 rfl (by decide +kernel) ⟨by decide, by decide⟩ hl rfl rfl rfl (Nat.le_of_ble_eq_true rfl) dX0_hiderOf_50 (by decide) (by decide) ⟨by decide, by decide⟩ (fun v hv => ?_)
      subst hv
      refine j_castS (pc := 53) C hE rfl (by decide +kernel) dX0_hiderOf_53 ?_
      refine j_aload_n (pc := 56) C rfl dX0_hiderOf_56 rfl ?_
      refine jV_i0 (pc := 57) (k2 := 0) (n2 := 0) (np := 1) (As := [.ref (el[i]).1]) C (ct_X3_covers hE hH) gX0_hiderOf_X3_covers rfl (by decide +kernel) ⟨by decide, by decide⟩ hE rfl rfl rfl (Nat.le_of_ble_eq_true rfl) dX0_hiderOf_57 (by decide) (by decide) ⟨by decide, by decide⟩ (fun vc hvc => ?_)
      subst hvc
      refine j_if_eq (pc := 60) (tgt := 65) C dX0_hiderOf_60 (by decide) (fun c60 => ?_) (fun c60 => ?_)
      · have c60 := bI_0 c60
        refine j_iinc_3 (pc := 65) (d := 1) C dX0_hiderOf_65 (by decide) rfl rfl ?_
        refine j_lo (by rw [nI_1]) ?_
        refine j_goto (pc := 68) (tgt := 40) C dX0_hiderOf_68 (by decide) ?_
        exact ih (i - (j + 1)) (by omega) (j + 1) rfl (by omega) (fun k hk => by by_cases z : k = j; (subst z; rw [rul_get (Nat.lt_trans hj hi), rul_get hi]; exact c60); (exact h0 k (by omega)))
      · have c60 := bI_1 c60
        refine j_iload_n (pc := 63) C rfl dX0_hiderOf_63 rfl ?_
        exact ret_i C rfl hr hlk dX0_hiderOf_64 (hend _ (by unfold hid; rw [hnv]; simp only [Bool.false_eq_true, if_false]; rw [fstF_at _ h0 (show _ = true by rw [rul_get (Nat.lt_trans hj hi), rul_get hi]; exact c60) i hj]; rfl)) (by decide) (by decide)

set_option maxRecDepth 100000 in
set_option maxHeartbeats 4000000 in
theorem ct_hiderOf {l : Launch} {G : Gp} {L : List Nat} {w : Wn} {qF aF rl rc : Nat} {df tc : Int32} {ft : Option Nat} (hF : Hs L w qF aF (filE rl rc df ft tc)) {qr : Nat} {el : EL} (hR : Lst G L w qr rl el) {i : Nat} (hi : i < el.length) : CI l yX0_hiderOf wsX0_hiderOf (rmD 4 0 0) G L w [.ref aF, .int (nI i)] (fun x u => x = onI (hid (rul el) i) ∧ u = (L, w)) := by
  refine mk_i (cc := cX0_hiderOf) (maxL := 4) [some (.ref aF), some (.int (nI i)), none, none] (by decide) rfl (Nat.le_of_ble_eq_true rfl) rfl ?_
  intro p e s m args below meth c A C hr hlk hnm
  have hin_X0 : ∀ x ∈ u_ws RX0 TX0 5, x ∈ wsX0_hiderOf := by decide +kernel
  obtain ⟨mcR, edR, hl, hl2⟩ := id hR
  have hn10 := hR.le
  obtain ⟨qh, hqh, hH⟩ := hR.ru hi
  refine j_iload_n (pc := 0) C rfl dX0_hiderOf_0 rfl ?_
  refine j_if_lt (pc := 1) (tgt := 15) C dX0_hiderOf_1 (by decide) (fun c1 => ?_) (fun c1 => ?_)
  · exact absurd c1 (nI_pos (by omega))
  · refine j_iload_n (pc := 4) C rfl dX0_hiderOf_4 rfl ?_
    refine j_aload_n (pc := 5) C rfl dX0_hiderOf_5 rfl ?_
    refine j_get (pc := 6) C hin_X0 hF rfl 0 (by decide) (by decide +kernel) rfl dX0_hiderOf_6 ?_
    refine jV_i0 (pc := 9) (k2 := 0) (n2 := 0) (np := 0) (As := []) C (ct_lsize (el := el) hl) gX0_hiderOf_Jx4a65c_size_8abf5 rfl (by decide +kernel) ⟨by decide, by decide⟩ hl rfl rfl rfl (Nat.le_of_ble_eq_true rfl) dX0_hiderOf_9 (by decide) (by decide) ⟨by decide, by decide⟩ (fun v hv => ?_)
    subst hv
    refine j_icmp_lt (pc := 12) (tgt := 17) C dX0_hiderOf_12 (by decide) (fun c12 => ?_) (fun c12 => ?_)
    · refine j_aload_n (pc := 17) C rfl dX0_hiderOf_17 rfl ?_
      refine j_get (pc := 18) C hin_X0 hF rfl 0 (by decide) (by decide +kernel) rfl dX0_hiderOf_18 ?_
      refine j_iload_n (pc := 21) C rfl dX0_hiderOf_21 rfl ?_
      refine jV_q0 (pc := 22) (k2 := 0) (n2 := 0) (np := 1) (As := [.int (nI i)]) C (ct_lget hR hi) gX0_hiderOf_Jx4a65c_get_915e3 rfl (by decide +kernel) ⟨by decide, by decide⟩ hl rfl rfl rfl (Nat.le_of_ble_eq_true rfl) dX0_hiderOf_22 (by decide) (by decide) ⟨by decide, by decide⟩ (fun v hv => ?_)
      subst hv
      refine j_castS (pc := 25) C hH rfl (by decide +kernel) dX0_hiderOf_25 ?_
      refine j_astore_2 (pc := 28) C dX0_hiderOf_28 (by decide) rfl ?_
      refine j_aload_n (pc := 29) C rfl dX0_hiderOf_29 rfl ?_
      refine jV_i0 (pc := 30) (k2 := 0) (n2 := 0) (np := 0) (As := []) C (ct_X3_canNeverMatch hH) gX0_hiderOf_X3_canNeverMatch rfl (by decide +kernel) ⟨by decide, by decide⟩ hH rfl rfl rfl (Nat.le_of_ble_eq_true rfl) dX0_hiderOf_30 (by decide) (by decide) ⟨by decide, by decide⟩ (fun vn hvn => ?_)
      subst hvn
      refine j_if_eq (pc := 33) (tgt := 38) C dX0_hiderOf_33 (by decide) (fun c33 => ?_) (fun c33 => ?_)
      · have c33 := bI_0 c33
        refine j_iconst (pc := 38) (v := 0) C dX0_hiderOf_38 (by decide) ?_
        refine j_istore_3 (pc := 39) C dX0_hiderOf_39 (by decide) rfl ?_
        exact hider_loop hF hR hi hH (by rw [rul_get hi]; exact c33) (fun x hx => ⟨hx, rfl⟩) C hr hlk (i - 0) 0 rfl (Nat.zero_le _) (fun k hk => absurd hk (Nat.not_lt_zero k))
      · have c33 := bI_1 c33
        refine j_iload_n (pc := 36) C rfl dX0_hiderOf_36 rfl ?_
        exact ret_i C rfl hr hlk dX0_hiderOf_37 ⟨by unfold hid; rw [rul_get hi, c33]; rfl, rfl⟩ (by decide) (by decide)
    · exact absurd (nI_lt hi (by omega)) c12

