/-! THE FILTER: what is reached, and the reads over a list -/
set_option maxRecDepth 100000 in
set_option maxHeartbeats 4000000 in
theorem gather_loop {p : Program} {e : Env} {s : State} {m : MethodId} {args : Array Value} {below : List Frame} {meth : Method} {c : Code} {A : Nat → Prop} {post : Sw → Prop} {l : Launch} {G : Gp} {qF aF rl rc : Nat} {df tc : Int32} {ft : Option Nat} {qr qc : Nat} {el : EL} (hqF : qF < 100) (hqr : qr < 100) (hqc : qc < 100) (hne1 : qF ≠ qc) (hne2 : qr ≠ qc) (C : Cx p s m args c cX0_gatherReached yX0_gatherReached.cls 2 wsX0_gatherReached G A s.heap) (hr : meth.sig.returnType = none) (hlk : meth.locks = false) : ∀ (f i : Nat) (L : List Nat) (w : Wn), el.length - i = f → i ≤ el.length → Hs L w qF aF (filE rl rc df ft tc) → Lst G L w qr rl el → Lst G L w qc rc (rchN el i) → (∀ (L2 : List Nat) (w2 : Wn), Hs L2 w2 qF aF (filE rl rc df ft tc) → Lst G L2 w2 qr rl el → Lst G L2 w2 qc rc (rch el) → FrL qc L w L2 w2 → post (L2, w2)) → J p l e (rmD 6 10 100) s m args below meth c G A s.heap 2 (MQ below (va_Qv post (PB G A) A) args s (rmD 6 10 100).cells (rmD 6 10 100).slots A) L w i (10 * i) 9 [some (.ref aF), some (.int (nI i))] [] := by
  have hin_X0 : ∀ x ∈ u_ws RX0 TX0 5, x ∈ wsX0_gatherReached := by decide +kernel
  intro f
  induction f using Nat.strongRecOn with
  | _ f ih =>
    intro i L w hf hi0 hF hR hC hend
    obtain ⟨mcR, edR, hl, hl2⟩ := id hR
    obtain ⟨mcC, edC, hc, hc2⟩ := id hC
    have hn10 := hR.le
    refine j_iload_n (pc := 9) C rfl dX0_gatherReached_9 rfl ?_
    refine j_aload_n (pc := 10) C rfl dX0_gatherReached_10 rfl ?_
    refine j_get (pc := 11) C hin_X0 hF rfl 0 (by decide) (by decide +kernel) rfl dX0_gatherReached_11 ?_
    refine jV_i0 (pc := 14) (k2 := i) (n2 := (10 * i)) (np := 0) (As := []) C (ct_lsize (el := el) hl) gX0_gatherReached_Jx4a65c_size_8abf5 rfl (by decide +kernel) ⟨by decide, by decide⟩ hl rfl rfl rfl (Nat.le_of_ble_eq_true rfl) dX0_gatherReached_14 (Nat.le_refl _) (Nat.le_refl _) ⟨by show i ≤ 10; omega, by show 10 * i ≤ 100; omega⟩ (fun v hv => ?_)
    subst hv
    refine j_icmp_ge (pc := 17) (tgt := 54) C dX0_gatherReached_17 (by decide) (fun c17 => ?_) (fun c17 => ?_)
    · have c17 := nI_le_of (by omega) (by omega) c17
      exact ret_v C rfl hr hlk dX0_gatherReached_54 (hend L w hF hR (by unfold rch; rw [show el.length = i by omega]; exact hC) Fr.rf) (by show i ≤ 10; omega) (by show 10 * i ≤ 100; omega)
    · have c17 := nI_gt_of (by omega) (by omega) c17
      have hi : i < el.length := c17
      obtain ⟨qe, hqe, hE⟩ := hR.ru hi
      refine j_aload_n (pc := 20) C rfl dX0_gatherReached_20 rfl ?_
      refine j_iload_n (pc := 21) C rfl dX0_gatherReached_21 rfl ?_
      refine jV_i0 (pc := 22) (k2 := i) (n2 := (10 * i)) (np := 1) (As := [.int (nI i)]) C (ct_hiderOf hF hR hi) gX0_gatherReached_X0_hiderOf rfl (by decide +kernel) ⟨by decide, by decide⟩ hF rfl rfl rfl (Nat.le_of_ble_eq_true rfl) dX0_gatherReached_22 (Nat.le_refl _) (Nat.le_refl _) ⟨by show i ≤ 10; omega, by show 10 * i ≤ 100; omega⟩ (fun v hv => ?_)
      subst hv
      refine j_iconst (pc := 25) (v := (-1)) C dX0_gatherReached_25 (by decide) ?_
      refine j_icmp_ne (pc := 26) (tgt := 48) C dX0_gatherReached_26 (by decide) (fun c26 => ?_) (fun c26 => ?_)
      · have c26 : hid (rul el) i ≠ none := fun z => c26 (by rw [z]; rfl)
        refine j_iinc_1 (pc := 48) (d := 1) C dX0_gatherReached_48 (by decide) rfl rfl ?_
        refine j_lo (by rw [nI_1]) ?_
        refine j_goto (pc := 51) (tgt := 9) C dX0_gatherReached_51 (by decide) ?_
        exact j_widen (Nat.le_succ i) (by omega) (ih (el.length - (i + 1)) (by omega) (i + 1) L w rfl (by omega) hF hR (by show Lst _ _ _ _ _ (if _ then _ else _); rw [if_neg c26]; exact hC) hend)
      · have c26 := onI_m1 (fun j hj => by have := hid_lt hj; omega) c26
        have hlt : (rchN el i).length < 10 := by have := rchN_le el i; omega
        refine j_aload_n (pc := 29) C rfl dX0_gatherReached_29 rfl ?_
        refine j_get (pc := 30) C hin_X0 hF rfl 1 (by decide) (by decide +kernel) rfl dX0_gatherReached_30 ?_
        refine j_aload_n (pc := 33) C rfl dX0_gatherReached_33 rfl ?_
        refine j_get (pc := 34) C hin_X0 hF rfl 0 (by decide) (by decide +kernel) rfl dX0_gatherReached_34 ?_
        refine j_iload_n (pc := 37) C rfl dX0_gatherReached_37 rfl ?_
        refine jV_q0 (pc := 38) (k2 := i) (n2 := (10 * i)) (np := 1) (As := [.int (nI i)]) C (ct_lget hR hi) gX0_gatherReached_Jx4a65c_get_915e3 rfl (by decide +kernel) ⟨by decide, by decide⟩ hl rfl rfl rfl (Nat.le_of_ble_eq_true rfl) dX0_gatherReached_38 (Nat.le_refl _) (Nat.le_refl _) ⟨by show i ≤ 10; omega, by show 10 * i ≤ 100; omega⟩ (fun v hv => ?_)
        subst hv
        refine j_castS (pc := 41) C hE rfl (by decide +kernel) dX0_gatherReached_41 ?_
        refine jV_i (pc := 44) (k2 := (i + 1)) (n2 := (10 * (i + 1))) (np := 1) (As := [.ref (el[i]).1]) C (ct_ladd hC hlt (hR.ru hi) hqc) gX0_gatherReached_Jx4a65c_add_9ea2d rfl (by decide +kernel) ⟨by decide, by decide⟩ hc rfl rfl rfl (Nat.le_of_ble_eq_true rfl) dX0_gatherReached_44 (Nat.le_refl _) (by show 10 * i + 10 ≤ _; omega) ⟨by show i + 1 ≤ 10; omega, by show 10 * (i + 1) ≤ 100; omega⟩ (fun v2 L2 w2 hu => ?_)
        obtain ⟨-, hC2, hfr⟩ := hu
        have hF2 := hfr.hs hF (by omega)
        have hR2 := hR.fr hfr (by omega) (by omega) (by omega) (fun m h _ z => by omega)
        refine j_pop (pc := 47) C dX0_gatherReached_47 rfl ?_
        refine j_iinc_1 (pc := 48) (d := 1) C dX0_gatherReached_48 (by decide) rfl rfl ?_
        refine j_lo (by rw [nI_1]) ?_
        refine j_goto (pc := 51) (tgt := 9) C dX0_gatherReached_51 (by decide) ?_
        exact ih (el.length - (i + 1)) (by omega) (i + 1) L2 w2 rfl (by omega) hF2 hR2 (by show Lst _ _ _ _ _ (if _ then _ else _); rw [if_pos c26, show el.getD i e0 = el[i] by simp [List.getD, hi]]; exact hC2) (fun L3 w3 g1 g2 g3 g4 => hend L3 w3 g1 g2 g3 (hfr.tr g4))

set_option maxRecDepth 100000 in
set_option maxHeartbeats 4000000 in
theorem ct_gather {l : Launch} {G : Gp} {L : List Nat} {w : Wn} {qF aF rl rc : Nat} {df tc : Int32} {ft : Option Nat} (hF : Hs L w qF aF (filE rl rc df ft tc)) {qr : Nat} {el : EL} (hR : Lst G L w qr rl el) {qc : Nat} {cl : EL} (hC : Lst G L w qc rc cl) (hqF : qF < 100) (hqr : qr < 100) (hqc : qc < 100) (hne1 : qF ≠ qc) (hne2 : qr ≠ qc) : CV l yX0_gatherReached wsX0_gatherReached (rmD 6 10 100) G L w [.ref aF] (fun u => Hs u.1 u.2 qF aF (filE rl rc df ft tc) ∧ Lst G u.1 u.2 qr rl el ∧ Lst G u.1 u.2 qc rc (rch el) ∧ FrL qc L w u.1 u.2) := by
  refine mk_v (cc := cX0_gatherReached) (maxL := 2) [some (.ref aF), none] (by decide) rfl (Nat.le_of_ble_eq_true rfl) rfl ?_
  intro p e s m args below meth c A C hr hlk hnm
  have hin_X0 : ∀ x ∈ u_ws RX0 TX0 5, x ∈ wsX0_gatherReached := by decide +kernel
  obtain ⟨mcC, edC, hc, hc2⟩ := id hC
  refine j_aload_n (pc := 0) C rfl dX0_gatherReached_0 rfl ?_
  refine j_get (pc := 1) C hin_X0 hF rfl 1 (by decide) (by decide +kernel) rfl dX0_gatherReached_1 ?_
  refine jV_v (pc := 4) (k2 := 0) (n2 := 0) (np := 0) (As := []) C (ct_lclear hC hqc) gX0_gatherReached_Jx4a65c_clear_da8c8 rfl (by decide +kernel) ⟨by decide, by decide⟩ hc rfl rfl rfl (Nat.le_of_ble_eq_true rfl) dX0_gatherReached_4 (by decide) (by decide) ⟨by decide, by decide⟩ (fun L2 w2 hu => ?_)
  obtain ⟨hC2, hfr⟩ := hu
  have hF2 := hfr.hs hF (by omega)
  have hR2 := hR.fr hfr (by omega) (by omega) (by omega) (fun m h _ z => by omega)
  refine j_iconst (pc := 7) (v := 0) C dX0_gatherReached_7 (by decide) ?_
  refine j_istore_1 (pc := 8) C dX0_gatherReached_8 (by decide) rfl ?_
  exact gather_loop hqF hqr hqc hne1 hne2 C hr hlk (el.length - 0) 0 L2 w2 rfl (Nat.zero_le _) hF2 hR2 hC2 (fun L3 w3 g1 g2 g3 g4 => ⟨g1, g2, g3, hfr.tr g4⟩)

set_option maxRecDepth 100000 in
set_option maxHeartbeats 4000000 in
theorem isr_loop {p : Program} {e : Env} {s : State} {m : MethodId} {args : Array Value} {below : List Frame} {meth : Method} {c : Code} {A : Nat → Prop} {post : Int32 → Sw → Prop} {l : Launch} {G : Gp} {L : List Nat} {w : Wn} {qF aF rl rc : Nat} {df tc : Int32} {ft : Option Nat} (hF : Hs L w qF aF (filE rl rc df ft tc)) {qc : Nat} {cl : EL} (hC : Lst G L w qc rc cl) {x : Int32} (hend : ∀ r, r = bI (hasN x cl) → post r (L, w)) (C : Cx p s m args c cX0_isReached yX0_isReached.cls 3 wsX0_isReached G A s.heap) (hr : meth.sig.returnType = (some .boolean)) (hlk : meth.locks = false) : ∀ (f i : Nat), cl.length - i = f → i ≤ cl.length → hasN x (cl.drop i) = hasN x cl → J p l e (rmD 4 0 0) s m args below meth c G A s.heap 3 (MQ below (va_Qi post (PB G A) A) args s (rmD 4 0 0).cells (rmD 4 0 0).slots A) L w 0 0 2 [some (.ref aF), some (.int x), some (.int (nI i))] [] := by
  have hin_X0 : ∀ x ∈ u_ws RX0 TX0 5, x ∈ wsX0_isReached := by decide +kernel
  have hin_X3 : ∀ x ∈ u_ws RX3 TX3 5, x ∈ wsX0_isReached := by decide +kernel
  obtain ⟨mcC, edC, hc, hc2⟩ := id hC
  have hc10 := hC.le
  intro f
  induction f using Nat.strongRecOn with
  | _ f ih =>
    intro i hf hi0 h0
    refine j_iload_n (pc := 2) C rfl dX0_isReached_2 rfl ?_
    refine j_aload_n (pc := 3) C rfl dX0_isReached_3 rfl ?_
    refine j_get (pc := 4) C hin_X0 hF rfl 1 (by decide) (by decide +kernel) rfl dX0_isReached_4 ?_
    refine jV_i0 (pc := 7) (k2 := 0) (n2 := 0) (np := 0) (As := []) C (ct_lsize (el := cl) hc) gX0_isReached_Jx4a65c_size_8abf5 rfl (by decide +kernel) ⟨by decide, by decide⟩ hc rfl rfl rfl (Nat.le_of_ble_eq_true rfl) dX0_isReached_7 (by decide) (by decide) ⟨by decide, by decide⟩ (fun v hv => ?_)
    subst hv
    refine j_icmp_ge (pc := 10) (tgt := 39) C dX0_isReached_10 (by decide) (fun c10 => ?_) (fun c10 => ?_)
    · have c10 := nI_le_of (by omega) (by omega) c10
      refine j_iconst (pc := 39) (v := 0) C dX0_isReached_39 (by decide) ?_
      exact ret_z C rfl hr hlk (by decide) dX0_isReached_40 (hend _ (by rw [← h0, List.drop_of_length_le (by omega)]; rfl)) (by decide) (by decide)
    · have c10 := nI_gt_of (by omega) (by omega) c10
      have hi : i < cl.length := c10
      obtain ⟨qe, hqe, hE⟩ := hC.ru hi
      refine j_aload_n (pc := 13) C rfl dX0_isReached_13 rfl ?_
      refine j_get (pc := 14) C hin_X0 hF rfl 1 (by decide) (by decide +kernel) rfl dX0_isReached_14 ?_
      refine j_iload_n (pc := 17) C rfl dX0_isReached_17 rfl ?_
      refine jV_q0 (pc := 18) (k2 := 0) (n2 := 0) (np := 1) (As := [.int (nI i)]) C (ct_lget hC hi) gX0_isReached_Jx4a65c_get_915e3 rfl (by decide +kernel) ⟨by decide, by decide⟩ hc rfl rfl rfl (Nat.le_of_ble_eq_true rfl) dX0_isReached_18 (by decide) (by decide) ⟨by decide, by decide⟩ (fun v hv => ?_)
      subst hv
      refine j_castS (pc := 21) C hE rfl (by decide +kernel) dX0_isReached_21 ?_
      refine j_getN (pc := 24) (host := RX4) C hin_X3 hE rfl 0 (by decide) (by decide +kernel) rfl dX0_isReached_24 ?_
      refine j_iload_n (pc := 27) C rfl dX0_isReached_27 rfl ?_
      refine j_icmp_ne (pc := 28) (tgt := 33) C dX0_isReached_28 (by decide) (fun c28 => ?_) (fun c28 => ?_)
      · refine j_iinc_2 (pc := 33) (d := 1) C dX0_isReached_33 (by decide) rfl rfl ?_
        refine j_lo (by rw [nI_1]) ?_
        refine j_goto (pc := 36) (tgt := 2) C dX0_isReached_36 (by decide) ?_
        exact ih (cl.length - (i + 1)) (by omega) (i + 1) rfl (by omega) (by rw [← h0, drop_at hi]; show _ = hasN x (_ :: _); rw [hasN, if_neg c28])
      · refine j_iconst (pc := 31) (v := 1) C dX0_isReached_31 (by decide) ?_
        exact ret_z C rfl hr hlk (by decide) dX0_isReached_32 (hend _ (by rw [← h0, drop_at hi, hasN, if_pos c28]; rfl)) (by decide) (by decide)

set_option maxRecDepth 100000 in
set_option maxHeartbeats 4000000 in
theorem ct_isReached {l : Launch} {G : Gp} {L : List Nat} {w : Wn} {qF aF rl rc : Nat} {df tc : Int32} {ft : Option Nat} (hF : Hs L w qF aF (filE rl rc df ft tc)) {qc : Nat} {cl : EL} (hC : Lst G L w qc rc cl) (x : Int32) : CI l yX0_isReached wsX0_isReached (rmD 4 0 0) G L w [.ref aF, .int x] (fun r u => r = bI (hasN x cl) ∧ u = (L, w)) := by
  refine mk_i (cc := cX0_isReached) (maxL := 3) [some (.ref aF), some (.int x), none] (by decide) rfl (Nat.le_of_ble_eq_true rfl) rfl ?_
  intro p e s m args below meth c A C hr hlk hnm
  refine j_iconst (pc := 0) (v := 0) C dX0_isReached_0 (by decide) ?_
  refine j_istore_2 (pc := 1) C dX0_isReached_1 (by decide) rfl ?_
  exact isr_loop hF hC (fun r h => ⟨h, rfl⟩) C hr hlk (cl.length - 0) 0 rfl (Nat.zero_le _) rfl

set_option maxRecDepth 100000 in
set_option maxHeartbeats 4000000 in
theorem afm_loop {p : Program} {e : Env} {s : State} {m : MethodId} {args : Array Value} {below : List Frame} {meth : Method} {c : Code} {A : Nat → Prop} {post : Int32 → Sw → Prop} {l : Launch} {G : Gp} {L : List Nat} {w : Wn} {qF aF rl rc : Nat} {df tc : Int32} {ft : Option Nat} (hF : Hs L w qF aF (filE rl rc df ft tc)) {qr lr : Nat} {el : EL} (hR : Lst G L w qr lr el) {x : Int32} {fi se : Int64} (hend : ∀ r, r = fAct x fi se df el → post r (L, w)) (C : Cx p s m args c cX0_actionOfFirstMatch yX0_actionOfFirstMatch.cls 9 wsX0_actionOfFirstMatch G A s.heap) (hr : meth.sig.returnType = (some .int)) (hlk : meth.locks = false) : ∀ (f i : Nat), el.length - i = f → i ≤ el.length → fAct x fi se df (el.drop i) = fAct x fi se df el → J p l e (rmD 4 0 0) s m args below meth c G A s.heap 9 (MQ below (va_Qi post (PB G A) A) args s (rmD 4 0 0).cells (rmD 4 0 0).slots A) L w 0 0 3 [some (.ref aF), some (.ref lr), some (.int x), some (.long fi), none, some (.long se), none, some (.int (nI i)), none] [] := by
  have hin_X0 : ∀ x ∈ u_ws RX0 TX0 5, x ∈ wsX0_actionOfFirstMatch := by decide +kernel
  have hin_X3 : ∀ x ∈ u_ws RX3 TX3 5, x ∈ wsX0_actionOfFirstMatch := by decide +kernel
  obtain ⟨mcR, edR, hl, hl2⟩ := id hR
  have hn10 := hR.le
  intro f
  induction f using Nat.strongRecOn with
  | _ f ih =>
    intro i hf hi0 h0
    refine j_iload (pc := 3) C dX0_actionOfFirstMatch_3 rfl ?_
    refine j_aload_n (pc := 5) C rfl dX0_actionOfFirstMatch_5 rfl ?_
    refine jV_i0 (pc := 6) (k2 := 0) (n2 := 0) (np := 0) (As := []) C (ct_lsize (el := el) hl) gX0_actionOfFirstMatch_Jx4a65c_size_8abf5 rfl (by decide +kernel) ⟨by decide, by decide⟩ hl rfl rfl rfl (Nat.le_of_ble_eq_true rfl) dX0_actionOfFirstMatch_6 (by decide) (by decide) ⟨by decide, by decide⟩ (fun v hv => ?_)
    subst hv
    refine j_icmp_ge (pc := 9) (tgt := 55) C dX0_actionOfFirstMatch_9 (by decide) (fun c9 => ?_) (fun c9 => ?_)
    · have c9 := nI_le_of (by omega) (by omega) c9
      refine j_aload_n (pc := 55) C rfl dX0_actionOfFirstMatch_55 rfl ?_
      refine j_get (pc := 56) C hin_X0 hF rfl 2 (by decide) (by decide +kernel) rfl dX0_actionOfFirstMatch_56 ?_
      exact ret_i C rfl hr hlk dX0_actionOfFirstMatch_59 (hend _ (by rw [← h0, List.drop_of_length_le (by omega)]; rfl)) (by decide) (by decide)
    · have c9 := nI_gt_of (by omega) (by omega) c9
      have hi : i < el.length := c9
      obtain ⟨qe, hqe, hE⟩ := hR.ru hi
      refine j_aload_n (pc := 12) C rfl dX0_actionOfFirstMatch_12 rfl ?_
      refine j_iload (pc := 13) C dX0_actionOfFirstMatch_13 rfl ?_
      refine jV_q0 (pc := 15) (k2 := 0) (n2 := 0) (np := 1) (As := [.int (nI i)]) C (ct_lget hR hi) gX0_actionOfFirstMatch_Jx4a65c_get_915e3 rfl (by decide +kernel) ⟨by decide, by decide⟩ hl rfl rfl rfl (Nat.le_of_ble_eq_true rfl) dX0_actionOfFirstMatch_15 (by decide) (by decide) ⟨by decide, by decide⟩ (fun v hv => ?_)
      subst hv
      refine j_castS (pc := 18) C hE rfl (by decide +kernel) dX0_actionOfFirstMatch_18 ?_
      refine j_astore_8 (pc := 21) C dX0_actionOfFirstMatch_21 (by decide) rfl ?_
      refine j_aload (pc := 23) C dX0_actionOfFirstMatch_23 rfl ?_
      refine j_getN (pc := 25) (host := RX4) C hin_X3 hE rfl 0 (by decide) (by decide +kernel) rfl dX0_actionOfFirstMatch_25 ?_
      refine j_iload_n (pc := 28) C rfl dX0_actionOfFirstMatch_28 rfl ?_
      refine j_icmp_ne (pc := 29) (tgt := 49) C dX0_actionOfFirstMatch_29 (by decide) (fun c29 => ?_) (fun c29 => ?_)
      · refine j_iinc_7 (pc := 49) (d := 1) C dX0_actionOfFirstMatch_49 (by decide) rfl rfl ?_
        refine j_lo (by rw [nI_1]) ?_
        refine j_goto (pc := 52) (tgt := 3) C dX0_actionOfFirstMatch_52 (by decide) ?_
        exact j_weak (by simp [lw1]) (ih (el.length - (i + 1)) (by omega) (i + 1) rfl (by omega) (by rw [← h0, drop_at hi]; show _ = fAct x fi se df (_ :: _); rw [fAct]; first | (rw [if_neg c29]; done) | (rw [if_pos c29, if_neg (by rw [c40]; decide)])))
      · refine j_aload (pc := 32) C dX0_actionOfFirstMatch_32 rfl ?_
        refine j_lload_n (pc := 34) C rfl dX0_actionOfFirstMatch_34 rfl ?_
        refine j_lload (pc := 35) C dX0_actionOfFirstMatch_35 rfl ?_
        refine jV_i0 (pc := 37) (k2 := 0) (n2 := 0) (np := 2) (As := [.long fi, .long se]) C (ct_X3_matches hE fi se) gX0_actionOfFirstMatch_X3_matches rfl (by decide +kernel) ⟨by decide, by decide⟩ hE rfl rfl rfl (Nat.le_of_ble_eq_true rfl) dX0_actionOfFirstMatch_37 (by decide) (by decide) ⟨by decide, by decide⟩ (fun vm hvm => ?_)
        subst hvm
        refine j_if_eq (pc := 40) (tgt := 49) C dX0_actionOfFirstMatch_40 (by decide) (fun c40 => ?_) (fun c40 => ?_)
        · have c40 := bI_0 c40
          refine j_iinc_7 (pc := 49) (d := 1) C dX0_actionOfFirstMatch_49 (by decide) rfl rfl ?_
          refine j_lo (by rw [nI_1]) ?_
          refine j_goto (pc := 52) (tgt := 3) C dX0_actionOfFirstMatch_52 (by decide) ?_
          exact j_weak (by simp [lw1]) (ih (el.length - (i + 1)) (by omega) (i + 1) rfl (by omega) (by rw [← h0, drop_at hi]; show _ = fAct x fi se df (_ :: _); rw [fAct]; first | (rw [if_neg c29]; done) | (rw [if_pos c29, if_neg (by rw [c40]; decide)])))
        · have c40 := bI_1 c40
          refine j_aload (pc := 43) C dX0_actionOfFirstMatch_43 rfl ?_
          refine j_getN (pc := 45) (host := RX4) C hin_X3 hE rfl 4 (by decide) (by decide +kernel) rfl dX0_actionOfFirstMatch_45 ?_
          exact ret_i C rfl hr hlk dX0_actionOfFirstMatch_48 (hend _ (by rw [← h0, drop_at hi, fAct, if_pos c29, if_pos c40])) (by decide) (by decide)

set_option maxRecDepth 100000 in
set_option maxHeartbeats 4000000 in
theorem ct_afm {l : Launch} {G : Gp} {L : List Nat} {w : Wn} {qF aF rl rc : Nat} {df tc : Int32} {ft : Option Nat} (hF : Hs L w qF aF (filE rl rc df ft tc)) {qr lr : Nat} {el : EL} (hR : Lst G L w qr lr el) (x : Int32) (fi se : Int64) : CI l yX0_actionOfFirstMatch wsX0_actionOfFirstMatch (rmD 4 0 0) G L w [.ref aF, .ref lr, .int x, .long fi, .long se] (fun r u => r = fAct x fi se df el ∧ u = (L, w)) := by
  refine mk_i (cc := cX0_actionOfFirstMatch) (maxL := 9) [some (.ref aF), some (.ref lr), some (.int x), some (.long fi), none, some (.long se), none, none, none] (by decide) rfl (Nat.le_of_ble_eq_true rfl) rfl ?_
  intro p e s m args below meth c A C hr hlk hnm
  refine j_iconst (pc := 0) (v := 0) C dX0_actionOfFirstMatch_0 (by decide) ?_
  refine j_istore_7 (pc := 1) C dX0_actionOfFirstMatch_1 (by decide) rfl ?_
  exact afm_loop hF hR (fun r h => ⟨h, rfl⟩) C hr hlk (el.length - 0) 0 rfl (Nat.zero_le _) rfl

set_option maxRecDepth 100000 in
set_option maxHeartbeats 4000000 in
theorem ct_actionByRules {l : Launch} {G : Gp} {L : List Nat} {w : Wn} {qF aF rl rc : Nat} {df tc : Int32} {ft : Option Nat} (hF : Hs L w qF aF (filE rl rc df ft tc)) {qr : Nat} {el : EL} (hR : Lst G L w qr rl el) (x : Int32) (fi se : Int64) : CI l yX0_actionByRules wsX0_actionByRules (rmD 5 0 0) G L w [.ref aF, .int x, .long fi, .long se] (fun r u => r = fAct x fi se df el ∧ u = (L, w)) := by
  refine mk_i (cc := cX0_actionByRules) (maxL := 6) [some (.ref aF), some (.int x), some (.long fi), none, some (.long se), none] (by decide) rfl (Nat.le_of_ble_eq_true rfl) rfl ?_
  intro p e s m args below meth c A C hr hlk hnm
  have hin_X0 : ∀ x ∈ u_ws RX0 TX0 5, x ∈ wsX0_actionByRules := by decide +kernel
  refine j_aload_n (pc := 0) C rfl dX0_actionByRules_0 rfl ?_
  refine j_aload_n (pc := 1) C rfl dX0_actionByRules_1 rfl ?_
  refine j_get (pc := 2) C hin_X0 hF rfl 0 (by decide) (by decide +kernel) rfl dX0_actionByRules_2 ?_
  refine j_iload_n (pc := 5) C rfl dX0_actionByRules_5 rfl ?_
  refine j_lload_n (pc := 6) C rfl dX0_actionByRules_6 rfl ?_
  refine j_lload (pc := 7) C dX0_actionByRules_7 rfl ?_
  refine jV_i0 (pc := 9) (k2 := 0) (n2 := 0) (np := 4) (As := [.ref rl, .int x, .long fi, .long se]) C (ct_afm hF hR x fi se) gX0_actionByRules_X0_actionOfFirstMatch rfl (by decide +kernel) ⟨by decide, by decide⟩ hF rfl rfl rfl (Nat.le_of_ble_eq_true rfl) dX0_actionByRules_9 (by decide) (by decide) ⟨by decide, by decide⟩ (fun v hv => ?_)
  exact ret_i C rfl hr hlk dX0_actionByRules_12 ⟨hv, rfl⟩ (by decide) (by decide)

set_option maxRecDepth 100000 in
set_option maxHeartbeats 4000000 in
theorem mrt_loop {p : Program} {e : Env} {s : State} {m : MethodId} {args : Array Value} {below : List Frame} {meth : Method} {c : Code} {A : Nat → Prop} {post : Int32 → Sw → Prop} {l : Launch} {G : Gp} {L : List Nat} {w : Wn} {qF aF rl rc : Nat} {df tc : Int32} {ft : Option Nat} (hF : Hs L w qF aF (filE rl rc df ft tc)) {qc : Nat} {cl : EL} (hC : Lst G L w qc rc cl) {x : Int32} (hend : ∀ r, r = mRT x cl → post r (L, w)) (C : Cx p s m args c cX0_mostRuleTests yX0_mostRuleTests.cls 4 wsX0_mostRuleTests G A s.heap) (hr : meth.sig.returnType = (some .int)) (hlk : meth.locks = false) : ∀ (f i : Nat) (t : Int32), cl.length - i = f → i ≤ cl.length → t + mRT x (cl.drop i) = mRT x cl → J p l e (rmD 4 0 0) s m args below meth c G A s.heap 4 (MQ below (va_Qi post (PB G A) A) args s (rmD 4 0 0).cells (rmD 4 0 0).slots A) L w 0 0 4 [some (.ref aF), some (.int x), some (.int t), some (.int (nI i))] [] := by
  have hin_X0 : ∀ x ∈ u_ws RX0 TX0 5, x ∈ wsX0_mostRuleTests := by decide +kernel
  have hin_X3 : ∀ x ∈ u_ws RX3 TX3 5, x ∈ wsX0_mostRuleTests := by decide +kernel
  obtain ⟨mcC, edC, hc, hc2⟩ := id hC
  have hc10 := hC.le
  intro f
  induction f using Nat.strongRecOn with
  | _ f ih =>
    intro i t hf hi0 h0
    refine j_iload_n (pc := 4) C rfl dX0_mostRuleTests_4 rfl ?_
    refine j_aload_n (pc := 5) C rfl dX0_mostRuleTests_5 rfl ?_
    refine j_get (pc := 6) C hin_X0 hF rfl 1 (by decide) (by decide +kernel) rfl dX0_mostRuleTests_6 ?_
    refine jV_i0 (pc := 9) (k2 := 0) (n2 := 0) (np := 0) (As := []) C (ct_lsize (el := cl) hc) gX0_mostRuleTests_Jx4a65c_size_8abf5 rfl (by decide +kernel) ⟨by decide, by decide⟩ hc rfl rfl rfl (Nat.le_of_ble_eq_true rfl) dX0_mostRuleTests_9 (by decide) (by decide) ⟨by decide, by decide⟩ (fun v hv => ?_)
    subst hv
    refine j_icmp_ge (pc := 12) (tgt := 56) C dX0_mostRuleTests_12 (by decide) (fun c12 => ?_) (fun c12 => ?_)
    · have c12 := nI_le_of (by omega) (by omega) c12
      refine j_iload_n (pc := 56) C rfl dX0_mostRuleTests_56 rfl ?_
      exact ret_i C rfl hr hlk dX0_mostRuleTests_57 (hend _ (by rw [← h0, List.drop_of_length_le (by omega)]; exact (Int32.add_zero _).symm)) (by decide) (by decide)
    · have c12 := nI_gt_of (by omega) (by omega) c12
      have hi : i < cl.length := c12
      obtain ⟨qe, hqe, hE⟩ := hC.ru hi
      refine j_aload_n (pc := 15) C rfl dX0_mostRuleTests_15 rfl ?_
      refine j_get (pc := 16) C hin_X0 hF rfl 1 (by decide) (by decide +kernel) rfl dX0_mostRuleTests_16 ?_
      refine j_iload_n (pc := 19) C rfl dX0_mostRuleTests_19 rfl ?_
      refine jV_q0 (pc := 20) (k2 := 0) (n2 := 0) (np := 1) (As := [.int (nI i)]) C (ct_lget hC hi) gX0_mostRuleTests_Jx4a65c_get_915e3 rfl (by decide +kernel) ⟨by decide, by decide⟩ hc rfl rfl rfl (Nat.le_of_ble_eq_true rfl) dX0_mostRuleTests_20 (by decide) (by decide) ⟨by decide, by decide⟩ (fun v hv => ?_)
      subst hv
      refine j_castS (pc := 23) C hE rfl (by decide +kernel) dX0_mostRuleTests_23 ?_
      refine j_getN (pc := 26) (host := RX4) C hin_X3 hE rfl 0 (by decide) (by decide +kernel) rfl dX0_mostRuleTests_26 ?_
      refine j_iload_n (pc := 29) C rfl dX0_mostRuleTests_29 rfl ?_
      refine j_icmp_ne (pc := 30) (tgt := 50) C dX0_mostRuleTests_30 (by decide) (fun c30 => ?_) (fun c30 => ?_)
      · refine j_iinc_3 (pc := 50) (d := 1) C dX0_mostRuleTests_50 (by decide) rfl rfl ?_
        refine j_lo (by rw [nI_1]) ?_
        refine j_goto (pc := 53) (tgt := 4) C dX0_mostRuleTests_53 (by decide) ?_
        exact ih (cl.length - (i + 1)) (by omega) (i + 1) _ rfl (by omega) (by rw [← h0, drop_at hi]; show _ = _ + mRT x (_ :: _); rw [mRT]; first | (rw [if_neg c30]; done) | (rw [if_pos c30, Int32.add_assoc]))
      · refine j_iload_n (pc := 33) C rfl dX0_mostRuleTests_33 rfl ?_
        refine j_aload_n (pc := 34) C rfl dX0_mostRuleTests_34 rfl ?_
        refine j_get (pc := 35) C hin_X0 hF rfl 1 (by decide) (by decide +kernel) rfl dX0_mostRuleTests_35 ?_
        refine j_iload_n (pc := 38) C rfl dX0_mostRuleTests_38 rfl ?_
        refine jV_q0 (pc := 39) (k2 := 0) (n2 := 0) (np := 1) (As := [.int (nI i)]) C (ct_lget hC hi) gX0_mostRuleTests_Jx4a65c_get_915e3 rfl (by decide +kernel) ⟨by decide, by decide⟩ hc rfl rfl rfl (Nat.le_of_ble_eq_true rfl) dX0_mostRuleTests_39 (by decide) (by decide) ⟨by decide, by decide⟩ (fun vb hvb => ?_)
        subst hvb
        refine j_castS (pc := 42) C hE rfl (by decide +kernel) dX0_mostRuleTests_42 ?_
        refine jV_i0 (pc := 45) (k2 := 0) (n2 := 0) (np := 0) (As := []) C (ct_X3_mostTests hE) gX0_mostRuleTests_X3_mostTests rfl (by decide +kernel) ⟨by decide, by decide⟩ hE rfl rfl rfl (Nat.le_of_ble_eq_true rfl) dX0_mostRuleTests_45 (by decide) (by decide) ⟨by decide, by decide⟩ (fun vm hvm => ?_)
        subst hvm
        refine j_iadd (pc := 48) C dX0_mostRuleTests_48 ?_
        refine j_istore_2 (pc := 49) C dX0_mostRuleTests_49 (by decide) rfl ?_
        refine j_iinc_3 (pc := 50) (d := 1) C dX0_mostRuleTests_50 (by decide) rfl rfl ?_
        refine j_lo (by rw [nI_1]) ?_
        refine j_goto (pc := 53) (tgt := 4) C dX0_mostRuleTests_53 (by decide) ?_
        exact ih (cl.length - (i + 1)) (by omega) (i + 1) _ rfl (by omega) (by rw [← h0, drop_at hi]; show _ = _ + mRT x (_ :: _); rw [mRT]; first | (rw [if_neg c30]; done) | (rw [if_pos c30, Int32.add_assoc]))

set_option maxRecDepth 100000 in
set_option maxHeartbeats 4000000 in
theorem ct_mostRuleTests {l : Launch} {G : Gp} {L : List Nat} {w : Wn} {qF aF rl rc : Nat} {df tc : Int32} {ft : Option Nat} (hF : Hs L w qF aF (filE rl rc df ft tc)) {qc : Nat} {cl : EL} (hC : Lst G L w qc rc cl) (x : Int32) : CI l yX0_mostRuleTests wsX0_mostRuleTests (rmD 4 0 0) G L w [.ref aF, .int x] (fun r u => r = mRT x cl ∧ u = (L, w)) := by
  refine mk_i (cc := cX0_mostRuleTests) (maxL := 4) [some (.ref aF), some (.int x), none, none] (by decide) rfl (Nat.le_of_ble_eq_true rfl) rfl ?_
  intro p e s m args below meth c A C hr hlk hnm
  refine j_iconst (pc := 0) (v := 0) C dX0_mostRuleTests_0 (by decide) ?_
  refine j_istore_2 (pc := 1) C dX0_mostRuleTests_1 (by decide) rfl ?_
  refine j_iconst (pc := 2) (v := 0) C dX0_mostRuleTests_2 (by decide) ?_
  refine j_istore_3 (pc := 3) C dX0_mostRuleTests_3 (by decide) rfl ?_
  exact mrt_loop hF hC (fun r h => ⟨h, rfl⟩) C hr hlk (cl.length - 0) 0 0 rfl (Nat.zero_le _) (Int32.zero_add _)

