/-! THE PLANNER -/
abbrev plaE (ad : Nat → Nat) (sz : Int32) : va_E := .inr (3, [.ref (ad 4), .ref (ad 5), .ref (ad 6), .ref (ad 18), .int sz])
abbrev iarE (G : Gp) (N : Nat) (f : Nat → Int32) : va_E := .inl (G.2.1 0, N, .inl f)
abbrev iirE (G : Gp) (N : Nat) (row : Nat → Option Nat) : va_E := .inl (G.2.1 4, N, .inr (.inr (.inr (.inr row))))
def rws (ad : Nat → Nat) (b : Nat) : Nat → Option Nat := fun i => if i < 11 then some (ad (b + i)) else none
/-- the planner: its size, numbers, weights, costs, first places -/
def PL (G : Gp) (ad : Nat → Nat) (L : List Nat) (w : Wn) (sz : Nat) (nu we : Nat → Int32) (co fp : Nat → Nat → Int32) : Prop :=
  Hs L w 3 (ad 3) (plaE ad (nI sz)) ∧ Hs L w 4 (ad 4) (iarE G 10 nu) ∧ Hs L w 5 (ad 5) (iarE G 10 we) ∧ Hs L w 6 (ad 6) (iirE G 11 (rws ad 7)) ∧ (∀ i, i < 11 → Hs L w (7 + i) (ad (7 + i)) (iarE G 11 (co i))) ∧ Hs L w 18 (ad 18) (iirE G 11 (rws ad 19)) ∧ (∀ i, i < 11 → Hs L w (19 + i) (ad (19 + i)) (iarE G 11 (fp i))) ∧ sz ≤ 10
abbrev FrP (L : List Nat) (w : Wn) (L2 : List Nat) (w2 : Wn) : Prop := Fr (fun m => 3 ≤ m ∧ m < 30) (fun _ => False) L w L2 w2
theorem PL.fr {M N : Nat → Prop} {G : Gp} {ad : Nat → Nat} {L L2 : List Nat} {w w2 : Wn} {sz : Nat} {nu we : Nat → Int32} {co fp : Nat → Nat → Int32} (h : PL G ad L w sz nu we co fp) (hf : Fr M N L w L2 w2) (hM : ∀ m, 3 ≤ m → m < 30 → ¬ M m) : PL G ad L2 w2 sz nu we co fp := by
  obtain ⟨h1, h2, h3, h4, h5, h6, h7, h8⟩ := h
  exact ⟨hf.hs h1 (hM 3 (by decide) (by decide)), hf.hs h2 (hM 4 (by decide) (by decide)), hf.hs h3 (hM 5 (by decide) (by decide)), hf.hs h4 (hM 6 (by decide) (by decide)), fun i hi => hf.hs (h5 i hi) (hM _ (by omega) (by omega)), hf.hs h6 (hM 18 (by decide) (by decide)), fun i hi => hf.hs (h7 i hi) (hM _ (by omega) (by omega)), h8⟩
def up2 (f : Nat → Nat → Int32) (i j : Nat) (x : Int32) : Nat → Nat → Int32 := fun a b => if a = i ∧ b = j then x else f a b
theorem up2_row {f : Nat → Nat → Int32} {i j : Nat} {x : Int32} : up2 f i j x i = upd (f i) j x := by
  funext b
  by_cases e : b = j
  · subst e; simp [up2, upd]
  · simp [up2, upd, e]
theorem up2_ne {f : Nat → Nat → Int32} {i j a : Nat} {x : Int32} (h : a ≠ i) : up2 f i j x a = f a := by
  funext b
  simp [up2, h]
theorem rws_at {ad : Nat → Nat} {b i : Nat} (h : i < 11) : va_rf (rws ad b i) = .ref (ad (b + i)) := by
  unfold rws
  rw [if_pos h]
  rfl
set_option maxRecDepth 100000 in
set_option maxHeartbeats 4000000 in
theorem ct_startAnew {l : Launch} {G : Gp} {L : List Nat} {w : Wn} {ad : Nat → Nat} {sz : Nat} {nu we : Nat → Int32} {co fp : Nat → Nat → Int32} (hp : PL G ad L w sz nu we co fp) : CV l yX2_startAnew wsX2_startAnew (rmD 1 0 0) G L w [.ref (ad 3)] (fun u => PL G ad u.1 u.2 0 nu we co fp ∧ FrP L w u.1 u.2 ∧ u.1 = L) := by
  refine mk_v (cc := cX2_startAnew) (maxL := 1) [some (.ref (ad 3))] (by decide) rfl (Nat.le_of_ble_eq_true rfl) rfl ?_
  intro p e s m args below meth c A C hr hlk hnm
  have hin_X2 : ∀ x ∈ u_ws RX2 TX2 5, x ∈ wsX2_startAnew := by decide +kernel
  obtain ⟨h1, h2, h3, h4, h5, h6, h7, h8⟩ := id hp
  refine j_aload_n (pc := 0) C rfl dX2_startAnew_0 rfl ?_
  refine j_iconst (pc := 1) (v := 0) C dX2_startAnew_1 (by decide) ?_
  refine j_put (pc := 2) (fs2 := [.ref (ad 4), .ref (ad 5), .ref (ad 6), .ref (ad 18), .int (nI 0)]) C hin_X2 h1 rfl 4 (by decide) tyX2 tyX2_ok nmX2 (by decide +kernel) rfl (tyX2_ok 4 (by decide)) rfl rfl (Nat.le_of_ble_eq_true rfl) rfl dX2_startAnew_2 ?_
  refine j_nm (fun w2 ew2 => ?_)
  have h1 : Hs L w2 3 (ad 3) (.inr (3, [.ref (ad 4), .ref (ad 5), .ref (ad 6), .ref (ad 18), .int (nI 0)])) := by rw [ew2]; exact h1.me
  exact ret_v C rfl hr hlk dX2_startAnew_5 ⟨⟨h1, hs_up1 h2 ew2 (by decide), hs_up1 h3 ew2 (by decide), hs_up1 h4 ew2 (by decide), fun i hi => hs_up1 (h5 i hi) ew2 (by omega), hs_up1 h6 ew2 (by decide), fun i hi => hs_up1 (h7 i hi) ew2 (by omega), Nat.zero_le _⟩, (Fr.up ew2).mono (fun m h => by omega) (fun m h => h), rfl⟩ (by decide) (by decide)

set_option maxRecDepth 100000 in
set_option maxHeartbeats 4000000 in
theorem ct_take {l : Launch} {G : Gp} {L : List Nat} {w : Wn} {ad : Nat → Nat} {sz : Nat} {nu we : Nat → Int32} {co fp : Nat → Nat → Int32} (hp : PL G ad L w sz nu we co fp) (hs : sz < 10) (x y : Int32) : CV l yX2_take wsX2_take (rmD 1 0 0) G L w [.ref (ad 3), .int x, .int y] (fun u => PL G ad u.1 u.2 (sz + 1) (upd nu sz x) (upd we sz y) co fp ∧ FrP L w u.1 u.2 ∧ u.1 = L) := by
  refine mk_v (cc := cX2_take) (maxL := 3) [some (.ref (ad 3)), some (.int x), some (.int y)] (by decide) rfl (Nat.le_of_ble_eq_true rfl) rfl ?_
  intro p e s m args below meth c A C hr hlk hnm
  have hin_X2 : ∀ x ∈ u_ws RX2 TX2 5, x ∈ wsX2_take := by decide +kernel
  obtain ⟨h1, h2, h3, h4, h5, h6, h7, h8⟩ := id hp
  refine j_aload_n (pc := 0) C rfl dX2_take_0 rfl ?_
  refine j_get (pc := 1) C hin_X2 h1 rfl 4 (by decide) (by decide +kernel) rfl dX2_take_1 ?_
  refine j_bipush (pc := 4) (v := 10) C dX2_take_4 (by decide) ?_
  refine j_icmp_ge (pc := 6) (tgt := 39) C dX2_take_6 (by decide) (fun c6 => ?_) (fun c6 => ?_)
  · exact absurd (nI_le_of (by decide) (by omega) (show nI 10 ≤ nI sz from c6)) (by omega)
  · refine j_aload_n (pc := 9) C rfl dX2_take_9 rfl ?_
    refine j_get (pc := 10) C hin_X2 h1 rfl 0 (by decide) (by decide +kernel) rfl dX2_take_10 ?_
    refine j_aload_n (pc := 13) C rfl dX2_take_13 rfl ?_
    refine j_get (pc := 14) C hin_X2 h1 rfl 4 (by decide) (by decide +kernel) rfl dX2_take_14 ?_
    refine j_iload_n (pc := 17) C rfl dX2_take_17 rfl ?_
    refine j_iast (pc := 18) C h2 rfl (show sz < 10 from hs) (by decide) dX2_take_18 ?_
    refine j_nm (fun w18 ew18 => ?_)
    have h1 := hs_up1 h1 ew18 (by omega)
    have h2 : Hs L w18 4 (ad 4) (iarE G 10 (upd nu sz x)) := by rw [ew18]; exact h2.me
    have h3 := hs_up1 h3 ew18 (by omega)
    refine j_aload_n (pc := 19) C rfl dX2_take_19 rfl ?_
    refine j_get (pc := 20) C hin_X2 h1 rfl 1 (by decide) (by decide +kernel) rfl dX2_take_20 ?_
    refine j_aload_n (pc := 23) C rfl dX2_take_23 rfl ?_
    refine j_get (pc := 24) C hin_X2 h1 rfl 4 (by decide) (by decide +kernel) rfl dX2_take_24 ?_
    refine j_iload_n (pc := 27) C rfl dX2_take_27 rfl ?_
    refine j_iast (pc := 28) C h3 rfl (show sz < 10 from hs) (by decide) dX2_take_28 ?_
    refine j_nm (fun w28 ew28 => ?_)
    have h1 := hs_up1 h1 ew28 (by omega)
    have h2 := hs_up1 h2 ew28 (by omega)
    have h3 : Hs L w28 5 (ad 5) (iarE G 10 (upd we sz y)) := by rw [ew28]; exact h3.me
    refine j_aload_n (pc := 29) C rfl dX2_take_29 rfl ?_
    refine j_dup (pc := 30) C dX2_take_30 rfl ?_
    refine j_get (pc := 31) C hin_X2 h1 rfl 4 (by decide) (by decide +kernel) rfl dX2_take_31 ?_
    refine j_iconst (pc := 34) (v := 1) C dX2_take_34 (by decide) ?_
    refine j_iadd (pc := 35) C dX2_take_35 ?_
    refine j_st (by rw [nI_1]) ?_
    refine j_put (pc := 36) (fs2 := [.ref (ad 4), .ref (ad 5), .ref (ad 6), .ref (ad 18), .int (nI (sz + 1))]) C hin_X2 h1 rfl 4 (by decide) tyX2 tyX2_ok nmX2 (by decide +kernel) rfl (tyX2_ok 4 (by decide)) rfl rfl (Nat.le_of_ble_eq_true rfl) rfl dX2_take_36 ?_
    refine j_nm (fun w36 ew36 => ?_)
    have h1 : Hs L w36 3 (ad 3) (.inr (3, [.ref (ad 4), .ref (ad 5), .ref (ad 6), .ref (ad 18), .int (nI (sz + 1))])) := by rw [ew36]; exact h1.me
    have h2 := hs_up1 h2 ew36 (by omega)
    have h3 := hs_up1 h3 ew36 (by omega)
    have keep : ∀ (q : Nat) (b : va_E), Hs L w q (ad q) b → (q ≠ 3 ∧ q ≠ 4 ∧ q ≠ 5) → Hs L w36 q (ad q) b := fun q b hq hn => hs_up1 (hs_up1 (hs_up1 hq ew18 (by omega)) ew28 (by omega)) ew36 (by omega)
    exact ret_v C rfl hr hlk dX2_take_39 ⟨⟨h1, h2, h3, keep 6 _ h4 (by decide), fun i hi => keep _ _ (h5 i hi) (by omega), keep 18 _ h6 (by decide), fun i hi => keep _ _ (h7 i hi) (by omega), by omega⟩, (((Fr.up ew18).mono (fun m h => by omega) (fun m h => h)).tr ((Fr.up ew28).mono (fun m h => by omega) (fun m h => h))).tr ((Fr.up ew36).mono (fun m h => by omega) (fun m h => h)), rfl⟩ (by decide) (by decide)

set_option maxRecDepth 100000 in
set_option maxHeartbeats 4000000 in
theorem ct_costBelow {l : Launch} {G : Gp} {L : List Nat} {w : Wn} {ad : Nat → Nat} {sz : Nat} {nu we : Nat → Int32} {co fp : Nat → Nat → Int32} (hp : PL G ad L w sz nu we co fp) {i j r : Nat} (hi : i < 11) (hj : j < 11) (hrr : r < 10) : CI l yX2_costBelow wsX2_costBelow (rmD 1 0 0) G L w [.ref (ad 3), .int (nI i), .int (nI j), .int (nI r)] (fun v u => v = co i r + co (r + 1) j ∧ u = (L, w)) := by
  refine mk_i (cc := cX2_costBelow) (maxL := 4) [some (.ref (ad 3)), some (.int (nI i)), some (.int (nI j)), some (.int (nI r))] (by decide) rfl (Nat.le_of_ble_eq_true rfl) rfl ?_
  intro p e s m args below meth c A C hr hlk hnm
  have hin_X2 : ∀ x ∈ u_ws RX2 TX2 5, x ∈ wsX2_costBelow := by decide +kernel
  obtain ⟨h1, h2, h3, h4, h5, h6, h7, h8⟩ := id hp
  refine j_aload_n (pc := 0) C rfl dX2_costBelow_0 rfl ?_
  refine j_get (pc := 1) C hin_X2 h1 rfl 2 (by decide) (by decide +kernel) rfl dX2_costBelow_1 ?_
  refine j_iload_n (pc := 4) C rfl dX2_costBelow_4 rfl ?_
  refine j_aldI (pc := 5) (v := .ref (ad (7 + i))) C h4 rfl (show i < 11 by omega) (by decide) (rws_at (by first | decide | omega)) dX2_costBelow_5 ?_
  refine j_iload_n (pc := 6) C rfl dX2_costBelow_6 rfl ?_
  refine j_iald (pc := 7) C (h5 i (by omega)) rfl (show r < 11 by omega) (by decide) dX2_costBelow_7 ?_
  refine j_aload_n (pc := 8) C rfl dX2_costBelow_8 rfl ?_
  refine j_get (pc := 9) C hin_X2 h1 rfl 2 (by decide) (by decide +kernel) rfl dX2_costBelow_9 ?_
  refine j_iload_n (pc := 12) C rfl dX2_costBelow_12 rfl ?_
  refine j_iconst (pc := 13) (v := 1) C dX2_costBelow_13 (by decide) ?_
  refine j_iadd (pc := 14) C dX2_costBelow_14 ?_
  refine j_st (by rw [nI_1]) ?_
  refine j_aldI (pc := 15) (v := .ref (ad (7 + (r + 1)))) C h4 rfl (show r + 1 < 11 by omega) (by decide) (rws_at (by first | decide | omega)) dX2_costBelow_15 ?_
  refine j_iload_n (pc := 16) C rfl dX2_costBelow_16 rfl ?_
  refine j_iald (pc := 17) C (h5 (r + 1) (by omega)) rfl (show j < 11 by omega) (by decide) dX2_costBelow_17 ?_
  refine j_iadd (pc := 18) C dX2_costBelow_18 ?_
  exact ret_i C rfl hr hlk dX2_costBelow_19 ⟨rfl, rfl⟩ (by decide) (by decide)

set_option maxRecDepth 100000 in
set_option maxHeartbeats 4000000 in
theorem wof_loop {p : Program} {e : Env} {s : State} {m : MethodId} {args : Array Value} {below : List Frame} {meth : Method} {c : Code} {A : Nat → Prop} {post : Int32 → Sw → Prop} {l : Launch} {G : Gp} {L : List Nat} {w : Wn} {ad : Nat → Nat} {sz : Nat} {nu we : Nat → Int32} {co fp : Nat → Nat → Int32} (hp : PL G ad L w sz nu we co fp) {wt : Nat → Nat} (hw : ∀ j, j < sz → we j = nI (wt j)) {i k : Nat} (hik : i + k ≤ sz) (hend : ∀ r, r = nI (wsum wt i k) → post r (L, w)) (C : Cx p s m args c cX2_weightOf yX2_weightOf.cls 5 wsX2_weightOf G A s.heap) (hr : meth.sig.returnType = (some .int)) (hlk : meth.locks = false) : ∀ (f d : Nat), k - d = f → d ≤ k → J p l e (rmD 1 0 0) s m args below meth c G A s.heap 5 (MQ below (va_Qi post (PB G A) A) args s (rmD 1 0 0).cells (rmD 1 0 0).slots A) L w 0 0 5 [some (.ref (ad 3)), some (.int (nI i)), some (.int (nI (i + k))), some (.int (nI (wsum wt i d))), some (.int (nI (i + d)))] [] := by
  have hin_X2 : ∀ x ∈ u_ws RX2 TX2 5, x ∈ wsX2_weightOf := by decide +kernel
  obtain ⟨h1, h2, h3, h4, h5, h6, h7, h8⟩ := id hp
  intro f
  induction f using Nat.strongRecOn with
  | _ f ih =>
    intro d hf hd0
    refine j_iload (pc := 5) C dX2_weightOf_5 rfl ?_
    refine j_iload_n (pc := 7) C rfl dX2_weightOf_7 rfl ?_
    refine j_icmp_ge (pc := 8) (tgt := 27) C dX2_weightOf_8 (by decide) (fun c8 => ?_) (fun c8 => ?_)
    · have c8 := nI_le_of (by omega) (by omega) c8
      refine j_iload_n (pc := 27) C rfl dX2_weightOf_27 rfl ?_
      exact ret_i C rfl hr hlk dX2_weightOf_28 (hend _ (by rw [show d = k by omega])) (by decide) (by decide)
    · have c8 := nI_gt_of (by omega) (by omega) c8
      refine j_iload_n (pc := 11) C rfl dX2_weightOf_11 rfl ?_
      refine j_aload_n (pc := 12) C rfl dX2_weightOf_12 rfl ?_
      refine j_get (pc := 13) C hin_X2 h1 rfl 1 (by decide) (by decide +kernel) rfl dX2_weightOf_13 ?_
      refine j_iload (pc := 16) C dX2_weightOf_16 rfl ?_
      refine j_iald (pc := 18) C h3 rfl (show i + d < 10 by omega) (by decide) dX2_weightOf_18 ?_
      refine j_iadd (pc := 19) C dX2_weightOf_19 ?_
      refine j_st (by rw [hw (i + d) (by omega), nI_add]) ?_
      refine j_istore_3 (pc := 20) C dX2_weightOf_20 (by decide) rfl ?_
      refine j_iinc_4 (pc := 21) (d := 1) C dX2_weightOf_21 (by decide) rfl rfl ?_
      refine j_lo (by rw [nI_1]) ?_
      refine j_goto (pc := 24) (tgt := 5) C dX2_weightOf_24 (by decide) ?_
      exact ih (k - (d + 1)) (by omega) (d + 1) rfl (by omega)

set_option maxRecDepth 100000 in
set_option maxHeartbeats 4000000 in
theorem ct_weightOf {l : Launch} {G : Gp} {L : List Nat} {w : Wn} {ad : Nat → Nat} {sz : Nat} {nu we : Nat → Int32} {co fp : Nat → Nat → Int32} (hp : PL G ad L w sz nu we co fp) {wt : Nat → Nat} (hw : ∀ j, j < sz → we j = nI (wt j)) {i k : Nat} (hik : i + k ≤ sz) : CI l yX2_weightOf wsX2_weightOf (rmD 1 0 0) G L w [.ref (ad 3), .int (nI i), .int (nI (i + k))] (fun r u => r = nI (wsum wt i k) ∧ u = (L, w)) := by
  refine mk_i (cc := cX2_weightOf) (maxL := 5) [some (.ref (ad 3)), some (.int (nI i)), some (.int (nI (i + k))), none, none] (by decide) rfl (Nat.le_of_ble_eq_true rfl) rfl ?_
  intro p e s m args below meth c A C hr hlk hnm
  refine j_iconst (pc := 0) (v := 0) C dX2_weightOf_0 (by decide) ?_
  refine j_istore_3 (pc := 1) C dX2_weightOf_1 (by decide) rfl ?_
  refine j_iload_n (pc := 2) C rfl dX2_weightOf_2 rfl ?_
  refine j_istore_4 (pc := 3) C dX2_weightOf_3 (by decide) rfl ?_
  exact wof_loop hp hw hik (fun r h => ⟨h, rfl⟩) C hr hlk k 0 rfl (Nat.zero_le _)

set_option maxRecDepth 100000 in
set_option maxHeartbeats 4000000 in
theorem ct_leastCost {l : Launch} {G : Gp} {L : List Nat} {w : Wn} {ad : Nat → Nat} {sz : Nat} {nu we : Nat → Int32} {co fp : Nat → Nat → Int32} (hp : PL G ad L w sz nu we co fp) : CI l yX2_leastCost wsX2_leastCost (rmD 1 0 0) G L w [.ref (ad 3)] (fun v u => v = co 0 sz ∧ u = (L, w)) := by
  refine mk_i (cc := cX2_leastCost) (maxL := 1) [some (.ref (ad 3))] (by decide) rfl (Nat.le_of_ble_eq_true rfl) rfl ?_
  intro p e s m args below meth c A C hr hlk hnm
  have hin_X2 : ∀ x ∈ u_ws RX2 TX2 5, x ∈ wsX2_leastCost := by decide +kernel
  obtain ⟨h1, h2, h3, h4, h5, h6, h7, h8⟩ := id hp
  refine j_aload_n (pc := 0) C rfl dX2_leastCost_0 rfl ?_
  refine j_get (pc := 1) C hin_X2 h1 rfl 2 (by decide) (by decide +kernel) rfl dX2_leastCost_1 ?_
  refine j_iconst (pc := 4) (v := 0) C dX2_leastCost_4 (by decide) ?_
  refine j_aldI (pc := 5) (v := .ref (ad (7 + (0 : Nat)))) C h4 rfl (show 0 < 11 by decide) (by decide) (rws_at (by first | decide | omega)) dX2_leastCost_5 ?_
  refine j_aload_n (pc := 6) C rfl dX2_leastCost_6 rfl ?_
  refine j_get (pc := 7) C hin_X2 h1 rfl 4 (by decide) (by decide +kernel) rfl dX2_leastCost_7 ?_
  refine j_iald (pc := 10) C (h5 0 (by decide)) rfl (show sz < 11 by omega) (by decide) dX2_leastCost_10 ?_
  exact ret_i C rfl hr hlk dX2_leastCost_11 ⟨rfl, rfl⟩ (by decide) (by decide)

/-- the tables hold the least trees of all runs shorter than m, and of the runs of m from a place below j on -/
def Tab (wt : Nat → Nat) (sz m j : Nat) (co fp : Nat → Nat → Int32) : Prop := ∀ i l, (l < m ∨ (l = m ∧ i < j)) → i + l ≤ sz → co i (i + l) = nI (cs wt i l) ∧ (0 < l → fp i (i + l) = nI (rt wt i l))
theorem tab_bel {wt : Nat → Nat} {sz n i j : Nat} {co fp : Nat → Nat → Int32} (h : Tab wt sz (n + 1) j co fp) (hi : i + n + 1 ≤ sz) {r : Nat} (h1 : i ≤ r) (h2 : r ≤ i + n) : co i r + co (r + 1) (i + n + 1) = nI (bel wt i n r) := by
  have a := (h i (r - i) (Or.inl (by omega)) (by omega)).1
  have b := (h (r + 1) (i + n - r) (Or.inl (by omega)) (by omega)).1
  rw [show i + (r - i) = r by omega] at a
  rw [show r + 1 + (i + n - r) = i + n + 1 by omega] at b
  rw [a, b, nI_add]
  rfl
set_option maxRecDepth 100000 in
set_option maxHeartbeats 4000000 in
theorem wt_loop {p : Program} {e : Env} {s : State} {m : MethodId} {args : Array Value} {below : List Frame} {meth : Method} {c : Code} {A : Nat → Prop} {post : Sw → Prop} {l : Launch} {G : Gp} {L : List Nat} {w : Wn} {ad : Nat → Nat} {sz : Nat} {nu we : Nat → Int32} {co fp : Nat → Nat → Int32} (hp : PL G ad L w sz nu we co fp) {wt : Nat → Nat} (hB : ∀ j, wt j ≤ 1001) {i n : Nat} (hin0 : i + n + 1 ≤ sz) (htab : Tab wt sz (n + 1) i co fp) (C : Cx p s m args c cX2_weighTrees yX2_weighTrees.cls 5 wsX2_weighTrees G A s.heap) (hr : meth.sig.returnType = none) (hlk : meth.locks = false) : (J p l e (rmD 2 0 0) s m args below meth c G A s.heap 5 (MQ below (va_Qv post (PB G A) A) args s (rmD 2 0 0).cells (rmD 2 0 0).slots A) L w 0 0 40 [some (.ref (ad 3)), some (.int (nI i)), some (.int (nI (i + n + 1))), some (.int (nI (amin (bel wt i n) i n))), some (.int (nI (i + (n + 1))))] []) → ∀ (f d : Nat), n - d = f → d ≤ n → J p l e (rmD 2 0 0) s m args below meth c G A s.heap 5 (MQ below (va_Qv post (PB G A) A) args s (rmD 2 0 0).cells (rmD 2 0 0).slots A) L w 0 0 7 [some (.ref (ad 3)), some (.int (nI i)), some (.int (nI (i + n + 1))), some (.int (nI (amin (bel wt i n) i d))), some (.int (nI (i + (d + 1))))] [] := by
  obtain ⟨h1, h2, h3, h4, h5, h6, h7, h8⟩ := id hp
  intro hend f
  induction f using Nat.strongRecOn with
  | _ f ih =>
    intro d hf hd0
    refine j_iload (pc := 7) C dX2_weighTrees_7 rfl ?_
    refine j_iload_n (pc := 9) C rfl dX2_weighTrees_9 rfl ?_
    refine j_icmp_ge (pc := 10) (tgt := 40) C dX2_weighTrees_10 (by decide) (fun c10 => ?_) (fun c10 => ?_)
    · have c10 := nI_le_of (by omega) (by omega) c10
      have e9 : d = n := by omega
      subst e9
      exact hend
    · have c10 := nI_gt_of (by omega) (by omega) c10
      refine j_aload_n (pc := 13) C rfl dX2_weighTrees_13 rfl ?_
      refine j_iload_n (pc := 14) C rfl dX2_weighTrees_14 rfl ?_
      refine j_iload_n (pc := 15) C rfl dX2_weighTrees_15 rfl ?_
      refine j_iload (pc := 16) C dX2_weighTrees_16 rfl ?_
      refine jV_i0 (pc := 18) (k2 := 0) (n2 := 0) (np := 3) (As := [.int (nI i), .int (nI (i + n + 1)), .int (nI (i + (d + 1)))]) C (ct_costBelow hp (i := i) (j := i + n + 1) (r := i + (d + 1)) (by omega) (by omega) (by omega)) gX2_weighTrees_X2_costBelow rfl (by decide +kernel) ⟨by decide, by decide⟩ h1 rfl rfl rfl (Nat.le_of_ble_eq_true rfl) dX2_weighTrees_18 (by decide) (by decide) ⟨by decide, by decide⟩ (fun v1 hv1 => ?_)
      rw [tab_bel htab (by omega) (by omega) (by omega)] at hv1
      subst hv1
      refine j_aload_n (pc := 21) C rfl dX2_weighTrees_21 rfl ?_
      refine j_iload_n (pc := 22) C rfl dX2_weighTrees_22 rfl ?_
      refine j_iload_n (pc := 23) C rfl dX2_weighTrees_23 rfl ?_
      refine j_iload_n (pc := 24) C rfl dX2_weighTrees_24 rfl ?_
      refine jV_i0 (pc := 25) (k2 := 0) (n2 := 0) (np := 3) (As := [.int (nI i), .int (nI (i + n + 1)), .int (nI (amin (bel wt i n) i d))]) C (ct_costBelow hp (i := i) (j := i + n + 1) (r := amin (bel wt i n) i d) (by omega) (by omega) (by have := amin_in (bel wt i n) i d; omega)) gX2_weighTrees_X2_costBelow rfl (by decide +kernel) ⟨by decide, by decide⟩ h1 rfl rfl rfl (Nat.le_of_ble_eq_true rfl) dX2_weighTrees_25 (by decide) (by decide) ⟨by decide, by decide⟩ (fun v2 hv2 => ?_)
      have ham := amin_in (bel wt i n) i d
      rw [tab_bel htab (by omega) (by omega) (by omega)] at hv2
      subst hv2
      have b1 := bel_small (wt := wt) hB (i := i) (n := n) (r := i + (d + 1)) (by omega) (by omega) (by omega)
      have b2 := bel_small (wt := wt) hB (i := i) (n := n) (r := amin (bel wt i n) i d) (by omega) (by omega) (by omega)
      refine j_icmp_ge (pc := 28) (tgt := 34) C dX2_weighTrees_28 (by decide) (fun c28 => ?_) (fun c28 => ?_)
      · have c28 := nI_le_of (by omega) (by omega) c28
        refine j_iinc_4 (pc := 34) (d := 1) C dX2_weighTrees_34 (by decide) rfl rfl ?_
        refine j_lo (by rw [nI_1]) ?_
        refine j_goto (pc := 37) (tgt := 7) C dX2_weighTrees_37 (by decide) ?_
        first | exact j_lo (by rw [show amin (bel wt i n) i (d + 1) = amin (bel wt i n) i d by rw [amin, if_neg (by rw [show i + d + 1 = i + (d + 1) by omega]; omega)]]; rfl) (ih (n - (d + 1)) (by omega) (d + 1) rfl (by omega)) | exact j_lo (by rw [show amin (bel wt i n) i (d + 1) = i + (d + 1) by rw [amin, if_pos (by rw [show i + d + 1 = i + (d + 1) by omega]; omega)]; omega]; rfl) (ih (n - (d + 1)) (by omega) (d + 1) rfl (by omega))
      · have c28 := nI_gt_of (by omega) (by omega) c28
        refine j_iload (pc := 31) C dX2_weighTrees_31 rfl ?_
        refine j_istore_3 (pc := 33) C dX2_weighTrees_33 (by decide) rfl ?_
        refine j_iinc_4 (pc := 34) (d := 1) C dX2_weighTrees_34 (by decide) rfl rfl ?_
        refine j_lo (by rw [nI_1]) ?_
        refine j_goto (pc := 37) (tgt := 7) C dX2_weighTrees_37 (by decide) ?_
        first | exact j_lo (by rw [show amin (bel wt i n) i (d + 1) = amin (bel wt i n) i d by rw [amin, if_neg (by rw [show i + d + 1 = i + (d + 1) by omega]; omega)]]; rfl) (ih (n - (d + 1)) (by omega) (d + 1) rfl (by omega)) | exact j_lo (by rw [show amin (bel wt i n) i (d + 1) = i + (d + 1) by rw [amin, if_pos (by rw [show i + d + 1 = i + (d + 1) by omega]; omega)]; omega]; rfl) (ih (n - (d + 1)) (by omega) (d + 1) rfl (by omega))

set_option maxRecDepth 100000 in
set_option maxHeartbeats 4000000 in
theorem ct_weighTrees {l : Launch} {G : Gp} {L : List Nat} {w : Wn} {ad : Nat → Nat} {sz : Nat} {nu we : Nat → Int32} {co fp : Nat → Nat → Int32} (hp : PL G ad L w sz nu we co fp) {wt : Nat → Nat} (hw : ∀ j, j < sz → we j = nI (wt j)) (hB : ∀ j, wt j ≤ 1001) {i n : Nat} (hin0 : i + n + 1 ≤ sz) (htab : Tab wt sz (n + 1) i co fp) : CV l yX2_weighTrees wsX2_weighTrees (rmD 2 0 0) G L w [.ref (ad 3), .int (nI i), .int (nI (i + n + 1))] (fun u => PL G ad u.1 u.2 sz nu we (up2 co i (i + n + 1) (nI (cs wt i (n + 1)))) (up2 fp i (i + n + 1) (nI (rt wt i (n + 1)))) ∧ FrP L w u.1 u.2 ∧ u.1 = L) := by
  refine mk_v (cc := cX2_weighTrees) (maxL := 5) [some (.ref (ad 3)), some (.int (nI i)), some (.int (nI (i + n + 1))), none, none] (by decide) rfl (Nat.le_of_ble_eq_true rfl) rfl ?_
  intro p e s m args below meth c A C hr hlk hnm
  have hin_X2 : ∀ x ∈ u_ws RX2 TX2 5, x ∈ wsX2_weighTrees := by decide +kernel
  obtain ⟨h1, h2, h3, h4, h5, h6, h7, h8⟩ := id hp
  have ham := amin_in (bel wt i n) i n
  have hcr := h5 i (by omega)
  have hfr := h7 i (by omega)
  refine j_iload_n (pc := 0) C rfl dX2_weighTrees_0 rfl ?_
  refine j_istore_3 (pc := 1) C dX2_weighTrees_1 (by decide) rfl ?_
  refine j_iload_n (pc := 2) C rfl dX2_weighTrees_2 rfl ?_
  refine j_iconst (pc := 3) (v := 1) C dX2_weighTrees_3 (by decide) ?_
  refine j_iadd (pc := 4) C dX2_weighTrees_4 ?_
  refine j_st (by rw [nI_1]) ?_
  refine j_istore_4 (pc := 5) C dX2_weighTrees_5 (by decide) rfl ?_
  refine wt_loop hp hB hin0 htab C hr hlk ?_ n 0 rfl (Nat.zero_le _)
  refine j_aload_n (pc := 40) C rfl dX2_weighTrees_40 rfl ?_
  refine j_get (pc := 41) C hin_X2 h1 rfl 3 (by decide) (by decide +kernel) rfl dX2_weighTrees_41 ?_
  refine j_iload_n (pc := 44) C rfl dX2_weighTrees_44 rfl ?_
  refine j_aldI (pc := 45) (v := .ref (ad (19 + i))) C h6 rfl (show i < 11 by omega) (by decide) (rws_at (by first | decide | omega)) dX2_weighTrees_45 ?_
  refine j_iload_n (pc := 46) C rfl dX2_weighTrees_46 rfl ?_
  refine j_iload_n (pc := 47) C rfl dX2_weighTrees_47 rfl ?_
  refine j_iast (pc := 48) C hfr rfl (show i + n + 1 < 11 by omega) (by decide) dX2_weighTrees_48 ?_
  refine j_nm (fun w48 ew48 => ?_)
  have keep48 : ∀ (q : Nat) (b : va_E), Hs L w q (ad q) b → q ≠ 19 + i → Hs L w48 q (ad q) b := fun q b hq hn => hs_up1 hq ew48 hn
  have h1 := hs_up1 h1 ew48 (by omega)
  have hfr : Hs L w48 (19 + i) (ad (19 + i)) (iarE G 11 (upd (fp i) (i + n + 1) (nI (amin (bel wt i n) i n)))) := by rw [ew48]; exact hfr.me
  have hcr := hs_up1 hcr ew48 (by omega)
  have hp2 : PL G ad L w48 sz nu we co (up2 fp i (i + n + 1) (nI (amin (bel wt i n) i n))) := ⟨h1, keep48 4 _ h2 (by omega), keep48 5 _ h3 (by omega), keep48 6 _ h4 (by omega), fun k hk => keep48 _ _ (h5 k hk) (by omega), keep48 18 _ h6 (by omega), fun k hk => by by_cases e : k = i; (subst e; rw [up2_row]; exact hfr); (rw [up2_ne e]; exact keep48 _ _ (h7 k hk) (by omega)), h8⟩
  have h4 := keep48 6 _ h4 (by omega)
  refine j_aload_n (pc := 49) C rfl dX2_weighTrees_49 rfl ?_
  refine j_get (pc := 50) C hin_X2 h1 rfl 2 (by decide) (by decide +kernel) rfl dX2_weighTrees_50 ?_
  refine j_iload_n (pc := 53) C rfl dX2_weighTrees_53 rfl ?_
  refine j_aldI (pc := 54) (v := .ref (ad (7 + i))) C h4 rfl (show i < 11 by omega) (by decide) (rws_at (by first | decide | omega)) dX2_weighTrees_54 ?_
  refine j_iload_n (pc := 55) C rfl dX2_weighTrees_55 rfl ?_
  refine j_aload_n (pc := 56) C rfl dX2_weighTrees_56 rfl ?_
  refine j_iload_n (pc := 57) C rfl dX2_weighTrees_57 rfl ?_
  refine j_iload_n (pc := 58) C rfl dX2_weighTrees_58 rfl ?_
  refine j_iload_n (pc := 59) C rfl dX2_weighTrees_59 rfl ?_
  refine jV_i0 (pc := 60) (k2 := 0) (n2 := 0) (np := 3) (As := [.int (nI i), .int (nI (i + n + 1)), .int (nI (amin (bel wt i n) i n))]) C (ct_costBelow hp2 (i := i) (j := i + n + 1) (r := (amin (bel wt i n) i n)) (by omega) (by omega) (by omega)) gX2_weighTrees_X2_costBelow rfl (by decide +kernel) ⟨by decide, by decide⟩ h1 rfl rfl rfl (Nat.le_of_ble_eq_true rfl) dX2_weighTrees_60 (by decide) (by decide) ⟨by decide, by decide⟩ (fun v1 hv1 => ?_)
  rw [tab_bel htab (by omega) (by omega) (by omega)] at hv1
  subst hv1
  refine j_aload_n (pc := 63) C rfl dX2_weighTrees_63 rfl ?_
  refine j_iload_n (pc := 64) C rfl dX2_weighTrees_64 rfl ?_
  refine j_iload_n (pc := 65) C rfl dX2_weighTrees_65 rfl ?_
  refine jV_i0 (pc := 66) (k2 := 0) (n2 := 0) (np := 2) (As := [.int (nI i), .int (nI (i + n + 1))]) C (ct_weightOf hp2 hw (i := i) (k := n + 1) (by omega)) gX2_weighTrees_X2_weightOf rfl (by decide +kernel) ⟨by decide, by decide⟩ h1 rfl rfl rfl (Nat.le_of_ble_eq_true rfl) dX2_weighTrees_66 (by decide) (by decide) ⟨by decide, by decide⟩ (fun v2 hv2 => ?_)
  subst hv2
  refine j_iadd (pc := 69) C dX2_weighTrees_69 ?_
  refine j_st (by rw [nI_add, ← cs_eq]) ?_
  refine j_iast (pc := 70) C hcr rfl (show i + n + 1 < 11 by omega) (by decide) dX2_weighTrees_70 ?_
  refine j_nm (fun w70 ew70 => ?_)
  have keep70 : ∀ (q : Nat) (b : va_E), Hs L w48 q (ad q) b → q ≠ 7 + i → Hs L w70 q (ad q) b := fun q b hq hn => hs_up1 hq ew70 hn
  have h1 := hs_up1 h1 ew70 (by omega)
  have hfr := hs_up1 hfr ew70 (by omega)
  have hcr : Hs L w70 (7 + i) (ad (7 + i)) (iarE G 11 (upd (co i) (i + n + 1) (nI (cs wt i (n + 1))))) := by rw [ew70]; exact hcr.me
  refine ret_v C rfl hr hlk dX2_weighTrees_71 ⟨⟨h1, keep70 4 _ (keep48 4 _ h2 (by omega)) (by omega), keep70 5 _ (keep48 5 _ h3 (by omega)) (by omega), keep70 6 _ h4 (by omega), fun k hk => ?_, keep70 18 _ (keep48 18 _ h6 (by omega)) (by omega), fun k hk => ?_, h8⟩, (((Fr.up ew48).mono (fun m h => by omega) (fun m h => h)).tr ((Fr.up ew70).mono (fun m h => by omega) (fun m h => h))), rfl⟩ (by decide) (by decide)
  · by_cases e : k = i
    · subst e; rw [up2_row]; exact hcr
    · rw [up2_ne e]; exact keep70 _ _ (keep48 _ _ (h5 k hk) (by omega)) (by omega)
  · by_cases e : k = i
    · subst e; rw [up2_row, rt_eq]; exact hfr
    · rw [up2_ne e]; exact keep70 _ _ (keep48 _ _ (h7 k hk) (by omega)) (by omega)

