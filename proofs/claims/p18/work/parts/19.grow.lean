/-! THE PLANNER: all trees weighed; the best one grown -/
def PZ (co : Nat → Nat → Int32) : Prop := ∀ i, i < 11 → co i i = 0
theorem up2_at {f : Nat → Nat → Int32} {i j : Nat} {x : Int32} : up2 f i j x i j = x := by simp [up2]
theorem up2_off {f : Nat → Nat → Int32} {i j a b : Nat} {x : Int32} (h : a ≠ i ∨ b ≠ j) : up2 f i j x a b = f a b := by
  unfold up2
  rw [if_neg]
  rintro ⟨h1, h2⟩
  exact h.elim (fun q => q h1) (fun q => q h2)
theorem PZ.up {co : Nat → Nat → Int32} (h : PZ co) {i n : Nat} {x : Int32} : PZ (up2 co i (i + n + 1) x) := fun k hk => by
  rw [up2_off (by omega)]
  exact h k hk
theorem Tab.step {wt : Nat → Nat} {sz n i : Nat} {co fp : Nat → Nat → Int32} (h : Tab wt sz (n + 1) i co fp) : Tab wt sz (n + 1) (i + 1) (up2 co i (i + n + 1) (nI (cs wt i (n + 1)))) (up2 fp i (i + n + 1) (nI (rt wt i (n + 1)))) := by
  intro a l hl hal
  by_cases e : a = i ∧ l = n + 1
  · obtain ⟨rfl, rfl⟩ := e
    rw [show a + (n + 1) = a + n + 1 by omega, up2_at, up2_at]
    exact ⟨rfl, fun _ => rfl⟩
  · have e2 : a ≠ i ∨ a + l ≠ i + n + 1 := by omega
    rw [up2_off e2, up2_off e2]
    exact h a l (by omega) hal
theorem Tab.next {wt : Nat → Nat} {sz n i : Nat} {co fp : Nat → Nat → Int32} (h : Tab wt sz (n + 1) i co fp) (hi : sz < i + (n + 1)) : Tab wt sz (n + 2) 0 co fp := fun a l hl hal => h a l (by omega) hal
theorem Tab.zero {wt : Nat → Nat} {sz : Nat} {co fp : Nat → Nat → Int32} (h : PZ co) (hs : sz ≤ 10) : Tab wt sz 1 0 co fp := fun a l hl hal => by
  have e : l = 0 := by omega
  subst e
  exact ⟨h a (by omega), fun z => absurd z (Nat.lt_irrefl 0)⟩
theorem cat_rf (r : Option Nat) : (va_rf r).category = 1 := by cases r <;> rfl
set_option maxRecDepth 100000 in
set_option maxHeartbeats 4000000 in
theorem wat_in {p : Program} {e : Env} {s : State} {m : MethodId} {args : Array Value} {below : List Frame} {meth : Method} {c : Code} {A : Nat → Prop} {post : Sw → Prop} {l : Launch} {G : Gp} {L : List Nat} {ad : Nat → Nat} {sz : Nat} {nu we : Nat → Int32} {wt : Nat → Nat} (hw : ∀ j, j < sz → we j = nI (wt j)) (hB : ∀ j, wt j ≤ 1001) {n : Nat} (hn : n < sz) (C : Cx p s m args c cX2_weighAllTrees yX2_weighAllTrees.cls 3 wsX2_weighAllTrees G A s.heap) (hr : meth.sig.returnType = none) (hlk : meth.locks = false) : ∀ (f i : Nat) (w : Wn) (co fp : Nat → Nat → Int32), sz - i = f → i ≤ sz → PL G ad L w sz nu we co fp → Tab wt sz (n + 1) i co fp → PZ co → (∀ (w2 : Wn) (co2 fp2 : Nat → Nat → Int32), PL G ad L w2 sz nu we co2 fp2 → Tab wt sz (n + 2) 0 co2 fp2 → PZ co2 → FrP L w L w2 → J p l e (rmD 3 0 0) s m args below meth c G A s.heap 3 (MQ below (va_Qv post (PB G A) A) args s (rmD 3 0 0).cells (rmD 3 0 0).slots A) L w2 0 0 36 [some (.ref (ad 3)), some (.int (nI (n + 1))), none] []) → J p l e (rmD 3 0 0) s m args below meth c G A s.heap 3 (MQ below (va_Qv post (PB G A) A) args s (rmD 3 0 0).cells (rmD 3 0 0).slots A) L w 0 0 12 [some (.ref (ad 3)), some (.int (nI (n + 1))), some (.int (nI i))] [] := by
  have hin_X2 : ∀ x ∈ u_ws RX2 TX2 5, x ∈ wsX2_weighAllTrees := by decide +kernel
  intro f
  induction f using Nat.strongRecOn with
  | _ f ih =>
    intro i w co fp hf his hp htab hz hend
    obtain ⟨h1, h2, h3, h4, h5, h6, h7, h8⟩ := id hp
    refine j_iload_n (pc := 12) C rfl dX2_weighAllTrees_12 rfl ?_
    refine j_iload_n (pc := 13) C rfl dX2_weighAllTrees_13 rfl ?_
    refine j_iadd (pc := 14) C dX2_weighAllTrees_14 ?_
    refine j_st (by rw [nI_add]) ?_
    refine j_aload_n (pc := 15) C rfl dX2_weighAllTrees_15 rfl ?_
    refine j_get (pc := 16) C hin_X2 h1 rfl 4 (by decide) (by decide +kernel) rfl dX2_weighAllTrees_16 ?_
    refine j_icmp_gt (pc := 19) (tgt := 36) C dX2_weighAllTrees_19 (by decide) (fun c19 => ?_) (fun c19 => ?_)
    · have c19 := nI_lt_of (by omega) (by omega) c19
      exact j_weak (lo2 := [some (.ref (ad 3)), some (.int (nI (n + 1))), none]) ⟨rfl, rfl, trivial⟩ (hend w co fp hp (htab.next (by omega)) hz Fr.rf)
    · have c19 := nI_ge_of (by omega) (by omega) c19
      refine j_aload_n (pc := 22) C rfl dX2_weighAllTrees_22 rfl ?_
      refine j_iload_n (pc := 23) C rfl dX2_weighAllTrees_23 rfl ?_
      refine j_iload_n (pc := 24) C rfl dX2_weighAllTrees_24 rfl ?_
      refine j_iload_n (pc := 25) C rfl dX2_weighAllTrees_25 rfl ?_
      refine j_iadd (pc := 26) C dX2_weighAllTrees_26 ?_
      refine j_st (by rw [nI_add]) ?_
      refine jV_v (pc := 27) (k2 := 0) (n2 := 0) (np := 2) (As := [.int (nI i), .int (nI (i + n + 1))]) C (ct_weighTrees hp hw hB (i := i) (n := n) (by omega) htab) gX2_weighAllTrees_X2_weighTrees rfl (by decide +kernel) ⟨by decide, by decide⟩ h1 rfl rfl rfl (Nat.le_of_ble_eq_true rfl) dX2_weighAllTrees_27 (by decide) (by decide) ⟨by decide, by decide⟩ (fun L2 w2 hu => ?_)
      obtain ⟨hp2, hfr, hL2⟩ := hu
      dsimp only at hp2 hfr hL2
      subst hL2
      refine j_iinc_2 (pc := 30) (d := 1) C dX2_weighAllTrees_30 (by decide) rfl rfl ?_
      refine j_lo (by rw [nI_1]) ?_
      refine j_goto (pc := 33) (tgt := 12) C dX2_weighAllTrees_33 (by decide) ?_
      exact ih (sz - (i + 1)) (by omega) (i + 1) w2 _ _ rfl (by omega) hp2 htab.step hz.up (fun w3 co3 fp3 g1 g2 g3 g4 => hend w3 co3 fp3 g1 g2 g3 (hfr.tr g4))

set_option maxRecDepth 100000 in
set_option maxHeartbeats 4000000 in
theorem wat_out {p : Program} {e : Env} {s : State} {m : MethodId} {args : Array Value} {below : List Frame} {meth : Method} {c : Code} {A : Nat → Prop} {post : Sw → Prop} {l : Launch} {G : Gp} {L : List Nat} {ad : Nat → Nat} {sz : Nat} {nu we : Nat → Int32} {wt : Nat → Nat} (hw : ∀ j, j < sz → we j = nI (wt j)) (hB : ∀ j, wt j ≤ 1001) (C : Cx p s m args c cX2_weighAllTrees yX2_weighAllTrees.cls 3 wsX2_weighAllTrees G A s.heap) (hr : meth.sig.returnType = none) (hlk : meth.locks = false) : ∀ (f n : Nat) (w : Wn) (co fp : Nat → Nat → Int32), sz - n = f → n ≤ sz → PL G ad L w sz nu we co fp → Tab wt sz (n + 1) 0 co fp → PZ co → (∀ (w2 : Wn) (co2 fp2 : Nat → Nat → Int32), PL G ad L w2 sz nu we co2 fp2 → Tab wt sz (sz + 1) 0 co2 fp2 → PZ co2 → FrP L w L w2 → post (L, w2)) → J p l e (rmD 3 0 0) s m args below meth c G A s.heap 3 (MQ below (va_Qv post (PB G A) A) args s (rmD 3 0 0).cells (rmD 3 0 0).slots A) L w 0 0 2 [some (.ref (ad 3)), some (.int (nI (n + 1))), none] [] := by
  have hin_X2 : ∀ x ∈ u_ws RX2 TX2 5, x ∈ wsX2_weighAllTrees := by decide +kernel
  intro f
  induction f using Nat.strongRecOn with
  | _ f ih =>
    intro n w co fp hf hn0 hp htab hz hend
    obtain ⟨h1, h2, h3, h4, h5, h6, h7, h8⟩ := id hp
    refine j_iload_n (pc := 2) C rfl dX2_weighAllTrees_2 rfl ?_
    refine j_aload_n (pc := 3) C rfl dX2_weighAllTrees_3 rfl ?_
    refine j_get (pc := 4) C hin_X2 h1 rfl 4 (by decide) (by decide +kernel) rfl dX2_weighAllTrees_4 ?_
    refine j_icmp_gt (pc := 7) (tgt := 42) C dX2_weighAllTrees_7 (by decide) (fun c7 => ?_) (fun c7 => ?_)
    · have c7 := nI_lt_of (by omega) (by omega) c7
      exact ret_v C rfl hr hlk dX2_weighAllTrees_42 (hend w co fp hp (by rw [show n = sz by omega] at htab; exact htab) hz Fr.rf) (by decide) (by decide)
    · have c7 := nI_ge_of (by omega) (by omega) c7
      refine j_iconst (pc := 10) (v := 0) C dX2_weighAllTrees_10 (by decide) ?_
      refine j_istore_2 (pc := 11) C dX2_weighAllTrees_11 (by decide) rfl ?_
      refine wat_in hw hB (n := n) (by omega) C hr hlk (sz - 0) 0 w co fp rfl (Nat.zero_le _) hp htab hz (fun w2 co2 fp2 g1 g2 g3 g4 => ?_)
      refine j_iinc_1 (pc := 36) (d := 1) C dX2_weighAllTrees_36 (by decide) rfl rfl ?_
      refine j_lo (by rw [nI_1]) ?_
      refine j_goto (pc := 39) (tgt := 2) C dX2_weighAllTrees_39 (by decide) ?_
      exact ih (sz - (n + 1)) (by omega) (n + 1) w2 co2 fp2 rfl (by omega) g1 g2 g3 (fun w3 co3 fp3 k1 k2 k3 k4 => hend w3 co3 fp3 k1 k2 k3 (g4.tr k4))

set_option maxRecDepth 100000 in
set_option maxHeartbeats 4000000 in
theorem ct_weighAllTrees {l : Launch} {G : Gp} {L : List Nat} {w : Wn} {ad : Nat → Nat} {sz : Nat} {nu we : Nat → Int32} {co fp : Nat → Nat → Int32} (hp : PL G ad L w sz nu we co fp) {wt : Nat → Nat} (hw : ∀ j, j < sz → we j = nI (wt j)) (hB : ∀ j, wt j ≤ 1001) (hz : PZ co) : CV l yX2_weighAllTrees wsX2_weighAllTrees (rmD 3 0 0) G L w [.ref (ad 3)] (fun u => ∃ co2 fp2, PL G ad u.1 u.2 sz nu we co2 fp2 ∧ Tab wt sz (sz + 1) 0 co2 fp2 ∧ PZ co2 ∧ FrP L w u.1 u.2 ∧ u.1 = L) := by
  refine mk_v (cc := cX2_weighAllTrees) (maxL := 3) [some (.ref (ad 3)), none, none] (by decide) rfl (Nat.le_of_ble_eq_true rfl) rfl ?_
  intro p e s m args below meth c A C hr hlk hnm
  refine j_iconst (pc := 0) (v := 1) C dX2_weighAllTrees_0 (by decide) ?_
  refine j_istore_1 (pc := 1) C dX2_weighAllTrees_1 (by decide) rfl ?_
  exact wat_out hw hB C hr hlk (sz - 0) 0 w co fp rfl (Nat.zero_le _) hp (Tab.zero hz hp.2.2.2.2.2.2.2) hz (fun w2 co2 fp2 g1 g2 g3 g4 => ⟨co2, fp2, g1, g2, g3, g4, rfl⟩)

theorem TrH.fr2 {L L2 : List Nat} {w w2 : Wn} {ky : Nat → Int32} {wt : Nat → Nat} (hL : ∀ m, m ∈ L → m ∈ L2) (hw : ∀ m a nu t le gr, t < 1000 → Hs L w m a (nodeE nu (nI (t + 1)) le gr) → w2 m = w m) : ∀ (f i l t : Nat) (a : Option Nat), t + f < 1000 → TrH L w ky wt f i l t a → TrH L2 w2 ky wt f i l t a
  | 0, _, _, _, _, _, h => h
  | f + 1, i, l, t, a, ht, h => by
    rcases h with h | ⟨h0, qb, b, le, gr, h1, h2, h3, h4, h5⟩
    · exact Or.inl h
    · exact Or.inr ⟨h0, qb, b, le, gr, h1, h2, h3.to hL (hw _ _ _ _ _ _ (by omega) h3), TrH.fr2 hL hw f _ _ _ _ (by omega) h4, TrH.fr2 hL hw f _ _ _ _ (by omega) h5⟩
abbrev FrN (L : List Nat) (w : Wn) (L2 : List Nat) (w2 : Wn) : Prop := Fr (fun _ => False) (fun m => 1000 ≤ m) L w L2 w2
theorem node_ne {t : Nat} (ht : t < 1000) : nI (t + 1) ≠ 0 := fun h => by
  have := nI_inj (a := t + 1) (b := 0) (by omega) (by decide) (show nI (t + 1) = nI 0 from h)
  omega
set_option maxRecDepth 100000 in
set_option maxHeartbeats 8000000 in
theorem ct_grow {l : Launch} {G : Gp} {ad : Nat → Nat} {sz : Nat} {nu we : Nat → Int32} {co fp : Nat → Nat → Int32} {ky : Nat → Int32} {wt : Nat → Nat} (hky : ∀ r, r < sz → nu r = ky r) (hfp : ∀ i k, 0 < k → i + k ≤ sz → fp i (i + k) = nI (rt wt i k)) :
    ∀ (f i k t : Nat) (L : List Nat) (w : Wn), PL G ad L w sz nu we co fp → f ≤ 100 → k ≤ f → i + k ≤ sz → t + k ≤ 10 → CQ l yX2_grow wsX2_grow (rmD (5 + f) k (4 * k)) G L w [.ref (ad 3), .int (nI i), .int (nI (i + k)), .int (nI (t + 1))] (fun r u => TrH u.1 u.2 ky wt f i k t r ∧ FrN L w u.1 u.2) := by
  intro f
  induction f with
  | zero =>
    intro i k t L w hp hf1 hk0 hik htk
    have hp8 := hp.2.2.2.2.2.2.2
    have e : k = 0 := by omega
    subst e
    refine mk_q (cc := cX2_grow) (maxL := 5) [some (.ref (ad 3)), some (.int (nI i)), some (.int (nI (i + 0))), some (.int (nI (t + 1))), none] (by decide) rfl (Nat.le_of_ble_eq_true rfl) rfl ?_
    intro p e s m args below meth c A C hr hlk hnm
    refine j_iload_n (pc := 0) C rfl dX2_grow_0 rfl ?_
    refine j_iload_n (pc := 1) C rfl dX2_grow_1 rfl ?_
    refine j_icmp_ge (pc := 2) (tgt := 11) C dX2_grow_2 (by decide) (fun _ => ?_) (fun z9 => absurd (nI_le (Nat.le_refl i) (by omega)) z9)
    refine j_null (pc := 11) C dX2_grow_11 ?_
    exact ret_a (r := none) C rfl rfl hr (Or.inl ⟨_, rfl⟩) hlk dX2_grow_12 ⟨⟨rfl, rfl⟩, Fr.rf⟩ (by decide) (by decide)
  | succ f ih =>
    intro i k t L w hp hf1 hk0 hik htk
    have hp8 := hp.2.2.2.2.2.2.2
    refine mk_q (cc := cX2_grow) (maxL := 5) [some (.ref (ad 3)), some (.int (nI i)), some (.int (nI (i + k))), some (.int (nI (t + 1))), none] (by decide) rfl (Nat.le_of_ble_eq_true rfl) rfl ?_
    intro p e s m args below meth c A C hr hlk hnm
    have hin_X2 : ∀ x ∈ u_ws RX2 TX2 5, x ∈ wsX2_grow := by decide +kernel
    have hin_X1 : ∀ x ∈ u_ws RX1 TX1 4, x ∈ wsX2_grow := by decide +kernel
    refine j_iload_n (pc := 0) C rfl dX2_grow_0 rfl ?_
    refine j_iload_n (pc := 1) C rfl dX2_grow_1 rfl ?_
    refine j_icmp_ge (pc := 2) (tgt := 11) C dX2_grow_2 (by decide) (fun c2 => ?_) (fun c2 => ?_)
    · have c2 := nI_le_of (by omega) (by omega) c2
      refine j_null (pc := 11) C dX2_grow_11 ?_
      exact ret_a (r := none) C rfl rfl hr (Or.inl ⟨_, rfl⟩) hlk dX2_grow_12 ⟨Or.inl ⟨by omega, rfl⟩, Fr.rf⟩ (Nat.zero_le _) (Nat.zero_le _)
    · have c2 := nI_gt_of (by omega) (by omega) c2
      have hkp : 0 < k := by omega
      have hrt := rt_in wt i hkp
      generalize hR : rt wt i k = r at hrt
      refine j_iload_n (pc := 5) C rfl dX2_grow_5 rfl ?_
      refine j_bipush (pc := 6) (v := 10) C dX2_grow_6 (by decide) ?_
      refine j_icmp_le (pc := 8) (tgt := 13) C dX2_grow_8 (by decide) (fun _ => ?_) (fun z9 => absurd (show nI (t + 1) ≤ nI 10 from nI_le (by omega) (by decide)) z9)
      obtain ⟨h1, h2, h3, h4, h5, h6, h7, h8⟩ := id hp
      refine j_aload_n (pc := 13) C rfl dX2_grow_13 rfl ?_
      refine j_get (pc := 14) C hin_X2 h1 rfl 3 (by decide) (by decide +kernel) rfl dX2_grow_14 ?_
      refine j_iload_n (pc := 17) C rfl dX2_grow_17 rfl ?_
      refine j_aldI (pc := 18) (v := .ref (ad (19 + i))) C h6 rfl (show i < 11 by omega) (by decide) (rws_at (by omega)) dX2_grow_18 ?_
      refine j_iload_n (pc := 19) C rfl dX2_grow_19 rfl ?_
      refine j_iald (pc := 20) C (h7 i (by omega)) rfl (show i + k < 11 by omega) (by decide) dX2_grow_20 ?_
      refine j_st (by rw [hfp i k hkp hik, hR]) ?_
      refine j_istore_4 (pc := 21) C dX2_grow_21 (by decide) rfl ?_
      obtain ⟨qn, hqn, hqL⟩ := fresh_at L 1000
      refine j_new (pc := 23) (ci := 2) (k2 := 1) (n2 := 4) (fs := [.int 0, .int 0, .null, .null]) C qn hqL hin_X1 tyX1 tyX1_ok (by decide +kernel) (by decide +kernel) (by decide +kernel) rfl (fun j hj => by rcases (show j = 0 ∨ j = 1 ∨ j = 2 ∨ j = 3 by omega) with rfl | rfl | rfl | rfl <;> rfl) rfl rfl (by show 1 ≤ k; omega) (by show 4 ≤ 4 * k; omega) dX2_grow_23 (fun a => ?_)
      have hfr0 : FrN L w (L ++ [qn]) (va_up w qn (a, .inr (2, [.int 0, .int 0, .null, .null]))) := (Fr.push (M := fun _ => False) rfl hqL).mono (fun m h => h) (fun m h => by omega)
      have hp0 := hp.fr hfr0 (fun _ _ _ h => h)
      have hn0 : Hs (L ++ [qn]) (va_up w qn (a, .inr (2, [.int 0, .int 0, .null, .null]))) qn a (.inr (2, [.int 0, .int 0, .null, .null])) := Hs.nw
      generalize va_up w qn (a, .inr (2, [.int 0, .int 0, .null, .null])) = w0 at hfr0 hp0 hn0 ⊢
      generalize L ++ [qn] = L0 at hfr0 hp0 hn0 ⊢
      obtain ⟨h1, h2, h3, h4, h5, h6, h7, h8⟩ := id hp0
      refine j_dup (pc := 26) C dX2_grow_26 rfl ?_
      refine j_aload_n (pc := 27) C rfl dX2_grow_27 rfl ?_
      refine j_get (pc := 28) C hin_X2 h1 rfl 0 (by decide) (by decide +kernel) rfl dX2_grow_28 ?_
      refine j_iload (pc := 31) C dX2_grow_31 rfl ?_
      refine j_iald (pc := 33) C h2 rfl (show r < 10 by omega) (by decide) dX2_grow_33 ?_
      refine j_st (by rw [hky r (by omega)]) ?_
      refine j_iload_n (pc := 34) C rfl dX2_grow_34 rfl ?_
      refine j_aload_n (pc := 35) C rfl dX2_grow_35 rfl ?_
      refine j_iload_n (pc := 36) C rfl dX2_grow_36 rfl ?_
      refine j_iload (pc := 37) C dX2_grow_37 rfl ?_
      refine j_iload_n (pc := 39) C rfl dX2_grow_39 rfl ?_
      refine j_iconst (pc := 40) (v := 1) C dX2_grow_40 (by decide) ?_
      refine j_iadd (pc := 41) C dX2_grow_41 ?_
      refine j_st (by rw [nI_1]) ?_
      refine jS_q (pc := 42) (k2 := 1 + (r - i)) (n2 := 4 + 4 * (r - i)) (np := 4) (As := [.ref (ad 3), .int (nI i), .int (nI r), .int (nI (t + 1 + 1))]) C (by have := ih i (r - i) (t + 1) L0 w0 hp0 (by omega) (by omega) (by omega) (by omega); rw [show i + (r - i) = r by omega] at this; exact this) gX2_grow_X2_grow rfl (by decide +kernel) ⟨by show 10 * (5 + f) + 1 ≤ 10 * (5 + (f + 1)); omega, by show 8 + (5 + 11) + 200 * (5 + f) ≤ 200 * (5 + (f + 1)); omega⟩ rfl rfl (Nat.le_of_ble_eq_true rfl) dX2_grow_42 (Nat.le_refl _) (Nat.le_refl _) ⟨by show 1 + (r - i) ≤ k; omega, by show 4 + 4 * (r - i) ≤ 4 * k; omega⟩ (fun le L1 w1 hu1 => ?_)
      obtain ⟨ht1, hfr1⟩ := hu1
      have hp1 := hp0.fr hfr1 (fun _ _ _ h => h)
      have hn1 := hfr1.hs hn0 (fun h => h)
      refine j_aload_n (pc := 45) C rfl dX2_grow_45 rfl ?_
      refine j_iload (pc := 46) C dX2_grow_46 rfl ?_
      refine j_iconst (pc := 48) (v := 1) C dX2_grow_48 (by decide) ?_
      refine j_iadd (pc := 49) C dX2_grow_49 ?_
      refine j_st (by rw [nI_1]) ?_
      refine j_iload_n (pc := 50) C rfl dX2_grow_50 rfl ?_
      refine j_iload_n (pc := 51) C rfl dX2_grow_51 rfl ?_
      refine j_iconst (pc := 52) (v := 1) C dX2_grow_52 (by decide) ?_
      refine j_iadd (pc := 53) C dX2_grow_53 ?_
      refine j_st (by rw [nI_1]) ?_
      refine jS_q (pc := 54) (k2 := k) (n2 := 4 * k) (np := 4) (As := [.ref (ad 3), .int (nI (r + 1)), .int (nI (i + k)), .int (nI (t + 1 + 1))]) C (by have := ih (r + 1) (i + k - r - 1) (t + 1) L1 w1 hp1 (by omega) (by omega) (by omega) (by omega); rw [show r + 1 + (i + k - r - 1) = i + k by omega] at this; exact this) gX2_grow_X2_grow rfl (by decide +kernel) ⟨by show 10 * (5 + f) + 1 ≤ 10 * (5 + (f + 1)); omega, by show 8 + (5 + 11) + 200 * (5 + f) ≤ 200 * (5 + (f + 1)); omega⟩ rfl rfl (by cases le <;> exact Nat.le_of_ble_eq_true rfl) dX2_grow_54 (by show 1 + (r - i) + (i + k - r - 1) ≤ k; omega) (by show 4 + 4 * (r - i) + 4 * (i + k - r - 1) ≤ 4 * k; omega) ⟨Nat.le_refl _, Nat.le_refl _⟩ (fun gr L2 w2 hu2 => ?_)
      obtain ⟨ht2, hfr2⟩ := hu2
      have hn2 := hfr2.hs hn1 (fun h => h)
      refine jI_v (pc := 57) (k2 := k) (n2 := 4 * k) (np := 4) (As := [.int (ky r), .int (nI (t + 1)), va_rf le, va_rf gr]) C (ct_X1_init hn2 (ky r) (nI (t + 1)) le gr) gX2_grow_X1_init rfl (by decide +kernel) (by decide +kernel) (by decide +kernel) rfl (by decide +kernel) ⟨by show 10 * 2 + 1 ≤ 10 * (5 + (f + 1)); omega, by show 8 + (5 + 11) + 200 * 2 ≤ 200 * (5 + (f + 1)); omega⟩ rfl rfl (Nat.le_of_ble_eq_true rfl) dX2_grow_57 (Nat.le_refl _) (Nat.le_refl _) ⟨Nat.le_refl _, Nat.le_refl _⟩ (fun L3 w3 hu3 => ?_)
      cases hu3
      have hnot : ∀ m b nu9 t9 le9 gr9, t9 < 1000 → Hs L2 w2 m b (nodeE nu9 (nI (t9 + 1)) le9 gr9) → va_up w2 qn (a, nodeE (ky r) (nI (t + 1)) le gr) m = w2 m := fun m b nu9 t9 le9 gr9 h9 hh => va_up_ne _ _ (fun z => by
        subst z
        have h10 := hh.2.symm.trans hn2.2
        simp only [Prod.mk.injEq, Sum.inr.injEq, List.cons.injEq, Value.int.injEq] at h10
        exact node_ne h9 h10.2.2.2.1)
      have ht1b : TrH L2 w2 ky wt f i (r - i) (t + 1) le := TrH.fr hfr2 (fun _ _ _ h => h) f _ _ _ _ ht1
      refine ret_a (r := some a) C rfl rfl hr (Or.inl ⟨_, rfl⟩) hlk dX2_grow_60 ⟨Or.inr ⟨hkp, qn, a, le, gr, rfl, hqn, by rw [hR]; exact hn2.me, ?_, ?_⟩, ?_⟩ (Nat.le_refl _) (Nat.le_refl _)
      · rw [hR]; exact TrH.fr2 (fun _ h => h) hnot f _ _ _ _ (by omega) ht1b
      · rw [hR]; exact TrH.fr2 (fun _ h => h) hnot f _ _ _ _ (by omega) ht2
      · refine ⟨fun m hm => hfr2.1 m (hfr1.1 m (hfr0.1 m hm)), fun m hm _ => ?_, fun m hm => ((hfr0.tr hfr1).tr hfr2).2.2 m hm⟩
        have e1 := ((hfr0.tr hfr1).tr hfr2).2.1 m hm (fun h => h)
        show va_up w2 qn _ m = w m
        rw [va_up_ne _ _ (fun z => hqL (by rw [← z]; exact hm))]
        exact e1

set_option maxRecDepth 100000 in
set_option maxHeartbeats 4000000 in
theorem ct_bestTree {l : Launch} {G : Gp} {L : List Nat} {w : Wn} {ad : Nat → Nat} {sz : Nat} {nu we : Nat → Int32} {co fp : Nat → Nat → Int32} (hp : PL G ad L w sz nu we co fp) {ky : Nat → Int32} {wt : Nat → Nat} (hky : ∀ r, r < sz → nu r = ky r) (hfp : ∀ i k, 0 < k → i + k ≤ sz → fp i (i + k) = nI (rt wt i k)) : CQ l yX2_bestTree wsX2_bestTree (rmD 16 sz (4 * sz)) G L w [.ref (ad 3)] (fun r u => TrH u.1 u.2 ky wt 10 0 sz 0 r ∧ FrN L w u.1 u.2) := by
  refine mk_q (cc := cX2_bestTree) (maxL := 1) [some (.ref (ad 3))] (by decide) rfl (Nat.le_of_ble_eq_true rfl) rfl ?_
  intro p e s m args below meth c A C hr hlk hnm
  have hin_X2 : ∀ x ∈ u_ws RX2 TX2 5, x ∈ wsX2_bestTree := by decide +kernel
  obtain ⟨h1, h2, h3, h4, h5, h6, h7, h8⟩ := id hp
  refine j_aload_n (pc := 0) C rfl dX2_bestTree_0 rfl ?_
  refine j_iconst (pc := 1) (v := 0) C dX2_bestTree_1 (by decide) ?_
  refine j_aload_n (pc := 2) C rfl dX2_bestTree_2 rfl ?_
  refine j_get (pc := 3) C hin_X2 h1 rfl 4 (by decide) (by decide +kernel) rfl dX2_bestTree_3 ?_
  refine j_iconst (pc := 6) (v := 1) C dX2_bestTree_6 (by decide) ?_
  refine jS_q (pc := 7) (k2 := sz) (n2 := (4 * sz)) (np := 4) (As := [.ref (ad 3), .int 0, .int (nI sz), .int 1]) C ((show CQ l yX2_grow wsX2_grow (rmD (5 + 10) sz (4 * sz)) G L w [.ref (ad 3), .int 0, .int (nI sz), .int 1] _ from by have := ct_grow (l := l) hky hfp 10 0 sz 0 L w hp (by omega) (by omega) (by omega) (by omega); rw [Nat.zero_add] at this; exact this)) gX2_bestTree_X2_grow rfl (by decide +kernel) ⟨by show 10 * (5 + 10) + 1 ≤ 10 * 16; decide, by show 8 + (5 + 11) + 200 * (5 + 10) ≤ 200 * 16; decide⟩ rfl rfl (Nat.le_of_ble_eq_true rfl) dX2_bestTree_7 (Nat.le_of_eq (Nat.zero_add _)) (Nat.le_of_eq (Nat.zero_add _)) ⟨Nat.le_refl _, Nat.le_refl _⟩ (fun v L2 w2 hu => ?_)
  exact ret_a (r := v) C rfl rfl hr (Or.inl ⟨_, rfl⟩) hlk dX2_bestTree_10 hu (Nat.le_refl _) (Nat.le_refl _)

