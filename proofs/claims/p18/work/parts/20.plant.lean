/-! A FILTER PLANNED -/
/-- the numbers below k that some rule of the list has -/
def kys (cl : EL) : Nat → List Nat
  | 0 => []
  | k + 1 => if hasN (nI k) cl = true then kys cl k ++ [k] else kys cl k
theorem kys_le : ∀ (cl : EL) (k : Nat), k ≤ 32 → (kys cl k).length ≤ cl.length
  | [], k, _ => by
    have : ∀ k, kys [] k = [] := fun k => by
      induction k with
      | zero => rfl
      | succ k ih => show (if hasN (nI k) [] = true then _ else _) = _; rw [if_neg (by simp [hasN])]; exact ih
    rw [this]
    exact Nat.le_refl _
  | e :: t, k, hk => by
    have main : ∀ k, k ≤ 32 → (kys (e :: t) k).length ≤ (kys t k).length + 1 ∧ ((∀ x, x < k → e.2.1 ≠ nI x) → (kys (e :: t) k).length ≤ (kys t k).length) := by
      intro k
      induction k with
      | zero => intro _; exact ⟨by simp [kys], fun _ => by simp [kys]⟩
      | succ k ih =>
        intro hk
        obtain ⟨a, b⟩ := ih (by omega)
        have h0 : hasN (nI k) (e :: t) = if e.2.1 = nI k then true else hasN (nI k) t := rfl
        by_cases c : e.2.1 = nI k
        · have b2 := b (fun x hx z => by
            have := nI_inj (a := k) (b := x) (by omega) (by omega) (c.symm.trans z)
            omega)
          refine ⟨?_, fun q => absurd c (q k (by omega))⟩
          show (if _ then _ else _ : List Nat).length ≤ (if _ then _ else _ : List Nat).length + 1
          rw [h0, if_pos c, if_pos rfl, List.length_append]
          split
          · rw [List.length_append]; simp; omega
          · simp; omega
        · have h1 : hasN (nI k) (e :: t) = hasN (nI k) t := by rw [h0, if_neg c]
          constructor
          · show (if _ then _ else _ : List Nat).length ≤ (if _ then _ else _ : List Nat).length + 1
            rw [h1]
            split
            · rw [List.length_append, List.length_append]; simp; omega
            · omega
          · intro q
            have b2 := b (fun x hx => q x (by omega))
            show (if _ then _ else _ : List Nat).length ≤ (if _ then _ else _ : List Nat).length
            rw [h1]
            split
            · rw [List.length_append, List.length_append]; simp; omega
            · omega
    have := (main k hk).1
    have := kys_le t k hk
    simp only [List.length_cons]
    omega
def kyF (cl : EL) (r : Nat) : Int32 := nI ((kys cl 32).getD r 0)
def wtF (fq : Nat → Nat) (cl : EL) (r : Nat) : Nat := fq ((kys cl 32).getD r 0) + 1
def ksz (cl : EL) : Nat := (kys cl 32).length
theorem getD_app {l : List Nat} {x : Nat} : (l ++ [x]).getD l.length 0 = x := by simp [List.getD]
theorem getD_app_lt {l : List Nat} {x r : Nat} (h : r < l.length) : (l ++ [x]).getD r 0 = l.getD r 0 := by
  simp [List.getD, List.getElem?_append_left h]
theorem put_rf {v : Option Nat} : narrow (.object "SyscallFilter$Node") (va_rf v) = va_rf v := by cases v <;> rfl
theorem fit_rf {v : Option Nat} : fits (.object "SyscallFilter$Node") (va_rf v) = true := by cases v <;> rfl
set_option maxRecDepth 100000 in
set_option maxHeartbeats 4000000 in
theorem plt_loop {p : Program} {e : Env} {s : State} {m : MethodId} {args : Array Value} {below : List Frame} {meth : Method} {c : Code} {A : Nat → Prop} {post : Sw → Prop} {l : Launch} {G : Gp} {L : List Nat} {ad : Nat → Nat} {qF aF rl rc : Nat} {df tc : Int32} {ft : Option Nat} {qc : Nat} {cl : EL} {co fp : Nat → Nat → Int32} {fq : Nat → Nat} (hfq : ∀ i, fq i ≤ 1000) (hqF : 30 ≤ qF ∧ qF < 100) (hqc : 30 ≤ qc ∧ qc < 100) (hcl : cl.length ≤ 10) (C : Cx p s m args c cX0_planTree yX0_planTree.cls 4 wsX0_planTree G A s.heap) (hr : meth.sig.returnType = none) (hlk : meth.locks = false) : ∀ (f x : Nat) (w : Wn) (nu we : Nat → Int32), 32 - x = f → x ≤ 32 → Hs L w qF aF (filE rl rc df ft tc) → Lst G L w qc rc cl → Hs L w 2 (ad 2) (iarE G 32 (fun i => nI (fq i))) → PL G ad L w (kys cl x).length nu we co fp → (∀ r, r < (kys cl x).length → nu r = nI ((kys cl x).getD r 0)) → (∀ r, r < (kys cl x).length → we r = nI (fq ((kys cl x).getD r 0) + 1)) → (∀ (w2 : Wn), (∃ (nu2 we2 : Nat → Int32), PL G ad L w2 (ksz cl) nu2 we2 co fp ∧ (∀ r, r < ksz cl → nu2 r = kyF cl r) ∧ (∀ r, r < ksz cl → we2 r = nI (wtF fq cl r)) ∧ FrP L w L w2) → J p l e (rmD 17 20 140) s m args below meth c G A s.heap 4 (MQ below (va_Qv post (PB G A) A) args s (rmD 17 20 140).cells (rmD 17 20 140).slots A) L w2 10 100 40 [some (.ref aF), some (.ref (ad 3)), some (.ref (ad 2)), none] []) → J p l e (rmD 17 20 140) s m args below meth c G A s.heap 4 (MQ below (va_Qv post (PB G A) A) args s (rmD 17 20 140).cells (rmD 17 20 140).slots A) L w 10 100 10 [some (.ref aF), some (.ref (ad 3)), some (.ref (ad 2)), some (.int (nI x))] [] := by
  intro f
  induction f using Nat.strongRecOn with
  | _ f ih =>
    intro x w nu we hf hx hF hC hq hp hnu hwe hend
    refine j_iload_n (pc := 10) C rfl dX0_planTree_10 rfl ?_
    refine j_aload_n (pc := 11) C rfl dX0_planTree_11 rfl ?_
    refine j_alenI (pc := 12) C hq dX0_planTree_12 ?_
    refine j_icmp_ge (pc := 13) (tgt := 40) C dX0_planTree_13 (by decide) (fun c13 => ?_) (fun c13 => ?_)
    · have c13 := nI_le_of (by decide) (by omega) (show nI 32 ≤ nI x from c13)
      have e9 : x = 32 := by omega
      subst e9
      exact j_weak (lo2 := [some (.ref aF), some (.ref (ad 3)), some (.ref (ad 2)), none]) ⟨rfl, rfl, rfl, trivial⟩ (hend w ⟨nu, we, hp, hnu, hwe, Fr.rf⟩)
    · have c13 := nI_gt_of (by decide) (by omega) (show ¬ nI 32 ≤ nI x from c13)
      refine j_aload_n (pc := 16) C rfl dX0_planTree_16 rfl ?_
      refine j_iload_n (pc := 17) C rfl dX0_planTree_17 rfl ?_
      refine jV_i0 (pc := 18) (k2 := 10) (n2 := 100) (np := 1) (As := [.int (nI x)]) C (ct_isReached hF hC (nI x)) gX0_planTree_X0_isReached rfl (by decide +kernel) ⟨by decide, by decide⟩ hF rfl rfl rfl (Nat.le_of_ble_eq_true rfl) dX0_planTree_18 (by decide) (by decide) ⟨by decide, by decide⟩ (fun v hv => ?_)
      subst hv
      refine j_if_eq (pc := 21) (tgt := 34) C dX0_planTree_21 (by decide) (fun c21 => ?_) (fun c21 => ?_)
      · have c21 := bI_0 c21
        have hks : kys cl (x + 1) = kys cl x := by show (if _ then _ else _) = _; rw [if_neg (by rw [c21]; decide)]
        refine j_iinc_3 (pc := 34) (d := 1) C dX0_planTree_34 (by decide) rfl rfl ?_
        refine j_lo (by rw [nI_1]) ?_
        refine j_goto (pc := 37) (tgt := 10) C dX0_planTree_37 (by decide) ?_
        exact ih (32 - (x + 1)) (by omega) (x + 1) w _ _ rfl (by omega) hF hC hq (by rw [hks]; exact hp) (fun r hr9 => by rw [hks] at hr9 ⊢; exact hnu r hr9) (fun r hr9 => by rw [hks] at hr9 ⊢; exact hwe r hr9) hend
      · have c21 := bI_1 c21
        have hks : kys cl (x + 1) = kys cl x ++ [x] := by show (if _ then _ else _) = _; rw [if_pos c21]
        refine j_aload_n (pc := 24) C rfl dX0_planTree_24 rfl ?_
        refine j_iload_n (pc := 25) C rfl dX0_planTree_25 rfl ?_
        refine j_aload_n (pc := 26) C rfl dX0_planTree_26 rfl ?_
        refine j_iload_n (pc := 27) C rfl dX0_planTree_27 rfl ?_
        refine j_iald (pc := 28) C hq rfl (show x < 32 by omega) (by decide) dX0_planTree_28 ?_
        refine j_iconst (pc := 29) (v := 1) C dX0_planTree_29 (by decide) ?_
        refine j_iadd (pc := 30) C dX0_planTree_30 ?_
        refine j_st (by rw [nI_1]) ?_
        refine jV_v (pc := 31) (k2 := 10) (n2 := 100) (np := 2) (As := [.int (nI x), .int (nI (fq x + 1))]) C (ct_take hp (by have := kys_le cl (x + 1) (by omega); rw [hks, List.length_append] at this; simp at this; omega) (nI x) (nI (fq x + 1))) gX0_planTree_X2_take rfl (by decide +kernel) ⟨by decide, by decide⟩ hp.1 rfl rfl rfl (Nat.le_of_ble_eq_true rfl) dX0_planTree_31 (by decide) (by decide) ⟨by decide, by decide⟩ (fun L2 w2 hu => ?_)
        obtain ⟨hp2, hfr, hL2⟩ := hu
        dsimp only at hp2 hfr hL2
        subst hL2
        refine j_iinc_3 (pc := 34) (d := 1) C dX0_planTree_34 (by decide) rfl rfl ?_
        refine j_lo (by rw [nI_1]) ?_
        refine j_goto (pc := 37) (tgt := 10) C dX0_planTree_37 (by decide) ?_
        exact ih (32 - (x + 1)) (by omega) (x + 1) w2 _ _ rfl (by omega) (hfr.hs hF (by omega)) (hC.fr hfr (by omega) (by omega) (fun z => z) (fun m h _ z => by omega)) (hfr.hs hq (by decide)) (by rw [hks, List.length_append]; exact hp2) (fun r hr9 => by rw [hks] at hr9 ⊢; rw [List.length_append] at hr9; simp at hr9; by_cases e : r = (kys cl x).length; (subst e; rw [getD_app]; simp [upd]); (rw [getD_app_lt (by omega)]; simp [upd, e]; exact hnu r (by omega))) (fun r hr9 => by rw [hks] at hr9 ⊢; rw [List.length_append] at hr9; simp at hr9; by_cases e : r = (kys cl x).length; (subst e; rw [getD_app]; simp [upd]); (rw [getD_app_lt (by omega)]; simp [upd, e]; exact hwe r (by omega))) (fun w3 ⟨nu3, we3, g1, g2, g3, g4⟩ => hend w3 ⟨nu3, we3, g1, g2, g3, hfr.tr g4⟩)

abbrev FrT (qF qc : Nat) (L : List Nat) (w : Wn) (L2 : List Nat) (w2 : Wn) : Prop := Fr (fun m => m = qF ∨ m = qc ∨ m = qc + 100 ∨ (3 ≤ m ∧ m < 30)) (fun m => m = qc + 100 ∨ 1000 ≤ m) L w L2 w2
set_option maxRecDepth 100000 in
set_option maxHeartbeats 4000000 in
theorem ct_planTree {l : Launch} {G : Gp} {L : List Nat} {w : Wn} {qF aF rl rc : Nat} {df tc : Int32} {ft : Option Nat} (hF : Hs L w qF aF (filE rl rc df ft tc)) {qr : Nat} {el : EL} (hR : Lst G L w qr rl el) {qc : Nat} {cl : EL} (hC : Lst G L w qc rc cl) {ad : Nat → Nat} {sz : Nat} {nu we : Nat → Int32} {co fp : Nat → Nat → Int32} (hp : PL G ad L w sz nu we co fp) (hz : PZ co) {fq : Nat → Nat} (hfq : ∀ i, fq i ≤ 1000) (hq : Hs L w 2 (ad 2) (iarE G 32 (fun i => nI (fq i)))) (hqF : 30 ≤ qF ∧ qF < 100) (hqr : 30 ≤ qr ∧ qr < 100) (hqc : 30 ≤ qc ∧ qc < 100) (hne1 : qF ≠ qc) (hne2 : qr ≠ qc) (hne3 : qr ≠ qF) : CV l yX0_planTree wsX0_planTree (rmD 17 20 140) G L w [.ref aF, .ref (ad 3), .ref (ad 2)] (fun u => ∃ ft2 tc2 sz2 nu2 we2 co2 fp2, Hs u.1 u.2 qF aF (filE rl rc df ft2 tc2) ∧ Lst G u.1 u.2 qr rl el ∧ Lst G u.1 u.2 qc rc (rch el) ∧ TrH u.1 u.2 (kyF (rch el)) (wtF fq (rch el)) 10 0 (ksz (rch el)) 0 ft2 ∧ tc2 = nI (cs (wtF fq (rch el)) 0 (ksz (rch el))) ∧ PL G ad u.1 u.2 sz2 nu2 we2 co2 fp2 ∧ PZ co2 ∧ FrT qF qc L w u.1 u.2) := by
  refine mk_v (cc := cX0_planTree) (maxL := 4) [some (.ref aF), some (.ref (ad 3)), some (.ref (ad 2)), none] (by decide) rfl (Nat.le_of_ble_eq_true rfl) rfl ?_
  intro p e s m args below meth c A C hr hlk hnm
  have hin_X0 : ∀ x ∈ u_ws RX0 TX0 5, x ∈ wsX0_planTree := by decide +kernel
  refine j_aload_n (pc := 0) C rfl dX0_planTree_0 rfl ?_
  refine jV_v (pc := 1) (k2 := 10) (n2 := 100) (np := 0) (As := []) C (ct_gather hF hR hC hqF.2 hqr.2 hqc.2 hne1 hne2) gX0_planTree_X0_gatherReached rfl (by decide +kernel) ⟨by decide, by decide⟩ hF rfl rfl rfl (Nat.le_of_ble_eq_true rfl) dX0_planTree_1 (by decide) (by decide) ⟨by decide, by decide⟩ (fun L1 w1 hu => ?_)
  obtain ⟨hF1, hR1, hC1, hfr1⟩ := hu
  dsimp only at hF1 hR1 hC1 hfr1
  have hp1 := hp.fr hfr1 (fun m h1 h2 z => by omega)
  have hq1 := hfr1.hs hq (by omega)
  refine j_aload_n (pc := 4) C rfl dX0_planTree_4 rfl ?_
  refine jV_v (pc := 5) (k2 := 10) (n2 := 100) (np := 0) (As := []) C (ct_startAnew hp1) gX0_planTree_X2_startAnew rfl (by decide +kernel) ⟨by decide, by decide⟩ hp1.1 rfl rfl rfl (Nat.le_of_ble_eq_true rfl) dX0_planTree_5 (by decide) (by decide) ⟨by decide, by decide⟩ (fun L2 w2 hu => ?_)
  obtain ⟨hp2, hfr2, hL2⟩ := hu
  dsimp only at hp2 hfr2 hL2
  subst hL2
  have hF2 := hfr2.hs hF1 (by omega)
  have hR2 := hR1.fr hfr2 (by omega) (by omega) (fun z => z) (fun m h _ z => by omega)
  have hC2 := hC1.fr hfr2 (by omega) (by omega) (fun z => z) (fun m h _ z => by omega)
  have hq2 := hfr2.hs hq1 (by decide)
  have hc10 := hC2.le
  refine j_iconst (pc := 8) (v := 0) C dX0_planTree_8 (by decide) ?_
  refine j_istore_3 (pc := 9) C dX0_planTree_9 (by decide) rfl ?_
  refine plt_loop hfq hqF hqc hc10 C hr hlk 32 0 w2 nu we rfl (by decide) hF2 hC2 hq2 hp2 (fun r hr9 => absurd hr9 (Nat.not_lt_zero r)) (fun r hr9 => absurd hr9 (Nat.not_lt_zero r)) (fun w3 ⟨nu3, we3, g1, g2, g3, g4⟩ => ?_)
  have hB : ∀ j, wtF fq (rch el) j ≤ 1001 := fun j => by have := hfq ((kys (rch el) 32).getD j 0); unfold wtF; omega
  have hF3 := g4.hs hF2 (by omega)
  have hR3 := hR2.fr g4 (by omega) (by omega) (fun z => z) (fun m h _ z => by omega)
  have hC3 := hC2.fr g4 (by omega) (by omega) (fun z => z) (fun m h _ z => by omega)
  refine j_aload_n (pc := 40) C rfl dX0_planTree_40 rfl ?_
  refine jV_v (pc := 41) (k2 := 10) (n2 := 100) (np := 0) (As := []) C (ct_weighAllTrees g1 g3 hB hz) gX0_planTree_X2_weighAllTrees rfl (by decide +kernel) ⟨by decide, by decide⟩ g1.1 rfl rfl rfl (Nat.le_of_ble_eq_true rfl) dX0_planTree_41 (by decide) (by decide) ⟨by decide, by decide⟩ (fun L4 w4 hu => ?_)
  obtain ⟨co4, fp4, hp4, htab4, hz4, hfr4, hL4⟩ := hu
  dsimp only at hp4 hfr4 hL4
  subst hL4
  have hF4 := hfr4.hs hF3 (by omega)
  have hR4 := hR3.fr hfr4 (by omega) (by omega) (fun z => z) (fun m h _ z => by omega)
  have hC4 := hC3.fr hfr4 (by omega) (by omega) (fun z => z) (fun m h _ z => by omega)
  have hk10 : ksz (rch el) ≤ 10 := hp4.2.2.2.2.2.2.2
  refine j_aload_n (pc := 44) C rfl dX0_planTree_44 rfl ?_
  refine j_aload_n (pc := 45) C rfl dX0_planTree_45 rfl ?_
  refine jV_q (pc := 46) (k2 := 20) (n2 := 140) (np := 0) (As := []) C (ct_bestTree (ky := kyF (rch el)) (wt := wtF fq (rch el)) hp4 g2 (fun i k h1 h2 => (htab4 i k (Or.inl (by omega)) h2).2 h1)) gX0_planTree_X2_bestTree rfl (by decide +kernel) ⟨by show 10 * 16 + 1 ≤ 10 * 17; decide, by show 8 + (1 + 11) + 200 * 16 ≤ 200 * 17; decide⟩ hp4.1 rfl rfl rfl (Nat.le_of_ble_eq_true rfl) dX0_planTree_46 (by show 10 + ksz (rch el) ≤ 20; omega) (by show 100 + 4 * ksz (rch el) ≤ 140; omega) ⟨by decide, by decide⟩ (fun v L5 w5 hu => ?_)
  obtain ⟨ht5, hfr5⟩ := hu
  dsimp only at ht5 hfr5
  have hp5 := hp4.fr hfr5 (fun _ _ _ z => z)
  have hF5 := hfr5.hs hF4 (fun z => z)
  have hR5 := hR4.fr hfr5 (fun z => z) (fun z => z) (by omega) (fun _ _ _ z => z)
  have hC5 := hC4.fr hfr5 (fun z => z) (fun z => z) (by omega) (fun _ _ _ z => z)
  refine j_put (pc := 49) (fs2 := [.ref rl, .ref rc, .int df, va_rf v, .int tc]) C hin_X0 hF5 rfl 3 (by decide) tyX0 tyX0_ok nmX0 (by decide +kernel) rfl (tyX0_ok 3 (by decide)) put_rf fit_rf (Nat.le_of_ble_eq_true rfl) rfl dX0_planTree_49 ?_
  refine j_nm (fun w49 ew49 => ?_)
  have hfr6 := (Fr.up (N := fun _ => False) (L := L5) ew49)
  have hp6 := hp5.fr hfr6 (fun m h1 h2 z => by omega)
  have hF5 : Hs L5 w49 qF aF (.inr (1, [.ref rl, .ref rc, .int df, va_rf v, .int tc])) := by rw [ew49]; exact hF5.me
  refine j_aload_n (pc := 52) C rfl dX0_planTree_52 rfl ?_
  refine j_aload_n (pc := 53) C rfl dX0_planTree_53 rfl ?_
  refine jV_i0 (pc := 54) (k2 := 20) (n2 := 140) (np := 0) (As := []) C (ct_leastCost hp6) gX0_planTree_X2_leastCost rfl (by decide +kernel) ⟨by decide, by decide⟩ hp6.1 rfl rfl rfl (Nat.le_of_ble_eq_true rfl) dX0_planTree_54 (by decide) (by decide) ⟨by decide, by decide⟩ (fun v2 hv2 => ?_)
  subst hv2
  refine j_put (pc := 57) (fs2 := [.ref rl, .ref rc, .int df, va_rf v, .int (co4 0 (ksz (rch el)))]) C hin_X0 hF5 rfl 4 (by decide) tyX0 tyX0_ok nmX0 (by decide +kernel) rfl (tyX0_ok 4 (by decide)) rfl rfl (Nat.le_of_ble_eq_true rfl) rfl dX0_planTree_57 ?_
  refine j_nm (fun w57 ew57 => ?_)
  have hF5 : Hs L5 w57 qF aF (.inr (1, [.ref rl, .ref rc, .int df, va_rf v, .int (co4 0 (ksz (rch el)))])) := by rw [ew57]; exact hF5.me
  have hfr8 := (Fr.up (N := fun _ => False) (L := L5) ew57)
  have hM8 : ∀ m, 1000 ≤ m → m ∈ L5 → ¬ m = qF := fun m h _ z => by omega
  refine ret_v C rfl hr hlk dX0_planTree_60 ⟨v, _, ksz (rch el), nu3, we3, co4, fp4, hF5, (hR5.fr hfr6 (by omega) (by omega) (fun z => z) hM8).fr hfr8 (by omega) (by omega) (fun z => z) hM8, (hC5.fr hfr6 (by omega) (by omega) (fun z => z) hM8).fr hfr8 (by omega) (by omega) (fun z => z) hM8, TrH.fr hfr8 hM8 _ _ _ _ _ (TrH.fr hfr6 hM8 _ _ _ _ _ ht5), ?_, hp6.fr hfr8 (fun m h1 h2 z => by omega), hz4, ?_⟩ (by decide) (by decide)
  · have := (htab4 0 (ksz (rch el)) (Or.inl (by omega)) (by omega)).1; rw [Nat.zero_add] at this; exact this
  · exact (((((((hfr1.mono (fun m h => by omega) (fun m h => by omega)).tr (hfr2.mono (fun m h => by omega) (fun m h => h.elim))).tr (g4.mono (fun m h => by omega) (fun m h => h.elim))).tr (hfr4.mono (fun m h => by omega) (fun m h => h.elim))).tr (hfr5.mono (fun m h => h.elim) (fun m h => Or.inr h))).tr (hfr6.mono (fun m h => Or.inl h) (fun m h => h.elim))).tr (hfr8.mono (fun m h => Or.inl h) (fun m h => h.elim)))

