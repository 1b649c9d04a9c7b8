/-! AN OBJECT'S STATE WITHOUT ADDRESSES: compiled, frequencies, defaults, rules -/
abbrev Ms : Type := Int32 × (Nat → Nat) × (Nat → Int32) × (Nat → EL)
def OS (G : Gp) (ad : Nat → Nat) (L : List Nat) (w : Wn) (S : Ms) : Prop := ∃ E, CS G ad L w S.1 (S.1 = 1) S.2.1 S.2.2.1 E ∧ (∀ j, vld (S.2.2.1 j) 7) ∧ S.2.2.2 = fun j => zl (E j)
theorem CS.frx {M N : Nat → Prop} {G : Gp} {ad : Nat → Nat} {L L2 : List Nat} {w w2 : Wn} {cp : Int32} {b : Prop} {fq : Nat → Nat} {df : Nat → Int32} {E : Nat → EL} (h : CS G ad L w cp b fq df E) (hf : Fr M N L w L2 w2) (hM : ∀ m, M m → 142 ≤ m ∧ m < 1000) (hN : ∀ m, N m → 142 ≤ m) : CS G ad L2 w2 cp b fq df E := by
  obtain ⟨h0, hfa, hfq, hfb, ⟨sz, nu, we, co, fp, hp, hz⟩, hcf, hcp⟩ := h
  have k : ∀ m, m < 142 → ¬ M m := fun m z1 z2 => by have := hM m z2; omega
  have k2 : ∀ m, 1000 ≤ m → ¬ M m := fun m z1 z2 => by have := hM m z2; omega
  have k3 : ∀ m, m < 142 → ¬ N m := fun m z1 z2 => by have := hN m z2; omega
  exact ⟨hf.hs h0 (k _ (by decide)), hf.hs hfa (k _ (by decide)), hf.hs hfq (k _ (by decide)), hfb, ⟨sz, nu, we, co, fp, hp.fr hf (fun m _ z => k m (by omega)), hz⟩, fun j hj => (hcf j hj).fr hj hf (fun m z1 z2 => k m (by omega)) (fun m z1 z2 => ⟨k m (by omega), k3 m (by omega)⟩) (fun m z1 _ => k2 m z1), hcp⟩
theorem CS.le {G : Gp} {ad : Nat → Nat} {L : List Nat} {w : Wn} {cp : Int32} {b : Prop} {fq : Nat → Nat} {df : Nat → Int32} {E : Nat → EL} (h : CS G ad L w cp b fq df E) {j : Nat} (hj : j < 4) : (E j).length ≤ 10 := by
  obtain ⟨ft, tc, cl, h1, h2, h3, h4⟩ := h.2.2.2.2.2.1 j hj
  obtain ⟨mc, ed, g1, g2, -⟩ := h2
  exact g2
theorem OS.fr {M N : Nat → Prop} {G : Gp} {ad : Nat → Nat} {L L2 : List Nat} {w w2 : Wn} {S : Ms} (h : OS G ad L w S) (hf : Fr M N L w L2 w2) (hM : ∀ m, M m → 142 ≤ m ∧ m < 1000) (hN : ∀ m, N m → 142 ≤ m) : OS G ad L2 w2 S := by
  obtain ⟨E, h1, h2, h3⟩ := h
  exact ⟨E, h1.frx hf hM hN, h2, h3⟩
theorem OS.le {G : Gp} {ad : Nat → Nat} {L : List Nat} {w : Wn} {S : Ms} (h : OS G ad L w S) {j : Nat} (hj : j < 4) : (S.2.2.2 j).length ≤ 10 := by
  obtain ⟨E, h1, h2, h3⟩ := h
  rw [h3]
  show (zl (E j)).length ≤ 10
  rw [zl_len]
  exact h1.le hj
theorem OS.fq {G : Gp} {ad : Nat → Nat} {L : List Nat} {w : Wn} {S : Ms} (h : OS G ad L w S) (i : Nat) : S.2.1 i ≤ 1000 := by
  obtain ⟨E, h1, h2, h3⟩ := h
  exact h1.2.2.2.1 i
theorem OS.cp {G : Gp} {ad : Nat → Nat} {L : List Nat} {w : Wn} {S : Ms} (h : OS G ad L w S) : S.1 = 0 ∨ S.1 = 1 := by
  obtain ⟨E, h1, h2, h3⟩ := h
  exact h1.2.2.2.2.2.2
theorem OS.df {G : Gp} {ad : Nat → Nat} {L : List Nat} {w : Wn} {S : Ms} (h : OS G ad L w S) (j : Nat) : vld (S.2.2.1 j) 7 := by
  obtain ⟨E, h1, h2, h3⟩ := h
  exact h2 j
theorem OS.at0 {G : Gp} {ad : Nat → Nat} {L : List Nat} {w : Wn} {S : Ms} (h : OS G ad L w S) : Hs L w 0 (ad 0) (sysE ad S.1) := by
  obtain ⟨E, h1, h2, h3⟩ := h
  exact h1.1
/-- one step of the one object leaves the other as it is -/
theorem OS.o {G : Gp} {ap : Nat → Nat} {L L2 : List Nat} {w w2 : Wn} {S : Ms} (h : OS G ap (sL L) (sW w) S) (hf : FrC L w L2 w2) : OS G ap (sL L2) (sW w2) S := h.fr hf.ws (fun m z => by
  by_cases h1 : m < 200
  · rw [sg_lo h1] at z; unfold MC at z; omega
  · by_cases h2 : m < 400
    · omega
    · rw [sg_hi (by omega)] at z; unfold MC at z; omega) (fun m z => by
  by_cases h1 : m < 200
  · rw [sg_lo h1] at z; unfold NC at z; omega
  · omega)
theorem OS.p {G : Gp} {ad : Nat → Nat} {L L2 : List Nat} {w w2 : Wn} {S : Ms} (h : OS G ad L w S) (hf : FrC (sL L) (sW w) (sL L2) (sW w2)) : OS G ad L2 w2 S := h.fr hf.sw (fun m z => by
  by_cases h1 : m < 200
  · rw [sg_lo h1] at z; unfold MC at z; omega
  · by_cases h2 : m < 400
    · omega
    · rw [sg_hi (by omega)] at z; unfold MC at z; omega) (fun m z => by
  by_cases h1 : m < 200
  · rw [sg_lo h1] at z; unfold NC at z; omega
  · omega)
/-! WHAT IT ANSWERS -/
def wsm (S : Ms) : Int32 := smN (fun j => wF S.2.1 (S.2.2.2 j)) 4
def byR (S : Ms) (x : Int32) (f s : Int64) : Int32 := mxN (fun i => fAct x f s (S.2.2.1 i) (S.2.2.2 i)) 4
def pth (S : Ms) (x : Int32) (f s : Int64) : Int32 := smN (fun i => pthT S.2.1 (S.2.2.2 i) x f s) 4
theorem mxN_cg {g g2 : Nat → Int32} : ∀ n, (∀ i, i < n → g i = g2 i) → mxN g n = mxN g2 n
  | 0, _ => rfl
  | n + 1, h => by
    unfold mxN
    rw [mxN_cg n (fun i hi => h i (by omega)), h n (by omega)]
section READS
variable {l : Launch} {G : Gp} {ad : Nat → Nat} {L : List Nat} {w : Wn} {S : Ms}
theorem vld_nI {j n : Nat} (h : j < n) : vld (nI j) n := ⟨j, h, rfl⟩
theorem cr_rules (hlt : l.stackTraces = false) (h : OS G ad L w S) {j : Nat} (hj : j < 4) : CI l yX4_rules wsX4_rules (rmD 30 10 100) G L w [.ref (ad 0), .int (nI j)] (fun r u => r = nI (S.2.2.2 j).length ∧ u = (L, w)) := by
  obtain ⟨E, h1, h2, h3⟩ := h
  refine ((ct_rules hlt h1 (nI j)).mono (xp2 := fun _ _ => False) (fun r u z => ?_) (fun E u z => z.2.1 (vld_nI hj))).ci (fun _ _ z => z)
  obtain ⟨i, hi, e, hr, hu⟩ := z
  have := nI_inj (by omega) (by omega) e
  subst this
  refine ⟨?_, hu⟩
  rw [hr, h3]
  show _ = nI (zl (E j)).length
  rw [zl_len]
theorem cr_hider (hlt : l.stackTraces = false) (h : OS G ad L w S) {j i : Nat} (hj : j < 4) (hi : i < (S.2.2.2 j).length) : CI l yX4_hider wsX4_hider (rmD 30 10 100) G L w [.ref (ad 0), .int (nI j), .int (nI i)] (fun r u => r = onI (hid (rul (S.2.2.2 j)) i) ∧ u = (L, w)) := by
  have hle := h.le hj
  obtain ⟨E, h1, h2, h3⟩ := h
  have hlen : (S.2.2.2 j).length = (E j).length := by
    rw [h3]
    exact zl_len _
  refine ((ct_hider hlt h1 (nI j) (nI i)).mono (xp2 := fun _ _ => False) (fun r u z => ?_) (fun E u z => ?_)).ci (fun _ _ z => z)
  · obtain ⟨j2, hj2, e, i2, hi2, e2, hr, hu⟩ := z
    have := nI_inj (by omega) (by omega) e
    subst this
    have hle2 := h1.le hj2
    have := nI_inj (by omega) (by omega) e2
    subst this
    refine ⟨?_, hu⟩
    rw [hr, h3]
    show _ = onI (hid (rul (zl (_ : EL))) _)
    rw [zl_rul]
  · rcases z with ⟨-, z, -⟩ | ⟨-, j2, hj2, e, z, -⟩
    · exact z (vld_nI hj)
    · have := nI_inj (by omega) (by omega) e
      subst this
      exact z (vld_nI (by omega))
theorem cr_isCompiled (h : OS G ad L w S) : CI l yX4_isCompiled wsX4_isCompiled (rmD 30 10 100) G L w [.ref (ad 0)] (fun r u => r = S.1 ∧ u = (L, w)) := by
  obtain ⟨E, h1, h2, h3⟩ := h
  exact ct_isCompiled h1
theorem cr_worst (hlt : l.stackTraces = false) (h : OS G ad L w S) {j : Nat} (hj : j < 4) (hc : S.1 = 1) : CI l yX4_worst wsX4_worst (rmD 30 10 100) G L w [.ref (ad 0), .int (nI j)] (fun r u => r = wF S.2.1 (S.2.2.2 j) ∧ u = (L, w)) := by
  obtain ⟨E, h1, h2, h3⟩ := h
  refine ((ct_worst hlt h1 (nI j)).mono (xp2 := fun _ _ => False) (fun r u z => ?_) (fun E u z => ?_)).ci (fun _ _ z => z)
  · obtain ⟨i, hi, e, -, hr, hu⟩ := z
    have := nI_inj (by omega) (by omega) e
    subst this
    refine ⟨?_, hu⟩
    rw [hr, h3]
    exact (zl_wF _ _).symm
  · rcases z with ⟨-, z, -⟩ | ⟨-, -, z, -⟩
    · exact z (vld_nI hj)
    · exact z hc
theorem cr_actionOf (hlt : l.stackTraces = false) (h : OS G ad L w S) {j : Nat} (hj : j < 4) {x : Int32} (hx : vld x 32) (fi se : Int64) : CI l yX4_actionOf wsX4_actionOf (rmD 30 10 100) G L w [.ref (ad 0), .int (nI j), .int x, .long fi, .long se] (fun r u => r = fAct x fi se (S.2.2.1 j) (S.2.2.2 j) ∧ u = (L, w)) := by
  obtain ⟨E, h1, h2, h3⟩ := h
  refine ((ct_actionOf hlt h1 (nI j) x fi se).mono (xp2 := fun _ _ => False) (fun r u z => ?_) (fun E u z => z.2.1 ⟨vld_nI hj, hx⟩)).ci (fun _ _ z => z)
  obtain ⟨i, hi, e, -, hr, hu⟩ := z
  have := nI_inj (by omega) (by omega) e
  subst this
  refine ⟨?_, hu⟩
  rw [hr, h3]
  exact (zl_fAct _ _ _ _ _).symm
theorem cr_judgeByRules (hlt : l.stackTraces = false) (h : OS G ad L w S) {x : Int32} (hx : vld x 32) (fi se : Int64) : CI l yX4_judgeByRules wsX4_judgeByRules (rmD 30 10 100) G L w [.ref (ad 0), .int x, .long fi, .long se] (fun r u => r = byR S x fi se ∧ u = (L, w)) := by
  obtain ⟨E, h1, h2, h3⟩ := h
  refine ((ct_judgeByRules hlt h1 x fi se).mono (xp2 := fun _ _ => False) (fun r u z => ?_) (fun E u z => z.2.1 hx)).ci (fun _ _ z => z)
  obtain ⟨-, hr, hu⟩ := z
  refine ⟨?_, hu⟩
  unfold byR
  rw [hr, h3]
  congr 1
  funext i
  exact (zl_fAct _ _ _ _ _).symm
/-- by the trees as by the rules -/
theorem cx_judge (hlt : l.stackTraces = false) (h : OS G ad L w S) {x : Int32} (hx : vld x 32) (fi se : Int64) : XI l yX4_judge wsX4_judge (rmD 30 10 100) G L w [.ref (ad 0), .int x, .long fi, .long se] (fun r u => S.1 = 1 ∧ r = byR S x fi se ∧ u = (L, w)) (fun E9 u => E9 = ISE ∧ ¬ S.1 = 1 ∧ u = (L, w)) := by
  obtain ⟨E, h1, h2, h3⟩ := h
  refine (ct_judge hlt h1 x fi se).mono (fun r u z => ?_) (fun E u z => ?_)
  · obtain ⟨-, hc, hr, hu⟩ := z
    refine ⟨hc, ?_, hu⟩
    unfold byR
    rw [hr, h3]
    exact mxN_cg 4 (fun i hi => by rw [actT_eq (h1.le hi) hx]; exact (zl_fAct _ _ _ _ _).symm)
  · rcases z with ⟨-, z, -⟩ | ⟨e, -, z, hu⟩
    · exact absurd hx z
    · exact ⟨e, z, hu⟩
theorem cx_path (hlt : l.stackTraces = false) (h : OS G ad L w S) {x : Int32} (hx : vld x 32) (fi se : Int64) : XI l yX4_path wsX4_path (rmD 30 10 100) G L w [.ref (ad 0), .int x, .long fi, .long se] (fun r u => S.1 = 1 ∧ r = pth S x fi se ∧ u = (L, w)) (fun E9 u => E9 = ISE ∧ ¬ S.1 = 1 ∧ u = (L, w)) := by
  obtain ⟨E, h1, h2, h3⟩ := h
  refine (ct_path hlt h1 x fi se).mono (fun r u z => ?_) (fun E u z => ?_)
  · obtain ⟨-, hc, hr, hu⟩ := z
    refine ⟨hc, ?_, hu⟩
    unfold pth
    rw [hr, h3]
    congr 1
    funext i
    exact (zl_pthT _ _ _ _ _).symm
  · rcases z with ⟨-, z, -⟩ | ⟨e, -, z, hu⟩
    · exact absurd hx z
    · exact ⟨e, z, hu⟩
end READS
/-! ITS SUMS -/
theorem OS.wsmN {G : Gp} {ad : Nat → Nat} {L : List Nat} {w : Wn} {S : Ms} (h : OS G ad L w S) : wsm S = nI (smn (fun j => wFn S.2.1 (S.2.2.2 j)) 4) := by
  unfold wsm
  exact smN_n 4 (fun i hi => wF_n (h.le hi))
theorem OS.wsm_le {G : Gp} {ad : Nat → Nat} {L : List Nat} {w : Wn} {S : Ms} (h : OS G ad L w S) : smn (fun j => wFn S.2.1 (S.2.2.2 j)) 4 ≤ 120 := smn_bd (B := 30) 4 (fun i hi => wFn_le (h.le hi))
theorem OS.pthN {G : Gp} {ad : Nat → Nat} {L : List Nat} {w : Wn} {S : Ms} (h : OS G ad L w S) {x : Int32} (hx : vld x 32) (f s : Int64) : ∃ q, pth S x f s = nI q ∧ q ≤ smn (fun j => wFn S.2.1 (S.2.2.2 j)) 4 := by
  refine ⟨smn (fun i => pTn S.2.1 (S.2.2.2 i) x f s) 4, ?_, smn_le 4 (fun i hi => pTn_le hx)⟩
  unfold pth
  exact smN_n 4 (fun i hi => pth_n _ _ _ _ _)
