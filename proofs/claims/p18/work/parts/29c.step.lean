/-! A CHANGE OF THE STATE, as a function of the state: V: it is done, with r0 and S0; else it throws, and nothing has changed -/
def ix (x : Int32) : Nat := x.toNatClampNeg
theorem ix_nI {j : Nat} (h : j < 2147483648) : ix (nI j) = j := nI_clamp h
def StR (V : Prop) (r0 : Int32) (S0 S : Ms) (r : Int32) (S2 : Ms) : Prop := (V ∧ r = r0 ∧ S2 = S0) ∨ (¬ V ∧ r = -99999 ∧ S2 = S)
theorem StR.det {V : Prop} {r0 : Int32} {S0 S : Ms} {r ra : Int32} {S2 Sa : Ms} (h : StR V r0 S0 S r S2) (g : StR V r0 S0 S ra Sa) : ra = r ∧ Sa = S2 := by
  rcases h with ⟨h1, h2, h3⟩ | ⟨h1, h2, h3⟩ <;> rcases g with ⟨g1, g2, g3⟩ | ⟨g1, g2, g3⟩
  · exact ⟨g2.trans h2.symm, g3.trans h3.symm⟩
  · exact absurd h1 g1
  · exact absurd g1 h1
  · exact ⟨g2.trans h2.symm, g3.trans h3.symm⟩
theorem StR.same {V : Prop} {r0 : Int32} {S0 S : Ms} {r : Int32} {S2 : Ms} (h : StR V r0 S0 S r S2) (hv : V → ¬ r0 = -99999) (hr : r = -99999) : S2 = S := by
  rcases h with ⟨h1, h2, h3⟩ | ⟨h1, h2, h3⟩
  · exact absurd (h2.symm.trans hr) (hv h1)
  · exact h3
def addR (x x2 x3 : Int32) (fi se : Int64) (x4 : Int32) (S : Ms) : Int32 → Ms → Prop := StR (vld x 4 ∧ vld x2 32 ∧ vld x3 2 ∧ vld x4 7 ∧ (S.2.2.2 (ix x)).length < 10) (nI (S.2.2.2 (ix x)).length) (0, S.2.1, S.2.2.1, va_up S.2.2.2 (ix x) (S.2.2.2 (ix x) ++ [(0, (x2, x3, fi, se, x4))])) S
def remR (x x2 : Int32) (S : Ms) : Int32 → Ms → Prop := StR (vld x 4 ∧ vld x2 (S.2.2.2 (ix x)).length) (nI ((S.2.2.2 (ix x)).length - 1)) (0, S.2.1, S.2.2.1, va_up S.2.2.2 (ix x) ((S.2.2.2 (ix x)).eraseIdx (ix x2))) S
def sdfR (x x2 : Int32) (S : Ms) : Int32 → Ms → Prop := StR (vld x 4 ∧ vld x2 7) (S.2.2.1 (ix x)) (if x2 = S.2.2.1 (ix x) then S else (0, S.2.1, va_up S.2.2.1 (ix x) x2, S.2.2.2)) S
def sfqR (x x2 : Int32) (S : Ms) : Int32 → Ms → Prop := StR (vld x 32 ∧ vld x2 1001) (nI (S.2.1 (ix x))) (if x2 = nI (S.2.1 (ix x)) then S else (0, va_up S.2.1 (ix x) (ix x2), S.2.2.1, S.2.2.2)) S
def cmpR (x : Int32) (S : Ms) : Int32 → Ms → Prop := StR (vld x 1001) (if wsm S ≤ x then wsm S else -1) (if wsm S ≤ x then (1, S.2.1, S.2.2.1, S.2.2.2) else S) S
/-- where a step ends -/
def StA (G : Gp) (ad : Nat → Nat) (L : List Nat) (w : Wn) (R : Int32 → Ms → Prop) : Int32 → Sw → Prop := fun r u => ∃ S2, OS G ad u.1 u.2 S2 ∧ FrC L w u.1 u.2 ∧ R r S2
theorem FrC.rf {L : List Nat} {w : Wn} : FrC L w L w := Fr.rf
theorem vld_lt {x : Int32} {n : Nat} (h : vld x n) (hn : n ≤ 100000) : ix x < n ∧ x = nI (ix x) := by
  obtain ⟨j, hj, rfl⟩ := h
  rw [ix_nI (by omega)]
  exact ⟨hj, rfl⟩
theorem nI_n9 {n : Nat} (h : n ≤ 100000) : ¬ nI n = -99999 := fun q => by
  have h1 : (nI n).toInt = -99999 := by rw [q]; rfl
  rw [nI_toInt (by omega)] at h1
  omega
theorem vld_n9 {x : Int32} {n : Nat} (h : vld x n) (hn : n ≤ 100000) : ¬ x = -99999 := by
  obtain ⟨j, hj, rfl⟩ := h
  exact nI_n9 (by omega)
theorem smN_cg {g g2 : Nat → Int32} : ∀ n, (∀ i, i < n → g i = g2 i) → smN g n = smN g2 n
  | 0, _ => rfl
  | n + 1, h => by
    unfold smN
    rw [smN_cg n (fun i hi => h i (by omega)), h n (by omega)]
section STEPS
variable {l : Launch} {G : Gp} {ad : Nat → Nat} {L : List Nat} {w : Wn} {S : Ms}
theorem addR_9 (h : OS G ad L w S) {x x2 x3 : Int32} {fi se : Int64} {x4 r : Int32} {S2 : Ms} (g : addR x x2 x3 fi se x4 S r S2) (hr : r = -99999) : S2 = S := g.same (fun v => nI_n9 (by omega)) hr
theorem remR_9 (h : OS G ad L w S) {x x2 r : Int32} {S2 : Ms} (g : remR x x2 S r S2) (hr : r = -99999) : S2 = S := g.same (fun v => nI_n9 (by have := h.le (vld_lt v.1 (by decide)).1; omega)) hr
theorem sdfR_9 (h : OS G ad L w S) {x x2 r : Int32} {S2 : Ms} (g : sdfR x x2 S r S2) (hr : r = -99999) : S2 = S := g.same (fun v => vld_n9 (h.df _) (by decide)) hr
theorem sfqR_9 (h : OS G ad L w S) {x x2 r : Int32} {S2 : Ms} (g : sfqR x x2 S r S2) (hr : r = -99999) : S2 = S := g.same (fun v => nI_n9 (by have := h.fq (ix x); omega)) hr
theorem cmpR_9 (h : OS G ad L w S) {x r : Int32} {S2 : Ms} (g : cmpR x S r S2) (hr : r = -99999) : S2 = S := g.same (fun v => by
  split
  · rw [h.wsmN]
    exact nI_n9 (by have := h.wsm_le; omega)
  · decide) hr
theorem cw_add (hlt : l.stackTraces = false) (h : OS G ad L w S) (x x2 x3 : Int32) (fi se : Int64) (x4 : Int32) : CI l yL_add wsL_add (rmD 31 100 1000) G L w [.ref (ad 0), .int x, .int x2, .int x3, .long fi, .long se, .int x4] (StA G ad L w (addR x x2 x3 fi se x4 S)) := by
  have h0 := h.at0
  have hS := h
  obtain ⟨E, h1, h2, h3⟩ := h
  have hZ : ∀ j, S.2.2.2 j = zl (E j) := fun j => by rw [h3]
  refine (ct_L_add h0 (ct_add hlt h1 x x2 x3 x4 fi se) (fun E9 u z => z.elim (fun z => Or.inl z.1) (fun z => Or.inr z.1))).mono (fun r u z => ?_)
  rcases z with z | ⟨hr, z⟩ | ⟨hr, z⟩
  · obtain ⟨j, hj, rfl, g2, g3, g4, hlen, hr, b, hcs, hf⟩ := z
    have e := ix_nI (j := j) (by omega)
    refine ⟨(0, S.2.1, S.2.2.1, va_up S.2.2.2 j (S.2.2.2 j ++ [(0, (x2, x3, fi, se, x4))])), ⟨_, hcs, h2, ?_⟩, hf, Or.inl ⟨⟨vld_nI hj, g2, g3, g4, ?_⟩, ?_, ?_⟩⟩
    · show va_up S.2.2.2 j (S.2.2.2 j ++ [(0, (x2, x3, fi, se, x4))]) = _
      rw [zl_up, zl_app, ← h3, ← hZ]
      rfl
    · rw [e, hZ, zl_len]; exact hlen
    · rw [e, hZ, zl_len]; exact hr
    · rw [e]
  · rcases z with ⟨-, z, hu⟩ | ⟨z, -⟩
    · refine ⟨S, by rw [hu]; exact hS, by rw [hu]; exact Fr.rf, Or.inr ⟨fun v => z ⟨v.1, v.2.1, v.2.2.1, v.2.2.2.1⟩, hr, rfl⟩⟩
    · exact absurd z (by decide)
  · rcases z with ⟨z, -⟩ | ⟨-, -, -, -, -, j, hj, e, z, hu⟩
    · exact absurd z (by decide)
    · refine ⟨S, by rw [hu]; exact hS, by rw [hu]; exact Fr.rf, Or.inr ⟨fun v => ?_, hr, rfl⟩⟩
      have v := v.2.2.2.2
      rw [e, ix_nI (by omega), hZ, zl_len] at v
      omega
theorem cw_remove (hlt : l.stackTraces = false) (h : OS G ad L w S) (x x2 : Int32) : CI l yL_remove wsL_remove (rmD 31 100 1000) G L w [.ref (ad 0), .int x, .int x2] (StA G ad L w (remR x x2 S)) := by
  have h0 := h.at0
  have hS := h
  obtain ⟨E, h1, h2, h3⟩ := h
  have hZ : ∀ j, S.2.2.2 j = zl (E j) := fun j => by rw [h3]
  refine (ct_L_remove h0 (ct_removeS hlt h1 x x2) (fun E9 u z => z.elim (fun z => Or.inl z.1) (fun z => Or.inr z.1))).mono (fun r u z => ?_)
  rcases z with z | ⟨hr, z⟩ | ⟨hr, z⟩
  · obtain ⟨j, hj, rfl, i, hi, rfl, hr, hcs, hf⟩ := z
    have e := ix_nI (j := j) (by omega)
    have e2 := ix_nI (j := i) (by have := h1.le hj; omega)
    refine ⟨(0, S.2.1, S.2.2.1, va_up S.2.2.2 j ((S.2.2.2 j).eraseIdx i)), ⟨_, hcs, h2, ?_⟩, hf, Or.inl ⟨⟨vld_nI hj, ?_⟩, ?_, ?_⟩⟩
    · show va_up S.2.2.2 j ((S.2.2.2 j).eraseIdx i) = _
      rw [zl_up, zl_erase, ← h3, ← hZ]
    · rw [e, hZ, zl_len]; exact vld_nI hi
    · rw [e, hZ, zl_len]; exact hr
    · rw [e, e2]
  · rcases z with ⟨-, z, hu⟩ | ⟨z, -⟩
    · exact ⟨S, by rw [hu]; exact hS, by rw [hu]; exact Fr.rf, Or.inr ⟨fun v => z v.1, hr, rfl⟩⟩
    · exact absurd z (by decide)
  · rcases z with ⟨z, -⟩ | ⟨-, j, hj, e, z, hu⟩
    · exact absurd z (by decide)
    · refine ⟨S, by rw [hu]; exact hS, by rw [hu]; exact Fr.rf, Or.inr ⟨fun v => z ?_, hr, rfl⟩⟩
      have v := v.2
      rw [e, ix_nI (by omega), hZ, zl_len] at v
      exact v
theorem cw_setDefault (hlt : l.stackTraces = false) (h : OS G ad L w S) (x x2 : Int32) : CI l yL_setDefault wsL_setDefault (rmD 31 100 1000) G L w [.ref (ad 0), .int x, .int x2] (StA G ad L w (sdfR x x2 S)) := by
  have h0 := h.at0
  have hS := h
  obtain ⟨E, h1, h2, h3⟩ := h
  refine (ct_L_setDefault h0 (ct_setDefault hlt h1 x x2) (fun E9 u z => z.1)).mono (fun r u z => ?_)
  rcases z with z | ⟨hr, z⟩ | ⟨hr, z⟩
  · obtain ⟨j, hj, rfl, g2, hr, z⟩ := z
    have e := ix_nI (j := j) (by omega)
    rcases z with ⟨e2, hu⟩ | ⟨e2, hcs, hf⟩
    · refine ⟨S, by rw [hu]; exact hS, by rw [hu]; exact Fr.rf, Or.inl ⟨⟨vld_nI hj, g2⟩, by rw [e]; exact hr, ?_⟩⟩
      rw [e, if_pos e2]
    · refine ⟨(0, S.2.1, va_up S.2.2.1 j x2, S.2.2.2), ⟨_, hcs, fun i => ?_, h3⟩, hf, Or.inl ⟨⟨vld_nI hj, g2⟩, by rw [e]; exact hr, ?_⟩⟩
      · show vld (va_up S.2.2.1 j x2 i) 7
        by_cases q : i = j
        · subst q
          have : va_up S.2.2.1 i x2 i = x2 := by simp [va_up]
          rw [this]; exact g2
        · rw [va_up_ne _ _ q]; exact h2 i
      · rw [e, if_neg e2]
  · exact ⟨S, by rw [z.2.2]; exact hS, by rw [z.2.2]; exact Fr.rf, Or.inr ⟨z.2.1, hr, rfl⟩⟩
  · exact z.elim
theorem cw_setFrequency (hlt : l.stackTraces = false) (h : OS G ad L w S) (x x2 : Int32) : CI l yL_setFrequency wsL_setFrequency (rmD 31 100 1000) G L w [.ref (ad 0), .int x, .int x2] (StA G ad L w (sfqR x x2 S)) := by
  have h0 := h.at0
  have hS := h
  obtain ⟨E, h1, h2, h3⟩ := h
  refine (ct_L_setFrequency h0 (ct_setFrequency hlt h1 x x2) (fun E9 u z => z.1)).mono (fun r u z => ?_)
  rcases z with z | ⟨hr, z⟩ | ⟨hr, z⟩
  · obtain ⟨j, hj, rfl, g2, hr, z⟩ := z
    have e := ix_nI (j := j) (by omega)
    rcases z with ⟨e2, hu⟩ | ⟨e2, F9, e3, hcs, hf⟩
    · refine ⟨S, by rw [hu]; exact hS, by rw [hu]; exact Fr.rf, Or.inl ⟨⟨vld_nI hj, g2⟩, by rw [e]; exact hr, ?_⟩⟩
      rw [e, if_pos e2]
    · obtain ⟨F8, hF8, e8⟩ := id g2
      have hF : F9 ≤ 1000 := by
        have := hcs.2.2.2.1 j
        have q : va_up S.2.1 j F9 j = F9 := by simp [va_up]
        rw [q] at this
        exact this
      refine ⟨(0, va_up S.2.1 j F9, S.2.2.1, S.2.2.2), ⟨_, hcs, h2, h3⟩, hf, Or.inl ⟨⟨vld_nI hj, g2⟩, by rw [e]; exact hr, ?_⟩⟩
      rw [e, if_neg e2, e3, ix_nI (by omega)]
  · exact ⟨S, by rw [z.2.2]; exact hS, by rw [z.2.2]; exact Fr.rf, Or.inr ⟨z.2.1, hr, rfl⟩⟩
  · exact z.elim
theorem cw_compile (hlt : l.stackTraces = false) (h : OS G ad L w S) (x : Int32) : CI l yL_compile wsL_compile (rmD 31 100 1000) G L w [.ref (ad 0), .int x] (StA G ad L w (cmpR x S)) := by
  have h0 := h.at0
  have hS := h
  obtain ⟨E, h1, h2, h3⟩ := h
  have hw : smN (fun j => wF S.2.1 (E j)) 4 = wsm S := by
    exact smN_cg 4 (fun j _ => by rw [h3]; exact (zl_wF _ _).symm)
  refine (ct_L_compile h0 (ct_compile hlt h1 x) (fun E9 u z => z.1)).mono (fun r u z => ?_)
  rcases z with z | ⟨hr, z⟩ | ⟨hr, z⟩
  · obtain ⟨hv, z, hf⟩ := z
    rw [hw] at z
    rcases z with ⟨c, hr, hcs⟩ | ⟨c, hr, hcs⟩
    · exact ⟨(1, S.2.1, S.2.2.1, S.2.2.2), ⟨E, hcs, h2, h3⟩, hf, Or.inl ⟨hv, by rw [if_pos c]; exact hr, by rw [if_pos c]⟩⟩
    · exact ⟨S, ⟨E, hcs, h2, h3⟩, hf, Or.inl ⟨hv, by rw [if_neg c]; exact hr, by rw [if_neg c]⟩⟩
  · exact ⟨S, by rw [z.2.2]; exact hS, by rw [z.2.2]; exact Fr.rf, Or.inr ⟨z.2.1, hr, rfl⟩⟩
  · exact z.elim
theorem cw_judge (hlt : l.stackTraces = false) (h : OS G ad L w S) {x : Int32} (hx : vld x 32) (fi se : Int64) : CI l yL_judge wsL_judge (rmD 31 10 100) G L w [.ref (ad 0), .int x, .long fi, .long se] (fun r u => ((S.1 = 1 ∧ r = byR S x fi se) ∨ (¬ S.1 = 1 ∧ r = -1)) ∧ u = (L, w)) := by
  refine (ct_L_judge h.at0 (cx_judge hlt h hx fi se) (fun E9 u z => Or.inr z.1)).mono (fun r u z => ?_)
  rcases z with z | ⟨hr, z⟩ | ⟨hr, z⟩
  · exact ⟨Or.inl ⟨z.1, z.2.1⟩, z.2.2⟩
  · exact absurd z.1 (by decide)
  · exact ⟨Or.inr ⟨z.2.1, hr⟩, z.2.2⟩
theorem cw_path (hlt : l.stackTraces = false) (h : OS G ad L w S) {x : Int32} (hx : vld x 32) (fi se : Int64) : CI l yL_path wsL_path (rmD 31 10 100) G L w [.ref (ad 0), .int x, .long fi, .long se] (fun r u => ((S.1 = 1 ∧ r = pth S x fi se) ∨ (¬ S.1 = 1 ∧ r = -1)) ∧ u = (L, w)) := by
  refine (ct_L_path h.at0 (cx_path hlt h hx fi se) (fun E9 u z => Or.inr z.1)).mono (fun r u z => ?_)
  rcases z with z | ⟨hr, z⟩ | ⟨hr, z⟩
  · exact ⟨Or.inl ⟨z.1, z.2.1⟩, z.2.2⟩
  · exact absurd z.1 (by decide)
  · exact ⟨Or.inr ⟨z.2.1, hr⟩, z.2.2⟩
end STEPS
