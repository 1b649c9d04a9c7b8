/-! THE CLASS AND THE MODEL AGREE, call by call -/
theorem MB.fr {M N : Nat → Prop} {G : Gp} {am : Nat → Nat} {L L2 : List Nat} {w w2 : Wn} {th cp : Int32} {df : Nat → Int32} {fq : Nat → Nat} {E : Nat → EL} {ns ar ac : Nat → Int32} {mk vl : Nat → Int64} {ks : Nat → Int32} {sz : Nat} {co ro : Nat → Int32} (h : MB G am L w th cp df fq E ns ar ac mk vl ks sz co ro) (hf : Fr M N L w L2 w2) (hM : ∀ m, 42 ≤ m → m < 54 → ¬ M m) : MB G am L2 w2 th cp df fq E ns ar ac mk vl ks sz co ro := by
  obtain ⟨h42, h43, h44, h45, h46, h47, h48, h49, h50, h51, h52, h53, hr⟩ := h
  exact ⟨hf.hs h42 (hM _ (by decide) (by decide)), hf.hs h43 (hM _ (by decide) (by decide)), hf.hs h44 (hM _ (by decide) (by decide)), hf.hs h45 (hM _ (by decide) (by decide)), hf.hs h46 (hM _ (by decide) (by decide)), hf.hs h47 (hM _ (by decide) (by decide)), hf.hs h48 (hM _ (by decide) (by decide)), hf.hs h49 (hM _ (by decide) (by decide)), hf.hs h50 (hM _ (by decide) (by decide)), hf.hs h51 (hM _ (by decide) (by decide)), hf.hs h52 (hM _ (by decide) (by decide)), hf.hs h53 (hM _ (by decide) (by decide)), hr⟩
theorem MD.fr {M N : Nat → Prop} {G : Gp} {am : Nat → Nat} {L L2 : List Nat} {w w2 : Wn} {th cp : Int32} {df : Nat → Int32} {fq : Nat → Nat} {E : Nat → EL} (h : MD G am L w th cp df fq E) (hf : Fr M N L w L2 w2) (hM : ∀ m, 42 ≤ m → m < 54 → ¬ M m) : MD G am L2 w2 th cp df fq E := by
  obtain ⟨ns, ar, ac, mk, vl, ks, sz, co, ro, hm⟩ := h
  exact ⟨_, _, _, _, _, _, _, _, _, hm.fr hf hM⟩
theorem CS.fr {M : Nat → Prop} {G : Gp} {ad : Nat → Nat} {L : List Nat} {w w2 : Wn} {cp : Int32} {b : Prop} {fq : Nat → Nat} {df : Nat → Int32} {E : Nat → EL} (h : CS G ad L w cp b fq df E) (hf : Fr M (fun _ => False) L w L w2) (hM : ∀ m, M m → 42 ≤ m ∧ m < 55) : CS G ad L w2 cp b fq df E := by
  obtain ⟨h0, hfa, hfq, hfb, ⟨sz, nu, we, co, fp, hp, hz⟩, hcf, hcp⟩ := h
  have k : ∀ m, m < 42 → ¬ M m := fun m z1 z2 => by have := hM m z2; omega
  have k2 : ∀ m, 55 ≤ m → ¬ M m := fun m z1 z2 => by have := hM m z2; omega
  exact ⟨hf.hs h0 (k _ (by decide)), hf.hs hfa (k _ (by decide)), hf.hs hfq (k _ (by decide)), hfb, ⟨sz, nu, we, co, fp, hp.fr hf (fun m _ z => k m (by omega)), hz⟩, fun j hj => (hcf j hj).fr hj hf (fun m z1 z2 => k m (by omega)) (fun m z1 z2 => ⟨k2 m (by omega), fun z => z⟩) (fun m z1 _ => k2 m (by omega)), hcp⟩
/-- the two agree after a call: k is what was thrown, r what the model answers -/
def AG (G : Gp) (ad am : Nat → Nat) (ao : Nat) (k r : Int32) (L : List Nat) (w : Wn) : Prop := ∃ cp fq df E fo, CS G ad L w cp (cp = 1) fq df E ∧ MD G am L w k cp df fq E ∧ Hs L w 54 ao (jarE G 1 fo) ∧ (k = 0 → fo 0 = r.toInt64)
theorem ag_ok {G : Gp} {ad am : Nat → Nat} {ao : Nat} {L2 : List Nat} {w2 w9 w3 : Wn} {r r2 cp : Int32} {fq : Nat → Nat} {df : Nat → Int32} {E : Nat → EL} {fo : Nat → Int64} (hcs : CS G ad L2 w9 cp (cp = 1) fq df E) (hO : Hs L2 w9 54 ao (jarE G 1 fo)) (hw : w2 = va_up w9 54 (ao, jarE G 1 (vp_updL fo 0 r.toInt64))) (hf : FrM L2 w2 w3) (hm : MD G am L2 w3 0 cp df fq E) (hr : r = r2) : AG G ad am ao 0 r2 L2 w3 := by
  have f1 : Fr (fun m => m = 54) (fun _ => False) L2 w9 L2 w2 := Fr.up hw
  have c1 := hcs.fr f1 (fun m z => by omega)
  exact ⟨cp, fq, df, E, vp_updL fo 0 r.toInt64, c1.fr hf (fun m z => by omega), hm, hf.hs (hs_me1 hO hw) (by decide), fun _ => by subst hr; simp [vp_updL]⟩
theorem ag_ex {G : Gp} {ad am : Nat → Nat} {ao : Nat} {L2 : List Nat} {w2 w3 : Wn} {k r2 cp : Int32} {fq : Nat → Nat} {df : Nat → Int32} {E : Nat → EL} {fo : Nat → Int64} (hcs : CS G ad L2 w2 cp (cp = 1) fq df E) (hO : Hs L2 w2 54 ao (jarE G 1 fo)) (hf : FrM L2 w2 w3) (hm : MD G am L2 w3 k cp df fq E) (hk : ¬ k = 0) : AG G ad am ao k r2 L2 w3 :=
  ⟨cp, fq, df, E, fo, hcs.fr hf (fun m z => by omega), hm, hf.hs hO (by decide), fun z => absurd z hk⟩
theorem md_up {G : Gp} {am : Nat → Nat} {L L2 : List Nat} {w w2 w9 : Wn} {th cp : Int32} {df : Nat → Int32} {fq : Nat → Nat} {E : Nat → EL} (h : MD G am L w th cp df fq E) (hf : FrC L w L2 w9) {x : Nat × va_E} (hw : w2 = va_up w9 54 x) : MD G am L2 w2 th cp df fq E :=
  (h.fr hf (fun m z1 z2 z => by unfold MC at z; omega)).fr (Fr.up (N := fun _ => False) hw) (fun m z1 z2 z => by omega)
theorem nI4 {i j : Nat} (hi : i < 4) (hj : j < 4) (h : nI i = nI j) : i = j := nI_inj (by omega) (by omega) h
theorem CS.cp {G : Gp} {ad : Nat → Nat} {L : List Nat} {w : Wn} {cp : Int32} {b : Prop} {fq : Nat → Nat} {df : Nat → Int32} {E : Nat → EL} (h : CS G ad L w cp b fq df E) : cp = 0 ∨ cp = 1 := h.2.2.2.2.2.2
theorem CS.le {G : Gp} {ad : Nat → Nat} {L : List Nat} {w : Wn} {cp : Int32} {b : Prop} {fq : Nat → Nat} {df : Nat → Int32} {E : Nat → EL} (h : CS G ad L w cp b fq df E) {j : Nat} (hj : j < 4) : (E j).length ≤ 10 := by
  obtain ⟨ft, tc, cl, -, g2, -, -⟩ := h.2.2.2.2.2.1 j hj
  exact g2.le
theorem not_full {E : Nat → EL} {x : Int32} {j3 : Nat} (h3 : j3 < 4) (e3 : x = nI j3) (hl : 10 ≤ (E j3).length) : ¬ (∃ j2, j2 < 4 ∧ x = nI j2 ∧ (E j2).length < 10) := fun ⟨j2, hj2, e2, h2⟩ => by
  rw [← nI4 h3 hj2 (e3.symm.trans e2)] at h2
  omega
theorem MD.fb {G : Gp} {am : Nat → Nat} {L : List Nat} {w : Wn} {th cp : Int32} {df : Nat → Int32} {fq : Nat → Nat} {E : Nat → EL} (h : MD G am L w th cp df fq E) (i : Nat) : fq i ≤ 1000 := by
  obtain ⟨ns, ar, ac, mk, vl, ks, sz, co, ro, hm⟩ := h
  exact hm.2.2.2.2.2.2.2.2.2.2.2.2.2.2.1 i
theorem mx_cg {f g : Nat → Int32} : ∀ n, (∀ i, i < n → f i = g i) → mxN f n = mxN g n
  | 0, _ => rfl
  | n + 1, h => by
    unfold mxN
    rw [mx_cg n (fun i hi => h i (by omega)), h n (by omega)]
theorem ag_rules {G : Gp} {ad am : Nat → Nat} {ao : Nat} {L L2 : List Nat} {w w2 : Wn} {th cp k9 : Int32} {fq : Nat → Nat} {df : Nat → Int32} {E : Nat → EL} {fo : Nat → Int64} {x : Int32} (hcs : CS G ad L w cp (cp = 1) fq df E) (hmd : MD G am L w th cp df fq E) (hO : Hs L w 54 ao (jarE G 1 fo)) (hk : (k9 = 0 ∧ ∃ r w9, (fun (r : Int32) (u : Sw) => ∃ j, j < 4 ∧ x = nI j ∧ r = nI (E j).length ∧ u = (L, w)) r (L2, w9) ∧ w2 = va_up w9 54 (ao, jarE G 1 (vp_updL fo 0 r.toInt64))) ∨ (k9 = 1 ∧ (fun (E9 : String) (u : Sw) => E9 = IAE ∧ ¬ vld x 4 ∧ u = (L, w)) IAE (L2, w2)) ∨ (k9 = 2 ∧ False)) : MD G am L2 w2 th cp df fq E ∧ ∀ (r2 : Int32) (w3 : Wn), FrM L2 w2 w3 → ((∃ j, j < 4 ∧ x = nI j ∧ r2 = nI (E j).length ∧ MD G am L2 w3 0 cp df fq E) ∨ (¬ vld x 4 ∧ MD G am L2 w3 1 cp df fq E)) → AG G ad am ao k9 r2 L2 w3 := by
  rcases hk with ⟨rfl, r, w9, hp, hw⟩ | ⟨rfl, hx⟩ | ⟨rfl, hx⟩
  · obtain ⟨j, hj, rfl, rfl, hu⟩ := hp
    cases hu
    have hA : vld (nI j) 4 := ⟨j, hj, rfl⟩
    refine ⟨md_up hmd Fr.rf hw, fun r2 w3 hf hM => ?_⟩
    rcases hM with hM | hM
    · obtain ⟨j2, hj2, ej, er, hm9⟩ := hM
      have hA := (⟨j2, hj2, ej⟩ : vld _ 4)
      have ej := nI4 hj hj2 ej; subst ej
      exact ag_ok hcs hO hw hf hm9 er.symm
    · obtain ⟨hnA, hm9⟩ := hM
      exact absurd hA hnA
  · obtain ⟨-, hnA, hu⟩ := hx
    cases hu
    refine ⟨hmd, fun r2 w3 hf hM => ?_⟩
    rcases hM with hM | hM
    · obtain ⟨j2, hj2, ej, er, hm9⟩ := hM
      have hA := (⟨j2, hj2, ej⟩ : vld _ 4)
      exact absurd hA hnA
    · obtain ⟨hnA, hm9⟩ := hM
      exact ag_ex hcs hO hf hm9 (by decide)
  · exact hx.elim
theorem ag_hider {G : Gp} {ad am : Nat → Nat} {ao : Nat} {L L2 : List Nat} {w w2 : Wn} {th cp k9 : Int32} {fq : Nat → Nat} {df : Nat → Int32} {E : Nat → EL} {fo : Nat → Int64} {x x2 : Int32} (hcs : CS G ad L w cp (cp = 1) fq df E) (hmd : MD G am L w th cp df fq E) (hO : Hs L w 54 ao (jarE G 1 fo)) (hk : (k9 = 0 ∧ ∃ r w9, (fun (r : Int32) (u : Sw) => ∃ j, j < 4 ∧ x = nI j ∧ ∃ i, i < (E j).length ∧ x2 = nI i ∧ r = onI (hid (rul (E j)) i) ∧ u = (L, w)) r (L2, w9) ∧ w2 = va_up w9 54 (ao, jarE G 1 (vp_updL fo 0 r.toInt64))) ∨ (k9 = 1 ∧ (fun (E9 : String) (u : Sw) => (E9 = IAE ∧ ¬ vld x 4 ∧ u = (L, w)) ∨ (E9 = IOE ∧ ∃ j, j < 4 ∧ x = nI j ∧ ¬ vld x2 (E j).length ∧ u = (L, w))) IAE (L2, w2)) ∨ (k9 = 2 ∧ (fun (E9 : String) (u : Sw) => (E9 = IAE ∧ ¬ vld x 4 ∧ u = (L, w)) ∨ (E9 = IOE ∧ ∃ j, j < 4 ∧ x = nI j ∧ ¬ vld x2 (E j).length ∧ u = (L, w))) IOE (L2, w2))) : MD G am L2 w2 th cp df fq E ∧ ∀ (r2 : Int32) (w3 : Wn), FrM L2 w2 w3 → ((∃ j, j < 4 ∧ x = nI j ∧ ∃ i, i < (E j).length ∧ x2 = nI i ∧ r2 = onI (hid (rul (E j)) i) ∧ MD G am L2 w3 0 cp df fq E) ∨ (¬ vld x 4 ∧ MD G am L2 w3 1 cp df fq E) ∨ (vld x 4 ∧ ¬ (∃ j, j < 4 ∧ x = nI j ∧ vld x2 (E j).length) ∧ MD G am L2 w3 2 cp df fq E)) → AG G ad am ao k9 r2 L2 w3 := by
  rcases hk with ⟨rfl, r, w9, hp, hw⟩ | ⟨rfl, hx⟩ | ⟨rfl, hx⟩
  · obtain ⟨j, hj, rfl, i, hi, rfl, rfl, hu⟩ := hp
    cases hu
    have hA : vld (nI j) 4 := ⟨j, hj, rfl⟩
    have hB : ∃ j2, j2 < 4 ∧ nI j = nI j2 ∧ vld (nI i) (E j2).length := ⟨j, hj, rfl, i, hi, rfl⟩
    have h10 := hcs.le hj
    refine ⟨md_up hmd Fr.rf hw, fun r2 w3 hf hM => ?_⟩
    rcases hM with hM | hM | hM
    · obtain ⟨j2, hj2, ej, i2, hi2, ei, er, hm9⟩ := hM
      have hA := (⟨j2, hj2, ej⟩ : vld _ 4)
      have hB := (⟨j2, hj2, ej, i2, hi2, ei⟩ : ∃ j2, j2 < 4 ∧ _ = nI j2 ∧ vld _ (E j2).length)
      have ej := nI4 hj hj2 ej; subst ej
      have ei := nI_inj (by omega) (by omega) ei; subst ei
      exact ag_ok hcs hO hw hf hm9 er.symm
    · obtain ⟨hnA, hm9⟩ := hM
      exact absurd hA hnA
    · obtain ⟨hA, hnB, hm9⟩ := hM
      exact absurd hB hnB
  · have hx1 := hx.resolve_right (fun z => absurd z.1 (by decide))
    obtain ⟨-, hnA, hu⟩ := hx1
    cases hu
    refine ⟨hmd, fun r2 w3 hf hM => ?_⟩
    rcases hM with hM | hM | hM
    · obtain ⟨j2, hj2, ej, i2, hi2, ei, er, hm9⟩ := hM
      have hA := (⟨j2, hj2, ej⟩ : vld _ 4)
      have hB := (⟨j2, hj2, ej, i2, hi2, ei⟩ : ∃ j2, j2 < 4 ∧ _ = nI j2 ∧ vld _ (E j2).length)
      exact absurd hA hnA
    · obtain ⟨hnA, hm9⟩ := hM
      exact ag_ex hcs hO hf hm9 (by decide)
    · obtain ⟨hA, hnB, hm9⟩ := hM
      exact absurd hA hnA
  · have hx2 := hx.resolve_left (fun z => absurd z.1 (by decide))
    obtain ⟨-, j, hj, rfl, hnv, hu⟩ := hx2
    cases hu
    have hA : vld (nI j) 4 := ⟨j, hj, rfl⟩
    have hnB : ¬ (∃ j2, j2 < 4 ∧ nI j = nI j2 ∧ vld x2 (E j2).length) := fun ⟨j2, hj2, e2, h2⟩ => hnv (by rw [nI4 hj hj2 e2]; exact h2)
    refine ⟨hmd, fun r2 w3 hf hM => ?_⟩
    rcases hM with hM | hM | hM
    · obtain ⟨j2, hj2, ej, i2, hi2, ei, er, hm9⟩ := hM
      have hA := (⟨j2, hj2, ej⟩ : vld _ 4)
      have hB := (⟨j2, hj2, ej, i2, hi2, ei⟩ : ∃ j2, j2 < 4 ∧ _ = nI j2 ∧ vld _ (E j2).length)
      exact absurd hB hnB
    · obtain ⟨hnA, hm9⟩ := hM
      exact absurd hA hnA
    · obtain ⟨hA, hnB, hm9⟩ := hM
      exact ag_ex hcs hO hf hm9 (by decide)
theorem ag_compile {G : Gp} {ad am : Nat → Nat} {ao : Nat} {L L2 : List Nat} {w w2 : Wn} {th cp k9 : Int32} {fq : Nat → Nat} {df : Nat → Int32} {E : Nat → EL} {fo : Nat → Int64} {x : Int32} (hcs : CS G ad L w cp (cp = 1) fq df E) (hmd : MD G am L w th cp df fq E) (hO : Hs L w 54 ao (jarE G 1 fo)) (hk : (k9 = 0 ∧ ∃ r w9, (fun (r : Int32) (u : Sw) => vld x 1001 ∧ ((smN (fun j => wF fq (E j)) 4 ≤ x ∧ r = smN (fun j => wF fq (E j)) 4 ∧ CS G ad u.1 u.2 1 ((1 : Int32) = 1) fq df E) ∨ (¬ smN (fun j => wF fq (E j)) 4 ≤ x ∧ r = -1 ∧ CS G ad u.1 u.2 cp (cp = 1) fq df E)) ∧ FrC L w u.1 u.2) r (L2, w9) ∧ w2 = va_up w9 54 (ao, jarE G 1 (vp_updL fo 0 r.toInt64))) ∨ (k9 = 1 ∧ (fun (E9 : String) (u : Sw) => E9 = IAE ∧ ¬ vld x 1001 ∧ u = (L, w)) IAE (L2, w2)) ∨ (k9 = 2 ∧ False)) : MD G am L2 w2 th cp df fq E ∧ ∀ (r2 : Int32) (w3 : Wn), FrM L2 w2 w3 → ((vld x 1001 ∧ ((smN (fun j => wF fq (E j)) 4 ≤ x ∧ r2 = smN (fun j => wF fq (E j)) 4 ∧ MD G am L2 w3 0 1 df fq E) ∨ (¬ smN (fun j => wF fq (E j)) 4 ≤ x ∧ r2 = -1 ∧ MD G am L2 w3 0 cp df fq E))) ∨ (¬ vld x 1001 ∧ MD G am L2 w3 1 cp df fq E)) → AG G ad am ao k9 r2 L2 w3 := by
  rcases hk with ⟨rfl, r, w9, hp, hw⟩ | ⟨rfl, hx⟩ | ⟨rfl, hx⟩
  · obtain ⟨hA, hc, hfC⟩ := hp
    have hO9 := hfC.hs hO (by unfold MC; omega)
    refine ⟨md_up hmd hfC hw, fun r2 w3 hf hM => ?_⟩
    rcases hM with hM | hM
    · obtain ⟨hA, hd⟩ := hM
      rcases hc with ⟨h1, h2, h3⟩ | ⟨h1, h2, h3⟩ <;> rcases hd with ⟨g1, g2, g3⟩ | ⟨g1, g2, g3⟩
      · exact ag_ok h3 hO9 hw hf g3 (h2.trans g2.symm)
      · exact absurd h1 g1
      · exact absurd g1 h1
      · exact ag_ok h3 hO9 hw hf g3 (h2.trans g2.symm)
    · obtain ⟨hnA, hm9⟩ := hM
      exact absurd hA hnA
  · obtain ⟨-, hnA, hu⟩ := hx
    cases hu
    refine ⟨hmd, fun r2 w3 hf hM => ?_⟩
    rcases hM with hM | hM
    · obtain ⟨hA, hd⟩ := hM
      exact absurd hA hnA
    · obtain ⟨hnA, hm9⟩ := hM
      exact ag_ex hcs hO hf hm9 (by decide)
  · exact hx.elim
theorem ag_test {G : Gp} {ad am : Nat → Nat} {ao : Nat} {L L2 : List Nat} {w w2 : Wn} {th cp k9 : Int32} {fq : Nat → Nat} {df : Nat → Int32} {E : Nat → EL} {fo : Nat → Int64} {x x2 : Int32} (hcs : CS G ad L w cp (cp = 1) fq df E) (hmd : MD G am L w th cp df fq E) (hO : Hs L w 54 ao (jarE G 1 fo)) (hk : (k9 = 0 ∧ ∃ r w9, (fun (r : Int32) (u : Sw) => ∃ j, j < 4 ∧ x = nI j ∧ ∃ P9, P9 < 2147483648 ∧ x2 = nI P9 ∧ 1 ≤ x2 ∧ cp = 1 ∧ r = down (kyF (rch (E j))) (wtF fq (rch (E j))) 10 0 (ksz (rch (E j))) P9 ∧ u = (L, w)) r (L2, w9) ∧ w2 = va_up w9 54 (ao, jarE G 1 (vp_updL fo 0 r.toInt64))) ∨ (k9 = 1 ∧ (fun (E9 : String) (u : Sw) => (E9 = IAE ∧ ¬ (vld x 4 ∧ 1 ≤ x2) ∧ u = (L, w)) ∨ (E9 = ISE ∧ vld x 4 ∧ 1 ≤ x2 ∧ ¬ cp = 1 ∧ u = (L, w))) IAE (L2, w2)) ∨ (k9 = 2 ∧ (fun (E9 : String) (u : Sw) => (E9 = IAE ∧ ¬ (vld x 4 ∧ 1 ≤ x2) ∧ u = (L, w)) ∨ (E9 = ISE ∧ vld x 4 ∧ 1 ≤ x2 ∧ ¬ cp = 1 ∧ u = (L, w))) ISE (L2, w2))) : MD G am L2 w2 th cp df fq E ∧ ∀ (r2 : Int32) (w3 : Wn), FrM L2 w2 w3 → ((∃ j, j < 4 ∧ x = nI j ∧ ∃ P9, P9 < 2147483648 ∧ x2 = nI P9 ∧ 1 ≤ x2 ∧ ¬ cp = 0 ∧ r2 = down (kyF (rch (E j))) (wtF fq (rch (E j))) 10 0 (ksz (rch (E j))) P9 ∧ MD G am L2 w3 0 cp df fq E) ∨ (¬ (vld x 4 ∧ 1 ≤ x2) ∧ MD G am L2 w3 1 cp df fq E) ∨ (vld x 4 ∧ 1 ≤ x2 ∧ cp = 0 ∧ MD G am L2 w3 2 cp df fq E)) → AG G ad am ao k9 r2 L2 w3 := by
  rcases hk with ⟨rfl, r, w9, hp, hw⟩ | ⟨rfl, hx⟩ | ⟨rfl, hx⟩
  · obtain ⟨j, hj, rfl, P9, hP9, rfl, h1, hB, rfl, hu⟩ := hp
    cases hu
    have hA : vld (nI j) 4 ∧ 1 ≤ nI P9 := ⟨⟨j, hj, rfl⟩, h1⟩
    refine ⟨md_up hmd Fr.rf hw, fun r2 w3 hf hM => ?_⟩
    rcases hM with hM | hM | hM
    · obtain ⟨j2, hj2, ej, P2, hP2, ep, h12, hnz, er, hm9⟩ := hM
      have hA := And.intro (⟨j2, hj2, ej⟩ : vld _ 4) h12
      have hB : cp = 1 := hcs.cp.resolve_left hnz
      have ej := nI4 hj hj2 ej; subst ej
      have ep := nI_inj hP9 hP2 ep; subst ep
      exact ag_ok hcs hO hw hf hm9 er.symm
    · obtain ⟨hnA, hm9⟩ := hM
      exact absurd hA hnA
    · obtain ⟨hA1, hA2, hz, hm9⟩ := hM
      have hA := And.intro hA1 hA2
      have hnB : ¬ cp = 1 := fun z => absurd (z.symm.trans hz) (by decide)
      exact absurd hB hnB
  · have hx1 := hx.resolve_right (fun z => absurd z.1 (by decide))
    obtain ⟨-, hnA, hu⟩ := hx1
    cases hu
    refine ⟨hmd, fun r2 w3 hf hM => ?_⟩
    rcases hM with hM | hM | hM
    · obtain ⟨j2, hj2, ej, P2, hP2, ep, h12, hnz, er, hm9⟩ := hM
      have hA := And.intro (⟨j2, hj2, ej⟩ : vld _ 4) h12
      have hB : cp = 1 := hcs.cp.resolve_left hnz
      exact absurd hA hnA
    · obtain ⟨hnA, hm9⟩ := hM
      exact ag_ex hcs hO hf hm9 (by decide)
    · obtain ⟨hA1, hA2, hz, hm9⟩ := hM
      have hA := And.intro hA1 hA2
      have hnB : ¬ cp = 1 := fun z => absurd (z.symm.trans hz) (by decide)
      exact absurd hA hnA
  · have hx2 := hx.resolve_left (fun z => absurd z.1 (by decide))
    obtain ⟨-, hA1, hA2, hnB, hu⟩ := hx2
    cases hu
    have hA := And.intro hA1 hA2
    refine ⟨hmd, fun r2 w3 hf hM => ?_⟩
    rcases hM with hM | hM | hM
    · obtain ⟨j2, hj2, ej, P2, hP2, ep, h12, hnz, er, hm9⟩ := hM
      have hA := And.intro (⟨j2, hj2, ej⟩ : vld _ 4) h12
      have hB : cp = 1 := hcs.cp.resolve_left hnz
      exact absurd hB hnB
    · obtain ⟨hnA, hm9⟩ := hM
      exact absurd hA hnA
    · obtain ⟨hA1, hA2, hz, hm9⟩ := hM
      have hA := And.intro hA1 hA2
      have hnB : ¬ cp = 1 := fun z => absurd (z.symm.trans hz) (by decide)
      exact ag_ex hcs hO hf hm9 (by decide)
theorem ag_cost {G : Gp} {ad am : Nat → Nat} {ao : Nat} {L L2 : List Nat} {w w2 : Wn} {th cp k9 : Int32} {fq : Nat → Nat} {df : Nat → Int32} {E : Nat → EL} {fo : Nat → Int64} {x : Int32} (hcs : CS G ad L w cp (cp = 1) fq df E) (hmd : MD G am L w th cp df fq E) (hO : Hs L w 54 ao (jarE G 1 fo)) (hk : (k9 = 0 ∧ ∃ r w9, (fun (r : Int32) (u : Sw) => ∃ j, j < 4 ∧ x = nI j ∧ cp = 1 ∧ r = nI (cs (wtF fq (rch (E j))) 0 (ksz (rch (E j)))) ∧ u = (L, w)) r (L2, w9) ∧ w2 = va_up w9 54 (ao, jarE G 1 (vp_updL fo 0 r.toInt64))) ∨ (k9 = 1 ∧ (fun (E9 : String) (u : Sw) => (E9 = IAE ∧ ¬ vld x 4 ∧ u = (L, w)) ∨ (E9 = ISE ∧ vld x 4 ∧ ¬ cp = 1 ∧ u = (L, w))) IAE (L2, w2)) ∨ (k9 = 2 ∧ (fun (E9 : String) (u : Sw) => (E9 = IAE ∧ ¬ vld x 4 ∧ u = (L, w)) ∨ (E9 = ISE ∧ vld x 4 ∧ ¬ cp = 1 ∧ u = (L, w))) ISE (L2, w2))) : MD G am L2 w2 th cp df fq E ∧ ∀ (r2 : Int32) (w3 : Wn), FrM L2 w2 w3 → ((∃ j, j < 4 ∧ x = nI j ∧ ¬ cp = 0 ∧ r2 = nI (cs (wtF fq (rch (E j))) 0 (ksz (rch (E j)))) ∧ MD G am L2 w3 0 cp df fq E) ∨ (¬ vld x 4 ∧ MD G am L2 w3 1 cp df fq E) ∨ (vld x 4 ∧ cp = 0 ∧ MD G am L2 w3 2 cp df fq E)) → AG G ad am ao k9 r2 L2 w3 := by
  rcases hk with ⟨rfl, r, w9, hp, hw⟩ | ⟨rfl, hx⟩ | ⟨rfl, hx⟩
  · obtain ⟨j, hj, rfl, hB, rfl, hu⟩ := hp
    cases hu
    have hA : vld (nI j) 4 := ⟨j, hj, rfl⟩
    refine ⟨md_up hmd Fr.rf hw, fun r2 w3 hf hM => ?_⟩
    rcases hM with hM | hM | hM
    · obtain ⟨j2, hj2, ej, hnz, er, hm9⟩ := hM
      have hA := (⟨j2, hj2, ej⟩ : vld _ 4)
      have hB : cp = 1 := hcs.cp.resolve_left hnz
      have ej := nI4 hj hj2 ej; subst ej
      exact ag_ok hcs hO hw hf hm9 er.symm
    · obtain ⟨hnA, hm9⟩ := hM
      exact absurd hA hnA
    · obtain ⟨hA, hz, hm9⟩ := hM
      have hnB : ¬ cp = 1 := fun z => absurd (z.symm.trans hz) (by decide)
      exact absurd hB hnB
  · have hx1 := hx.resolve_right (fun z => absurd z.1 (by decide))
    obtain ⟨-, hnA, hu⟩ := hx1
    cases hu
    refine ⟨hmd, fun r2 w3 hf hM => ?_⟩
    rcases hM with hM | hM | hM
    · obtain ⟨j2, hj2, ej, hnz, er, hm9⟩ := hM
      have hA := (⟨j2, hj2, ej⟩ : vld _ 4)
      have hB : cp = 1 := hcs.cp.resolve_left hnz
      exact absurd hA hnA
    · obtain ⟨hnA, hm9⟩ := hM
      exact ag_ex hcs hO hf hm9 (by decide)
    · obtain ⟨hA, hz, hm9⟩ := hM
      have hnB : ¬ cp = 1 := fun z => absurd (z.symm.trans hz) (by decide)
      exact absurd hA hnA
  · have hx2 := hx.resolve_left (fun z => absurd z.1 (by decide))
    obtain ⟨-, hA, hnB, hu⟩ := hx2
    cases hu
    refine ⟨hmd, fun r2 w3 hf hM => ?_⟩
    rcases hM with hM | hM | hM
    · obtain ⟨j2, hj2, ej, hnz, er, hm9⟩ := hM
      have hA := (⟨j2, hj2, ej⟩ : vld _ 4)
      have hB : cp = 1 := hcs.cp.resolve_left hnz
      exact absurd hB hnB
    · obtain ⟨hnA, hm9⟩ := hM
      exact absurd hA hnA
    · obtain ⟨hA, hz, hm9⟩ := hM
      have hnB : ¬ cp = 1 := fun z => absurd (z.symm.trans hz) (by decide)
      exact ag_ex hcs hO hf hm9 (by decide)
theorem ag_worst {G : Gp} {ad am : Nat → Nat} {ao : Nat} {L L2 : List Nat} {w w2 : Wn} {th cp k9 : Int32} {fq : Nat → Nat} {df : Nat → Int32} {E : Nat → EL} {fo : Nat → Int64} {x : Int32} (hcs : CS G ad L w cp (cp = 1) fq df E) (hmd : MD G am L w th cp df fq E) (hO : Hs L w 54 ao (jarE G 1 fo)) (hk : (k9 = 0 ∧ ∃ r w9, (fun (r : Int32) (u : Sw) => ∃ j, j < 4 ∧ x = nI j ∧ cp = 1 ∧ r = wF fq (E j) ∧ u = (L, w)) r (L2, w9) ∧ w2 = va_up w9 54 (ao, jarE G 1 (vp_updL fo 0 r.toInt64))) ∨ (k9 = 1 ∧ (fun (E9 : String) (u : Sw) => (E9 = IAE ∧ ¬ vld x 4 ∧ u = (L, w)) ∨ (E9 = ISE ∧ vld x 4 ∧ ¬ cp = 1 ∧ u = (L, w))) IAE (L2, w2)) ∨ (k9 = 2 ∧ (fun (E9 : String) (u : Sw) => (E9 = IAE ∧ ¬ vld x 4 ∧ u = (L, w)) ∨ (E9 = ISE ∧ vld x 4 ∧ ¬ cp = 1 ∧ u = (L, w))) ISE (L2, w2))) : MD G am L2 w2 th cp df fq E ∧ ∀ (r2 : Int32) (w3 : Wn), FrM L2 w2 w3 → ((∃ j, j < 4 ∧ x = nI j ∧ ¬ cp = 0 ∧ r2 = wF fq (E j) ∧ MD G am L2 w3 0 cp df fq E) ∨ (¬ vld x 4 ∧ MD G am L2 w3 1 cp df fq E) ∨ (vld x 4 ∧ cp = 0 ∧ MD G am L2 w3 2 cp df fq E)) → AG G ad am ao k9 r2 L2 w3 := by
  rcases hk with ⟨rfl, r, w9, hp, hw⟩ | ⟨rfl, hx⟩ | ⟨rfl, hx⟩
  · obtain ⟨j, hj, rfl, hB, rfl, hu⟩ := hp
    cases hu
    have hA : vld (nI j) 4 := ⟨j, hj, rfl⟩
    refine ⟨md_up hmd Fr.rf hw, fun r2 w3 hf hM => ?_⟩
    rcases hM with hM | hM | hM
    · obtain ⟨j2, hj2, ej, hnz, er, hm9⟩ := hM
      have hA := (⟨j2, hj2, ej⟩ : vld _ 4)
      have hB : cp = 1 := hcs.cp.resolve_left hnz
      have ej := nI4 hj hj2 ej; subst ej
      exact ag_ok hcs hO hw hf hm9 er.symm
    · obtain ⟨hnA, hm9⟩ := hM
      exact absurd hA hnA
    · obtain ⟨hA, hz, hm9⟩ := hM
      have hnB : ¬ cp = 1 := fun z => absurd (z.symm.trans hz) (by decide)
      exact absurd hB hnB
  · have hx1 := hx.resolve_right (fun z => absurd z.1 (by decide))
    obtain ⟨-, hnA, hu⟩ := hx1
    cases hu
    refine ⟨hmd, fun r2 w3 hf hM => ?_⟩
    rcases hM with hM | hM | hM
    · obtain ⟨j2, hj2, ej, hnz, er, hm9⟩ := hM
      have hA := (⟨j2, hj2, ej⟩ : vld _ 4)
      have hB : cp = 1 := hcs.cp.resolve_left hnz
      exact absurd hA hnA
    · obtain ⟨hnA, hm9⟩ := hM
      exact ag_ex hcs hO hf hm9 (by decide)
    · obtain ⟨hA, hz, hm9⟩ := hM
      have hnB : ¬ cp = 1 := fun z => absurd (z.symm.trans hz) (by decide)
      exact absurd hA hnA
  · have hx2 := hx.resolve_left (fun z => absurd z.1 (by decide))
    obtain ⟨-, hA, hnB, hu⟩ := hx2
    cases hu
    refine ⟨hmd, fun r2 w3 hf hM => ?_⟩
    rcases hM with hM | hM | hM
    · obtain ⟨j2, hj2, ej, hnz, er, hm9⟩ := hM
      have hA := (⟨j2, hj2, ej⟩ : vld _ 4)
      have hB : cp = 1 := hcs.cp.resolve_left hnz
      exact absurd hB hnB
    · obtain ⟨hnA, hm9⟩ := hM
      exact absurd hA hnA
    · obtain ⟨hA, hz, hm9⟩ := hM
      have hnB : ¬ cp = 1 := fun z => absurd (z.symm.trans hz) (by decide)
      exact ag_ex hcs hO hf hm9 (by decide)
theorem ag_judge {G : Gp} {ad am : Nat → Nat} {ao : Nat} {L L2 : List Nat} {w w2 : Wn} {th cp k9 : Int32} {fq : Nat → Nat} {df : Nat → Int32} {E : Nat → EL} {fo : Nat → Int64} {x : Int32} {fi se : Int64} (hcs : CS G ad L w cp (cp = 1) fq df E) (hmd : MD G am L w th cp df fq E) (hO : Hs L w 54 ao (jarE G 1 fo)) (hk : (k9 = 0 ∧ ∃ r w9, (fun (r : Int32) (u : Sw) => vld x 32 ∧ cp = 1 ∧ r = mxN (fun i => actT fq (E i) (df i) x fi se) 4 ∧ u = (L, w)) r (L2, w9) ∧ w2 = va_up w9 54 (ao, jarE G 1 (vp_updL fo 0 r.toInt64))) ∨ (k9 = 1 ∧ (fun (E9 : String) (u : Sw) => (E9 = IAE ∧ ¬ vld x 32 ∧ u = (L, w)) ∨ (E9 = ISE ∧ vld x 32 ∧ ¬ cp = 1 ∧ u = (L, w))) IAE (L2, w2)) ∨ (k9 = 2 ∧ (fun (E9 : String) (u : Sw) => (E9 = IAE ∧ ¬ vld x 32 ∧ u = (L, w)) ∨ (E9 = ISE ∧ vld x 32 ∧ ¬ cp = 1 ∧ u = (L, w))) ISE (L2, w2))) : MD G am L2 w2 th cp df fq E ∧ ∀ (r2 : Int32) (w3 : Wn), FrM L2 w2 w3 → ((vld x 32 ∧ ¬ cp = 0 ∧ r2 = mxN (fun i => fAct x fi se (df i) (E i)) 4 ∧ MD G am L2 w3 0 cp df fq E) ∨ (¬ vld x 32 ∧ MD G am L2 w3 1 cp df fq E) ∨ (vld x 32 ∧ cp = 0 ∧ MD G am L2 w3 2 cp df fq E)) → AG G ad am ao k9 r2 L2 w3 := by
  rcases hk with ⟨rfl, r, w9, hp, hw⟩ | ⟨rfl, hx⟩ | ⟨rfl, hx⟩
  · obtain ⟨hA, hB, rfl, hu⟩ := hp
    cases hu
    refine ⟨md_up hmd Fr.rf hw, fun r2 w3 hf hM => ?_⟩
    rcases hM with hM | hM | hM
    · obtain ⟨hA, hnz, er, hm9⟩ := hM
      have hB : cp = 1 := hcs.cp.resolve_left hnz
      exact ag_ok hcs hO hw hf hm9 ((mx_cg 4 (fun i hi => actT_eq (hcs.le hi) hA)).trans er.symm)
    · obtain ⟨hnA, hm9⟩ := hM
      exact absurd hA hnA
    · obtain ⟨hA, hz, hm9⟩ := hM
      have hnB : ¬ cp = 1 := fun z => absurd (z.symm.trans hz) (by decide)
      exact absurd hB hnB
  · have hx1 := hx.resolve_right (fun z => absurd z.1 (by decide))
    obtain ⟨-, hnA, hu⟩ := hx1
    cases hu
    refine ⟨hmd, fun r2 w3 hf hM => ?_⟩
    rcases hM with hM | hM | hM
    · obtain ⟨hA, hnz, er, hm9⟩ := hM
      have hB : cp = 1 := hcs.cp.resolve_left hnz
      exact absurd hA hnA
    · obtain ⟨hnA, hm9⟩ := hM
      exact ag_ex hcs hO hf hm9 (by decide)
    · obtain ⟨hA, hz, hm9⟩ := hM
      have hnB : ¬ cp = 1 := fun z => absurd (z.symm.trans hz) (by decide)
      exact absurd hA hnA
  · have hx2 := hx.resolve_left (fun z => absurd z.1 (by decide))
    obtain ⟨-, hA, hnB, hu⟩ := hx2
    cases hu
    refine ⟨hmd, fun r2 w3 hf hM => ?_⟩
    rcases hM with hM | hM | hM
    · obtain ⟨hA, hnz, er, hm9⟩ := hM
      have hB : cp = 1 := hcs.cp.resolve_left hnz
      exact absurd hB hnB
    · obtain ⟨hnA, hm9⟩ := hM
      exact absurd hA hnA
    · obtain ⟨hA, hz, hm9⟩ := hM
      have hnB : ¬ cp = 1 := fun z => absurd (z.symm.trans hz) (by decide)
      exact ag_ex hcs hO hf hm9 (by decide)
theorem ag_path {G : Gp} {ad am : Nat → Nat} {ao : Nat} {L L2 : List Nat} {w w2 : Wn} {th cp k9 : Int32} {fq : Nat → Nat} {df : Nat → Int32} {E : Nat → EL} {fo : Nat → Int64} {x : Int32} {fi se : Int64} (hcs : CS G ad L w cp (cp = 1) fq df E) (hmd : MD G am L w th cp df fq E) (hO : Hs L w 54 ao (jarE G 1 fo)) (hk : (k9 = 0 ∧ ∃ r w9, (fun (r : Int32) (u : Sw) => vld x 32 ∧ cp = 1 ∧ r = smN (fun i => pthT fq (E i) x fi se) 4 ∧ u = (L, w)) r (L2, w9) ∧ w2 = va_up w9 54 (ao, jarE G 1 (vp_updL fo 0 r.toInt64))) ∨ (k9 = 1 ∧ (fun (E9 : String) (u : Sw) => (E9 = IAE ∧ ¬ vld x 32 ∧ u = (L, w)) ∨ (E9 = ISE ∧ vld x 32 ∧ ¬ cp = 1 ∧ u = (L, w))) IAE (L2, w2)) ∨ (k9 = 2 ∧ (fun (E9 : String) (u : Sw) => (E9 = IAE ∧ ¬ vld x 32 ∧ u = (L, w)) ∨ (E9 = ISE ∧ vld x 32 ∧ ¬ cp = 1 ∧ u = (L, w))) ISE (L2, w2))) : MD G am L2 w2 th cp df fq E ∧ ∀ (r2 : Int32) (w3 : Wn), FrM L2 w2 w3 → ((vld x 32 ∧ ¬ cp = 0 ∧ r2 = smN (fun i => pthT fq (E i) x fi se) 4 ∧ MD G am L2 w3 0 cp df fq E) ∨ (¬ vld x 32 ∧ MD G am L2 w3 1 cp df fq E) ∨ (vld x 32 ∧ cp = 0 ∧ MD G am L2 w3 2 cp df fq E)) → AG G ad am ao k9 r2 L2 w3 := by
  rcases hk with ⟨rfl, r, w9, hp, hw⟩ | ⟨rfl, hx⟩ | ⟨rfl, hx⟩
  · obtain ⟨hA, hB, rfl, hu⟩ := hp
    cases hu
    refine ⟨md_up hmd Fr.rf hw, fun r2 w3 hf hM => ?_⟩
    rcases hM with hM | hM | hM
    · obtain ⟨hA, hnz, er, hm9⟩ := hM
      have hB : cp = 1 := hcs.cp.resolve_left hnz
      exact ag_ok hcs hO hw hf hm9 er.symm
    · obtain ⟨hnA, hm9⟩ := hM
      exact absurd hA hnA
    · obtain ⟨hA, hz, hm9⟩ := hM
      have hnB : ¬ cp = 1 := fun z => absurd (z.symm.trans hz) (by decide)
      exact absurd hB hnB
  · have hx1 := hx.resolve_right (fun z => absurd z.1 (by decide))
    obtain ⟨-, hnA, hu⟩ := hx1
    cases hu
    refine ⟨hmd, fun r2 w3 hf hM => ?_⟩
    rcases hM with hM | hM | hM
    · obtain ⟨hA, hnz, er, hm9⟩ := hM
      have hB : cp = 1 := hcs.cp.resolve_left hnz
      exact absurd hA hnA
    · obtain ⟨hnA, hm9⟩ := hM
      exact ag_ex hcs hO hf hm9 (by decide)
    · obtain ⟨hA, hz, hm9⟩ := hM
      have hnB : ¬ cp = 1 := fun z => absurd (z.symm.trans hz) (by decide)
      exact absurd hA hnA
  · have hx2 := hx.resolve_left (fun z => absurd z.1 (by decide))
    obtain ⟨-, hA, hnB, hu⟩ := hx2
    cases hu
    refine ⟨hmd, fun r2 w3 hf hM => ?_⟩
    rcases hM with hM | hM | hM
    · obtain ⟨hA, hnz, er, hm9⟩ := hM
      have hB : cp = 1 := hcs.cp.resolve_left hnz
      exact absurd hB hnB
    · obtain ⟨hnA, hm9⟩ := hM
      exact absurd hA hnA
    · obtain ⟨hA, hz, hm9⟩ := hM
      have hnB : ¬ cp = 1 := fun z => absurd (z.symm.trans hz) (by decide)
      exact ag_ex hcs hO hf hm9 (by decide)
theorem ag_judgeByRules {G : Gp} {ad am : Nat → Nat} {ao : Nat} {L L2 : List Nat} {w w2 : Wn} {th cp k9 : Int32} {fq : Nat → Nat} {df : Nat → Int32} {E : Nat → EL} {fo : Nat → Int64} {x : Int32} {fi se : Int64} (hcs : CS G ad L w cp (cp = 1) fq df E) (hmd : MD G am L w th cp df fq E) (hO : Hs L w 54 ao (jarE G 1 fo)) (hk : (k9 = 0 ∧ ∃ r w9, (fun (r : Int32) (u : Sw) => vld x 32 ∧ r = mxN (fun i => fAct x fi se (df i) (E i)) 4 ∧ u = (L, w)) r (L2, w9) ∧ w2 = va_up w9 54 (ao, jarE G 1 (vp_updL fo 0 r.toInt64))) ∨ (k9 = 1 ∧ (fun (E9 : String) (u : Sw) => E9 = IAE ∧ ¬ vld x 32 ∧ u = (L, w)) IAE (L2, w2)) ∨ (k9 = 2 ∧ False)) : MD G am L2 w2 th cp df fq E ∧ ∀ (r2 : Int32) (w3 : Wn), FrM L2 w2 w3 → ((vld x 32 ∧ r2 = mxN (fun i => fAct x fi se (df i) (E i)) 4 ∧ MD G am L2 w3 0 cp df fq E) ∨ (¬ vld x 32 ∧ MD G am L2 w3 1 cp df fq E)) → AG G ad am ao k9 r2 L2 w3 := by
  rcases hk with ⟨rfl, r, w9, hp, hw⟩ | ⟨rfl, hx⟩ | ⟨rfl, hx⟩
  · obtain ⟨hA, rfl, hu⟩ := hp
    cases hu
    refine ⟨md_up hmd Fr.rf hw, fun r2 w3 hf hM => ?_⟩
    rcases hM with hM | hM
    · obtain ⟨hA, er, hm9⟩ := hM
      exact ag_ok hcs hO hw hf hm9 er.symm
    · obtain ⟨hnA, hm9⟩ := hM
      exact absurd hA hnA
  · obtain ⟨-, hnA, hu⟩ := hx
    cases hu
    refine ⟨hmd, fun r2 w3 hf hM => ?_⟩
    rcases hM with hM | hM
    · obtain ⟨hA, er, hm9⟩ := hM
      exact absurd hA hnA
    · obtain ⟨hnA, hm9⟩ := hM
      exact ag_ex hcs hO hf hm9 (by decide)
  · exact hx.elim
theorem ag_actionOf {G : Gp} {ad am : Nat → Nat} {ao : Nat} {L L2 : List Nat} {w w2 : Wn} {th cp k9 : Int32} {fq : Nat → Nat} {df : Nat → Int32} {E : Nat → EL} {fo : Nat → Int64} {x x2 : Int32} {fi se : Int64} (hcs : CS G ad L w cp (cp = 1) fq df E) (hmd : MD G am L w th cp df fq E) (hO : Hs L w 54 ao (jarE G 1 fo)) (hk : (k9 = 0 ∧ ∃ r w9, (fun (r : Int32) (u : Sw) => ∃ j, j < 4 ∧ x = nI j ∧ vld x2 32 ∧ r = fAct x2 fi se (df j) (E j) ∧ u = (L, w)) r (L2, w9) ∧ w2 = va_up w9 54 (ao, jarE G 1 (vp_updL fo 0 r.toInt64))) ∨ (k9 = 1 ∧ (fun (E9 : String) (u : Sw) => E9 = IAE ∧ ¬ (vld x 4 ∧ vld x2 32) ∧ u = (L, w)) IAE (L2, w2)) ∨ (k9 = 2 ∧ False)) : MD G am L2 w2 th cp df fq E ∧ ∀ (r2 : Int32) (w3 : Wn), FrM L2 w2 w3 → ((∃ j, j < 4 ∧ x = nI j ∧ vld x2 32 ∧ r2 = fAct x2 fi se (df j) (E j) ∧ MD G am L2 w3 0 cp df fq E) ∨ (¬ (vld x 4 ∧ vld x2 32) ∧ MD G am L2 w3 1 cp df fq E)) → AG G ad am ao k9 r2 L2 w3 := by
  rcases hk with ⟨rfl, r, w9, hp, hw⟩ | ⟨rfl, hx⟩ | ⟨rfl, hx⟩
  · obtain ⟨j, hj, rfl, hv, rfl, hu⟩ := hp
    cases hu
    have hA : vld (nI j) 4 ∧ vld x2 32 := ⟨⟨j, hj, rfl⟩, hv⟩
    refine ⟨md_up hmd Fr.rf hw, fun r2 w3 hf hM => ?_⟩
    rcases hM with hM | hM
    · obtain ⟨j2, hj2, ej, hv2, er, hm9⟩ := hM
      have hA := And.intro (⟨j2, hj2, ej⟩ : vld _ 4) hv2
      have ej := nI4 hj hj2 ej; subst ej
      exact ag_ok hcs hO hw hf hm9 er.symm
    · obtain ⟨hnA, hm9⟩ := hM
      exact absurd hA hnA
  · obtain ⟨-, hnA, hu⟩ := hx
    cases hu
    refine ⟨hmd, fun r2 w3 hf hM => ?_⟩
    rcases hM with hM | hM
    · obtain ⟨j2, hj2, ej, hv2, er, hm9⟩ := hM
      have hA := And.intro (⟨j2, hj2, ej⟩ : vld _ 4) hv2
      exact absurd hA hnA
    · obtain ⟨hnA, hm9⟩ := hM
      exact ag_ex hcs hO hf hm9 (by decide)
  · exact hx.elim
theorem ag_add {G : Gp} {ad am : Nat → Nat} {ao : Nat} {L L2 : List Nat} {w w2 : Wn} {th cp k9 : Int32} {fq : Nat → Nat} {df : Nat → Int32} {E : Nat → EL} {fo : Nat → Int64} {x x2 x3 x4 : Int32} {fi se : Int64} (hcs : CS G ad L w cp (cp = 1) fq df E) (hmd : MD G am L w th cp df fq E) (hO : Hs L w 54 ao (jarE G 1 fo)) (hk : (k9 = 0 ∧ ∃ r w9, (fun (r : Int32) (u : Sw) => ∃ j, j < 4 ∧ x = nI j ∧ vld x2 32 ∧ vld x3 2 ∧ vld x4 7 ∧ (E j).length < 10 ∧ r = nI (E j).length ∧ ∃ b, CS G ad u.1 u.2 0 ((0 : Int32) = 1) fq df (va_up E j (E j ++ [(b, (x2, x3, fi, se, x4))])) ∧ FrC L w u.1 u.2) r (L2, w9) ∧ w2 = va_up w9 54 (ao, jarE G 1 (vp_updL fo 0 r.toInt64))) ∨ (k9 = 1 ∧ (fun (E9 : String) (u : Sw) => (E9 = IAE ∧ ¬ (vld x 4 ∧ vld x2 32 ∧ vld x3 2 ∧ vld x4 7) ∧ u = (L, w)) ∨ (E9 = ISE ∧ vld x 4 ∧ vld x2 32 ∧ vld x3 2 ∧ vld x4 7 ∧ ∃ j, j < 4 ∧ x = nI j ∧ 10 ≤ (E j).length ∧ u = (L, w))) IAE (L2, w2)) ∨ (k9 = 2 ∧ (fun (E9 : String) (u : Sw) => (E9 = IAE ∧ ¬ (vld x 4 ∧ vld x2 32 ∧ vld x3 2 ∧ vld x4 7) ∧ u = (L, w)) ∨ (E9 = ISE ∧ vld x 4 ∧ vld x2 32 ∧ vld x3 2 ∧ vld x4 7 ∧ ∃ j, j < 4 ∧ x = nI j ∧ 10 ≤ (E j).length ∧ u = (L, w))) ISE (L2, w2))) : MD G am L2 w2 th cp df fq E ∧ ∀ (r2 : Int32) (w3 : Wn), FrM L2 w2 w3 → ((∃ j, j < 4 ∧ x = nI j ∧ vld x2 32 ∧ vld x3 2 ∧ vld x4 7 ∧ (E j).length < 10 ∧ r2 = nI (E j).length ∧ ∀ b, MD G am L2 w3 0 0 df fq (va_up E j (E j ++ [(b, (x2, x3, fi, se, x4))]))) ∨ (¬ (vld x 4 ∧ vld x2 32 ∧ vld x3 2 ∧ vld x4 7) ∧ MD G am L2 w3 1 cp df fq E) ∨ (vld x 4 ∧ vld x2 32 ∧ vld x3 2 ∧ vld x4 7 ∧ ∃ j, j < 4 ∧ x = nI j ∧ 10 ≤ (E j).length ∧ MD G am L2 w3 2 cp df fq E)) → AG G ad am ao k9 r2 L2 w3 := by
  rcases hk with ⟨rfl, r, w9, hp, hw⟩ | ⟨rfl, hx⟩ | ⟨rfl, hx⟩
  · obtain ⟨j, hj, rfl, v1, v2, v3, hl, rfl, b, hc9, hfC⟩ := hp
    have hO9 := hfC.hs hO (by unfold MC; omega)
    have hA : vld (nI j) 4 ∧ vld x2 32 ∧ vld x3 2 ∧ vld x4 7 := ⟨⟨j, hj, rfl⟩, v1, v2, v3⟩
    have hB : ∃ j2, j2 < 4 ∧ nI j = nI j2 ∧ (E j2).length < 10 := ⟨j, hj, rfl, hl⟩
    refine ⟨md_up hmd hfC hw, fun r2 w3 hf hM => ?_⟩
    rcases hM with hM | hM | hM
    · obtain ⟨j2, hj2, ej, u1, u2, u3, hl2, er, hm9⟩ := hM
      have hA := (⟨⟨j2, hj2, ej⟩, u1, u2, u3⟩ : vld _ 4 ∧ vld x2 32 ∧ vld x3 2 ∧ vld x4 7)
      have hB := (⟨j2, hj2, ej, hl2⟩ : ∃ j2, j2 < 4 ∧ _ = nI j2 ∧ (E j2).length < 10)
      have ej := nI4 hj hj2 ej; subst ej
      exact ag_ok hc9 hO9 hw hf (hm9 b) er.symm
    · obtain ⟨hnA, hm9⟩ := hM
      exact absurd hA hnA
    · obtain ⟨u0, u1, u2, u3, j3, hj3, ej3, hl3, hm9⟩ := hM
      have hA := And.intro u0 (And.intro u1 (And.intro u2 u3))
      have hnB := not_full hj3 ej3 hl3
      exact absurd hB hnB
  · have hx1 := hx.resolve_right (fun z => absurd z.1 (by decide))
    obtain ⟨-, hnA, hu⟩ := hx1
    cases hu
    refine ⟨hmd, fun r2 w3 hf hM => ?_⟩
    rcases hM with hM | hM | hM
    · obtain ⟨j2, hj2, ej, u1, u2, u3, hl2, er, hm9⟩ := hM
      have hA := (⟨⟨j2, hj2, ej⟩, u1, u2, u3⟩ : vld _ 4 ∧ vld x2 32 ∧ vld x3 2 ∧ vld x4 7)
      have hB := (⟨j2, hj2, ej, hl2⟩ : ∃ j2, j2 < 4 ∧ _ = nI j2 ∧ (E j2).length < 10)
      exact absurd hA hnA
    · obtain ⟨hnA, hm9⟩ := hM
      exact ag_ex hcs hO hf hm9 (by decide)
    · obtain ⟨u0, u1, u2, u3, j3, hj3, ej3, hl3, hm9⟩ := hM
      have hA := And.intro u0 (And.intro u1 (And.intro u2 u3))
      have hnB := not_full hj3 ej3 hl3
      exact absurd hA hnA
  · have hx2 := hx.resolve_left (fun z => absurd z.1 (by decide))
    obtain ⟨-, v0, v1, v2, v3, j, hj, rfl, hl, hu⟩ := hx2
    cases hu
    have hA := And.intro v0 (And.intro v1 (And.intro v2 v3))
    have hnB : ¬ (∃ j2, j2 < 4 ∧ nI j = nI j2 ∧ (E j2).length < 10) := fun ⟨j2, hj2, e2, h2⟩ => by rw [← nI4 hj hj2 e2] at h2; omega
    refine ⟨hmd, fun r2 w3 hf hM => ?_⟩
    rcases hM with hM | hM | hM
    · obtain ⟨j2, hj2, ej, u1, u2, u3, hl2, er, hm9⟩ := hM
      have hA := (⟨⟨j2, hj2, ej⟩, u1, u2, u3⟩ : vld _ 4 ∧ vld x2 32 ∧ vld x3 2 ∧ vld x4 7)
      have hB := (⟨j2, hj2, ej, hl2⟩ : ∃ j2, j2 < 4 ∧ _ = nI j2 ∧ (E j2).length < 10)
      exact absurd hB hnB
    · obtain ⟨hnA, hm9⟩ := hM
      exact absurd hA hnA
    · obtain ⟨u0, u1, u2, u3, j3, hj3, ej3, hl3, hm9⟩ := hM
      have hA := And.intro u0 (And.intro u1 (And.intro u2 u3))
      have hnB := not_full hj3 ej3 hl3
      exact ag_ex hcs hO hf hm9 (by decide)
theorem ag_remove {G : Gp} {ad am : Nat → Nat} {ao : Nat} {L L2 : List Nat} {w w2 : Wn} {th cp k9 : Int32} {fq : Nat → Nat} {df : Nat → Int32} {E : Nat → EL} {fo : Nat → Int64} {x x2 : Int32} (hcs : CS G ad L w cp (cp = 1) fq df E) (hmd : MD G am L w th cp df fq E) (hO : Hs L w 54 ao (jarE G 1 fo)) (hk : (k9 = 0 ∧ ∃ r w9, (fun (r : Int32) (u : Sw) => ∃ j, j < 4 ∧ x = nI j ∧ ∃ i, i < (E j).length ∧ x2 = nI i ∧ r = nI ((E j).length - 1) ∧ CS G ad u.1 u.2 0 ((0 : Int32) = 1) fq df (va_up E j ((E j).eraseIdx i)) ∧ FrC L w u.1 u.2) r (L2, w9) ∧ w2 = va_up w9 54 (ao, jarE G 1 (vp_updL fo 0 r.toInt64))) ∨ (k9 = 1 ∧ (fun (E9 : String) (u : Sw) => (E9 = IAE ∧ ¬ vld x 4 ∧ u = (L, w)) ∨ (E9 = IOE ∧ ∃ j, j < 4 ∧ x = nI j ∧ ¬ vld x2 (E j).length ∧ u = (L, w))) IAE (L2, w2)) ∨ (k9 = 2 ∧ (fun (E9 : String) (u : Sw) => (E9 = IAE ∧ ¬ vld x 4 ∧ u = (L, w)) ∨ (E9 = IOE ∧ ∃ j, j < 4 ∧ x = nI j ∧ ¬ vld x2 (E j).length ∧ u = (L, w))) IOE (L2, w2))) : MD G am L2 w2 th cp df fq E ∧ ∀ (r2 : Int32) (w3 : Wn), FrM L2 w2 w3 → ((∃ j, j < 4 ∧ x = nI j ∧ ∃ i, i < (E j).length ∧ x2 = nI i ∧ r2 = nI ((E j).length - 1) ∧ MD G am L2 w3 0 0 df fq (va_up E j ((E j).eraseIdx i))) ∨ (¬ vld x 4 ∧ MD G am L2 w3 1 cp df fq E) ∨ (vld x 4 ∧ ¬ (∃ j, j < 4 ∧ x = nI j ∧ vld x2 (E j).length) ∧ MD G am L2 w3 2 cp df fq E)) → AG G ad am ao k9 r2 L2 w3 := by
  rcases hk with ⟨rfl, r, w9, hp, hw⟩ | ⟨rfl, hx⟩ | ⟨rfl, hx⟩
  · obtain ⟨j, hj, rfl, i, hi, rfl, rfl, hc9, hfC⟩ := hp
    have hO9 := hfC.hs hO (by unfold MC; omega)
    have hA : vld (nI j) 4 := ⟨j, hj, rfl⟩
    have hB : ∃ j2, j2 < 4 ∧ nI j = nI j2 ∧ vld (nI i) (E j2).length := ⟨j, hj, rfl, i, hi, rfl⟩
    have h10 := hcs.le hj
    refine ⟨md_up hmd hfC hw, fun r2 w3 hf hM => ?_⟩
    rcases hM with hM | hM | hM
    · obtain ⟨j2, hj2, ej, i2, hi2, ei, er, hm9⟩ := hM
      have hA := (⟨j2, hj2, ej⟩ : vld _ 4)
      have hB := (⟨j2, hj2, ej, i2, hi2, ei⟩ : ∃ j2, j2 < 4 ∧ _ = nI j2 ∧ vld _ (E j2).length)
      have ej := nI4 hj hj2 ej; subst ej
      have ei := nI_inj (by omega) (by omega) ei; subst ei
      exact ag_ok hc9 hO9 hw hf hm9 er.symm
    · obtain ⟨hnA, hm9⟩ := hM
      exact absurd hA hnA
    · obtain ⟨hA, hnB, hm9⟩ := hM
      exact absurd hB hnB
  · have hx1 := hx.resolve_right (fun z => absurd z.1 (by decide))
    obtain ⟨-, hnA, hu⟩ := hx1
    cases hu
    refine ⟨hmd, fun r2 w3 hf hM => ?_⟩
    rcases hM with hM | hM | hM
    · obtain ⟨j2, hj2, ej, i2, hi2, ei, er, hm9⟩ := hM
      have hA := (⟨j2, hj2, ej⟩ : vld _ 4)
      have hB := (⟨j2, hj2, ej, i2, hi2, ei⟩ : ∃ j2, j2 < 4 ∧ _ = nI j2 ∧ vld _ (E j2).length)
      exact absurd hA hnA
    · obtain ⟨hnA, hm9⟩ := hM
      exact ag_ex hcs hO hf hm9 (by decide)
    · obtain ⟨hA, hnB, hm9⟩ := hM
      exact absurd hA hnA
  · have hx2 := hx.resolve_left (fun z => absurd z.1 (by decide))
    obtain ⟨-, j, hj, rfl, hnv, hu⟩ := hx2
    cases hu
    have hA : vld (nI j) 4 := ⟨j, hj, rfl⟩
    have hnB : ¬ (∃ j2, j2 < 4 ∧ nI j = nI j2 ∧ vld x2 (E j2).length) := fun ⟨j2, hj2, e2, h2⟩ => hnv (by rw [nI4 hj hj2 e2]; exact h2)
    refine ⟨hmd, fun r2 w3 hf hM => ?_⟩
    rcases hM with hM | hM | hM
    · obtain ⟨j2, hj2, ej, i2, hi2, ei, er, hm9⟩ := hM
      have hA := (⟨j2, hj2, ej⟩ : vld _ 4)
      have hB := (⟨j2, hj2, ej, i2, hi2, ei⟩ : ∃ j2, j2 < 4 ∧ _ = nI j2 ∧ vld _ (E j2).length)
      exact absurd hB hnB
    · obtain ⟨hnA, hm9⟩ := hM
      exact absurd hA hnA
    · obtain ⟨hA, hnB, hm9⟩ := hM
      exact ag_ex hcs hO hf hm9 (by decide)
theorem ag_setDefault {G : Gp} {ad am : Nat → Nat} {ao : Nat} {L L2 : List Nat} {w w2 : Wn} {th cp k9 : Int32} {fq : Nat → Nat} {df : Nat → Int32} {E : Nat → EL} {fo : Nat → Int64} {x x2 : Int32} (hcs : CS G ad L w cp (cp = 1) fq df E) (hmd : MD G am L w th cp df fq E) (hO : Hs L w 54 ao (jarE G 1 fo)) (hk : (k9 = 0 ∧ ∃ r w9, (fun (r : Int32) (u : Sw) => ∃ j, j < 4 ∧ x = nI j ∧ vld x2 7 ∧ r = df j ∧ ((x2 = df j ∧ u = (L, w)) ∨ (¬ x2 = df j ∧ CS G ad u.1 u.2 0 ((0 : Int32) = 1) fq (va_up df j x2) E ∧ FrC L w u.1 u.2))) r (L2, w9) ∧ w2 = va_up w9 54 (ao, jarE G 1 (vp_updL fo 0 r.toInt64))) ∨ (k9 = 1 ∧ (fun (E9 : String) (u : Sw) => E9 = IAE ∧ ¬ (vld x 4 ∧ vld x2 7) ∧ u = (L, w)) IAE (L2, w2)) ∨ (k9 = 2 ∧ False)) : MD G am L2 w2 th cp df fq E ∧ ∀ (r2 : Int32) (w3 : Wn), FrM L2 w2 w3 → ((∃ j, j < 4 ∧ x = nI j ∧ vld x2 7 ∧ r2 = df j ∧ ((x2 = df j ∧ MD G am L2 w3 0 cp df fq E) ∨ (¬ x2 = df j ∧ MD G am L2 w3 0 0 (va_up df j x2) fq E))) ∨ (¬ (vld x 4 ∧ vld x2 7) ∧ MD G am L2 w3 1 cp df fq E)) → AG G ad am ao k9 r2 L2 w3 := by
  rcases hk with ⟨rfl, r, w9, hp, hw⟩ | ⟨rfl, hx⟩ | ⟨rfl, hx⟩
  · obtain ⟨j, hj, rfl, v1, rfl, hc⟩ := hp
    have hfC : FrC L w L2 w9 := by
      rcases hc with ⟨-, hu⟩ | ⟨-, -, h⟩
      · cases hu; exact Fr.rf
      · exact h
    have hO9 := hfC.hs hO (by unfold MC; omega)
    have hA : vld (nI j) 4 ∧ vld x2 7 := ⟨⟨j, hj, rfl⟩, v1⟩
    refine ⟨md_up hmd hfC hw, fun r2 w3 hf hM => ?_⟩
    rcases hM with hM | hM
    · obtain ⟨j2, hj2, ej, v2, er, hd⟩ := hM
      have hA := And.intro (⟨j2, hj2, ej⟩ : vld _ 4) v2
      have ej := nI4 hj hj2 ej; subst ej
      rcases hc with ⟨h1, hu⟩ | ⟨h1, h3, -⟩ <;> rcases hd with ⟨g1, g3⟩ | ⟨g1, g3⟩
      · cases hu; exact ag_ok hcs hO hw hf g3 er.symm
      · exact absurd h1 g1
      · exact absurd g1 h1
      · exact ag_ok h3 hO9 hw hf g3 er.symm
    · obtain ⟨hnA, hm9⟩ := hM
      exact absurd hA hnA
  · obtain ⟨-, hnA, hu⟩ := hx
    cases hu
    refine ⟨hmd, fun r2 w3 hf hM => ?_⟩
    rcases hM with hM | hM
    · obtain ⟨j2, hj2, ej, v2, er, hd⟩ := hM
      have hA := And.intro (⟨j2, hj2, ej⟩ : vld _ 4) v2
      exact absurd hA hnA
    · obtain ⟨hnA, hm9⟩ := hM
      exact ag_ex hcs hO hf hm9 (by decide)
  · exact hx.elim
theorem ag_setFrequency {G : Gp} {ad am : Nat → Nat} {ao : Nat} {L L2 : List Nat} {w w2 : Wn} {th cp k9 : Int32} {fq : Nat → Nat} {df : Nat → Int32} {E : Nat → EL} {fo : Nat → Int64} {x x2 : Int32} (hcs : CS G ad L w cp (cp = 1) fq df E) (hmd : MD G am L w th cp df fq E) (hO : Hs L w 54 ao (jarE G 1 fo)) (hk : (k9 = 0 ∧ ∃ r w9, (fun (r : Int32) (u : Sw) => ∃ j, j < 32 ∧ x = nI j ∧ vld x2 1001 ∧ r = nI (fq j) ∧ ((x2 = nI (fq j) ∧ u = (L, w)) ∨ (¬ x2 = nI (fq j) ∧ ∃ F9, x2 = nI F9 ∧ CS G ad u.1 u.2 0 ((0 : Int32) = 1) (va_up fq j F9) df E ∧ FrC L w u.1 u.2))) r (L2, w9) ∧ w2 = va_up w9 54 (ao, jarE G 1 (vp_updL fo 0 r.toInt64))) ∨ (k9 = 1 ∧ (fun (E9 : String) (u : Sw) => E9 = IAE ∧ ¬ (vld x 32 ∧ vld x2 1001) ∧ u = (L, w)) IAE (L2, w2)) ∨ (k9 = 2 ∧ False)) : MD G am L2 w2 th cp df fq E ∧ ∀ (r2 : Int32) (w3 : Wn), FrM L2 w2 w3 → ((∃ j, j < 32 ∧ x = nI j ∧ vld x2 1001 ∧ r2 = nI (fq j) ∧ ((x2 = nI (fq j) ∧ MD G am L2 w3 0 cp df fq E) ∨ (¬ x2 = nI (fq j) ∧ ∃ F9, x2 = nI F9 ∧ MD G am L2 w3 0 0 df (va_up fq j F9) E))) ∨ (¬ (vld x 32 ∧ vld x2 1001) ∧ MD G am L2 w3 1 cp df fq E)) → AG G ad am ao k9 r2 L2 w3 := by
  rcases hk with ⟨rfl, r, w9, hp, hw⟩ | ⟨rfl, hx⟩ | ⟨rfl, hx⟩
  · obtain ⟨j, hj, rfl, v1, rfl, hc⟩ := hp
    have hfC : FrC L w L2 w9 := by
      rcases hc with ⟨-, hu⟩ | ⟨-, F9, -, -, h⟩
      · cases hu; exact Fr.rf
      · exact h
    have hO9 := hfC.hs hO (by unfold MC; omega)
    have hA : vld (nI j) 32 ∧ vld x2 1001 := ⟨⟨j, hj, rfl⟩, v1⟩
    refine ⟨md_up hmd hfC hw, fun r2 w3 hf hM => ?_⟩
    rcases hM with hM | hM
    · obtain ⟨j2, hj2, ej, v2, er, hd⟩ := hM
      have hA := And.intro (⟨j2, hj2, ej⟩ : vld _ 32) v2
      have ej := nI_inj (by omega) (by omega) ej; subst ej
      rcases hc with ⟨h1, hu⟩ | ⟨h1, F1, e1, h3, -⟩ <;> rcases hd with ⟨g1, g3⟩ | ⟨g1, F2, e2, g3⟩
      · cases hu; exact ag_ok hcs hO hw hf g3 er.symm
      · exact absurd h1 g1
      · exact absurd g1 h1
      · have b1 : F1 ≤ 1000 := by have h9 := h3.2.2.2.1 j; simpa [va_up] using h9
        have b2 : F2 ≤ 1000 := by have h9 := g3.fb j; simpa [va_up] using h9
        have q1 : F1 = F2 := nI_inj (by omega) (by omega) (e1.symm.trans e2)
        subst q1; exact ag_ok h3 hO9 hw hf g3 er.symm
    · obtain ⟨hnA, hm9⟩ := hM
      exact absurd hA hnA
  · obtain ⟨-, hnA, hu⟩ := hx
    cases hu
    refine ⟨hmd, fun r2 w3 hf hM => ?_⟩
    rcases hM with hM | hM
    · obtain ⟨j2, hj2, ej, v2, er, hd⟩ := hM
      have hA := And.intro (⟨j2, hj2, ej⟩ : vld _ 32) v2
      exact absurd hA hnA
    · obtain ⟨hnA, hm9⟩ := hM
      exact ag_ex hcs hO hf hm9 (by decide)
  · exact hx.elim
