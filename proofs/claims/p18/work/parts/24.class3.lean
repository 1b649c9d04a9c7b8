/-! THE CLASS: the calls that change it -/
theorem CS.setc {G : Gp} {ad : Nat → Nat} {L : List Nat} {w : Wn} {cp : Int32} {b : Prop} {fq : Nat → Nat} {df : Nat → Int32} {E : Nat → EL} (h : CS G ad L w cp b fq df E) {c2 : Int32} {b2 : Prop} (hb : b2 → b) (hc : c2 = 0 ∨ c2 = 1) {w2 : Wn} (e : w2 = va_up w 0 (ad 0, sysE ad c2)) : CS G ad L w2 c2 b2 fq df E ∧ FrC L w L w2 := by
  have hf : Fr (fun m => m = 0) (fun _ => False) L w L w2 := Fr.up e
  obtain ⟨h0, hfa, hfq, hfb, ⟨sz, nu, we, co, fp, hp, hz⟩, hcf, hcp⟩ := h
  exact ⟨⟨by rw [e]; exact h0.me, hf.hs hfa (by decide), hf.hs hfq (by decide), hfb, ⟨sz, nu, we, co, fp, hp.fr hf (fun m z _ => by omega), hz⟩, fun j hj => ((hcf j hj).fr hj hf (fun m z1 z2 => by omega) (fun m z1 z2 => ⟨by omega, fun z => z⟩) (fun m z1 _ => by omega)).weak hb, hc⟩, hf.mono (fun m z => by unfold MC; omega) (fun m z => z.elim)⟩
theorem CS.setl {G : Gp} {ad : Nat → Nat} {L L2 : List Nat} {w w2 : Wn} {cp : Int32} {b : Prop} {fq : Nat → Nat} {df : Nat → Int32} {E : Nat → EL} (h : CS G ad L w cp b fq df E) {j : Nat} (hj : j < 4) {el : EL} (hf : FrL (31 + 3 * j) L w L2 w2) (hR : Lst G L2 w2 (31 + 3 * j) (ad (31 + 3 * j)) el) (hb : ¬ b) : CS G ad L2 w2 cp b fq df (va_up E j el) := by
  obtain ⟨h0, hfa, hfq, hfb, ⟨sz, nu, we, co, fp, hp, hz⟩, hcf, hcp⟩ := h
  refine ⟨hf.hs h0 (by omega), hf.hs hfa (by omega), hf.hs hfq (by omega), hfb, ⟨sz, nu, we, co, fp, hp.fr hf (fun m z _ => by omega), hz⟩, fun i hi => ?_, hcp⟩
  by_cases e : i = j
  · subst e
    obtain ⟨ft, tc, cl, g1, g2, g3, g4⟩ := hcf i hi
    have e2 : va_up E i el i = el := by simp [va_up]
    exact ⟨ft, tc, cl, hf.hs g1 (by omega), by rw [e2]; exact hR, g3.fr hf (by omega) (by omega) (by omega) (fun m z1 _ z => by omega), fun z => absurd z hb⟩
  · rw [va_up_ne _ _ e]
    exact (hcf i hi).fr hi hf (fun m z1 z2 z => by omega) (fun m z1 z2 => ⟨fun z => by omega, fun z => by omega⟩) (fun m z1 _ z => by omega)
theorem CS.setd {G : Gp} {ad : Nat → Nat} {L : List Nat} {w : Wn} {cp : Int32} {b : Prop} {fq : Nat → Nat} {df : Nat → Int32} {E : Nat → EL} (h : CS G ad L w cp b fq df E) {j : Nat} (hj : j < 4) {x2 tc : Int32} {ft : Option Nat} {w2 : Wn} (hF : Hs L w (30 + 3 * j) (ad (30 + 3 * j)) (filE (ad (31 + 3 * j)) (ad (32 + 3 * j)) (df j) ft tc)) (e : w2 = va_up w (30 + 3 * j) (ad (30 + 3 * j), filE (ad (31 + 3 * j)) (ad (32 + 3 * j)) x2 ft tc)) : CS G ad L w2 cp False fq (va_up df j x2) E ∧ FrC L w L w2 := by
  have hf : Fr (fun m => m = 30 + 3 * j) (fun _ => False) L w L w2 := Fr.up e
  obtain ⟨h0, hfa, hfq, hfb, ⟨sz, nu, we, co, fp, hp, hz⟩, hcf, hcp⟩ := h
  refine ⟨⟨hf.hs h0 (by omega), hf.hs hfa (by omega), hf.hs hfq (by omega), hfb, ⟨sz, nu, we, co, fp, hp.fr hf (fun m z _ => by omega), hz⟩, fun i hi => ?_, hcp⟩, hf.mono (fun m z => by unfold MC; omega) (fun m z => z.elim)⟩
  by_cases e3 : i = j
  · subst e3
    obtain ⟨ft2, tc2, cl, g1, g2, g3, g4⟩ := hcf i hi
    have e2 : va_up df i x2 i = x2 := by simp [va_up]
    exact ⟨ft, tc, cl, by rw [e2, e]; exact hF.me, g2.fr hf (by omega) (by omega) (fun z => z) (fun m z1 _ z => by omega), g3.fr hf (by omega) (by omega) (fun z => z) (fun m z1 _ z => by omega), fun z => z.elim⟩
  · rw [va_up_ne _ _ e3]
    exact ((hcf i hi).fr hi hf (fun m z1 z2 z => by omega) (fun m z1 z2 => ⟨fun z => by omega, fun z => z⟩) (fun m z1 _ z => by omega)).weak (fun z => z.elim)
theorem CS.setq {G : Gp} {ad : Nat → Nat} {L : List Nat} {w : Wn} {cp : Int32} {b : Prop} {fq : Nat → Nat} {df : Nat → Int32} {E : Nat → EL} (h : CS G ad L w cp b fq df E) {j F : Nat} (hj : j < 32) (hF : F ≤ 1000) {w2 : Wn} (e : w2 = va_up w 2 (ad 2, iarE G 32 (upd (fun i => nI (fq i)) j (nI F)))) : CS G ad L w2 cp False (va_up fq j F) df E ∧ FrC L w L w2 := by
  have hf : Fr (fun m => m = 2) (fun _ => False) L w L w2 := Fr.up e
  obtain ⟨h0, hfa, hfq, hfb, ⟨sz, nu, we, co, fp, hp, hz⟩, hcf, hcp⟩ := h
  have e4 : upd (fun i => nI (fq i)) j (nI F) = fun i => nI (va_up fq j F i) := by
    funext i
    by_cases z : i = j
    · simp [upd, va_up, z]
    · simp [upd, va_up, z]
  refine ⟨⟨hf.hs h0 (by omega), hf.hs hfa (by omega), by rw [e, ← e4]; exact hfq.me, fun i => ?_, ⟨sz, nu, we, co, fp, hp.fr hf (fun m z _ => by omega), hz⟩, fun i hi => ?_, hcp⟩, hf.mono (fun m z => by unfold MC; omega) (fun m z => z.elim)⟩
  · by_cases z : i = j
    · simp [va_up, z, hF]
    · simp [va_up, z, hfb i]
  · obtain ⟨ft2, tc2, cl, g1, g2, g3, g4⟩ := hcf i hi
    exact ⟨ft2, tc2, cl, hf.hs g1 (by omega), g2.fr hf (by omega) (by omega) (fun z => z) (fun m z1 _ z => by omega), g3.fr hf (by omega) (by omega) (fun z => z) (fun m z1 _ z => by omega), fun z => z.elim⟩
theorem frL_C {j : Nat} (hj : j < 4) {L L2 : List Nat} {w w2 : Wn} (h : FrL (31 + 3 * j) L w L2 w2) : FrC L w L2 w2 := h.mono (fun m z => by unfold MC; omega) (fun m z => by unfold NC; omega)
theorem vld_le {x : Int32} {n : Nat} (hn : n + 1 < 2147483648) (h1 : ¬ x < 0) (h2 : x ≤ nI n) : vld x (n + 1) := vld_of hn h1 (by
  have := Int32.le_iff_toInt_le.mp h2
  refine Int32.lt_iff_toInt_lt.mpr ?_
  have e1 : (nI n).toInt = n := nI_toInt (by omega)
  have e2 : (nI (n + 1)).toInt = (n + 1 : Nat) := nI_toInt (by omega)
  omega)
theorem vld_n2 {x : Int32} {n : Nat} (hn : n + 1 < 2147483648) (h : ¬ x ≤ nI n) : ¬ vld x (n + 1) := fun ⟨j, h1, h2⟩ => by
  subst h2
  exact h (nI_le (by omega) (by omega))
set_option maxRecDepth 100000 in
set_option maxHeartbeats 4000000 in
theorem compile_tail {p : Program} {e : Env} {s : State} {m : MethodId} {args : Array Value} {below : List Frame} {meth : Method} {c : Code} {A : Nat → Prop} {xp : String → Sw → Prop} {post : Int32 → Sw → Prop} {ad : Nat → Nat} {cp : Int32} {fq : Nat → Nat} {df : Nat → Int32} {E : Nat → EL} {L : List Nat} {w : Wn} {l : Launch} {G : Gp} (hcs : CS G ad L w cp True fq df E) {x : Int32} (hend : ∀ r w2, ((smN (fun j => wF fq (E j)) 4 ≤ x ∧ r = smN (fun j => wF fq (E j)) 4 ∧ w2 = va_up w 0 (ad 0, sysE ad 1)) ∨ (¬ smN (fun j => wF fq (E j)) 4 ≤ x ∧ r = -1 ∧ w2 = w)) → post r (L, w2)) (C : Cx p s m args c cX4_compile yX4_compile.cls 3 wsX4_compile G A s.heap) (hr : meth.sig.returnType = (some .int)) (hlk : meth.locks = false) :  J p l e (rmD 30 100 1000) s m args below meth c G A s.heap 3 (vx_MQ below (va_Qi post (PB G A) A) (XX G A xp) args s (rmD 30 100 1000).cells (rmD 30 100 1000).slots A) L w 80 560 32 [some (.ref (ad 0)), some (.int x), none] [] := by
  have hin_X4 : ∀ x ∈ u_ws RX4 TX4 4, x ∈ wsX4_compile := by decide +kernel
  obtain ⟨h0, hfa, hfq, hfb, hpl, hcf, hcp⟩ := id hcs
  skip
  refine j_aload_n (pc := 32) C rfl dX4_compile_32 rfl ?_
  refine jV_i0 (pc := 33) (k2 := 80) (n2 := 560) (np := 0) (As := []) C (ct_wpa hcs) gX4_compile_X4_worstPathOfAll rfl (by decide +kernel) ⟨by decide, by decide⟩ h0 rfl rfl rfl (Nat.le_of_ble_eq_true rfl) dX4_compile_33 (by decide) (by decide) ⟨by decide, by decide⟩ (fun v hv => ?_)
  subst hv
  refine j_istore_2 (pc := 36) C dX4_compile_36 (by decide) rfl ?_
  refine j_iload_n (pc := 37) C rfl dX4_compile_37 rfl ?_
  refine j_iload_n (pc := 38) C rfl dX4_compile_38 rfl ?_
  refine j_icmp_le (pc := 39) (tgt := 44) C dX4_compile_39 (by decide) (fun c39 => ?_) (fun c39 => ?_)
  · refine j_aload_n (pc := 44) C rfl dX4_compile_44 rfl ?_
    refine j_iconst (pc := 45) (v := 1) C dX4_compile_45 (by decide) ?_
    refine j_put (pc := 46) (fs2 := [.ref (ad 1), .ref (ad 2), .ref (ad 3), .int 1]) C hin_X4 h0 rfl 3 (by decide) tyX4 tyX4_ok nmX4 (by decide +kernel) rfl (tyX4_ok 3 (by decide)) (by first | rfl | decide) rfl (Nat.le_of_ble_eq_true rfl) rfl dX4_compile_46 ?_
    refine j_nm (fun w46 ew46 => ?_)
    have h0 : Hs L w46 0 (ad 0) (.inr (5, [.ref (ad 1), .ref (ad 2), .ref (ad 3), .int 1])) := by rw [ew46]; exact h0.me
    refine j_iload_n (pc := 49) C rfl dX4_compile_49 rfl ?_
    exact xret_i C rfl hr hlk dX4_compile_50 (hend _ _ (Or.inl ⟨c39, rfl, ew46⟩)) (by decide) (by decide)
  · refine j_iconst (pc := 42) (v := (-1)) C dX4_compile_42 (by decide) ?_
    exact xret_i C rfl hr hlk dX4_compile_43 (hend _ _ (Or.inr ⟨c39, rfl, rfl⟩)) (by decide) (by decide)

theorem compile_fin {G : Gp} {ad : Nat → Nat} {L L2 : List Nat} {w w2 w3 : Wn} {cp : Int32} {fq : Nat → Nat} {df : Nat → Int32} {E : Nat → EL} (h : CS G ad L2 w2 cp True fq df E) (hf : FrC L w L2 w2) {x r : Int32} (hv : vld x 1001) (hr : (smN (fun j => wF fq (E j)) 4 ≤ x ∧ r = smN (fun j => wF fq (E j)) 4 ∧ w3 = va_up w2 0 (ad 0, sysE ad 1)) ∨ (¬ smN (fun j => wF fq (E j)) 4 ≤ x ∧ r = -1 ∧ w3 = w2)) : vld x 1001 ∧ ((smN (fun j => wF fq (E j)) 4 ≤ x ∧ r = smN (fun j => wF fq (E j)) 4 ∧ CS G ad L2 w3 1 ((1 : Int32) = 1) fq df E) ∨ (¬ smN (fun j => wF fq (E j)) 4 ≤ x ∧ r = -1 ∧ CS G ad L2 w3 cp (cp = 1) fq df E)) ∧ FrC L w L2 w3 := by
  refine ⟨hv, ?_⟩
  rcases hr with ⟨h1, h2, h3⟩ | ⟨h1, h2, h3⟩
  · obtain ⟨g1, g2⟩ := h.setc (b2 := (1 : Int32) = 1) (fun _ => trivial) (Or.inr rfl) h3
    exact ⟨Or.inl ⟨h1, h2, g1⟩, hf.tr g2⟩
  · subst h3
    exact ⟨Or.inr ⟨h1, h2, h.weak (fun _ => trivial)⟩, hf⟩
set_option maxRecDepth 100000 in
set_option maxHeartbeats 4000000 in
theorem ct_compile {l : Launch} {G : Gp} {L : List Nat} {w : Wn} (hlt : l.stackTraces = false) {ad : Nat → Nat} {cp : Int32} {fq : Nat → Nat} {df : Nat → Int32} {E : Nat → EL} (hcs : CS G ad L w cp (cp = 1) fq df E) (x : Int32) : XI l yX4_compile wsX4_compile (rmD 30 100 1000) G L w [.ref (ad 0), .int x] (fun r u => vld x 1001 ∧ ((smN (fun j => wF fq (E j)) 4 ≤ x ∧ r = smN (fun j => wF fq (E j)) 4 ∧ CS G ad u.1 u.2 1 ((1 : Int32) = 1) fq df E) ∨ (¬ smN (fun j => wF fq (E j)) 4 ≤ x ∧ r = -1 ∧ CS G ad u.1 u.2 cp (cp = 1) fq df E)) ∧ FrC L w u.1 u.2) (fun E9 u => E9 = IAE ∧ ¬ vld x 1001 ∧ u = (L, w)) := by
  refine mkx_i (cc := cX4_compile) (maxL := 3) [some (.ref (ad 0)), some (.int x), none] (by decide) rfl (Nat.le_of_ble_eq_true rfl) rfl ?_
  intro p e s m args below meth c A C hr hlk hx0
  have hin_X4 : ∀ x ∈ u_ws RX4 TX4 4, x ∈ wsX4_compile := by decide +kernel
  obtain ⟨h0, hfa, hfq, hfb, hpl, hcf, hcp⟩ := id hcs
  refine j_iload_n (pc := 0) C rfl dX4_compile_0 rfl ?_
  refine j_if_lt (pc := 1) (tgt := 11) C dX4_compile_1 (by decide) (fun c1 => ?_) (fun c1 => ?_)
  · refine j_throwS (pc := 11) (cls := IAE) (names := RNM) (text := "a bound is 0 to 1000") C rfl hlt hx0 hlk (by decide) (by decide) (by decide +kernel) (by decide +kernel) (by decide +kernel) (by decide +kernel) xat_1 xgd_1 dX4_compile_11 dX4_compile_14 dX4_compile_15 dX4_compile_17 dX4_compile_20 (by decide) (Nat.le_of_ble_eq_true rfl) (by decide) (by decide) (by decide) (by decide) (by decide) (⟨rfl, vld_n0 (by decide) c1, rfl⟩)
  · refine j_iload_n (pc := 4) C rfl dX4_compile_4 rfl ?_
    refine j_sipush (pc := 5) (v := 1000) C dX4_compile_5 (by decide) ?_
    refine j_icmp_le (pc := 8) (tgt := 21) C dX4_compile_8 (by decide) (fun c8 => ?_) (fun c8 => ?_)
    · have hv : vld x 1001 := vld_le (n := 1000) (by decide) c1 c8
      refine j_aload_n (pc := 21) C rfl dX4_compile_21 rfl ?_
      refine j_get (pc := 22) C hin_X4 h0 rfl 3 (by decide) (by decide +kernel) rfl dX4_compile_22 ?_
      refine j_if_ne (pc := 25) (tgt := 32) C dX4_compile_25 (by decide) (fun c25 => ?_) (fun c25 => ?_)
      · exact j_widen (k2 := 80) (n2 := 560) (by decide) (by decide) (compile_tail (hcs.weak fun _ => hcp.resolve_left c25) (fun r w3 h => compile_fin (hcs.weak fun _ => hcp.resolve_left c25) Fr.rf hv h) C hr hlk)
      · refine j_aload_n (pc := 28) C rfl dX4_compile_28 rfl ?_
        refine jV_v (pc := 29) (k2 := 80) (n2 := 560) (np := 0) (As := []) C (ct_planTrees hcs) gX4_compile_X4_planTrees rfl (by decide +kernel) ⟨by decide, by decide⟩ h0 rfl rfl rfl (Nat.le_of_ble_eq_true rfl) dX4_compile_29 (by decide) (by decide) ⟨by decide, by decide⟩ (fun L2 w2 hu => ?_)
        obtain ⟨hcs2, hfr2⟩ := hu
        exact compile_tail hcs2 (fun r w3 h => compile_fin hcs2 hfr2 hv h) C hr hlk
    · have c8 : ¬ x ≤ nI 1000 := c8
      refine j_throwS (pc := 11) (cls := IAE) (names := RNM) (text := "a bound is 0 to 1000") C rfl hlt hx0 hlk (by decide) (by decide) (by decide +kernel) (by decide +kernel) (by decide +kernel) (by decide +kernel) xat_1 xgd_1 dX4_compile_11 dX4_compile_14 dX4_compile_15 dX4_compile_17 dX4_compile_20 (by decide) (Nat.le_of_ble_eq_true rfl) (by decide) (by decide) (by decide) (by decide) (by decide) (⟨rfl, vld_n2 (by decide) c8, rfl⟩)

set_option maxRecDepth 100000 in
set_option maxHeartbeats 4000000 in
theorem ct_removeS {l : Launch} {G : Gp} {L : List Nat} {w : Wn} (hlt : l.stackTraces = false) {ad : Nat → Nat} {cp : Int32} {fq : Nat → Nat} {df : Nat → Int32} {E : Nat → EL} (hcs : CS G ad L w cp (cp = 1) fq df E) (x x2 : Int32) : XI l yX4_remove wsX4_remove (rmD 30 100 1000) G L w [.ref (ad 0), .int x, .int x2] (fun r u => ∃ j, j < 4 ∧ x = nI j ∧ ∃ i, i < (E j).length ∧ x2 = nI i ∧ r = nI ((E j).length - 1) ∧ CS G ad u.1 u.2 0 ((0 : Int32) = 1) fq df (va_up E j ((E j).eraseIdx i)) ∧ FrC L w u.1 u.2) (fun E9 u => (E9 = IAE ∧ ¬ vld x 4 ∧ u = (L, w)) ∨ (E9 = IOE ∧ ∃ j, j < 4 ∧ x = nI j ∧ ¬ vld x2 (E j).length ∧ u = (L, w))) := by
  refine mkx_i (cc := cX4_remove) (maxL := 3) [some (.ref (ad 0)), some (.int x), some (.int x2)] (by decide) rfl (Nat.le_of_ble_eq_true rfl) rfl ?_
  intro p e s m args below meth c A C hr hlk hx0
  have hin_X4 : ∀ x ∈ u_ws RX4 TX4 4, x ∈ wsX4_remove := by decide +kernel
  obtain ⟨h0, hfa, hfq, hfb, hpl, hcf, hcp⟩ := id hcs
  refine j_iload_n (pc := 0) C rfl dX4_remove_0 rfl ?_
  refine jxS_v (pc := 1) (k2 := 1) (n2 := 6) (np := 1) (As := [.int x]) C (ct_reqFilter hlt x) gX4_remove_X4_requireFilter rfl (by decide +kernel) ⟨by decide, by decide⟩ rfl rfl (Nat.le_of_ble_eq_true rfl) dX4_remove_1 (by decide) (by decide) ⟨by decide, by decide⟩ (fun E9 L9 w9 h9 => (by obtain ⟨rfl, hn9, hu9⟩ := h9; cases hu9; exact jx_out C rfl hx0 hlk (Or.inl ⟨rfl, hn9, rfl⟩) (by decide) (by decide))) (fun L9 w9 hv => ?_)
  obtain ⟨hv, hu⟩ := hv
  cases hu
  obtain ⟨j, hj, rfl⟩ := hv
  obtain ⟨ft, tc, cl, hF, hR, hC, hb⟩ := id (hcf j hj)
  refine j_aload_n (pc := 4) C rfl dX4_remove_4 rfl ?_
  refine j_iload_n (pc := 5) C rfl dX4_remove_5 rfl ?_
  refine j_iload_n (pc := 6) C rfl dX4_remove_6 rfl ?_
  refine jxV_v (pc := 7) (k2 := 2) (n2 := 12) (np := 2) (As := [.int (nI j), .int x2]) C (ct_reqRule hlt hcs hj x2) gX4_remove_X4_requireRule rfl (by decide +kernel) ⟨by decide, by decide⟩ h0 rfl rfl rfl (Nat.le_of_ble_eq_true rfl) dX4_remove_7 (by decide) (by decide) ⟨by decide, by decide⟩ (fun E9 L9 w9 h9 => (by obtain ⟨rfl, hn9, hu9⟩ := h9; cases hu9; exact jx_out C rfl hx0 hlk (Or.inr ⟨rfl, j, hj, rfl, hn9, rfl⟩) (by decide) (by decide))) (fun L9 w9 hv => ?_)
  obtain ⟨⟨i, hi, rfl⟩, hu⟩ := hv
  cases hu
  refine j_aload_n (pc := 10) C rfl dX4_remove_10 rfl ?_
  refine j_iconst (pc := 11) (v := 0) C dX4_remove_11 (by decide) ?_
  refine j_put (pc := 12) (fs2 := [.ref (ad 1), .ref (ad 2), .ref (ad 3), .int 0]) C hin_X4 h0 rfl 3 (by decide) tyX4 tyX4_ok nmX4 (by decide +kernel) rfl (tyX4_ok 3 (by decide)) (by first | rfl | decide) rfl (Nat.le_of_ble_eq_true rfl) rfl dX4_remove_12 ?_
  refine j_nm (fun w12 ew12 => ?_)
  have h0 : Hs L w12 0 (ad 0) (.inr (5, [.ref (ad 1), .ref (ad 2), .ref (ad 3), .int 0])) := by rw [ew12]; exact h0.me
  obtain ⟨hcs2, hfc⟩ := hcs.setc (b2 := (0 : Int32) = 1) (fun z => absurd z (by decide)) (Or.inl rfl) ew12
  obtain ⟨h0, hfa, hfq, hfb, hpl, hcf, hcp2⟩ := id hcs2
  obtain ⟨ft, tc, cl, hF, hR, hC, hb⟩ := id (hcf j hj)
  refine j_aload_n (pc := 15) C rfl dX4_remove_15 rfl ?_
  refine j_get (pc := 16) C hin_X4 h0 rfl 0 (by decide) (by decide +kernel) rfl dX4_remove_16 ?_
  refine j_iload_n (pc := 19) C rfl dX4_remove_19 rfl ?_
  refine j_aldF (pc := 20) (v := .ref (ad (30 + 3 * j))) C hfa rfl hj (by decide) (far_at (by omega)) dX4_remove_20 ?_
  refine j_iload_n (pc := 21) C rfl dX4_remove_21 rfl ?_
  refine jV_i (pc := 22) (k2 := 2) (n2 := 12) (np := 1) (As := [.int (nI i)]) C (ct_drop hF hR hi (by omega) (by omega)) gX4_remove_X0_drop rfl (by decide +kernel) ⟨by decide, by decide⟩ hF rfl rfl rfl (Nat.le_of_ble_eq_true rfl) dX4_remove_22 (by decide) (by decide) ⟨by decide, by decide⟩ (fun v L3 w3 hu => ?_)
  obtain ⟨hvr, hR3, hf3⟩ := hu
  exact xret_i C rfl hr hlk dX4_remove_25 ⟨j, hj, rfl, i, hi, rfl, hvr, hcs2.setl hj hf3 hR3 (by decide), hfc.tr (frL_C hj hf3)⟩ (by decide) (by decide)

set_option maxRecDepth 100000 in
set_option maxHeartbeats 4000000 in
theorem ct_setDefault {l : Launch} {G : Gp} {L : List Nat} {w : Wn} (hlt : l.stackTraces = false) {ad : Nat → Nat} {cp : Int32} {fq : Nat → Nat} {df : Nat → Int32} {E : Nat → EL} (hcs : CS G ad L w cp (cp = 1) fq df E) (x x2 : Int32) : XI l yX4_setDefault wsX4_setDefault (rmD 30 100 1000) G L w [.ref (ad 0), .int x, .int x2] (fun r u => ∃ j, j < 4 ∧ x = nI j ∧ vld x2 7 ∧ r = df j ∧ ((x2 = df j ∧ u = (L, w)) ∨ (¬ x2 = df j ∧ CS G ad u.1 u.2 0 ((0 : Int32) = 1) fq (va_up df j x2) E ∧ FrC L w u.1 u.2))) (fun E9 u => E9 = IAE ∧ ¬ (vld x 4 ∧ vld x2 7) ∧ u = (L, w)) := by
  refine mkx_i (cc := cX4_setDefault) (maxL := 4) [some (.ref (ad 0)), some (.int x), some (.int x2), none] (by decide) rfl (Nat.le_of_ble_eq_true rfl) rfl ?_
  intro p e s m args below meth c A C hr hlk hx0
  have hin_X0 : ∀ x ∈ u_ws RX0 TX0 5, x ∈ wsX4_setDefault := by decide +kernel
  have hin_X4 : ∀ x ∈ u_ws RX4 TX4 4, x ∈ wsX4_setDefault := by decide +kernel
  obtain ⟨h0, hfa, hfq, hfb, hpl, hcf, hcp⟩ := id hcs
  refine j_iload_n (pc := 0) C rfl dX4_setDefault_0 rfl ?_
  refine jxS_v (pc := 1) (k2 := 1) (n2 := 6) (np := 1) (As := [.int x]) C (ct_reqFilter hlt x) gX4_setDefault_X4_requireFilter rfl (by decide +kernel) ⟨by decide, by decide⟩ rfl rfl (Nat.le_of_ble_eq_true rfl) dX4_setDefault_1 (by decide) (by decide) ⟨by decide, by decide⟩ (fun E9 L9 w9 h9 => (by obtain ⟨rfl, hn9, hu9⟩ := h9; cases hu9; exact jx_out C rfl hx0 hlk (⟨rfl, fun z => hn9 z.1, rfl⟩) (by decide) (by decide))) (fun L9 w9 hv => ?_)
  obtain ⟨hv, hu⟩ := hv
  cases hu
  obtain ⟨j, hj, rfl⟩ := hv
  obtain ⟨ft, tc, cl, hF, hR, hC, hb⟩ := id (hcf j hj)
  have hF0 := hF
  refine j_iload_n (pc := 4) C rfl dX4_setDefault_4 rfl ?_
  refine jxS_v (pc := 5) (k2 := 2) (n2 := 12) (np := 1) (As := [.int x2]) C (ct_reqAction hlt x2) gX4_setDefault_X4_requireAction rfl (by decide +kernel) ⟨by decide, by decide⟩ rfl rfl (Nat.le_of_ble_eq_true rfl) dX4_setDefault_5 (by decide) (by decide) ⟨by decide, by decide⟩ (fun E9 L9 w9 h9 => (by obtain ⟨rfl, hn9, hu9⟩ := h9; cases hu9; exact jx_out C rfl hx0 hlk (⟨rfl, fun z => hn9 z.2, rfl⟩) (by decide) (by decide))) (fun L9 w9 hv => ?_)
  obtain ⟨hv, hu⟩ := hv
  cases hu
  have hv7 := hv
  refine j_aload_n (pc := 8) C rfl dX4_setDefault_8 rfl ?_
  refine j_get (pc := 9) C hin_X4 h0 rfl 0 (by decide) (by decide +kernel) rfl dX4_setDefault_9 ?_
  refine j_iload_n (pc := 12) C rfl dX4_setDefault_12 rfl ?_
  refine j_aldF (pc := 13) (v := .ref (ad (30 + 3 * j))) C hfa rfl hj (by decide) (far_at (by omega)) dX4_setDefault_13 ?_
  refine j_getN (pc := 14) (host := RX4) C hin_X0 hF rfl 2 (by decide) (by decide +kernel) rfl dX4_setDefault_14 ?_
  refine j_istore_3 (pc := 17) C dX4_setDefault_17 (by decide) rfl ?_
  refine j_iload_n (pc := 18) C rfl dX4_setDefault_18 rfl ?_
  refine j_iload_n (pc := 19) C rfl dX4_setDefault_19 rfl ?_
  refine j_icmp_eq (pc := 20) (tgt := 38) C dX4_setDefault_20 (by decide) (fun c20 => ?_) (fun c20 => ?_)
  · refine j_iload_n (pc := 38) C rfl dX4_setDefault_38 rfl ?_
    exact xret_i C rfl hr hlk dX4_setDefault_39 ⟨j, hj, rfl, hv7, rfl, Or.inl ⟨c20, rfl⟩⟩ (by decide) (by decide)
  · refine j_aload_n (pc := 23) C rfl dX4_setDefault_23 rfl ?_
    refine j_get (pc := 24) C hin_X4 h0 rfl 0 (by decide) (by decide +kernel) rfl dX4_setDefault_24 ?_
    refine j_iload_n (pc := 27) C rfl dX4_setDefault_27 rfl ?_
    refine j_aldF (pc := 28) (v := .ref (ad (30 + 3 * j))) C hfa rfl hj (by decide) (far_at (by omega)) dX4_setDefault_28 ?_
    refine j_iload_n (pc := 29) C rfl dX4_setDefault_29 rfl ?_
    refine j_putN (pc := 30) (host := RX4) (fs2 := [.ref (ad (31 + 3 * j)), .ref (ad (32 + 3 * j)), .int x2, va_rf ft, .int tc]) C hin_X0 hF rfl 2 (by decide) tyX0 tyX0_ok nmX0 (by decide +kernel) rfl (tyX0_ok 2 (by decide)) rfl rfl (Nat.le_of_ble_eq_true rfl) rfl dX4_setDefault_30 ?_
    refine j_nm (fun w30 ew30 => ?_)
    have hF : Hs L w30 (30 + 3 * j) (ad (30 + 3 * j)) (.inr (1, [.ref (ad (31 + 3 * j)), .ref (ad (32 + 3 * j)), .int x2, va_rf ft, .int tc])) := by rw [ew30]; exact hF.me
    obtain ⟨hcs2, hfc2⟩ := hcs.setd (x2 := x2) hj hF0 ew30
    have h0 := hcs2.1
    refine j_aload_n (pc := 33) C rfl dX4_setDefault_33 rfl ?_
    refine j_iconst (pc := 34) (v := 0) C dX4_setDefault_34 (by decide) ?_
    refine j_put (pc := 35) (fs2 := [.ref (ad 1), .ref (ad 2), .ref (ad 3), .int 0]) C hin_X4 h0 rfl 3 (by decide) tyX4 tyX4_ok nmX4 (by decide +kernel) rfl (tyX4_ok 3 (by decide)) (by first | rfl | decide) rfl (Nat.le_of_ble_eq_true rfl) rfl dX4_setDefault_35 ?_
    refine j_nm (fun w35 ew35 => ?_)
    obtain ⟨hcs3, hfc3⟩ := hcs2.setc (b2 := (0 : Int32) = 1) (fun z => absurd z (by decide)) (Or.inl rfl) ew35
    have hF := hs_up1 hF ew35 (by omega)
    refine j_iload_n (pc := 38) C rfl dX4_setDefault_38 rfl ?_
    exact xret_i C rfl hr hlk dX4_setDefault_39 ⟨j, hj, rfl, hv7, rfl, Or.inr ⟨c20, hcs3, hfc2.tr hfc3⟩⟩ (by decide) (by decide)

set_option maxRecDepth 100000 in
set_option maxHeartbeats 4000000 in
theorem ct_setFrequency {l : Launch} {G : Gp} {L : List Nat} {w : Wn} (hlt : l.stackTraces = false) {ad : Nat → Nat} {cp : Int32} {fq : Nat → Nat} {df : Nat → Int32} {E : Nat → EL} (hcs : CS G ad L w cp (cp = 1) fq df E) (x x2 : Int32) : XI l yX4_setFrequency wsX4_setFrequency (rmD 30 100 1000) G L w [.ref (ad 0), .int x, .int x2] (fun r u => ∃ j, j < 32 ∧ x = nI j ∧ vld x2 1001 ∧ r = nI (fq j) ∧ ((x2 = nI (fq j) ∧ u = (L, w)) ∨ (¬ x2 = nI (fq j) ∧ ∃ F9, x2 = nI F9 ∧ CS G ad u.1 u.2 0 ((0 : Int32) = 1) (va_up fq j F9) df E ∧ FrC L w u.1 u.2))) (fun E9 u => E9 = IAE ∧ ¬ (vld x 32 ∧ vld x2 1001) ∧ u = (L, w)) := by
  refine mkx_i (cc := cX4_setFrequency) (maxL := 4) [some (.ref (ad 0)), some (.int x), some (.int x2), none] (by decide) rfl (Nat.le_of_ble_eq_true rfl) rfl ?_
  intro p e s m args below meth c A C hr hlk hx0
  have hin_X4 : ∀ x ∈ u_ws RX4 TX4 4, x ∈ wsX4_setFrequency := by decide +kernel
  obtain ⟨h0, hfa, hfq, hfb, hpl, hcf, hcp⟩ := id hcs
  refine j_iload_n (pc := 0) C rfl dX4_setFrequency_0 rfl ?_
  refine jxS_v (pc := 1) (k2 := 1) (n2 := 6) (np := 1) (As := [.int x]) C (ct_reqNumber hlt x) gX4_setFrequency_X4_requireNumber rfl (by decide +kernel) ⟨by decide, by decide⟩ rfl rfl (Nat.le_of_ble_eq_true rfl) dX4_setFrequency_1 (by decide) (by decide) ⟨by decide, by decide⟩ (fun E9 L9 w9 h9 => (by obtain ⟨rfl, hn9, hu9⟩ := h9; cases hu9; exact jx_out C rfl hx0 hlk (⟨rfl, fun z => hn9 z.1, rfl⟩) (by decide) (by decide))) (fun L9 w9 hv => ?_)
  obtain ⟨hv, hu⟩ := hv
  cases hu
  obtain ⟨j, hj, rfl⟩ := hv
  refine j_iload_n (pc := 4) C rfl dX4_setFrequency_4 rfl ?_
  refine j_if_lt (pc := 5) (tgt := 15) C dX4_setFrequency_5 (by decide) (fun c5 => ?_) (fun c5 => ?_)
  · refine j_throwS (pc := 15) (cls := IAE) (names := RNM) (text := "a frequency is 0 to 1000") C rfl hlt hx0 hlk (by decide) (by decide) (by decide +kernel) (by decide +kernel) (by decide +kernel) (by decide +kernel) xat_1 xgd_1 dX4_setFrequency_15 dX4_setFrequency_18 dX4_setFrequency_19 dX4_setFrequency_21 dX4_setFrequency_24 (by decide) (Nat.le_of_ble_eq_true rfl) (by decide) (by decide) (by decide) (by decide) (by decide) (⟨rfl, fun z => vld_n0 (by decide) c5 z.2, rfl⟩)
  · refine j_iload_n (pc := 8) C rfl dX4_setFrequency_8 rfl ?_
    refine j_sipush (pc := 9) (v := 1000) C dX4_setFrequency_9 (by decide) ?_
    refine j_icmp_le (pc := 12) (tgt := 25) C dX4_setFrequency_12 (by decide) (fun c12 => ?_) (fun c12 => ?_)
    · have hv2 : vld x2 1001 := vld_le (n := 1000) (by decide) c5 c12
      refine j_aload_n (pc := 25) C rfl dX4_setFrequency_25 rfl ?_
      refine j_get (pc := 26) C hin_X4 h0 rfl 1 (by decide) (by decide +kernel) rfl dX4_setFrequency_26 ?_
      refine j_iload_n (pc := 29) C rfl dX4_setFrequency_29 rfl ?_
      refine j_iald (pc := 30) C hfq rfl hj (by decide) dX4_setFrequency_30 ?_
      refine j_istore_3 (pc := 31) C dX4_setFrequency_31 (by decide) rfl ?_
      refine j_iload_n (pc := 32) C rfl dX4_setFrequency_32 rfl ?_
      refine j_iload_n (pc := 33) C rfl dX4_setFrequency_33 rfl ?_
      refine j_icmp_eq (pc := 34) (tgt := 49) C dX4_setFrequency_34 (by decide) (fun c34 => ?_) (fun c34 => ?_)
      · refine j_iload_n (pc := 49) C rfl dX4_setFrequency_49 rfl ?_
        exact xret_i C rfl hr hlk dX4_setFrequency_50 ⟨j, hj, rfl, hv2, rfl, Or.inl ⟨c34, rfl⟩⟩ (by decide) (by decide)
      · refine j_aload_n (pc := 37) C rfl dX4_setFrequency_37 rfl ?_
        refine j_get (pc := 38) C hin_X4 h0 rfl 1 (by decide) (by decide +kernel) rfl dX4_setFrequency_38 ?_
        refine j_iload_n (pc := 41) C rfl dX4_setFrequency_41 rfl ?_
        refine j_iload_n (pc := 42) C rfl dX4_setFrequency_42 rfl ?_
        refine j_iast (pc := 43) C hfq rfl hj (by decide) dX4_setFrequency_43 ?_
        obtain ⟨F9, hF9, rfl⟩ := hv2
        refine j_nm (fun w43 ew43 => ?_)
        obtain ⟨hcs2, hfc2⟩ := hcs.setq (F := F9) hj (by omega) ew43
        have h0 := hcs2.1
        refine j_aload_n (pc := 44) C rfl dX4_setFrequency_44 rfl ?_
        refine j_iconst (pc := 45) (v := 0) C dX4_setFrequency_45 (by decide) ?_
        refine j_put (pc := 46) (fs2 := [.ref (ad 1), .ref (ad 2), .ref (ad 3), .int 0]) C hin_X4 h0 rfl 3 (by decide) tyX4 tyX4_ok nmX4 (by decide +kernel) rfl (tyX4_ok 3 (by decide)) (by first | rfl | decide) rfl (Nat.le_of_ble_eq_true rfl) rfl dX4_setFrequency_46 ?_
        refine j_nm (fun w46 ew46 => ?_)
        obtain ⟨hcs3, hfc3⟩ := hcs2.setc (b2 := (0 : Int32) = 1) (fun z => absurd z (by decide)) (Or.inl rfl) ew46
        refine j_iload_n (pc := 49) C rfl dX4_setFrequency_49 rfl ?_
        exact xret_i C rfl hr hlk dX4_setFrequency_50 ⟨j, hj, rfl, ⟨F9, hF9, rfl⟩, rfl, Or.inr ⟨c34, F9, rfl, hcs3, hfc2.tr hfc3⟩⟩ (by decide) (by decide)
    · have c12 : ¬ x2 ≤ nI 1000 := c12
      refine j_throwS (pc := 15) (cls := IAE) (names := RNM) (text := "a frequency is 0 to 1000") C rfl hlt hx0 hlk (by decide) (by decide) (by decide +kernel) (by decide +kernel) (by decide +kernel) (by decide +kernel) xat_1 xgd_1 dX4_setFrequency_15 dX4_setFrequency_18 dX4_setFrequency_19 dX4_setFrequency_21 dX4_setFrequency_24 (by decide) (Nat.le_of_ble_eq_true rfl) (by decide) (by decide) (by decide) (by decide) (by decide) (⟨rfl, fun z => vld_n2 (by decide) c12 z.2, rfl⟩)

theorem CS.frn {N : Nat → Prop} {G : Gp} {ad : Nat → Nat} {L L2 : List Nat} {w w2 : Wn} {cp : Int32} {b : Prop} {fq : Nat → Nat} {df : Nat → Int32} {E : Nat → EL} (h : CS G ad L w cp b fq df E) (hf : Fr (fun _ => False) N L w L2 w2) (hN : ∀ m, N m → 142 ≤ m) : CS G ad L2 w2 cp b fq df E := by
  obtain ⟨h0, hfa, hfq, hfb, ⟨sz, nu, we, co, fp, hp, hz⟩, hcf, hcp⟩ := h
  exact ⟨hf.hs h0 (fun z => z), hf.hs hfa (fun z => z), hf.hs hfq (fun z => z), hfb, ⟨sz, nu, we, co, fp, hp.fr hf (fun m _ _ z => z), hz⟩, fun j hj => (hcf j hj).fr hj hf (fun _ _ _ z => z) (fun m z1 z2 => ⟨fun z => z, fun z => by have := hN m z; omega⟩) (fun _ _ _ z => z), hcp⟩
theorem va_up_up (w : Wn) (n : Nat) (x y : Nat × va_E) : va_up (va_up w n x) n y = va_up w n y := by
  funext m
  by_cases h : m = n
  · simp [va_up, h]
  · simp [va_up, h]
set_option maxRecDepth 100000 in
set_option maxHeartbeats 4000000 in
theorem ct_add {l : Launch} {G : Gp} {L : List Nat} {w : Wn} (hlt : l.stackTraces = false) {ad : Nat → Nat} {cp : Int32} {fq : Nat → Nat} {df : Nat → Int32} {E : Nat → EL} (hcs : CS G ad L w cp (cp = 1) fq df E) (x x2 x3 x4 : Int32) (fi se : Int64) : XI l yX4_add wsX4_add (rmD 30 100 1000) G L w [.ref (ad 0), .int x, .int x2, .int x3, .long fi, .long se, .int x4] (fun r u => ∃ j, j < 4 ∧ x = nI j ∧ vld x2 32 ∧ vld x3 2 ∧ vld x4 7 ∧ (E j).length < 10 ∧ r = nI (E j).length ∧ ∃ b, CS G ad u.1 u.2 0 ((0 : Int32) = 1) fq df (va_up E j (E j ++ [(b, (x2, x3, fi, se, x4))])) ∧ FrC L w u.1 u.2) (fun E9 u => (E9 = IAE ∧ ¬ (vld x 4 ∧ vld x2 32 ∧ vld x3 2 ∧ vld x4 7) ∧ u = (L, w)) ∨ (E9 = ISE ∧ vld x 4 ∧ vld x2 32 ∧ vld x3 2 ∧ vld x4 7 ∧ ∃ j, j < 4 ∧ x = nI j ∧ 10 ≤ (E j).length ∧ u = (L, w))) := by
  refine mkx_i (cc := cX4_add) (maxL := 9) [some (.ref (ad 0)), some (.int x), some (.int x2), some (.int x3), some (.long fi), none, some (.long se), none, some (.int x4)] (by decide) rfl (Nat.le_of_ble_eq_true rfl) rfl ?_
  intro p e s m args below meth c A C hr hlk hx0
  have hin_X4 : ∀ x ∈ u_ws RX4 TX4 4, x ∈ wsX4_add := by decide +kernel
  have hin_X3 : ∀ x ∈ u_ws RX3 TX3 5, x ∈ wsX4_add := by decide +kernel
  obtain ⟨h0, hfa, hfq, hfb, hpl, hcf, hcp⟩ := id hcs
  refine j_iload_n (pc := 0) C rfl dX4_add_0 rfl ?_
  refine jxS_v (pc := 1) (k2 := 1) (n2 := 6) (np := 1) (As := [.int x]) C (ct_reqFilter hlt x) gX4_add_X4_requireFilter rfl (by decide +kernel) ⟨by decide, by decide⟩ rfl rfl (Nat.le_of_ble_eq_true rfl) dX4_add_1 (by decide) (by decide) ⟨by decide, by decide⟩ (fun E9 L9 w9 h9 => (by obtain ⟨rfl, hn9, hu9⟩ := h9; cases hu9; exact jx_out C rfl hx0 hlk (Or.inl ⟨rfl, fun z => hn9 z.1, rfl⟩) (by decide) (by decide))) (fun L9 w9 hv => ?_)
  obtain ⟨hv, hu⟩ := hv
  cases hu
  have hv4 := hv
  obtain ⟨j, hj, rfl⟩ := hv
  obtain ⟨ft, tc, cl, hF, hR, hC, hb⟩ := id (hcf j hj)
  refine j_iload_n (pc := 4) C rfl dX4_add_4 rfl ?_
  refine jxS_v (pc := 5) (k2 := 2) (n2 := 12) (np := 1) (As := [.int x2]) C (ct_reqNumber hlt x2) gX4_add_X4_requireNumber rfl (by decide +kernel) ⟨by decide, by decide⟩ rfl rfl (Nat.le_of_ble_eq_true rfl) dX4_add_5 (by decide) (by decide) ⟨by decide, by decide⟩ (fun E9 L9 w9 h9 => (by obtain ⟨rfl, hn9, hu9⟩ := h9; cases hu9; exact jx_out C rfl hx0 hlk (Or.inl ⟨rfl, fun z => hn9 z.2.1, rfl⟩) (by decide) (by decide))) (fun L9 w9 hv => ?_)
  obtain ⟨hv, hu⟩ := hv
  cases hu
  have hv32 := hv
  refine j_iload_n (pc := 8) C rfl dX4_add_8 rfl ?_
  refine j_if_lt (pc := 9) (tgt := 17) C dX4_add_9 (by decide) (fun c9 => ?_) (fun c9 => ?_)
  · refine j_throwS (pc := 17) (cls := IAE) (names := RNM) (text := "an argument is 0 or 1") C rfl hlt hx0 hlk (by decide) (by decide) (by decide +kernel) (by decide +kernel) (by decide +kernel) (by decide +kernel) xat_1 xgd_1 dX4_add_17 dX4_add_20 dX4_add_21 dX4_add_23 dX4_add_26 (by decide) (Nat.le_of_ble_eq_true rfl) (by decide) (by decide) (by decide) (by decide) (by decide) (Or.inl ⟨rfl, fun z => vld_n0 (by decide) c9 z.2.2.1, rfl⟩)
  · refine j_iload_n (pc := 12) C rfl dX4_add_12 rfl ?_
    refine j_iconst (pc := 13) (v := 2) C dX4_add_13 (by decide) ?_
    refine j_icmp_lt (pc := 14) (tgt := 27) C dX4_add_14 (by decide) (fun c14 => ?_) (fun c14 => ?_)
    · have hv2 : vld x3 2 := vld_of (by decide) c9 c14
      refine j_iload (pc := 27) C dX4_add_27 rfl ?_
      refine jxS_v (pc := 29) (k2 := 3) (n2 := 18) (np := 1) (As := [.int x4]) C (ct_reqAction hlt x4) gX4_add_X4_requireAction rfl (by decide +kernel) ⟨by decide, by decide⟩ rfl rfl (Nat.le_of_ble_eq_true rfl) dX4_add_29 (by decide) (by decide) ⟨by decide, by decide⟩ (fun E9 L9 w9 h9 => (by obtain ⟨rfl, hn9, hu9⟩ := h9; cases hu9; exact jx_out C rfl hx0 hlk (Or.inl ⟨rfl, fun z => hn9 z.2.2.2, rfl⟩) (by decide) (by decide))) (fun L9 w9 hv => ?_)
      obtain ⟨hv, hu⟩ := hv
      cases hu
      have hv7 := hv
      refine j_aload_n (pc := 32) C rfl dX4_add_32 rfl ?_
      refine j_get (pc := 33) C hin_X4 h0 rfl 0 (by decide) (by decide +kernel) rfl dX4_add_33 ?_
      refine j_iload_n (pc := 36) C rfl dX4_add_36 rfl ?_
      refine j_aldF (pc := 37) (v := .ref (ad (30 + 3 * j))) C hfa rfl hj (by decide) (far_at (by omega)) dX4_add_37 ?_
      refine jV_i0 (pc := 38) (k2 := 3) (n2 := 18) (np := 0) (As := []) C (ct_isFull hF hR) gX4_add_X0_isFull rfl (by decide +kernel) ⟨by decide, by decide⟩ hF rfl rfl rfl (Nat.le_of_ble_eq_true rfl) dX4_add_38 (by decide) (by decide) ⟨by decide, by decide⟩ (fun v hv => ?_)
      subst hv
      refine j_if_eq (pc := 41) (tgt := 54) C dX4_add_41 (by decide) (fun c41 => ?_) (fun c41 => ?_)
      · refine j_aload_n (pc := 54) C rfl dX4_add_54 rfl ?_
        refine j_iconst (pc := 55) (v := 0) C dX4_add_55 (by decide) ?_
        refine j_put (pc := 56) (fs2 := [.ref (ad 1), .ref (ad 2), .ref (ad 3), .int 0]) C hin_X4 h0 rfl 3 (by decide) tyX4 tyX4_ok nmX4 (by decide +kernel) rfl (tyX4_ok 3 (by decide)) (by first | rfl | decide) rfl (Nat.le_of_ble_eq_true rfl) rfl dX4_add_56 ?_
        refine j_nm (fun w56 ew56 => ?_)
        have h0 : Hs L w56 0 (ad 0) (.inr (5, [.ref (ad 1), .ref (ad 2), .ref (ad 3), .int 0])) := by rw [ew56]; exact h0.me
        obtain ⟨hcs2, hfc⟩ := hcs.setc (b2 := (0 : Int32) = 1) (fun z => absurd z (by decide)) (Or.inl rfl) ew56
        obtain ⟨h0, hfa, hfq, hfb, hpl, hcf, hcp2⟩ := id hcs2
        obtain ⟨ft, tc, cl, hF, hR, hC, hb⟩ := id (hcf j hj)
        refine j_aload_n (pc := 59) C rfl dX4_add_59 rfl ?_
        refine j_get (pc := 60) C hin_X4 h0 rfl 0 (by decide) (by decide +kernel) rfl dX4_add_60 ?_
        refine j_iload_n (pc := 63) C rfl dX4_add_63 rfl ?_
        refine j_aldF (pc := 64) (v := .ref (ad (30 + 3 * j))) C hfa rfl hj (by decide) (far_at (by omega)) dX4_add_64 ?_
        have hlen := of_decide_eq_false (bI_0 c41)
        obtain ⟨qn, hqn, hqL⟩ := fresh_at L 1000
        refine j_new (pc := 65) (ci := 4) (k2 := 4) (n2 := 23) (fs := [.int 0, .int 0, .long 0, .long 0, .int 0]) C qn hqL hin_X3 tyX3 tyX3_ok (by decide +kernel) (by decide +kernel) (by decide +kernel) rfl (fun j hj => by rcases (show j = 0 ∨ j = 1 ∨ j = 2 ∨ j = 3 ∨ j = 4 by omega) with rfl | rfl | rfl | rfl | rfl <;> rfl) rfl rfl (by decide) (by decide) dX4_add_65 (fun a => ?_)
        refine j_dup (pc := 68) C dX4_add_68 rfl ?_
        refine j_iload_n (pc := 69) C rfl dX4_add_69 rfl ?_
        refine j_iload_n (pc := 70) C rfl dX4_add_70 rfl ?_
        refine j_lload (pc := 71) C dX4_add_71 rfl ?_
        refine j_lload (pc := 73) C dX4_add_73 rfl ?_
        refine j_iload (pc := 75) C dX4_add_75 rfl ?_
        refine jI_v (pc := 77) (k2 := 4) (n2 := 23) (np := 5) (As := [.int x2, .int x3, .long fi, .long se, .int x4]) C (ct_X3_init Hs.nw (x2, x3, fi, se, x4)) gX4_add_X3_init rfl (by decide +kernel) (by decide +kernel) (by decide +kernel) rfl (by decide +kernel) ⟨by decide, by decide⟩ rfl rfl (Nat.le_of_ble_eq_true rfl) dX4_add_77 (by decide) (by decide) ⟨by decide, by decide⟩ (fun L3 w3 hu => ?_)
        obtain ⟨rfl, rfl⟩ := Prod.mk.inj hu
        rw [va_up_up]
        refine j_nm (fun w77 ew77 => ?_)
        have hf4 : Fr (fun _ => False) (fun m => m = qn) L w56 (L ++ [qn]) w77 := Fr.push ew77 hqL
        have hR9 : RulAt (L ++ [qn]) w77 a (x2, x3, fi, se, x4) := ⟨qn, hqn, by rw [ew77]; exact Hs.nw⟩
        have hF9 := hf4.hs hF (fun z => z)
        have hR8 := hR.fr hf4 (fun z => z) (fun z => z) (by omega) (fun _ _ _ z => z)
        have hcs4 := hcs2.frn hf4 (fun m h => by omega)
        generalize L ++ [qn] = L4 at hf4 hR9 hF9 hR8 hcs4 ⊢
        refine jV_i (pc := 80) (k2 := 5) (n2 := 33) (np := 1) (As := [.ref a]) C (ct_append hF9 hR8 (by omega) hR9 (by omega) (by omega)) gX4_add_X0_append rfl (by decide +kernel) ⟨by decide, by decide⟩ hF9 rfl rfl rfl (Nat.le_of_ble_eq_true rfl) dX4_add_80 (by decide) (by decide) ⟨by decide, by decide⟩ (fun v L5 w5 hu => ?_)
        obtain ⟨hvr, hR3, hf3⟩ := hu
        exact xret_i C rfl hr hlk dX4_add_83 ⟨j, hj, rfl, hv32, hv2, hv7, by omega, hvr, a, hcs4.setl hj hf3 hR3 (by decide), hfc.tr ((hf4.mono (fun _ z => z.elim) (fun m z => Or.inr (by omega))).tr (frL_C hj hf3))⟩ (by decide) (by decide)
      · refine j_throwS (pc := 44) (cls := ISE) (names := RNM) (text := "the filter has 10 rules") C rfl hlt hx0 hlk (by decide) (by decide) (by decide +kernel) (by decide +kernel) (by decide +kernel) (by decide +kernel) xat_2 xgd_2 dX4_add_44 dX4_add_47 dX4_add_48 dX4_add_50 dX4_add_53 (by decide) (Nat.le_of_ble_eq_true rfl) (by decide) (by decide) (by decide) (by decide) (by decide) (Or.inr ⟨rfl, hv4, hv32, hv2, hv7, j, hj, rfl, of_decide_eq_true (bI_1 c41), rfl⟩)
    · have c14 : ¬ x3 < nI 2 := c14
      refine j_throwS (pc := 17) (cls := IAE) (names := RNM) (text := "an argument is 0 or 1") C rfl hlt hx0 hlk (by decide) (by decide) (by decide +kernel) (by decide +kernel) (by decide +kernel) (by decide +kernel) xat_1 xgd_1 dX4_add_17 dX4_add_20 dX4_add_21 dX4_add_23 dX4_add_26 (by decide) (Nat.le_of_ble_eq_true rfl) (by decide) (by decide) (by decide) (by decide) (by decide) (Or.inl ⟨rfl, fun z => vld_n1 (by decide) c14 z.2.2.1, rfl⟩)

