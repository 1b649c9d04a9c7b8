/-! THE MODEL: its state; tests of ranges; what is hidden; what is done -/
abbrev jarE (G : Gp) (N : Nat) (f : Nat → Int64) : va_E := .inl (G.2.1 1, N, .inr (.inl f))
abbrev modE (am : Nat → Nat) (th cp sz : Int32) : va_E := .inr (6, [.int th, .ref (am 43), .ref (am 44), .ref (am 45), .ref (am 46), .ref (am 47), .ref (am 48), .ref (am 49), .ref (am 50), .int cp, .ref (am 51), .int sz, .ref (am 52), .ref (am 53)])
/-- the rule at a place of the arrays -/
abbrev rv (ns ar ac : Nat → Int32) (mk vl : Nat → Int64) (k : Nat) : RV := (ns k, ar k, mk k, vl k, ac k)
def MB (G : Gp) (am : Nat → Nat) (L : List Nat) (w : Wn) (th cp : Int32) (df : Nat → Int32) (fq : Nat → Nat) (E : Nat → EL) (ns ar ac : Nat → Int32) (mk vl : Nat → Int64) (ks : Nat → Int32) (sz : Nat) (co ro : Nat → Int32) : Prop :=
  Hs L w 42 (am 42) (modE am th cp (nI sz)) ∧ Hs L w 43 (am 43) (iarE G 40 ns) ∧ Hs L w 44 (am 44) (iarE G 40 ar) ∧ Hs L w 45 (am 45) (jarE G 40 mk) ∧ Hs L w 46 (am 46) (jarE G 40 vl) ∧ Hs L w 47 (am 47) (iarE G 40 ac) ∧ Hs L w 48 (am 48) (iarE G 4 (fun j => nI (E j).length)) ∧ Hs L w 49 (am 49) (iarE G 4 df) ∧ Hs L w 50 (am 50) (iarE G 32 (fun i => nI (fq i))) ∧ Hs L w 51 (am 51) (iarE G 10 ks) ∧ Hs L w 52 (am 52) (iarE G 100 co) ∧ Hs L w 53 (am 53) (iarE G 100 ro) ∧
  (∀ j, j < 4 → ∀ i (h : i < (E j).length), rv ns ar ac mk vl (10 * j + i) = ((E j)[i]).2) ∧ (∀ j, j < 4 → (E j).length ≤ 10) ∧ (∀ i, fq i ≤ 1000) ∧ sz ≤ 10
def tf (P : Prop) (v : Int32) : Prop := (P ∧ v = 1) ∨ (¬ P ∧ v = 0)
theorem tf_0 {P : Prop} {v : Int32} (h : tf P v) (hv : v = 0) : ¬ P := by
  rcases h with h | h
  · exact absurd (h.2.symm.trans hv) (by decide)
  · exact h.1
theorem tf_1 {P : Prop} {v : Int32} (h : tf P v) (hv : ¬ v = 0) : P := by
  rcases h with h | h
  · exact h.1
  · exact absurd h.2 hv
theorem tf_z {P : Prop} {v : Int32} (h : tf P v) : narrow .boolean (.int v) = .int v := by
  rcases h with ⟨_, rfl⟩ | ⟨_, rfl⟩ <;> rfl
theorem tf_iff {P Q : Prop} {v : Int32} (h : tf P v) (e : P ↔ Q) : tf Q v := by
  rcases h with h | h
  · exact Or.inl ⟨e.mp h.1, h.2⟩
  · exact Or.inr ⟨fun z => h.1 (e.mpr z), h.2⟩
theorem vld_iff {x : Int32} {n : Nat} (hn : n < 2147483647) : (¬ x < 0 ∧ ¬ nI n < x) ↔ vld x (n + 1) := by
  constructor
  · intro h
    exact vld_le (by omega) h.1 (Int32.not_lt.mp h.2)
  · rintro ⟨j, h1, rfl⟩
    exact ⟨nI_pos (by omega), Int32.not_lt.mpr (nI_le (by omega) (by omega))⟩
theorem ix10 (j i : Nat) : (10 : Int32) * nI j + nI i = nI (10 * j + i) := by
  rw [show (10 : Int32) = nI 10 from rfl, pk_mul, nI_add]
theorem hs_me1 {L : List Nat} {w : Wn} {n a b : Nat} {e e2 : va_E} (h : Hs L w n a e) {w2 : Wn} (hw : w2 = va_up w n (b, e2)) : Hs L w2 n b e2 := by
  rw [hw]
  exact h.me
set_option maxRecDepth 100000 in
set_option maxHeartbeats 4000000 in
theorem ct_in {l : Launch} {G : Gp} {L : List Nat} {w : Wn} (x y z9 : Int32) : CI l yX5_in wsX5_in (rmD 1 0 0) G L w [.int x, .int y, .int z9] (fun r u => tf (¬ x < y ∧ ¬ z9 < x) r ∧ u = (L, w)) := by
  refine mk_i (cc := cX5_in) (maxL := 3) [some (.int x), some (.int y), some (.int z9)] (by decide) rfl (Nat.le_of_ble_eq_true rfl) rfl ?_
  intro p e s m args below meth c A C hr hlk hnm
  refine j_iload_n (pc := 0) C rfl dX5_in_0 rfl ?_
  refine j_iload_n (pc := 1) C rfl dX5_in_1 rfl ?_
  refine j_icmp_lt (pc := 2) (tgt := 14) C dX5_in_2 (by decide) (fun c2 => ?_) (fun c2 => ?_)
  · refine j_iconst (pc := 14) (v := 0) C dX5_in_14 (by decide) ?_
    exact ret_z C rfl hr hlk (by decide) dX5_in_15 ⟨Or.inr ⟨fun z => z.1 c2, rfl⟩, rfl⟩ (by decide) (by decide)
  · refine j_iload_n (pc := 5) C rfl dX5_in_5 rfl ?_
    refine j_iload_n (pc := 6) C rfl dX5_in_6 rfl ?_
    refine j_icmp_gt (pc := 7) (tgt := 14) C dX5_in_7 (by decide) (fun c7 => ?_) (fun c7 => ?_)
    · refine j_iconst (pc := 14) (v := 0) C dX5_in_14 (by decide) ?_
      exact ret_z C rfl hr hlk (by decide) dX5_in_15 ⟨Or.inr ⟨fun z => z.2 c7, rfl⟩, rfl⟩ (by decide) (by decide)
    · refine j_iconst (pc := 10) (v := 1) C dX5_in_10 (by decide) ?_
      refine j_goto (pc := 11) (tgt := 15) C dX5_in_11 (by decide) ?_
      exact ret_z C rfl hr hlk (by decide) dX5_in_15 ⟨Or.inl ⟨⟨c2, c7⟩, rfl⟩, rfl⟩ (by decide) (by decide)

set_option maxRecDepth 100000 in
set_option maxHeartbeats 4000000 in
theorem ct_M_isFilter {l : Launch} {G : Gp} {L : List Nat} {w : Wn} (x : Int32) : CI l yX5_isFilter wsX5_isFilter (rmD 2 0 0) G L w [.int x] (fun r u => tf (vld x 4) r ∧ u = (L, w)) := by
  refine mk_i (cc := cX5_isFilter) (maxL := 1) [some (.int x)] (by decide) rfl (Nat.le_of_ble_eq_true rfl) rfl ?_
  intro p e s m args below meth c A C hr hlk hnm
  refine j_iload_n (pc := 0) C rfl dX5_isFilter_0 rfl ?_
  refine j_iconst (pc := 1) (v := 0) C dX5_isFilter_1 (by decide) ?_
  refine j_iconst (pc := 2) (v := 3) C dX5_isFilter_2 (by decide) ?_
  refine jS_i0 (pc := 3) (k2 := 0) (n2 := 0) (np := 3) (As := [.int x, .int 0, .int 3]) C (ct_in x 0 3) gX5_isFilter_X5_in rfl (by decide +kernel) ⟨by decide, by decide⟩ rfl rfl (Nat.le_of_ble_eq_true rfl) dX5_isFilter_3 (by decide) (by decide) ⟨by decide, by decide⟩ (fun v hv => ?_)
  exact ret_z C rfl hr hlk (tf_z hv) dX5_isFilter_6 ⟨tf_iff hv (vld_iff (n := 3) (by decide)), rfl⟩ (by decide) (by decide)

set_option maxRecDepth 100000 in
set_option maxHeartbeats 4000000 in
theorem ct_M_isNumber {l : Launch} {G : Gp} {L : List Nat} {w : Wn} (x : Int32) : CI l yX5_isNumber wsX5_isNumber (rmD 2 0 0) G L w [.int x] (fun r u => tf (vld x 32) r ∧ u = (L, w)) := by
  refine mk_i (cc := cX5_isNumber) (maxL := 1) [some (.int x)] (by decide) rfl (Nat.le_of_ble_eq_true rfl) rfl ?_
  intro p e s m args below meth c A C hr hlk hnm
  refine j_iload_n (pc := 0) C rfl dX5_isNumber_0 rfl ?_
  refine j_iconst (pc := 1) (v := 0) C dX5_isNumber_1 (by decide) ?_
  refine j_bipush (pc := 2) (v := 31) C dX5_isNumber_2 (by decide) ?_
  refine jS_i0 (pc := 4) (k2 := 0) (n2 := 0) (np := 3) (As := [.int x, .int 0, .int 31]) C (ct_in x 0 31) gX5_isNumber_X5_in rfl (by decide +kernel) ⟨by decide, by decide⟩ rfl rfl (Nat.le_of_ble_eq_true rfl) dX5_isNumber_4 (by decide) (by decide) ⟨by decide, by decide⟩ (fun v hv => ?_)
  exact ret_z C rfl hr hlk (tf_z hv) dX5_isNumber_7 ⟨tf_iff hv (vld_iff (n := 31) (by decide)), rfl⟩ (by decide) (by decide)

theorem vld_m1 {x : Int32} {n : Nat} (hn : n ≤ 10) : (¬ x < 0 ∧ ¬ (nI n - 1) < x) ↔ vld x n := by
  cases n with
  | zero =>
    constructor
    · rintro ⟨h1, h2⟩
      refine absurd ?_ h2
      have e1 : (nI 0 - 1).toInt = -1 := rfl
      have e2 : (0 : Int32).toInt = 0 := rfl
      have e3 : ¬ x.toInt < (0 : Int32).toInt := fun z => h1 (Int32.lt_iff_toInt_lt.mpr z)
      exact Int32.lt_iff_toInt_lt.mpr (by omega)
    · rintro ⟨j, h1, _⟩
      exact absurd h1 (Nat.not_lt_zero j)
  | succ n =>
    rw [nI_pred]
    exact vld_iff (by omega)
set_option maxRecDepth 100000 in
set_option maxHeartbeats 4000000 in
theorem ct_isRule {l : Launch} {G : Gp} {L : List Nat} {w : Wn} {am : Nat → Nat} {th cp : Int32} {df : Nat → Int32} {fq : Nat → Nat} {E : Nat → EL} {ns ar ac : Nat → Int32} {mk vl : Nat → Int64} {ks : Nat → Int32} {sz : Nat} {co ro : Nat → Int32} (hm : MB G am L w th cp df fq E ns ar ac mk vl ks sz co ro) (x x2 : Int32) : CI l yX5_isRule wsX5_isRule (rmD 3 0 0) G L w [.ref (am 42), .int x, .int x2] (fun r u => tf (∃ j, j < 4 ∧ x = nI j ∧ vld x2 (E j).length) r ∧ u = (L, w)) := by
  refine mk_i (cc := cX5_isRule) (maxL := 3) [some (.ref (am 42)), some (.int x), some (.int x2)] (by decide) rfl (Nat.le_of_ble_eq_true rfl) rfl ?_
  intro p e s m args below meth c A C hr hlk hnm
  have hin_X5 : ∀ x ∈ u_ws RX5 TX5 14, x ∈ wsX5_isRule := by decide +kernel
  obtain ⟨h42, h43, h44, h45, h46, h47, h48, h49, h50, h51, h52, h53, hT, hE, hfb, hsz⟩ := id hm
  refine j_iload_n (pc := 0) C rfl dX5_isRule_0 rfl ?_
  refine jS_i0 (pc := 1) (k2 := 0) (n2 := 0) (np := 1) (As := [.int x]) C (ct_M_isFilter x) gX5_isRule_X5_isFilter rfl (by decide +kernel) ⟨by decide, by decide⟩ rfl rfl (Nat.le_of_ble_eq_true rfl) dX5_isRule_1 (by decide) (by decide) ⟨by decide, by decide⟩ (fun v1 hv1 => ?_)
  refine j_if_eq (pc := 4) (tgt := 27) C dX5_isRule_4 (by decide) (fun c4 => ?_) (fun c4 => ?_)
  · have c4 := tf_0 hv1 c4
    refine j_iconst (pc := 27) (v := 0) C dX5_isRule_27 (by decide) ?_
    exact ret_z C rfl hr hlk (by decide) dX5_isRule_28 ⟨Or.inr ⟨fun z => c4 (by obtain ⟨j, hj, e, _⟩ := z; exact ⟨j, hj, e⟩), rfl⟩, rfl⟩ (by decide) (by decide)
  · have c4 := tf_1 hv1 c4
    refine j_iload_n (pc := 7) C rfl dX5_isRule_7 rfl ?_
    refine j_iconst (pc := 8) (v := 0) C dX5_isRule_8 (by decide) ?_
    refine j_aload_n (pc := 9) C rfl dX5_isRule_9 rfl ?_
    refine j_get (pc := 10) C hin_X5 h42 rfl 6 (by decide) (by decide +kernel) rfl dX5_isRule_10 ?_
    refine j_iload_n (pc := 13) C rfl dX5_isRule_13 rfl ?_
    obtain ⟨j, hj, rfl⟩ := c4
    have hj10 := hE j hj
    refine j_iald (pc := 14) C h48 rfl hj (by decide) dX5_isRule_14 ?_
    refine j_iconst (pc := 15) (v := 1) C dX5_isRule_15 (by decide) ?_
    refine j_isub (pc := 16) C dX5_isRule_16 ?_
    refine jS_i0 (pc := 17) (k2 := 0) (n2 := 0) (np := 3) (As := [.int x2, .int 0, .int (nI (E j).length - 1)]) C (ct_in x2 0 (nI (E j).length - 1)) gX5_isRule_X5_in rfl (by decide +kernel) ⟨by decide, by decide⟩ rfl rfl (Nat.le_of_ble_eq_true rfl) dX5_isRule_17 (by decide) (by decide) ⟨by decide, by decide⟩ (fun v2 hv2 => ?_)
    refine j_if_eq (pc := 20) (tgt := 27) C dX5_isRule_20 (by decide) (fun c20 => ?_) (fun c20 => ?_)
    · have c20 := tf_0 hv2 c20
      refine j_iconst (pc := 27) (v := 0) C dX5_isRule_27 (by decide) ?_
      exact ret_z C rfl hr hlk (by decide) dX5_isRule_28 ⟨Or.inr ⟨fun z => c20 (by obtain ⟨j9, hj9, e9, h9⟩ := z; have ej := nI_inj (by omega) (by omega) e9; subst ej; exact (vld_m1 hj10).mpr h9), rfl⟩, rfl⟩ (by decide) (by decide)
    · have c20 := tf_1 hv2 c20
      refine j_iconst (pc := 23) (v := 1) C dX5_isRule_23 (by decide) ?_
      refine j_goto (pc := 24) (tgt := 28) C dX5_isRule_24 (by decide) ?_
      exact ret_z C rfl hr hlk (by decide) dX5_isRule_28 ⟨Or.inl ⟨⟨j, hj, rfl, (vld_m1 hj10).mp c20⟩, rfl⟩, rfl⟩ (by decide) (by decide)

set_option maxRecDepth 100000 in
set_option maxHeartbeats 4000000 in
theorem ct_goes0 {l : Launch} {G : Gp} {L : List Nat} {w : Wn} {am : Nat → Nat} {th cp sz : Int32} (h42 : Hs L w 42 (am 42) (modE am th cp sz)) : CI l yX5_goesWell wsX5_goesWell (rmD 1 0 0) G L w [.ref (am 42), .int 0] (fun r u => r = 1 ∧ u = (L, va_up w 42 (am 42, modE am 0 cp sz))) := by
  refine mk_i (cc := cX5_goesWell) (maxL := 2) [some (.ref (am 42)), some (.int 0)] (by decide) rfl (Nat.le_of_ble_eq_true rfl) rfl ?_
  intro p e s m args below meth c A C hr hlk hnm
  have hin_X5 : ∀ x ∈ u_ws RX5 TX5 14, x ∈ wsX5_goesWell := by decide +kernel
  refine j_aload_n (pc := 0) C rfl dX5_goesWell_0 rfl ?_
  refine j_iload_n (pc := 1) C rfl dX5_goesWell_1 rfl ?_
  refine j_put (pc := 2) (fs2 := [.int 0, .ref (am 43), .ref (am 44), .ref (am 45), .ref (am 46), .ref (am 47), .ref (am 48), .ref (am 49), .ref (am 50), .int cp, .ref (am 51), .int sz, .ref (am 52), .ref (am 53)]) C hin_X5 h42 rfl 0 (by decide) tyX5 tyX5_ok nmX5 (by decide +kernel) rfl (tyX5_ok 0 (by decide)) rfl rfl (Nat.le_of_ble_eq_true rfl) rfl dX5_goesWell_2 ?_
  refine j_nm (fun w2 ew2 => ?_)
  have h42 : Hs L w2 42 (am 42) (.inr (6, [.int 0, .ref (am 43), .ref (am 44), .ref (am 45), .ref (am 46), .ref (am 47), .ref (am 48), .ref (am 49), .ref (am 50), .int cp, .ref (am 51), .int sz, .ref (am 52), .ref (am 53)])) := by rw [ew2]; exact h42.me
  refine j_iload_n (pc := 5) C rfl dX5_goesWell_5 rfl ?_
  refine j_if_ne (pc := 6) (tgt := 13) C dX5_goesWell_6 (by decide) (fun c6 => ?_) (fun c6 => ?_)
  · exact absurd rfl c6
  · refine j_iconst (pc := 9) (v := 1) C dX5_goesWell_9 (by decide) ?_
    refine j_goto (pc := 10) (tgt := 14) C dX5_goesWell_10 (by decide) ?_
    exact ret_z C rfl hr hlk (by decide) dX5_goesWell_14 ⟨rfl, by rw [ew2]⟩ (by decide) (by decide)

set_option maxRecDepth 100000 in
set_option maxHeartbeats 4000000 in
theorem ct_goes1 {l : Launch} {G : Gp} {L : List Nat} {w : Wn} {am : Nat → Nat} {th cp sz : Int32} (h42 : Hs L w 42 (am 42) (modE am th cp sz)) {pl : Int32} (hpl : ¬ pl = 0) : CI l yX5_goesWell wsX5_goesWell (rmD 1 0 0) G L w [.ref (am 42), .int pl] (fun r u => r = 0 ∧ u = (L, va_up w 42 (am 42, modE am pl cp sz))) := by
  refine mk_i (cc := cX5_goesWell) (maxL := 2) [some (.ref (am 42)), some (.int pl)] (by decide) rfl (Nat.le_of_ble_eq_true rfl) rfl ?_
  intro p e s m args below meth c A C hr hlk hnm
  have hin_X5 : ∀ x ∈ u_ws RX5 TX5 14, x ∈ wsX5_goesWell := by decide +kernel
  refine j_aload_n (pc := 0) C rfl dX5_goesWell_0 rfl ?_
  refine j_iload_n (pc := 1) C rfl dX5_goesWell_1 rfl ?_
  refine j_put (pc := 2) (fs2 := [.int pl, .ref (am 43), .ref (am 44), .ref (am 45), .ref (am 46), .ref (am 47), .ref (am 48), .ref (am 49), .ref (am 50), .int cp, .ref (am 51), .int sz, .ref (am 52), .ref (am 53)]) C hin_X5 h42 rfl 0 (by decide) tyX5 tyX5_ok nmX5 (by decide +kernel) rfl (tyX5_ok 0 (by decide)) rfl rfl (Nat.le_of_ble_eq_true rfl) rfl dX5_goesWell_2 ?_
  refine j_nm (fun w2 ew2 => ?_)
  have h42 : Hs L w2 42 (am 42) (.inr (6, [.int pl, .ref (am 43), .ref (am 44), .ref (am 45), .ref (am 46), .ref (am 47), .ref (am 48), .ref (am 49), .ref (am 50), .int cp, .ref (am 51), .int sz, .ref (am 52), .ref (am 53)])) := by rw [ew2]; exact h42.me
  refine j_iload_n (pc := 5) C rfl dX5_goesWell_5 rfl ?_
  refine j_if_ne (pc := 6) (tgt := 13) C dX5_goesWell_6 (by decide) (fun c6 => ?_) (fun c6 => ?_)
  · refine j_iconst (pc := 13) (v := 0) C dX5_goesWell_13 (by decide) ?_
    exact ret_z C rfl hr hlk (by decide) dX5_goesWell_14 ⟨rfl, by rw [ew2]⟩ (by decide) (by decide)
  · exact absurd c6 hpl

set_option maxRecDepth 100000 in
set_option maxHeartbeats 4000000 in
theorem ct_hides {l : Launch} {G : Gp} {L : List Nat} {w : Wn} {am : Nat → Nat} {th cp : Int32} {df : Nat → Int32} {fq : Nat → Nat} {E : Nat → EL} {ns ar ac : Nat → Int32} {mk vl : Nat → Int64} {ks : Nat → Int32} {sz : Nat} {co ro : Nat → Int32} (hm : MB G am L w th cp df fq E ns ar ac mk vl ks sz co ro) {a b : Nat} (ha : a < 40) (hb : b < 40) : CI l yX5_hides wsX5_hides (rmD 1 0 0) G L w [.ref (am 42), .int (nI a), .int (nI b)] (fun r u => r = bI (covB (rv ns ar ac mk vl a) (rv ns ar ac mk vl b)) ∧ u = (L, w)) := by
  refine mk_i (cc := cX5_hides) (maxL := 4) [some (.ref (am 42)), some (.int (nI a)), some (.int (nI b)), none] (by decide) rfl (Nat.le_of_ble_eq_true rfl) rfl ?_
  intro p e s m args below meth c A C hr hlk hnm
  have hin_X5 : ∀ x ∈ u_ws RX5 TX5 14, x ∈ wsX5_hides := by decide +kernel
  obtain ⟨h42, h43, h44, h45, h46, h47, h48, h49, h50, h51, h52, h53, hT, hE, hfb, hsz⟩ := id hm
  refine j_aload_n (pc := 0) C rfl dX5_hides_0 rfl ?_
  refine j_get (pc := 1) C hin_X5 h42 rfl 1 (by decide) (by decide +kernel) rfl dX5_hides_1 ?_
  refine j_iload_n (pc := 4) C rfl dX5_hides_4 rfl ?_
  refine j_iald (pc := 5) C h43 rfl (by omega) (by decide) dX5_hides_5 ?_
  refine j_aload_n (pc := 6) C rfl dX5_hides_6 rfl ?_
  refine j_get (pc := 7) C hin_X5 h42 rfl 1 (by decide) (by decide +kernel) rfl dX5_hides_7 ?_
  refine j_iload_n (pc := 10) C rfl dX5_hides_10 rfl ?_
  refine j_iald (pc := 11) C h43 rfl (by omega) (by decide) dX5_hides_11 ?_
  refine j_icmp_eq (pc := 12) (tgt := 17) C dX5_hides_12 (by decide) (fun c12 => ?_) (fun c12 => ?_)
  · refine j_aload_n (pc := 17) C rfl dX5_hides_17 rfl ?_
    refine j_get (pc := 18) C hin_X5 h42 rfl 3 (by decide) (by decide +kernel) rfl dX5_hides_18 ?_
    refine j_iload_n (pc := 21) C rfl dX5_hides_21 rfl ?_
    refine j_lald (pc := 22) C h45 rfl (by omega) (by decide) dX5_hides_22 ?_
    refine j_lconst (pc := 23) (v := 0) C dX5_hides_23 (by decide) ?_
    refine j_lcmp (pc := 24) C dX5_hides_24 ?_
    refine j_if_ne (pc := 25) (tgt := 41) C dX5_hides_25 (by decide) (fun c25 => ?_) (fun c25 => ?_)
    · have c25 := nz_c c25
      refine j_aload_n (pc := 41) C rfl dX5_hides_41 rfl ?_
      refine j_get (pc := 42) C hin_X5 h42 rfl 3 (by decide) (by decide +kernel) rfl dX5_hides_42 ?_
      refine j_iload_n (pc := 45) C rfl dX5_hides_45 rfl ?_
      refine j_lald (pc := 46) C h45 rfl (by omega) (by decide) dX5_hides_46 ?_
      refine j_aload_n (pc := 47) C rfl dX5_hides_47 rfl ?_
      refine j_get (pc := 48) C hin_X5 h42 rfl 3 (by decide) (by decide +kernel) rfl dX5_hides_48 ?_
      refine j_iload_n (pc := 51) C rfl dX5_hides_51 rfl ?_
      refine j_lald (pc := 52) C h45 rfl (by omega) (by decide) dX5_hides_52 ?_
      refine j_ldc2 (pc := 53) (v := (-1)) C dX5_hides_53 (by decide +kernel) ?_
      refine j_lxor (pc := 56) C dX5_hides_56 ?_
      refine j_land (pc := 57) C dX5_hides_57 ?_
      refine j_lconst (pc := 58) (v := 0) C dX5_hides_58 (by decide) ?_
      refine j_lcmp (pc := 59) C dX5_hides_59 ?_
      refine j_if_ne (pc := 60) (tgt := 90) C dX5_hides_60 (by decide) (fun c60 => ?_) (fun c60 => ?_)
      · have c60 := nz_c c60
        refine j_iconst (pc := 90) (v := 0) C dX5_hides_90 (by decide) ?_
        refine j_istore_3 (pc := 91) C dX5_hides_91 (by decide) rfl ?_
        refine j_aload_n (pc := 92) C rfl dX5_hides_92 rfl ?_
        refine j_get (pc := 93) C hin_X5 h42 rfl 2 (by decide) (by decide +kernel) rfl dX5_hides_93 ?_
        refine j_iload_n (pc := 96) C rfl dX5_hides_96 rfl ?_
        refine j_iald (pc := 97) C h44 rfl (by omega) (by decide) dX5_hides_97 ?_
        refine j_aload_n (pc := 98) C rfl dX5_hides_98 rfl ?_
        refine j_get (pc := 99) C hin_X5 h42 rfl 2 (by decide) (by decide +kernel) rfl dX5_hides_99 ?_
        refine j_iload_n (pc := 102) C rfl dX5_hides_102 rfl ?_
        refine j_iald (pc := 103) C h44 rfl (by omega) (by decide) dX5_hides_103 ?_
        refine j_icmp_ne (pc := 104) (tgt := 115) C dX5_hides_104 (by decide) (fun c104 => ?_) (fun c104 => ?_)
        · refine j_iconst (pc := 115) (v := 0) C dX5_hides_115 (by decide) ?_
          exact ret_z C rfl hr hlk (by decide) dX5_hides_116 ⟨by unfold covB bI; simp_all, rfl⟩ (by decide) (by decide)
        · refine j_iload_n (pc := 107) C rfl dX5_hides_107 rfl ?_
          refine j_if_eq (pc := 108) (tgt := 115) C dX5_hides_108 (by decide) (fun _ => ?_) (fun z9 => absurd rfl z9)
          refine j_iconst (pc := 115) (v := 0) C dX5_hides_115 (by decide) ?_
          exact ret_z C rfl hr hlk (by decide) dX5_hides_116 ⟨by unfold covB bI; simp_all, rfl⟩ (by decide) (by decide)
      · have c60 := ez_c c60
        refine j_aload_n (pc := 63) C rfl dX5_hides_63 rfl ?_
        refine j_get (pc := 64) C hin_X5 h42 rfl 4 (by decide) (by decide +kernel) rfl dX5_hides_64 ?_
        refine j_iload_n (pc := 67) C rfl dX5_hides_67 rfl ?_
        refine j_lald (pc := 68) C h46 rfl (by omega) (by decide) dX5_hides_68 ?_
        refine j_aload_n (pc := 69) C rfl dX5_hides_69 rfl ?_
        refine j_get (pc := 70) C hin_X5 h42 rfl 3 (by decide) (by decide +kernel) rfl dX5_hides_70 ?_
        refine j_iload_n (pc := 73) C rfl dX5_hides_73 rfl ?_
        refine j_lald (pc := 74) C h45 rfl (by omega) (by decide) dX5_hides_74 ?_
        refine j_land (pc := 75) C dX5_hides_75 ?_
        refine j_aload_n (pc := 76) C rfl dX5_hides_76 rfl ?_
        refine j_get (pc := 77) C hin_X5 h42 rfl 4 (by decide) (by decide +kernel) rfl dX5_hides_77 ?_
        refine j_iload_n (pc := 80) C rfl dX5_hides_80 rfl ?_
        refine j_lald (pc := 81) C h46 rfl (by omega) (by decide) dX5_hides_81 ?_
        refine j_lcmp (pc := 82) C dX5_hides_82 ?_
        refine j_if_ne (pc := 83) (tgt := 90) C dX5_hides_83 (by decide) (fun c83 => ?_) (fun c83 => ?_)
        · have c83 := nz_c c83
          refine j_iconst (pc := 90) (v := 0) C dX5_hides_90 (by decide) ?_
          refine j_istore_3 (pc := 91) C dX5_hides_91 (by decide) rfl ?_
          refine j_aload_n (pc := 92) C rfl dX5_hides_92 rfl ?_
          refine j_get (pc := 93) C hin_X5 h42 rfl 2 (by decide) (by decide +kernel) rfl dX5_hides_93 ?_
          refine j_iload_n (pc := 96) C rfl dX5_hides_96 rfl ?_
          refine j_iald (pc := 97) C h44 rfl (by omega) (by decide) dX5_hides_97 ?_
          refine j_aload_n (pc := 98) C rfl dX5_hides_98 rfl ?_
          refine j_get (pc := 99) C hin_X5 h42 rfl 2 (by decide) (by decide +kernel) rfl dX5_hides_99 ?_
          refine j_iload_n (pc := 102) C rfl dX5_hides_102 rfl ?_
          refine j_iald (pc := 103) C h44 rfl (by omega) (by decide) dX5_hides_103 ?_
          refine j_icmp_ne (pc := 104) (tgt := 115) C dX5_hides_104 (by decide) (fun c104 => ?_) (fun c104 => ?_)
          · refine j_iconst (pc := 115) (v := 0) C dX5_hides_115 (by decide) ?_
            exact ret_z C rfl hr hlk (by decide) dX5_hides_116 ⟨by unfold covB bI; simp_all, rfl⟩ (by decide) (by decide)
          · refine j_iload_n (pc := 107) C rfl dX5_hides_107 rfl ?_
            refine j_if_eq (pc := 108) (tgt := 115) C dX5_hides_108 (by decide) (fun _ => ?_) (fun z9 => absurd rfl z9)
            refine j_iconst (pc := 115) (v := 0) C dX5_hides_115 (by decide) ?_
            exact ret_z C rfl hr hlk (by decide) dX5_hides_116 ⟨by unfold covB bI; simp_all, rfl⟩ (by decide) (by decide)
        · have c83 := ez_c c83
          refine j_iconst (pc := 86) (v := 1) C dX5_hides_86 (by decide) ?_
          refine j_goto (pc := 87) (tgt := 91) C dX5_hides_87 (by decide) ?_
          refine j_istore_3 (pc := 91) C dX5_hides_91 (by decide) rfl ?_
          refine j_aload_n (pc := 92) C rfl dX5_hides_92 rfl ?_
          refine j_get (pc := 93) C hin_X5 h42 rfl 2 (by decide) (by decide +kernel) rfl dX5_hides_93 ?_
          refine j_iload_n (pc := 96) C rfl dX5_hides_96 rfl ?_
          refine j_iald (pc := 97) C h44 rfl (by omega) (by decide) dX5_hides_97 ?_
          refine j_aload_n (pc := 98) C rfl dX5_hides_98 rfl ?_
          refine j_get (pc := 99) C hin_X5 h42 rfl 2 (by decide) (by decide +kernel) rfl dX5_hides_99 ?_
          refine j_iload_n (pc := 102) C rfl dX5_hides_102 rfl ?_
          refine j_iald (pc := 103) C h44 rfl (by omega) (by decide) dX5_hides_103 ?_
          refine j_icmp_ne (pc := 104) (tgt := 115) C dX5_hides_104 (by decide) (fun c104 => ?_) (fun c104 => ?_)
          · refine j_iconst (pc := 115) (v := 0) C dX5_hides_115 (by decide) ?_
            exact ret_z C rfl hr hlk (by decide) dX5_hides_116 ⟨by unfold covB bI; simp_all, rfl⟩ (by decide) (by decide)
          · refine j_iload_n (pc := 107) C rfl dX5_hides_107 rfl ?_
            refine j_if_eq (pc := 108) (tgt := 115) C dX5_hides_108 (by decide) (fun z9 => absurd z9 (by decide)) (fun _ => ?_)
            refine j_iconst (pc := 111) (v := 1) C dX5_hides_111 (by decide) ?_
            refine j_goto (pc := 112) (tgt := 116) C dX5_hides_112 (by decide) ?_
            exact ret_z C rfl hr hlk (by decide) dX5_hides_116 ⟨by unfold covB bI; simp_all, rfl⟩ (by decide) (by decide)
    · have c25 := ez_c c25
      refine j_aload_n (pc := 28) C rfl dX5_hides_28 rfl ?_
      refine j_get (pc := 29) C hin_X5 h42 rfl 4 (by decide) (by decide +kernel) rfl dX5_hides_29 ?_
      refine j_iload_n (pc := 32) C rfl dX5_hides_32 rfl ?_
      refine j_lald (pc := 33) C h46 rfl (by omega) (by decide) dX5_hides_33 ?_
      refine j_lconst (pc := 34) (v := 0) C dX5_hides_34 (by decide) ?_
      refine j_lcmp (pc := 35) C dX5_hides_35 ?_
      refine j_if_ne (pc := 36) (tgt := 41) C dX5_hides_36 (by decide) (fun c36 => ?_) (fun c36 => ?_)
      · have c36 := nz_c c36
        refine j_aload_n (pc := 41) C rfl dX5_hides_41 rfl ?_
        refine j_get (pc := 42) C hin_X5 h42 rfl 3 (by decide) (by decide +kernel) rfl dX5_hides_42 ?_
        refine j_iload_n (pc := 45) C rfl dX5_hides_45 rfl ?_
        refine j_lald (pc := 46) C h45 rfl (by omega) (by decide) dX5_hides_46 ?_
        refine j_aload_n (pc := 47) C rfl dX5_hides_47 rfl ?_
        refine j_get (pc := 48) C hin_X5 h42 rfl 3 (by decide) (by decide +kernel) rfl dX5_hides_48 ?_
        refine j_iload_n (pc := 51) C rfl dX5_hides_51 rfl ?_
        refine j_lald (pc := 52) C h45 rfl (by omega) (by decide) dX5_hides_52 ?_
        refine j_ldc2 (pc := 53) (v := (-1)) C dX5_hides_53 (by decide +kernel) ?_
        refine j_lxor (pc := 56) C dX5_hides_56 ?_
        refine j_land (pc := 57) C dX5_hides_57 ?_
        refine j_lconst (pc := 58) (v := 0) C dX5_hides_58 (by decide) ?_
        refine j_lcmp (pc := 59) C dX5_hides_59 ?_
        refine j_if_ne (pc := 60) (tgt := 90) C dX5_hides_60 (by decide) (fun c60 => ?_) (fun c60 => ?_)
        · have c60 := nz_c c60
          refine j_iconst (pc := 90) (v := 0) C dX5_hides_90 (by decide) ?_
          refine j_istore_3 (pc := 91) C dX5_hides_91 (by decide) rfl ?_
          refine j_aload_n (pc := 92) C rfl dX5_hides_92 rfl ?_
          refine j_get (pc := 93) C hin_X5 h42 rfl 2 (by decide) (by decide +kernel) rfl dX5_hides_93 ?_
          refine j_iload_n (pc := 96) C rfl dX5_hides_96 rfl ?_
          refine j_iald (pc := 97) C h44 rfl (by omega) (by decide) dX5_hides_97 ?_
          refine j_aload_n (pc := 98) C rfl dX5_hides_98 rfl ?_
          refine j_get (pc := 99) C hin_X5 h42 rfl 2 (by decide) (by decide +kernel) rfl dX5_hides_99 ?_
          refine j_iload_n (pc := 102) C rfl dX5_hides_102 rfl ?_
          refine j_iald (pc := 103) C h44 rfl (by omega) (by decide) dX5_hides_103 ?_
          refine j_icmp_ne (pc := 104) (tgt := 115) C dX5_hides_104 (by decide) (fun c104 => ?_) (fun c104 => ?_)
          · refine j_iconst (pc := 115) (v := 0) C dX5_hides_115 (by decide) ?_
            exact ret_z C rfl hr hlk (by decide) dX5_hides_116 ⟨by unfold covB bI; simp_all, rfl⟩ (by decide) (by decide)
          · refine j_iload_n (pc := 107) C rfl dX5_hides_107 rfl ?_
            refine j_if_eq (pc := 108) (tgt := 115) C dX5_hides_108 (by decide) (fun _ => ?_) (fun z9 => absurd rfl z9)
            refine j_iconst (pc := 115) (v := 0) C dX5_hides_115 (by decide) ?_
            exact ret_z C rfl hr hlk (by decide) dX5_hides_116 ⟨by unfold covB bI; simp_all, rfl⟩ (by decide) (by decide)
        · have c60 := ez_c c60
          refine j_aload_n (pc := 63) C rfl dX5_hides_63 rfl ?_
          refine j_get (pc := 64) C hin_X5 h42 rfl 4 (by decide) (by decide +kernel) rfl dX5_hides_64 ?_
          refine j_iload_n (pc := 67) C rfl dX5_hides_67 rfl ?_
          refine j_lald (pc := 68) C h46 rfl (by omega) (by decide) dX5_hides_68 ?_
          refine j_aload_n (pc := 69) C rfl dX5_hides_69 rfl ?_
          refine j_get (pc := 70) C hin_X5 h42 rfl 3 (by decide) (by decide +kernel) rfl dX5_hides_70 ?_
          refine j_iload_n (pc := 73) C rfl dX5_hides_73 rfl ?_
          refine j_lald (pc := 74) C h45 rfl (by omega) (by decide) dX5_hides_74 ?_
          refine j_land (pc := 75) C dX5_hides_75 ?_
          refine j_aload_n (pc := 76) C rfl dX5_hides_76 rfl ?_
          refine j_get (pc := 77) C hin_X5 h42 rfl 4 (by decide) (by decide +kernel) rfl dX5_hides_77 ?_
          refine j_iload_n (pc := 80) C rfl dX5_hides_80 rfl ?_
          refine j_lald (pc := 81) C h46 rfl (by omega) (by decide) dX5_hides_81 ?_
          refine j_lcmp (pc := 82) C dX5_hides_82 ?_
          refine j_if_ne (pc := 83) (tgt := 90) C dX5_hides_83 (by decide) (fun c83 => ?_) (fun c83 => ?_)
          · have c83 := nz_c c83
            refine j_iconst (pc := 90) (v := 0) C dX5_hides_90 (by decide) ?_
            refine j_istore_3 (pc := 91) C dX5_hides_91 (by decide) rfl ?_
            refine j_aload_n (pc := 92) C rfl dX5_hides_92 rfl ?_
            refine j_get (pc := 93) C hin_X5 h42 rfl 2 (by decide) (by decide +kernel) rfl dX5_hides_93 ?_
            refine j_iload_n (pc := 96) C rfl dX5_hides_96 rfl ?_
            refine j_iald (pc := 97) C h44 rfl (by omega) (by decide) dX5_hides_97 ?_
            refine j_aload_n (pc := 98) C rfl dX5_hides_98 rfl ?_
            refine j_get (pc := 99) C hin_X5 h42 rfl 2 (by decide) (by decide +kernel) rfl dX5_hides_99 ?_
            refine j_iload_n (pc := 102) C rfl dX5_hides_102 rfl ?_
            refine j_iald (pc := 103) C h44 rfl (by omega) (by decide) dX5_hides_103 ?_
            refine j_icmp_ne (pc := 104) (tgt := 115) C dX5_hides_104 (by decide) (fun c104 => ?_) (fun c104 => ?_)
            · refine j_iconst (pc := 115) (v := 0) C dX5_hides_115 (by decide) ?_
              exact ret_z C rfl hr hlk (by decide) dX5_hides_116 ⟨by unfold covB bI; simp_all, rfl⟩ (by decide) (by decide)
            · refine j_iload_n (pc := 107) C rfl dX5_hides_107 rfl ?_
              refine j_if_eq (pc := 108) (tgt := 115) C dX5_hides_108 (by decide) (fun _ => ?_) (fun z9 => absurd rfl z9)
              refine j_iconst (pc := 115) (v := 0) C dX5_hides_115 (by decide) ?_
              exact ret_z C rfl hr hlk (by decide) dX5_hides_116 ⟨by unfold covB bI; simp_all, rfl⟩ (by decide) (by decide)
          · have c83 := ez_c c83
            refine j_iconst (pc := 86) (v := 1) C dX5_hides_86 (by decide) ?_
            refine j_goto (pc := 87) (tgt := 91) C dX5_hides_87 (by decide) ?_
            refine j_istore_3 (pc := 91) C dX5_hides_91 (by decide) rfl ?_
            refine j_aload_n (pc := 92) C rfl dX5_hides_92 rfl ?_
            refine j_get (pc := 93) C hin_X5 h42 rfl 2 (by decide) (by decide +kernel) rfl dX5_hides_93 ?_
            refine j_iload_n (pc := 96) C rfl dX5_hides_96 rfl ?_
            refine j_iald (pc := 97) C h44 rfl (by omega) (by decide) dX5_hides_97 ?_
            refine j_aload_n (pc := 98) C rfl dX5_hides_98 rfl ?_
            refine j_get (pc := 99) C hin_X5 h42 rfl 2 (by decide) (by decide +kernel) rfl dX5_hides_99 ?_
            refine j_iload_n (pc := 102) C rfl dX5_hides_102 rfl ?_
            refine j_iald (pc := 103) C h44 rfl (by omega) (by decide) dX5_hides_103 ?_
            refine j_icmp_ne (pc := 104) (tgt := 115) C dX5_hides_104 (by decide) (fun c104 => ?_) (fun c104 => ?_)
            · refine j_iconst (pc := 115) (v := 0) C dX5_hides_115 (by decide) ?_
              exact ret_z C rfl hr hlk (by decide) dX5_hides_116 ⟨by unfold covB bI; simp_all, rfl⟩ (by decide) (by decide)
            · refine j_iload_n (pc := 107) C rfl dX5_hides_107 rfl ?_
              refine j_if_eq (pc := 108) (tgt := 115) C dX5_hides_108 (by decide) (fun z9 => absurd z9 (by decide)) (fun _ => ?_)
              refine j_iconst (pc := 111) (v := 1) C dX5_hides_111 (by decide) ?_
              refine j_goto (pc := 112) (tgt := 116) C dX5_hides_112 (by decide) ?_
              exact ret_z C rfl hr hlk (by decide) dX5_hides_116 ⟨by unfold covB bI; simp_all, rfl⟩ (by decide) (by decide)
      · have c36 := ez_c c36
        refine j_iconst (pc := 39) (v := 1) C dX5_hides_39 (by decide) ?_
        exact ret_z C rfl hr hlk (by decide) dX5_hides_40 ⟨by unfold covB bI; simp_all, rfl⟩ (by decide) (by decide)
  · refine j_iconst (pc := 15) (v := 0) C dX5_hides_15 (by decide) ?_
    exact ret_z C rfl hr hlk (by decide) dX5_hides_16 ⟨by unfold covB bI; simp_all, rfl⟩ (by decide) (by decide)

theorem hid_none {E : Nat → EL} {ns ar ac : Nat → Int32} {mk vl : Nat → Int64} (hT : ∀ j, j < 4 → ∀ i (h : i < (E j).length), rv ns ar ac mk vl (10 * j + i) = ((E j)[i]).2) {j i e : Nat} (hj : j < 4) (hi : i < (E j).length) (hnv : nevB (rv ns ar ac mk vl (10 * j + i)) = false) (h1 : i ≤ e) (h2 : e ≤ i) (h0 : ∀ j9, j9 < e → covB (rv ns ar ac mk vl (10 * j + j9)) (rv ns ar ac mk vl (10 * j + i)) = false) : (-1 : Int32) = onI (hid (rul (E j)) i) := by
  unfold hid
  rw [rul_get hi, ← hT j hj i hi, hnv]
  rw [(fstF_no _ i).mpr (fun j9 z => by rw [rul_get (show j9 < (E j).length by omega), ← hT j hj j9 (by omega)]; exact h0 j9 (by omega))]
  rfl
theorem hid_at {E : Nat → EL} {ns ar ac : Nat → Int32} {mk vl : Nat → Int64} (hT : ∀ j, j < 4 → ∀ i (h : i < (E j).length), rv ns ar ac mk vl (10 * j + i) = ((E j)[i]).2) {j i e : Nat} (hj : j < 4) (hi : i < (E j).length) (hnv : nevB (rv ns ar ac mk vl (10 * j + i)) = false) (h1 : e < i) (h0 : ∀ j9, j9 < e → covB (rv ns ar ac mk vl (10 * j + j9)) (rv ns ar ac mk vl (10 * j + i)) = false) (hc : covB (rv ns ar ac mk vl (10 * j + e)) (rv ns ar ac mk vl (10 * j + i)) = true) : nI e = onI (hid (rul (E j)) i) := by
  unfold hid
  rw [rul_get hi, ← hT j hj i hi, hnv]
  rw [fstF_at _ (e := e) (fun j9 z => by rw [rul_get (show j9 < (E j).length by omega), ← hT j hj j9 (by omega)]; exact h0 j9 z) (by rw [rul_get (show e < (E j).length by omega), ← hT j hj e (by omega)]; exact hc) i h1]
  rfl
set_option maxRecDepth 100000 in
set_option maxHeartbeats 4000000 in
theorem mho_loop {p : Program} {e : Env} {s : State} {m : MethodId} {args : Array Value} {below : List Frame} {meth : Method} {c : Code} {A : Nat → Prop} {post : Int32 → Sw → Prop} {l : Launch} {G : Gp} {L : List Nat} {w : Wn} {am : Nat → Nat} {th cp : Int32} {df : Nat → Int32} {fq : Nat → Nat} {E : Nat → EL} {ns ar ac : Nat → Int32} {mk vl : Nat → Int64} {ks : Nat → Int32} {sz : Nat} {co ro : Nat → Int32} (hm : MB G am L w th cp df fq E ns ar ac mk vl ks sz co ro) {j i : Nat} (hj : j < 4) (hi : i < (E j).length) (hnv : nevB (rv ns ar ac mk vl (10 * j + i)) = false) (hend : ∀ r, r = onI (hid (rul (E j)) i) → post r (L, w)) (C : Cx p s m args c cX5_hiderOf yX5_hiderOf.cls 5 wsX5_hiderOf G A s.heap) (hr : meth.sig.returnType = (some .int)) (hlk : meth.locks = false) : ∀ (f q : Nat), i - q = f → q ≤ i → (∀ j9, j9 < q → covB (rv ns ar ac mk vl (10 * j + j9)) (rv ns ar ac mk vl (10 * j + i)) = false) → J p l e (rmD 2 0 0) s m args below meth c G A s.heap 5 (MQ below (va_Qi post (PB G A) A) args s (rmD 2 0 0).cells (rmD 2 0 0).slots A) L w 0 0 34 [some (.ref (am 42)), some (.int (nI j)), some (.int (nI i)), some (.int (nI (10 * j + i))), some (.int (nI q))] [] := by
  obtain ⟨h42, h43, h44, h45, h46, h47, h48, h49, h50, h51, h52, h53, hT, hE, hfb, hsz⟩ := id hm
  have hj10 := hE j hj
  intro f
  induction f using Nat.strongRecOn with
  | _ f ih =>
    intro q hf hi0 h0
    refine j_iload (pc := 34) C dX5_hiderOf_34 rfl ?_
    refine j_iload_n (pc := 36) C rfl dX5_hiderOf_36 rfl ?_
    refine j_icmp_ge (pc := 37) (tgt := 64) C dX5_hiderOf_37 (by decide) (fun c37 => ?_) (fun c37 => ?_)
    · have c37 := nI_le_of (by omega) (by omega) (show nI i ≤ nI q from c37)
      refine j_iconst (pc := 64) (v := (-1)) C dX5_hiderOf_64 (by decide) ?_
      exact ret_i C rfl hr hlk dX5_hiderOf_65 (hend _ (hid_none hT hj hi hnv (show i ≤ q by omega) hi0 h0)) (by decide) (by decide)
    · have c37 := nI_gt_of (by omega) (by omega) (show ¬ nI i ≤ nI q from c37)
      refine j_aload_n (pc := 40) C rfl dX5_hiderOf_40 rfl ?_
      refine j_bipush (pc := 41) (v := 10) C dX5_hiderOf_41 (by decide) ?_
      refine j_iload_n (pc := 43) C rfl dX5_hiderOf_43 rfl ?_
      refine j_imul (pc := 44) C dX5_hiderOf_44 ?_
      refine j_iload (pc := 45) C dX5_hiderOf_45 rfl ?_
      refine j_iadd (pc := 47) C dX5_hiderOf_47 ?_
      refine j_st (by rw [ix10 j q]) ?_
      refine j_iload_n (pc := 48) C rfl dX5_hiderOf_48 rfl ?_
      refine jV_i0 (pc := 49) (k2 := 0) (n2 := 0) (np := 2) (As := [.int (nI (10 * j + q)), .int (nI (10 * j + i))]) C (ct_hides hm (a := 10 * j + q) (b := 10 * j + i) (by omega) (by omega)) gX5_hiderOf_X5_hides rfl (by decide +kernel) ⟨by decide, by decide⟩ h42 rfl rfl rfl (Nat.le_of_ble_eq_true rfl) dX5_hiderOf_49 (by decide) (by decide) ⟨by decide, by decide⟩ (fun v hv => ?_)
      subst hv
      refine j_if_eq (pc := 52) (tgt := 58) C dX5_hiderOf_52 (by decide) (fun c52 => ?_) (fun c52 => ?_)
      · have c52 := bI_0 c52
        refine j_iinc_4 (pc := 58) (d := 1) C dX5_hiderOf_58 (by decide) rfl rfl ?_
        refine j_lo (by rw [nI_1]) ?_
        refine j_goto (pc := 61) (tgt := 34) C dX5_hiderOf_61 (by decide) ?_
        exact ih (i - (q + 1)) (by omega) (q + 1) rfl (by omega) (fun j9 z9 => by rcases Nat.lt_or_ge j9 q with z | z; exact h0 j9 z; rw [show j9 = q by omega]; exact c52)
      · have c52 := bI_1 c52
        refine j_iload (pc := 55) C dX5_hiderOf_55 rfl ?_
        exact ret_i C rfl hr hlk dX5_hiderOf_57 (hend _ (hid_at hT hj hi hnv (show q < i by omega) h0 c52)) (by decide) (by decide)

theorem hid_nev {E : Nat → EL} {ns ar ac : Nat → Int32} {mk vl : Nat → Int64} (hT : ∀ j, j < 4 → ∀ i (h : i < (E j).length), rv ns ar ac mk vl (10 * j + i) = ((E j)[i]).2) {j i : Nat} (hj : j < 4) (hi : i < (E j).length) (hnv : nevB (rv ns ar ac mk vl (10 * j + i)) = true) : nI i = onI (hid (rul (E j)) i) := by
  unfold hid
  rw [rul_get hi, ← hT j hj i hi, hnv]
  rfl
set_option maxRecDepth 100000 in
set_option maxHeartbeats 4000000 in
theorem ct_M_hiderOf {l : Launch} {G : Gp} {L : List Nat} {w : Wn} {am : Nat → Nat} {th cp : Int32} {df : Nat → Int32} {fq : Nat → Nat} {E : Nat → EL} {ns ar ac : Nat → Int32} {mk vl : Nat → Int64} {ks : Nat → Int32} {sz : Nat} {co ro : Nat → Int32} (hm : MB G am L w th cp df fq E ns ar ac mk vl ks sz co ro) {j i : Nat} (hj : j < 4) (hi : i < (E j).length)  : CI l yX5_hiderOf wsX5_hiderOf (rmD 2 0 0) G L w [.ref (am 42), .int (nI j), .int (nI i)] (fun r u => r = onI (hid (rul (E j)) i) ∧ u = (L, w)) := by
  refine mk_i (cc := cX5_hiderOf) (maxL := 5) [some (.ref (am 42)), some (.int (nI j)), some (.int (nI i)), none, none] (by decide) rfl (Nat.le_of_ble_eq_true rfl) rfl ?_
  intro p e s m args below meth c A C hr hlk hnm
  have hin_X5 : ∀ x ∈ u_ws RX5 TX5 14, x ∈ wsX5_hiderOf := by decide +kernel
  obtain ⟨h42, h43, h44, h45, h46, h47, h48, h49, h50, h51, h52, h53, hT, hE, hfb, hsz⟩ := id hm
  have hj10 := hE j hj
  refine j_bipush (pc := 0) (v := 10) C dX5_hiderOf_0 (by decide) ?_
  refine j_iload_n (pc := 2) C rfl dX5_hiderOf_2 rfl ?_
  refine j_imul (pc := 3) C dX5_hiderOf_3 ?_
  refine j_iload_n (pc := 4) C rfl dX5_hiderOf_4 rfl ?_
  refine j_iadd (pc := 5) C dX5_hiderOf_5 ?_
  refine j_st (by rw [ix10 j i]) ?_
  refine j_istore_3 (pc := 6) C dX5_hiderOf_6 (by decide) rfl ?_
  refine j_aload_n (pc := 7) C rfl dX5_hiderOf_7 rfl ?_
  refine j_get (pc := 8) C hin_X5 h42 rfl 4 (by decide) (by decide +kernel) rfl dX5_hiderOf_8 ?_
  refine j_iload_n (pc := 11) C rfl dX5_hiderOf_11 rfl ?_
  refine j_lald (pc := 12) C h46 rfl (by omega) (by decide) dX5_hiderOf_12 ?_
  refine j_aload_n (pc := 13) C rfl dX5_hiderOf_13 rfl ?_
  refine j_get (pc := 14) C hin_X5 h42 rfl 3 (by decide) (by decide +kernel) rfl dX5_hiderOf_14 ?_
  refine j_iload_n (pc := 17) C rfl dX5_hiderOf_17 rfl ?_
  refine j_lald (pc := 18) C h45 rfl (by omega) (by decide) dX5_hiderOf_18 ?_
  refine j_ldc2 (pc := 19) (v := (-1)) C dX5_hiderOf_19 (by decide +kernel) ?_
  refine j_lxor (pc := 22) C dX5_hiderOf_22 ?_
  refine j_land (pc := 23) C dX5_hiderOf_23 ?_
  refine j_lconst (pc := 24) (v := 0) C dX5_hiderOf_24 (by decide) ?_
  refine j_lcmp (pc := 25) C dX5_hiderOf_25 ?_
  refine j_if_eq (pc := 26) (tgt := 31) C dX5_hiderOf_26 (by decide) (fun c26 => ?_) (fun c26 => ?_)
  · have c26 := ez_c c26
    refine j_iconst (pc := 31) (v := 0) C dX5_hiderOf_31 (by decide) ?_
    refine j_istore_4 (pc := 32) C dX5_hiderOf_32 (by decide) rfl ?_
    exact mho_loop hm hj hi (by unfold nevB; simp_all) (fun r h => ⟨h, rfl⟩) C hr hlk i 0 rfl (by omega) (fun j9 z9 => absurd z9 (Nat.not_lt_zero j9))
  · have c26 := nz_c c26
    refine j_iload_n (pc := 29) C rfl dX5_hiderOf_29 rfl ?_
    exact ret_i C rfl hr hlk dX5_hiderOf_30 ⟨hid_nev hT hj hi (by unfold nevB; simp_all), rfl⟩ (by decide) (by decide)

