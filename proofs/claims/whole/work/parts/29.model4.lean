/-! THE MODEL: its trees -/
abbrev FrM (L : List Nat) (w w2 : Wn) : Prop := Fr (fun m => 42 ≤ m ∧ m < 54) (fun _ => False) L w L w2
theorem MB.setro {G : Gp} {L : List Nat} {w : Wn} {am : Nat → Nat} {th cp : Int32} {df : Nat → Int32} {fq : Nat → Nat} {E : Nat → EL} {ns ar ac : Nat → Int32} {mk vl : Nat → Int64} {ks : Nat → Int32} {sz : Nat} {co ro : Nat → Int32} (hm : MB G am L w th cp df fq E ns ar ac mk vl ks sz co ro) {ro2 : Nat → Int32} {w2 : Wn} (e : w2 = va_up w 53 (am 53, iarE G 100 ro2)) : MB G am L w2 th cp df fq E ns ar ac mk vl ks sz co ro2 ∧ FrM L w w2 := by
  obtain ⟨h42, h43, h44, h45, h46, h47, h48, h49, h50, h51, h52, h53, hT, hE, hfb, hsz⟩ := hm
  exact ⟨⟨hs_up1 h42 e (by decide), hs_up1 h43 e (by decide), hs_up1 h44 e (by decide), hs_up1 h45 e (by decide), hs_up1 h46 e (by decide), hs_up1 h47 e (by decide), hs_up1 h48 e (by decide), hs_up1 h49 e (by decide), hs_up1 h50 e (by decide), hs_up1 h51 e (by decide), hs_up1 h52 e (by decide), hs_me1 h53 e, hT, hE, hfb, hsz⟩, (Fr.up e).mono (fun m z => by omega) (fun m z => z)⟩
theorem MB.setco {G : Gp} {L : List Nat} {w : Wn} {am : Nat → Nat} {th cp : Int32} {df : Nat → Int32} {fq : Nat → Nat} {E : Nat → EL} {ns ar ac : Nat → Int32} {mk vl : Nat → Int64} {ks : Nat → Int32} {sz : Nat} {co ro : Nat → Int32} (hm : MB G am L w th cp df fq E ns ar ac mk vl ks sz co ro) {co2 : Nat → Int32} {w2 : Wn} (e : w2 = va_up w 52 (am 52, iarE G 100 co2)) : MB G am L w2 th cp df fq E ns ar ac mk vl ks sz co2 ro ∧ FrM L w w2 := by
  obtain ⟨h42, h43, h44, h45, h46, h47, h48, h49, h50, h51, h52, h53, hT, hE, hfb, hsz⟩ := hm
  exact ⟨⟨hs_up1 h42 e (by decide), hs_up1 h43 e (by decide), hs_up1 h44 e (by decide), hs_up1 h45 e (by decide), hs_up1 h46 e (by decide), hs_up1 h47 e (by decide), hs_up1 h48 e (by decide), hs_up1 h49 e (by decide), hs_up1 h50 e (by decide), hs_up1 h51 e (by decide), hs_me1 h52 e, hs_up1 h53 e (by decide), hT, hE, hfb, hsz⟩, (Fr.up e).mono (fun m z => by omega) (fun m z => z)⟩
theorem MB.setks {G : Gp} {L : List Nat} {w : Wn} {am : Nat → Nat} {th cp : Int32} {df : Nat → Int32} {fq : Nat → Nat} {E : Nat → EL} {ns ar ac : Nat → Int32} {mk vl : Nat → Int64} {ks : Nat → Int32} {sz : Nat} {co ro : Nat → Int32} (hm : MB G am L w th cp df fq E ns ar ac mk vl ks sz co ro) {ks2 : Nat → Int32} {w2 : Wn} (e : w2 = va_up w 51 (am 51, iarE G 10 ks2)) : MB G am L w2 th cp df fq E ns ar ac mk vl ks2 sz co ro ∧ FrM L w w2 := by
  obtain ⟨h42, h43, h44, h45, h46, h47, h48, h49, h50, h51, h52, h53, hT, hE, hfb, hsz⟩ := hm
  exact ⟨⟨hs_up1 h42 e (by decide), hs_up1 h43 e (by decide), hs_up1 h44 e (by decide), hs_up1 h45 e (by decide), hs_up1 h46 e (by decide), hs_up1 h47 e (by decide), hs_up1 h48 e (by decide), hs_up1 h49 e (by decide), hs_up1 h50 e (by decide), hs_me1 h51 e, hs_up1 h52 e (by decide), hs_up1 h53 e (by decide), hT, hE, hfb, hsz⟩, (Fr.up e).mono (fun m z => by omega) (fun m z => z)⟩
theorem MB.setdf {G : Gp} {L : List Nat} {w : Wn} {am : Nat → Nat} {th cp : Int32} {df : Nat → Int32} {fq : Nat → Nat} {E : Nat → EL} {ns ar ac : Nat → Int32} {mk vl : Nat → Int64} {ks : Nat → Int32} {sz : Nat} {co ro : Nat → Int32} (hm : MB G am L w th cp df fq E ns ar ac mk vl ks sz co ro) {df2 : Nat → Int32} {w2 : Wn} (e : w2 = va_up w 49 (am 49, iarE G 4 df2)) : MB G am L w2 th cp df2 fq E ns ar ac mk vl ks sz co ro ∧ FrM L w w2 := by
  obtain ⟨h42, h43, h44, h45, h46, h47, h48, h49, h50, h51, h52, h53, hT, hE, hfb, hsz⟩ := hm
  exact ⟨⟨hs_up1 h42 e (by decide), hs_up1 h43 e (by decide), hs_up1 h44 e (by decide), hs_up1 h45 e (by decide), hs_up1 h46 e (by decide), hs_up1 h47 e (by decide), hs_up1 h48 e (by decide), hs_me1 h49 e, hs_up1 h50 e (by decide), hs_up1 h51 e (by decide), hs_up1 h52 e (by decide), hs_up1 h53 e (by decide), hT, hE, hfb, hsz⟩, (Fr.up e).mono (fun m z => by omega) (fun m z => z)⟩
theorem MB.setob {G : Gp} {L : List Nat} {w : Wn} {am : Nat → Nat} {th cp : Int32} {df : Nat → Int32} {fq : Nat → Nat} {E : Nat → EL} {ns ar ac : Nat → Int32} {mk vl : Nat → Int64} {ks : Nat → Int32} {sz : Nat} {co ro : Nat → Int32} (hm : MB G am L w th cp df fq E ns ar ac mk vl ks sz co ro) {th2 cp2 : Int32} {sz2 : Nat} {w2 : Wn} (e : w2 = va_up w 42 (am 42, modE am th2 cp2 (nI sz2))) (hs2 : sz2 ≤ 10) : MB G am L w2 th2 cp2 df fq E ns ar ac mk vl ks sz2 co ro ∧ FrM L w w2 := by
  obtain ⟨h42, h43, h44, h45, h46, h47, h48, h49, h50, h51, h52, h53, hT, hE, hfb, hsz⟩ := hm
  exact ⟨⟨hs_me1 h42 e, hs_up1 h43 e (by decide), hs_up1 h44 e (by decide), hs_up1 h45 e (by decide), hs_up1 h46 e (by decide), hs_up1 h47 e (by decide), hs_up1 h48 e (by decide), hs_up1 h49 e (by decide), hs_up1 h50 e (by decide), hs_up1 h51 e (by decide), hs_up1 h52 e (by decide), hs_up1 h53 e (by decide), hT, hE, hfb, hs2⟩, (Fr.up e).mono (fun m z => by omega) (fun m z => z)⟩
theorem to_gt {x2 : Int32} {a l : Nat} (hx : x2 = nI (a + l) - 1) (h : a + l ≤ 100) : x2 < nI a ↔ l = 0 := by
  subst hx
  cases l with
  | zero =>
    refine ⟨fun _ => rfl, fun _ => ?_⟩
    show nI a - 1 < nI a
    rw [show (1 : Int32) = nI 1 from rfl]
    have e1 := pk_sub_toInt (a := a) (b := 1) (by omega) (by decide)
    have e2 := nI_toInt (n := a) (by omega)
    exact Int32.lt_iff_toInt_lt.mpr (by omega)
  | succ l =>
    rw [show a + (l + 1) = a + l + 1 from rfl, nI_pred]
    exact ⟨fun z => absurd z (nI_nlt (by omega) (by omega)), fun z => absurd z (by omega)⟩
set_option maxRecDepth 100000 in
set_option maxHeartbeats 4000000 in
theorem ct_costOf0 {l : Launch} {G : Gp} {L : List Nat} {w : Wn} {am : Nat → Nat} {th cp : Int32} {df : Nat → Int32} {fq : Nat → Nat} {E : Nat → EL} {ns ar ac : Nat → Int32} {mk vl : Nat → Int64} {ks : Nat → Int32} {sz : Nat} {co ro : Nat → Int32} (hm : MB G am L w th cp df fq E ns ar ac mk vl ks sz co ro) {a : Nat} (ha : a ≤ 10) : CI l yX5_costOf wsX5_costOf (rmD 1 0 0) G L w [.ref (am 42), .int (nI a), .int (nI a - 1)] (fun r u => r = 0 ∧ u = (L, w)) := by
  refine mk_i (cc := cX5_costOf) (maxL := 3) [some (.ref (am 42)), some (.int (nI a)), some (.int (nI a - 1))] (by decide) rfl (Nat.le_of_ble_eq_true rfl) rfl ?_
  intro p e s m args below meth c A C hr hlk hnm
  obtain ⟨h42, h43, h44, h45, h46, h47, h48, h49, h50, h51, h52, h53, hT, hE, hfb, hsz⟩ := id hm
  refine j_iload_n (pc := 0) C rfl dX5_costOf_0 rfl ?_
  refine j_iload_n (pc := 1) C rfl dX5_costOf_1 rfl ?_
  refine j_icmp_le (pc := 2) (tgt := 9) C dX5_costOf_2 (by decide) (fun c2 => ?_) (fun c2 => ?_)
  · exact absurd c2 (Int32.not_le.mpr ((to_gt (l := 0) rfl (by omega)).mpr rfl))
  · refine j_iconst (pc := 5) (v := 0) C dX5_costOf_5 (by decide) ?_
    refine j_goto (pc := 6) (tgt := 20) C dX5_costOf_6 (by decide) ?_
    exact ret_i C rfl hr hlk dX5_costOf_20 ⟨rfl, rfl⟩ (by decide) (by decide)

set_option maxRecDepth 100000 in
set_option maxHeartbeats 4000000 in
theorem ct_costOf1 {l : Launch} {G : Gp} {L : List Nat} {w : Wn} {am : Nat → Nat} {th cp : Int32} {df : Nat → Int32} {fq : Nat → Nat} {E : Nat → EL} {ns ar ac : Nat → Int32} {mk vl : Nat → Int64} {ks : Nat → Int32} {sz : Nat} {co ro : Nat → Int32} (hm : MB G am L w th cp df fq E ns ar ac mk vl ks sz co ro) {a l9 : Nat} (ha : a + l9 < 10) : CI l yX5_costOf wsX5_costOf (rmD 1 0 0) G L w [.ref (am 42), .int (nI a), .int (nI (a + l9))] (fun r u => r = co (10 * a + (a + l9)) ∧ u = (L, w)) := by
  refine mk_i (cc := cX5_costOf) (maxL := 3) [some (.ref (am 42)), some (.int (nI a)), some (.int (nI (a + l9)))] (by decide) rfl (Nat.le_of_ble_eq_true rfl) rfl ?_
  intro p e s m args below meth c A C hr hlk hnm
  have hin_X5 : ∀ x ∈ u_ws RX5 TX5 14, x ∈ wsX5_costOf := by decide +kernel
  obtain ⟨h42, h43, h44, h45, h46, h47, h48, h49, h50, h51, h52, h53, hT, hE, hfb, hsz⟩ := id hm
  refine j_iload_n (pc := 0) C rfl dX5_costOf_0 rfl ?_
  refine j_iload_n (pc := 1) C rfl dX5_costOf_1 rfl ?_
  refine j_icmp_le (pc := 2) (tgt := 9) C dX5_costOf_2 (by decide) (fun c2 => ?_) (fun c2 => ?_)
  · refine j_aload_n (pc := 9) C rfl dX5_costOf_9 rfl ?_
    refine j_get (pc := 10) C hin_X5 h42 rfl 12 (by decide) (by decide +kernel) rfl dX5_costOf_10 ?_
    refine j_bipush (pc := 13) (v := 10) C dX5_costOf_13 (by decide) ?_
    refine j_iload_n (pc := 15) C rfl dX5_costOf_15 rfl ?_
    refine j_imul (pc := 16) C dX5_costOf_16 ?_
    refine j_iload_n (pc := 17) C rfl dX5_costOf_17 rfl ?_
    refine j_iadd (pc := 18) C dX5_costOf_18 ?_
    refine j_st (by rw [ix10 a (a + l9)]) ?_
    refine j_iald (pc := 19) C h52 rfl (by omega) (by decide) dX5_costOf_19 ?_
    exact ret_i C rfl hr hlk dX5_costOf_20 ⟨rfl, rfl⟩ (by decide) (by decide)
  · exact absurd (nI_le (by omega) (by omega)) c2

theorem ct_costOf {l : Launch} {G : Gp} {L : List Nat} {w : Wn} {am : Nat → Nat} {th cp : Int32} {df : Nat → Int32} {fq : Nat → Nat} {E : Nat → EL} {ns ar ac : Nat → Int32} {mk vl : Nat → Int64} {ks : Nat → Int32} {sz : Nat} {co ro : Nat → Int32} (hm : MB G am L w th cp df fq E ns ar ac mk vl ks sz co ro) {a l9 : Nat} {x2 : Int32} {W : Nat} (hx : x2 = nI (a + l9) - 1) (ha : a + l9 ≤ 10) (h0 : l9 = 0 → W = 0) (h1 : 0 < l9 → co (10 * a + (a + l9 - 1)) = nI W) : CI l yX5_costOf wsX5_costOf (rmD 1 0 0) G L w [.ref (am 42), .int (nI a), .int x2] (fun r u => r = nI W ∧ u = (L, w)) := by
  subst hx
  cases l9 with
  | zero =>
    rw [h0 rfl]
    exact ct_costOf0 hm (by omega)
  | succ l9 =>
    rw [← h1 (by omega)]
    show CI l yX5_costOf wsX5_costOf (rmD 1 0 0) G L w [.ref (am 42), .int (nI a), .int (nI (a + l9 + 1) - 1)] _
    rw [nI_pred]
    exact ct_costOf1 hm (by omega)
def wtK (fq : Nat → Nat) (kk : Nat → Nat) (r : Nat) : Nat := fq (kk r) + 1
theorem wtK_le {fq kk : Nat → Nat} (h : ∀ i, fq i ≤ 1000) (r : Nat) : wtK fq kk r ≤ 1001 := by
  have := h (kk r)
  unfold wtK
  omega
/-- what is laid of the shorter parts, and of the parts of length m left of j -/
def TabM (wt : Nat → Nat) (n m j : Nat) (co ro : Nat → Int32) : Prop := ∀ i l, 0 < l → (l < m ∨ (l = m ∧ i < j)) → i + l ≤ n → co (10 * i + (i + l - 1)) = nI (cs wt i l) ∧ ro (10 * i + (i + l - 1)) = nI (rt wt i l)
theorem TabM.c {wt : Nat → Nat} {n m j : Nat} {co ro : Nat → Int32} (h : TabM wt n m j co ro) {i l : Nat} (h1 : l < m) (h2 : i + l ≤ n) : 0 < l → co (10 * i + (i + l - 1)) = nI (cs wt i l) := fun z => (h i l z (Or.inl h1) h2).1
theorem TabM.next {wt : Nat → Nat} {n m j : Nat} {co ro co2 ro2 : Nat → Int32} (h : TabM wt n (m + 1) j co ro) (hn : n ≤ 10) (hj : j + (m + 1) ≤ n) (h1 : co2 (10 * j + (j + m)) = nI (cs wt j (m + 1))) (h2 : ro2 (10 * j + (j + m)) = nI (rt wt j (m + 1))) (h3 : ∀ q, q ≠ 10 * j + (j + m) → co2 q = co q) (h4 : ∀ q, q ≠ 10 * j + (j + m) → ro2 q = ro q) : TabM wt n (m + 1) (j + 1) co2 ro2 := by
  intro i l hl ho hi
  by_cases e : i = j ∧ l = m + 1
  · obtain ⟨rfl, rfl⟩ := e
    exact ⟨h1, h2⟩
  · have hne : 10 * i + (i + l - 1) ≠ 10 * j + (j + m) := by omega
    rw [h3 _ hne, h4 _ hne]
    exact h i l hl (by omega) hi
theorem upd_ne {f : Nat → Int32} {k q : Nat} {x : Int32} (h : q ≠ k) : upd f k x q = f q := by simp [upd, h]
theorem upd_me {f : Nat → Int32} {k : Nat} {x : Int32} : upd f k x k = x := by simp [upd]
theorem nI_nm1 {a : Nat} (h : a ≤ 200200) : ¬ nI a = -1 := fun z => by
  have e1 := nI_toInt (n := a) (by omega)
  have e2 : (nI a).toInt = -1 := by rw [z]; rfl
  omega
theorem bel_at {wt : Nat → Nat} {i n q : Nat} (h : q ≤ n) : cs wt i q + cs wt (i + q + 1) (n - q) = bel wt i n (i + q) := by
  unfold bel
  rw [Nat.add_sub_cancel_left, show i + n - (i + q) = n - q by omega]
theorem am_0 {f : Nat → Nat} {i q k : Nat} {ro : Nat → Int32} (h : q = 0) : nI (f (i + q)) = nI (f (amin f i (q + 1 - 1))) ∧ upd ro k (nI (i + q)) k = nI (amin f i (q + 1 - 1)) := by
  subst h
  exact ⟨rfl, upd_me⟩
theorem am_lt {f : Nat → Nat} {i q k : Nat} {ro : Nat → Int32} (h : 0 < q) (hc : f (i + q) < f (amin f i (q - 1))) : nI (f (i + q)) = nI (f (amin f i (q + 1 - 1))) ∧ upd ro k (nI (i + q)) k = nI (amin f i (q + 1 - 1)) := by
  have e : amin f i (q + 1 - 1) = i + q := by
    obtain ⟨p9, rfl⟩ : ∃ p9, q = p9 + 1 := ⟨q - 1, by omega⟩
    show amin f i (p9 + 1) = _
    rw [amin]
    exact if_pos hc
  rw [e]
  exact ⟨rfl, upd_me⟩
theorem am_ge {f : Nat → Nat} {i q k : Nat} {ro : Nat → Int32} {t : Int32} (h : 0 < q) (hc : f (amin f i (q - 1)) ≤ f (i + q)) (hle : t = nI (f (amin f i (q - 1)))) (hro : ro k = nI (amin f i (q - 1))) : t = nI (f (amin f i (q + 1 - 1))) ∧ ro k = nI (amin f i (q + 1 - 1)) := by
  have e : amin f i (q + 1 - 1) = amin f i (q - 1) := by
    obtain ⟨p9, rfl⟩ : ∃ p9, q = p9 + 1 := ⟨q - 1, by omega⟩
    show amin f i (p9 + 1) = _
    rw [amin]
    exact if_neg (Nat.not_lt.mpr hc)
  rw [e]
  exact ⟨hle, hro⟩
set_option maxRecDepth 100000 in
set_option maxHeartbeats 4000000 in
theorem mlp_loop {p : Program} {e : Env} {s : State} {m : MethodId} {args : Array Value} {below : List Frame} {meth : Method} {c : Code} {A : Nat → Prop} {post : Sw → Prop} {l : Launch} {G : Gp} {L : List Nat} {am : Nat → Nat} {th cp : Int32} {df : Nat → Int32} {fq : Nat → Nat} {E : Nat → EL} {ns ar ac : Nat → Int32} {mk vl : Nat → Int64} {ks : Nat → Int32} {sz : Nat} {co ro0 : Nat → Int32} {kk : Nat → Nat} {n9 i m9 : Nat} (hk : ∀ r, r < n9 → ks r = nI (kk r) ∧ kk r < 32) (hn9 : n9 ≤ 10) (him : i + (m9 + 1) ≤ n9) (hTab : TabM (wtK fq kk) n9 (m9 + 1) i co ro0) (C : Cx p s m args c cX5_layPart yX5_layPart.cls 7 wsX5_layPart G A s.heap) (hr : meth.sig.returnType = none) (hlk : meth.locks = false) : ∀ (f q : Nat) (t : Int32) (w : Wn) (ro : Nat → Int32), m9 + 1 - q = f → q ≤ m9 + 1 → MB G am L w th cp df fq E ns ar ac mk vl ks sz co ro → (q = 0 → t = -1) → (0 < q → t = nI (bel (wtK fq kk) i m9 (amin (bel (wtK fq kk) i m9) i (q - 1))) ∧ ro (10 * i + (i + m9)) = nI (amin (bel (wtK fq kk) i m9) i (q - 1))) → (∀ p9, p9 ≠ (10 * i + (i + m9)) → ro p9 = ro0 p9) → (∀ (w2 : Wn) (co2 ro2 : Nat → Int32), MB G am L w2 th cp df fq E ns ar ac mk vl ks sz co2 ro2 → co2 = upd co (10 * i + (i + m9)) (nI (cs (wtK fq kk) i (m9 + 1))) → ro2 (10 * i + (i + m9)) = nI (rt (wtK fq kk) i (m9 + 1)) → (∀ p9, p9 ≠ (10 * i + (i + m9)) → ro2 p9 = ro0 p9) → FrM L w w2 → post (L, w2)) → J p l e (rmD 2 0 0) s m args below meth c G A s.heap 7 (MQ below (va_Qv post (PB G A) A) args s (rmD 2 0 0).cells (rmD 2 0 0).slots A) L w 0 0 8 [some (.ref (am 42)), some (.int (nI i)), some (.int (nI (i + m9))), some (.int (nI (wsum (wtK fq kk) i q))), some (.int t), some (.int (nI (i + q))), none] [] := by
  have hin_X5 : ∀ x ∈ u_ws RX5 TX5 14, x ∈ wsX5_layPart := by decide +kernel
  intro f
  induction f using Nat.strongRecOn with
  | _ f ih =>
    intro q t w ro hf hq0 hm hl0 hl1 hoth hend
    obtain ⟨h42, h43, h44, h45, h46, h47, h48, h49, h50, h51, h52, h53, hT, hE, hfb, hsz⟩ := id hm
    have hbs : ∀ p9, p9 ≤ m9 → bel (wtK fq kk) i m9 (amin (bel (wtK fq kk) i m9) i p9) ≤ 200200 := fun p9 z => by have h9 := amin_in (bel (wtK fq kk) i m9) i p9; exact bel_small (wtK_le hfb) (by omega) (by omega) (by omega)
    refine j_iload (pc := 8) C dX5_layPart_8 rfl ?_
    refine j_iload_n (pc := 10) C rfl dX5_layPart_10 rfl ?_
    refine j_icmp_gt (pc := 11) (tgt := 88) C dX5_layPart_11 (by decide) (fun c11 => ?_) (fun c11 => ?_)
    · have c11 := nI_lt_of (by omega) (by omega) (show nI (i + m9) < nI (i + q) from c11)
      refine j_aload_n (pc := 88) C rfl dX5_layPart_88 rfl ?_
      refine j_get (pc := 89) C hin_X5 h42 rfl 12 (by decide) (by decide +kernel) rfl dX5_layPart_89 ?_
      refine j_bipush (pc := 92) (v := 10) C dX5_layPart_92 (by decide) ?_
      refine j_iload_n (pc := 94) C rfl dX5_layPart_94 rfl ?_
      refine j_imul (pc := 95) C dX5_layPart_95 ?_
      refine j_iload_n (pc := 96) C rfl dX5_layPart_96 rfl ?_
      refine j_iadd (pc := 97) C dX5_layPart_97 ?_
      refine j_st (by rw [ix10 i (i + m9)]) ?_
      refine j_iload (pc := 98) C dX5_layPart_98 rfl ?_
      refine j_iload_n (pc := 100) C rfl dX5_layPart_100 rfl ?_
      refine j_iadd (pc := 101) C dX5_layPart_101 ?_
      refine j_st (by rw [(hl1 (by omega)).1, show q = m9 + 1 by omega, Nat.add_sub_cancel, nI_add, ← cs_eq]) ?_
      refine j_iast (pc := 102) C h52 rfl (show (10 * i + (i + m9)) < 100 by omega) (by decide) dX5_layPart_102 ?_
      refine j_nm (fun w102 ew102 => ?_)
      obtain ⟨hm102, hf102⟩ := hm.setco ew102
      exact ret_v C rfl hr hlk dX5_layPart_103 (hend w102 _ ro hm102 rfl (by have h9 := (hl1 (by omega)).2; rw [show q - 1 = m9 by omega] at h9; rw [h9, rt_eq]) hoth hf102) (by decide) (by decide)
    · have c11 := nI_ge_of (by omega) (by omega) (show ¬ nI (i + m9) < nI (i + q) from c11)
      have hbq : bel (wtK fq kk) i m9 (i + q) ≤ 200200 := bel_small (wtK_le hfb) (by omega) (by omega) (by omega)
      refine j_iload_n (pc := 14) C rfl dX5_layPart_14 rfl ?_
      refine j_aload_n (pc := 15) C rfl dX5_layPart_15 rfl ?_
      refine j_get (pc := 16) C hin_X5 h42 rfl 8 (by decide) (by decide +kernel) rfl dX5_layPart_16 ?_
      refine j_aload_n (pc := 19) C rfl dX5_layPart_19 rfl ?_
      refine j_get (pc := 20) C hin_X5 h42 rfl 10 (by decide) (by decide +kernel) rfl dX5_layPart_20 ?_
      refine j_iload (pc := 23) C dX5_layPart_23 rfl ?_
      refine j_iald (pc := 25) C h51 rfl (by omega) (by decide) dX5_layPart_25 ?_
      obtain ⟨hkr, hkl⟩ := hk (i + q) (by omega)
      refine j_st (by rw [hkr]) ?_
      refine j_iald (pc := 26) C h50 rfl hkl (by decide) dX5_layPart_26 ?_
      refine j_iconst (pc := 27) (v := 1) C dX5_layPart_27 (by decide) ?_
      refine j_iadd (pc := 28) C dX5_layPart_28 ?_
      refine j_st (by rw [nI_1]) ?_
      refine j_iadd (pc := 29) C dX5_layPart_29 ?_
      refine j_st (by rw [nI_add]) ?_
      refine j_istore_3 (pc := 30) C dX5_layPart_30 (by decide) rfl ?_
      refine j_aload_n (pc := 31) C rfl dX5_layPart_31 rfl ?_
      refine j_iload_n (pc := 32) C rfl dX5_layPart_32 rfl ?_
      refine j_iload (pc := 33) C dX5_layPart_33 rfl ?_
      refine j_iconst (pc := 35) (v := 1) C dX5_layPart_35 (by decide) ?_
      refine j_isub (pc := 36) C dX5_layPart_36 ?_
      refine jV_i0 (pc := 37) (k2 := 0) (n2 := 0) (np := 2) (As := [.int (nI i), .int (nI (i + q) - 1)]) C (ct_costOf hm (a := i) (l9 := q) (W := cs (wtK fq kk) i q) rfl (by omega) (fun z => by rw [z]; exact cs_0 _ _) (hTab.c (by omega) (by omega))) gX5_layPart_X5_costOf rfl (by decide +kernel) ⟨by decide, by decide⟩ h42 rfl rfl rfl (Nat.le_of_ble_eq_true rfl) dX5_layPart_37 (by decide) (by decide) ⟨by decide, by decide⟩ (fun v hv => ?_)
      subst hv
      refine j_aload_n (pc := 40) C rfl dX5_layPart_40 rfl ?_
      refine j_iload (pc := 41) C dX5_layPart_41 rfl ?_
      refine j_iconst (pc := 43) (v := 1) C dX5_layPart_43 (by decide) ?_
      refine j_iadd (pc := 44) C dX5_layPart_44 ?_
      refine j_st (by rw [nI_1]) ?_
      refine j_iload_n (pc := 45) C rfl dX5_layPart_45 rfl ?_
      refine jV_i0 (pc := 46) (k2 := 0) (n2 := 0) (np := 2) (As := [.int (nI (i + q + 1)), .int (nI (i + m9))]) C (ct_costOf hm (a := i + q + 1) (l9 := m9 - q) (W := cs (wtK fq kk) (i + q + 1) (m9 - q)) (by rw [show i + q + 1 + (m9 - q) = i + m9 + 1 by omega, nI_pred]) (by omega) (fun z => by rw [z]; exact cs_0 _ _) (hTab.c (by omega) (by omega))) gX5_layPart_X5_costOf rfl (by decide +kernel) ⟨by decide, by decide⟩ h42 rfl rfl rfl (Nat.le_of_ble_eq_true rfl) dX5_layPart_46 (by decide) (by decide) ⟨by decide, by decide⟩ (fun v2 hv2 => ?_)
      subst hv2
      refine j_iadd (pc := 49) C dX5_layPart_49 ?_
      refine j_st (by rw [nI_add, bel_at (wt := (wtK fq kk)) (i := i) (n := m9) (q := q) (by omega)]) ?_
      refine j_istore_6 (pc := 50) C dX5_layPart_50 (by decide) rfl ?_
      refine j_iload (pc := 52) C dX5_layPart_52 rfl ?_
      refine j_iconst (pc := 54) (v := (-1)) C dX5_layPart_54 (by decide) ?_
      refine j_icmp_eq (pc := 55) (tgt := 65) C dX5_layPart_55 (by decide) (fun c55 => ?_) (fun c55 => ?_)
      · have hq0 : q = 0 := Classical.byContradiction (fun z => nI_nm1 (hbs (q - 1) (by omega)) ((hl1 (by omega)).1.symm.trans c55))
        refine j_iload (pc := 65) C dX5_layPart_65 rfl ?_
        refine j_istore_4 (pc := 67) C dX5_layPart_67 (by decide) rfl ?_
        refine j_aload_n (pc := 69) C rfl dX5_layPart_69 rfl ?_
        refine j_get (pc := 70) C hin_X5 h42 rfl 13 (by decide) (by decide +kernel) rfl dX5_layPart_70 ?_
        refine j_bipush (pc := 73) (v := 10) C dX5_layPart_73 (by decide) ?_
        refine j_iload_n (pc := 75) C rfl dX5_layPart_75 rfl ?_
        refine j_imul (pc := 76) C dX5_layPart_76 ?_
        refine j_iload_n (pc := 77) C rfl dX5_layPart_77 rfl ?_
        refine j_iadd (pc := 78) C dX5_layPart_78 ?_
        refine j_st (by rw [ix10 i (i + m9)]) ?_
        refine j_iload (pc := 79) C dX5_layPart_79 rfl ?_
        refine j_iast (pc := 81) C h53 rfl (show (10 * i + (i + m9)) < 100 by omega) (by decide) dX5_layPart_81 ?_
        refine j_nm (fun w81 ew81 => ?_)
        obtain ⟨hm81, hf81⟩ := hm.setro ew81
        refine j_iinc_5 (pc := 82) (d := 1) C dX5_layPart_82 (by decide) rfl rfl ?_
        refine j_lo (by rw [nI_1]) ?_
        refine j_goto (pc := 85) (tgt := 8) C dX5_layPart_85 (by decide) ?_
        first
          | exact j_weak (by simp [lw1]; exact ⟨rfl, rfl⟩) (ih (m9 + 1 - (q + 1)) (by omega) (q + 1) (nI (bel (wtK fq kk) i m9 (i + q))) w81 (upd ro (10 * i + (i + m9)) (nI (i + q))) rfl (by omega) hm81 (fun z => absurd z (by omega)) (fun _ => am_0 hq0) (fun p9 z9 => by rw [upd_ne z9]; exact hoth p9 z9) (fun w2 co2 ro2 k1 k2 k3 k4 k5 => hend w2 co2 ro2 k1 k2 k3 k4 (hf81.tr k5)))
          | exact j_weak (by simp [lw1]; exact ⟨rfl, rfl⟩) (ih (m9 + 1 - (q + 1)) (by omega) (q + 1) (nI (bel (wtK fq kk) i m9 (i + q))) w81 (upd ro (10 * i + (i + m9)) (nI (i + q))) rfl (by omega) hm81 (fun z => absurd z (by omega)) (fun _ => am_lt hq0 c62) (fun p9 z9 => by rw [upd_ne z9]; exact hoth p9 z9) (fun w2 co2 ro2 k1 k2 k3 k4 k5 => hend w2 co2 ro2 k1 k2 k3 k4 (hf81.tr k5)))
          | exact j_weak (by simp [lw1]; exact ⟨rfl, rfl⟩) (ih (m9 + 1 - (q + 1)) (by omega) (q + 1) t w ro rfl (by omega) hm (fun z => absurd z (by omega)) (fun _ => am_ge hq0 c62 hle hro) hoth hend)
      · have hq0 : 0 < q := Nat.pos_of_ne_zero (fun z => c55 (hl0 z))
        obtain ⟨hle, hro⟩ := hl1 hq0
        have hbq2 := hbs (q - 1) (by omega)
        refine j_iload (pc := 58) C dX5_layPart_58 rfl ?_
        refine j_iload (pc := 60) C dX5_layPart_60 rfl ?_
        refine j_icmp_ge (pc := 62) (tgt := 82) C dX5_layPart_62 (by decide) (fun c62 => ?_) (fun c62 => ?_)
        · rw [hle] at c62
          have c62 := nI_le_of (by omega) (by omega) c62
          refine j_iinc_5 (pc := 82) (d := 1) C dX5_layPart_82 (by decide) rfl rfl ?_
          refine j_lo (by rw [nI_1]) ?_
          refine j_goto (pc := 85) (tgt := 8) C dX5_layPart_85 (by decide) ?_
          first
            | exact j_weak (by simp [lw1]; exact ⟨rfl, rfl⟩) (ih (m9 + 1 - (q + 1)) (by omega) (q + 1) (nI (bel (wtK fq kk) i m9 (i + q))) w81 (upd ro (10 * i + (i + m9)) (nI (i + q))) rfl (by omega) hm81 (fun z => absurd z (by omega)) (fun _ => am_0 hq0) (fun p9 z9 => by rw [upd_ne z9]; exact hoth p9 z9) (fun w2 co2 ro2 k1 k2 k3 k4 k5 => hend w2 co2 ro2 k1 k2 k3 k4 (hf81.tr k5)))
            | exact j_weak (by simp [lw1]; exact ⟨rfl, rfl⟩) (ih (m9 + 1 - (q + 1)) (by omega) (q + 1) (nI (bel (wtK fq kk) i m9 (i + q))) w81 (upd ro (10 * i + (i + m9)) (nI (i + q))) rfl (by omega) hm81 (fun z => absurd z (by omega)) (fun _ => am_lt hq0 c62) (fun p9 z9 => by rw [upd_ne z9]; exact hoth p9 z9) (fun w2 co2 ro2 k1 k2 k3 k4 k5 => hend w2 co2 ro2 k1 k2 k3 k4 (hf81.tr k5)))
            | exact j_weak (by simp [lw1]; exact ⟨rfl, rfl⟩) (ih (m9 + 1 - (q + 1)) (by omega) (q + 1) t w ro rfl (by omega) hm (fun z => absurd z (by omega)) (fun _ => am_ge hq0 c62 hle hro) hoth hend)
        · rw [hle] at c62
          have c62 := nI_gt_of (by omega) (by omega) c62
          refine j_iload (pc := 65) C dX5_layPart_65 rfl ?_
          refine j_istore_4 (pc := 67) C dX5_layPart_67 (by decide) rfl ?_
          refine j_aload_n (pc := 69) C rfl dX5_layPart_69 rfl ?_
          refine j_get (pc := 70) C hin_X5 h42 rfl 13 (by decide) (by decide +kernel) rfl dX5_layPart_70 ?_
          refine j_bipush (pc := 73) (v := 10) C dX5_layPart_73 (by decide) ?_
          refine j_iload_n (pc := 75) C rfl dX5_layPart_75 rfl ?_
          refine j_imul (pc := 76) C dX5_layPart_76 ?_
          refine j_iload_n (pc := 77) C rfl dX5_layPart_77 rfl ?_
          refine j_iadd (pc := 78) C dX5_layPart_78 ?_
          refine j_st (by rw [ix10 i (i + m9)]) ?_
          refine j_iload (pc := 79) C dX5_layPart_79 rfl ?_
          refine j_iast (pc := 81) C h53 rfl (show (10 * i + (i + m9)) < 100 by omega) (by decide) dX5_layPart_81 ?_
          refine j_nm (fun w81 ew81 => ?_)
          obtain ⟨hm81, hf81⟩ := hm.setro ew81
          refine j_iinc_5 (pc := 82) (d := 1) C dX5_layPart_82 (by decide) rfl rfl ?_
          refine j_lo (by rw [nI_1]) ?_
          refine j_goto (pc := 85) (tgt := 8) C dX5_layPart_85 (by decide) ?_
          first
            | exact j_weak (by simp [lw1]; exact ⟨rfl, rfl⟩) (ih (m9 + 1 - (q + 1)) (by omega) (q + 1) (nI (bel (wtK fq kk) i m9 (i + q))) w81 (upd ro (10 * i + (i + m9)) (nI (i + q))) rfl (by omega) hm81 (fun z => absurd z (by omega)) (fun _ => am_0 hq0) (fun p9 z9 => by rw [upd_ne z9]; exact hoth p9 z9) (fun w2 co2 ro2 k1 k2 k3 k4 k5 => hend w2 co2 ro2 k1 k2 k3 k4 (hf81.tr k5)))
            | exact j_weak (by simp [lw1]; exact ⟨rfl, rfl⟩) (ih (m9 + 1 - (q + 1)) (by omega) (q + 1) (nI (bel (wtK fq kk) i m9 (i + q))) w81 (upd ro (10 * i + (i + m9)) (nI (i + q))) rfl (by omega) hm81 (fun z => absurd z (by omega)) (fun _ => am_lt hq0 c62) (fun p9 z9 => by rw [upd_ne z9]; exact hoth p9 z9) (fun w2 co2 ro2 k1 k2 k3 k4 k5 => hend w2 co2 ro2 k1 k2 k3 k4 (hf81.tr k5)))
            | exact j_weak (by simp [lw1]; exact ⟨rfl, rfl⟩) (ih (m9 + 1 - (q + 1)) (by omega) (q + 1) t w ro rfl (by omega) hm (fun z => absurd z (by omega)) (fun _ => am_ge hq0 c62 hle hro) hoth hend)

set_option maxRecDepth 100000 in
set_option maxHeartbeats 4000000 in
theorem ct_layPart {l : Launch} {G : Gp} {L : List Nat} {w : Wn} {am : Nat → Nat} {th cp : Int32} {df : Nat → Int32} {fq : Nat → Nat} {E : Nat → EL} {ns ar ac : Nat → Int32} {mk vl : Nat → Int64} {ks : Nat → Int32} {sz : Nat} {co ro : Nat → Int32} (hm : MB G am L w th cp df fq E ns ar ac mk vl ks sz co ro) {kk : Nat → Nat} {n9 i m9 : Nat} (hk : ∀ r, r < n9 → ks r = nI (kk r) ∧ kk r < 32) (hn9 : n9 ≤ 10) (him : i + (m9 + 1) ≤ n9) (hTab : TabM (wtK fq kk) n9 (m9 + 1) i co ro) : CV l yX5_layPart wsX5_layPart (rmD 2 0 0) G L w [.ref (am 42), .int (nI i), .int (nI (i + m9))] (fun u => ∃ w2 co2 ro2, u = (L, w2) ∧ MB G am L w2 th cp df fq E ns ar ac mk vl ks sz co2 ro2 ∧ TabM (wtK fq kk) n9 (m9 + 1) (i + 1) co2 ro2 ∧ FrM L w w2) := by
  refine mk_v (cc := cX5_layPart) (maxL := 7) [some (.ref (am 42)), some (.int (nI i)), some (.int (nI (i + m9))), none, none, none, none] (by decide) rfl (Nat.le_of_ble_eq_true rfl) rfl ?_
  intro p e s m args below meth c A C hr hlk hnm
  refine j_iconst (pc := 0) (v := 0) C dX5_layPart_0 (by decide) ?_
  refine j_istore_3 (pc := 1) C dX5_layPart_1 (by decide) rfl ?_
  refine j_iconst (pc := 2) (v := (-1)) C dX5_layPart_2 (by decide) ?_
  refine j_istore_4 (pc := 3) C dX5_layPart_3 (by decide) rfl ?_
  refine j_iload_n (pc := 5) C rfl dX5_layPart_5 rfl ?_
  refine j_istore_5 (pc := 6) C dX5_layPart_6 (by decide) rfl ?_
  exact mlp_loop hk hn9 him hTab (post := fun u => ∃ w2 co2 ro2, u = (L, w2) ∧ MB G am L w2 th cp df fq E ns ar ac mk vl ks sz co2 ro2 ∧ TabM (wtK fq kk) n9 (m9 + 1) (i + 1) co2 ro2 ∧ FrM L w w2) C hr hlk (m9 + 1) 0 (-1) w ro rfl (Nat.zero_le _) hm (fun _ => rfl) (fun z => absurd z (by decide)) (fun _ _ => rfl) (fun w2 co2 ro2 k1 k2 k3 k4 k5 => ⟨w2, co2, ro2, rfl, k1, hTab.next hn9 him (by rw [k2, upd_me]) k3 (fun q z => by rw [k2, upd_ne z]) k4, k5⟩)

