/-! THE CLASS: its state, and the calls that only read -/
abbrev sysE (ad : Nat → Nat) (cp : Int32) : va_E := .inr (5, [.ref (ad 1), .ref (ad 2), .ref (ad 3), .int cp])
abbrev farE (G : Gp) (ad : Nat → Nat) : va_E := .inl (G.2.1 2, 4, .inr (.inr (.inr (.inr (fun j => if j < 4 then some (ad (30 + 3 * j)) else none)))))
/-- a filter; b: it is planned as it stands -/
def CSF (G : Gp) (ad : Nat → Nat) (L : List Nat) (w : Wn) (b : Prop) (fq : Nat → Nat) (j : Nat) (df : Int32) (el : EL) : Prop := ∃ ft tc cl, Hs L w (30 + 3 * j) (ad (30 + 3 * j)) (filE (ad (31 + 3 * j)) (ad (32 + 3 * j)) df ft tc) ∧ Lst G L w (31 + 3 * j) (ad (31 + 3 * j)) el ∧ Lst G L w (32 + 3 * j) (ad (32 + 3 * j)) cl ∧ (b → cl = rch el ∧ TrH L w (kyF cl) (wtF fq cl) 10 0 (ksz cl) 0 ft ∧ tc = nI (cs (wtF fq cl) 0 (ksz cl)))
def CS (G : Gp) (ad : Nat → Nat) (L : List Nat) (w : Wn) (cp : Int32) (b : Prop) (fq : Nat → Nat) (df : Nat → Int32) (E : Nat → EL) : Prop :=
  Hs L w 0 (ad 0) (sysE ad cp) ∧ Hs L w 1 (ad 1) (farE G ad) ∧ Hs L w 2 (ad 2) (iarE G 32 (fun i => nI (fq i))) ∧ (∀ i, fq i ≤ 1000) ∧ (∃ sz nu we co fp, PL G ad L w sz nu we co fp ∧ PZ co) ∧ (∀ j, j < 4 → CSF G ad L w b fq j (df j) (E j)) ∧ (cp = 0 ∨ cp = 1)
theorem CSF.fr {M N : Nat → Prop} {G : Gp} {ad : Nat → Nat} {L L2 : List Nat} {w w2 : Wn} {b : Prop} {fq : Nat → Nat} {j : Nat} {df : Int32} {el : EL} (h : CSF G ad L w b fq j df el) (hj : j < 4) (hf : Fr M N L w L2 w2) (h1 : ∀ m, 30 + 3 * j ≤ m → m < 33 + 3 * j → ¬ M m) (h2 : ∀ m, 131 + 3 * j ≤ m → m < 133 + 3 * j → ¬ M m ∧ ¬ N m) (h3 : ∀ m, 1000 ≤ m → m ∈ L → ¬ M m) : CSF G ad L2 w2 b fq j df el := by
  obtain ⟨ft, tc, cl, g1, g2, g3, g4⟩ := h
  refine ⟨ft, tc, cl, hf.hs g1 (h1 _ (by omega) (by omega)), g2.fr hf (h1 _ (by omega) (by omega)) (h2 _ (by omega) (by omega)).1 (h2 _ (by omega) (by omega)).2 h3, g3.fr hf (h1 _ (by omega) (by omega)) (h2 _ (by omega) (by omega)).1 (h2 _ (by omega) (by omega)).2 h3, fun hb => ?_⟩
  obtain ⟨k1, k2, k3⟩ := g4 hb
  exact ⟨k1, TrH.fr hf h3 _ _ _ _ _ k2, k3⟩
def MC (m : Nat) : Prop := m < 42 ∨ (130 ≤ m ∧ m < 142)
def NC (m : Nat) : Prop := (130 ≤ m ∧ m < 142) ∨ 1000 ≤ m
abbrev FrC (L : List Nat) (w : Wn) (L2 : List Nat) (w2 : Wn) : Prop := Fr MC NC L w L2 w2
theorem far_at {ad : Nat → Nat} {j : Nat} (h : j < 4) : va_rf (if j < 4 then some (ad (30 + 3 * j)) else none) = .ref (ad (30 + 3 * j)) := by rw [if_pos h]; rfl
def wF (fq : Nat → Nat) (el : EL) : Int32 := wstT (kyF (rch el)) (wtF fq (rch el)) 10 (ksz (rch el)) (rch el)
def actT (fq : Nat → Nat) (el : EL) (df : Int32) (x : Int32) (fi se : Int64) : Int32 := if fndT (kyF (rch el)) (wtF fq (rch el)) x 10 0 (ksz (rch el)) = true then fAct x fi se df (rch el) else df
def pthT (fq : Nat → Nat) (el : EL) (x : Int32) (fi se : Int64) : Int32 := nI (walk (kyF (rch el)) (wtF fq (rch el)) x 10 0 (ksz (rch el)) 0) + pRT x fi se (rch el)
def smN (g : Nat → Int32) : Nat → Int32
  | 0 => 0
  | n + 1 => smN g n + g n
set_option maxRecDepth 100000 in
set_option maxHeartbeats 4000000 in
theorem ct_reqCompiled {l : Launch} {G : Gp} {L : List Nat} {w : Wn} (hlt : l.stackTraces = false) {ad : Nat → Nat} {cp : Int32} {fq : Nat → Nat} {df : Nat → Int32} {E : Nat → EL} (hcs : CS G ad L w cp (cp = 1) fq df E) : XV l yX4_requireCompiled wsX4_requireCompiled (rmD 2 1 6) G L w [.ref (ad 0)] (fun u => cp = 1 ∧ u = (L, w)) (fun E u => E = ISE ∧ ¬ cp = 1 ∧ u = (L, w)) := by
  refine mkx_v (cc := cX4_requireCompiled) (maxL := 1) [some (.ref (ad 0))] (by decide) rfl (Nat.le_of_ble_eq_true rfl) rfl ?_
  intro p e s m args below meth c A C hr hlk hx0
  have hin_X4 : ∀ x ∈ u_ws RX4 TX4 4, x ∈ wsX4_requireCompiled := by decide +kernel
  obtain ⟨h0, hfa, hfq, hfb, hpl, hcf, hcp⟩ := id hcs
  refine j_aload_n (pc := 0) C rfl dX4_requireCompiled_0 rfl ?_
  refine j_get (pc := 1) C hin_X4 h0 rfl 3 (by decide) (by decide +kernel) rfl dX4_requireCompiled_1 ?_
  refine j_if_ne (pc := 4) (tgt := 17) C dX4_requireCompiled_4 (by decide) (fun c4 => ?_) (fun c4 => ?_)
  · exact xret_v C rfl hr hlk dX4_requireCompiled_17 ⟨hcp.resolve_left c4, rfl⟩ (by decide) (by decide)
  · refine j_throwS (pc := 7) (cls := ISE) (names := RNM) (text := "not compiled since the last change") C rfl hlt hx0 hlk (by decide) (by decide) (by decide +kernel) (by decide +kernel) (by decide +kernel) (by decide +kernel) xat_2 xgd_2 dX4_requireCompiled_7 dX4_requireCompiled_10 dX4_requireCompiled_11 dX4_requireCompiled_13 dX4_requireCompiled_16 (by decide) (Nat.le_of_ble_eq_true rfl) (by decide) (by decide) (by decide) (by decide) (by decide) (⟨rfl, fun z => absurd (z.symm.trans c4) (by decide), rfl⟩)

set_option maxRecDepth 100000 in
set_option maxHeartbeats 4000000 in
theorem ct_reqRule {l : Launch} {G : Gp} {L : List Nat} {w : Wn} (hlt : l.stackTraces = false) {ad : Nat → Nat} {cp : Int32} {fq : Nat → Nat} {df : Nat → Int32} {E : Nat → EL} (hcs : CS G ad L w cp (cp = 1) fq df E) {j : Nat} (hj : j < 4) (x2 : Int32) : XV l yX4_requireRule wsX4_requireRule (rmD 2 1 6) G L w [.ref (ad 0), .int (nI j), .int x2] (fun u => vld x2 (E j).length ∧ u = (L, w)) (fun E9 u => E9 = IOE ∧ ¬ vld x2 (E j).length ∧ u = (L, w)) := by
  refine mkx_v (cc := cX4_requireRule) (maxL := 3) [some (.ref (ad 0)), some (.int (nI j)), some (.int x2)] (by decide) rfl (Nat.le_of_ble_eq_true rfl) rfl ?_
  intro p e s m args below meth c A C hr hlk hx0
  have hin_X0 : ∀ x ∈ u_ws RX0 TX0 5, x ∈ wsX4_requireRule := by decide +kernel
  have hin_X4 : ∀ x ∈ u_ws RX4 TX4 4, x ∈ wsX4_requireRule := by decide +kernel
  obtain ⟨h0, hfa, hfq, hfb, hpl, hcf, hcp⟩ := id hcs
  obtain ⟨ft, tc, cl, hF, hR, hC, hb⟩ := id (hcf j hj)
  obtain ⟨mcR, edR, hl, hl2⟩ := id hR
  have h10 := hR.le
  refine j_iload_n (pc := 0) C rfl dX4_requireRule_0 rfl ?_
  refine j_if_lt (pc := 1) (tgt := 20) C dX4_requireRule_1 (by decide) (fun c1 => ?_) (fun c1 => ?_)
  · refine j_throwS (pc := 20) (cls := IOE) (names := RNM) (text := "the filter has no such rule") C rfl hlt hx0 hlk (by decide) (by decide) (by decide +kernel) (by decide +kernel) (by decide +kernel) (by decide +kernel) xat_3 xgd_3 dX4_requireRule_20 dX4_requireRule_23 dX4_requireRule_24 dX4_requireRule_26 dX4_requireRule_29 (by decide) (Nat.le_of_ble_eq_true rfl) (by decide) (by decide) (by decide) (by decide) (by decide) (⟨rfl, vld_n0 (by omega) c1, rfl⟩)
  · refine j_iload_n (pc := 4) C rfl dX4_requireRule_4 rfl ?_
    refine j_aload_n (pc := 5) C rfl dX4_requireRule_5 rfl ?_
    refine j_get (pc := 6) C hin_X4 h0 rfl 0 (by decide) (by decide +kernel) rfl dX4_requireRule_6 ?_
    refine j_iload_n (pc := 9) C rfl dX4_requireRule_9 rfl ?_
    refine j_aldF (pc := 10) (v := .ref (ad (30 + 3 * j))) C hfa rfl hj (by decide) (far_at (by omega)) dX4_requireRule_10 ?_
    refine j_getN (pc := 11) (host := RX4) C hin_X0 hF rfl 0 (by decide) (by decide +kernel) rfl dX4_requireRule_11 ?_
    refine jV_i0 (pc := 14) (k2 := 0) (n2 := 0) (np := 0) (As := []) C (ct_lsize (el := E j) hl) gX4_requireRule_Jx4a65c_size_8abf5 rfl (by decide +kernel) ⟨by decide, by decide⟩ hl rfl rfl rfl (Nat.le_of_ble_eq_true rfl) dX4_requireRule_14 (by decide) (by decide) ⟨by decide, by decide⟩ (fun v hv => ?_)
    subst hv
    refine j_icmp_lt (pc := 17) (tgt := 30) C dX4_requireRule_17 (by decide) (fun c17 => ?_) (fun c17 => ?_)
    · exact xret_v C rfl hr hlk dX4_requireRule_30 ⟨vld_of (by omega) c1 c17, rfl⟩ (by decide) (by decide)
    · refine j_throwS (pc := 20) (cls := IOE) (names := RNM) (text := "the filter has no such rule") C rfl hlt hx0 hlk (by decide) (by decide) (by decide +kernel) (by decide +kernel) (by decide +kernel) (by decide +kernel) xat_3 xgd_3 dX4_requireRule_20 dX4_requireRule_23 dX4_requireRule_24 dX4_requireRule_26 dX4_requireRule_29 (by decide) (Nat.le_of_ble_eq_true rfl) (by decide) (by decide) (by decide) (by decide) (by decide) (⟨rfl, vld_n1 (by omega) c17, rfl⟩)

set_option maxRecDepth 100000 in
set_option maxHeartbeats 4000000 in
theorem ct_rules {l : Launch} {G : Gp} {L : List Nat} {w : Wn} (hlt : l.stackTraces = false) {ad : Nat → Nat} {cp : Int32} {fq : Nat → Nat} {df : Nat → Int32} {E : Nat → EL} (hcs : CS G ad L w cp (cp = 1) fq df E) (x : Int32) : XI l yX4_rules wsX4_rules (rmD 30 10 100) G L w [.ref (ad 0), .int x] (fun r u => ∃ j, j < 4 ∧ x = nI j ∧ r = nI (E j).length ∧ u = (L, w)) (fun E9 u => E9 = IAE ∧ ¬ vld x 4 ∧ u = (L, w)) := by
  refine mkx_i (cc := cX4_rules) (maxL := 2) [some (.ref (ad 0)), some (.int x)] (by decide) rfl (Nat.le_of_ble_eq_true rfl) rfl ?_
  intro p e s m args below meth c A C hr hlk hx0
  have hin_X0 : ∀ x ∈ u_ws RX0 TX0 5, x ∈ wsX4_rules := by decide +kernel
  have hin_X4 : ∀ x ∈ u_ws RX4 TX4 4, x ∈ wsX4_rules := by decide +kernel
  obtain ⟨h0, hfa, hfq, hfb, hpl, hcf, hcp⟩ := id hcs
  refine j_iload_n (pc := 0) C rfl dX4_rules_0 rfl ?_
  refine jxS_v (pc := 1) (k2 := 1) (n2 := 6) (np := 1) (As := [.int x]) C (ct_reqFilter hlt x) gX4_rules_X4_requireFilter rfl (by decide +kernel) ⟨by decide, by decide⟩ rfl rfl (Nat.le_of_ble_eq_true rfl) dX4_rules_1 (by decide) (by decide) ⟨by decide, by decide⟩ (fun E9 L9 w9 h9 => (by obtain ⟨rfl, hn9, hu9⟩ := h9; cases hu9; exact jx_out C rfl hx0 hlk (⟨rfl, hn9, rfl⟩) (by decide) (by decide))) (fun L9 w9 hv => ?_)
  obtain ⟨hv, hu⟩ := hv
  cases hu
  obtain ⟨j, hj, rfl⟩ := hv
  obtain ⟨ft, tc, cl, hF, hR, hC, hb⟩ := id (hcf j hj)
  obtain ⟨mcR, edR, hl, hl2⟩ := id hR
  refine j_aload_n (pc := 4) C rfl dX4_rules_4 rfl ?_
  refine j_get (pc := 5) C hin_X4 h0 rfl 0 (by decide) (by decide +kernel) rfl dX4_rules_5 ?_
  refine j_iload_n (pc := 8) C rfl dX4_rules_8 rfl ?_
  refine j_aldF (pc := 9) (v := .ref (ad (30 + 3 * j))) C hfa rfl hj (by decide) (far_at (by omega)) dX4_rules_9 ?_
  refine j_getN (pc := 10) (host := RX4) C hin_X0 hF rfl 0 (by decide) (by decide +kernel) rfl dX4_rules_10 ?_
  refine jV_i0 (pc := 13) (k2 := 1) (n2 := 6) (np := 0) (As := []) C (ct_lsize (el := E j) hl) gX4_rules_Jx4a65c_size_8abf5 rfl (by decide +kernel) ⟨by decide, by decide⟩ hl rfl rfl rfl (Nat.le_of_ble_eq_true rfl) dX4_rules_13 (by decide) (by decide) ⟨by decide, by decide⟩ (fun v hv => ?_)
  exact xret_i C rfl hr hlk dX4_rules_16 ⟨j, hj, rfl, hv, rfl⟩ (by decide) (by decide)

set_option maxRecDepth 100000 in
set_option maxHeartbeats 4000000 in
theorem ct_hider {l : Launch} {G : Gp} {L : List Nat} {w : Wn} (hlt : l.stackTraces = false) {ad : Nat → Nat} {cp : Int32} {fq : Nat → Nat} {df : Nat → Int32} {E : Nat → EL} (hcs : CS G ad L w cp (cp = 1) fq df E) (x x2 : Int32) : XI l yX4_hider wsX4_hider (rmD 30 10 100) G L w [.ref (ad 0), .int x, .int x2] (fun r u => ∃ j, j < 4 ∧ x = nI j ∧ ∃ i, i < (E j).length ∧ x2 = nI i ∧ r = onI (hid (rul (E j)) i) ∧ u = (L, w)) (fun E9 u => (E9 = IAE ∧ ¬ vld x 4 ∧ u = (L, w)) ∨ (E9 = IOE ∧ ∃ j, j < 4 ∧ x = nI j ∧ ¬ vld x2 (E j).length ∧ u = (L, w))) := by
  refine mkx_i (cc := cX4_hider) (maxL := 3) [some (.ref (ad 0)), some (.int x), some (.int x2)] (by decide) rfl (Nat.le_of_ble_eq_true rfl) rfl ?_
  intro p e s m args below meth c A C hr hlk hx0
  have hin_X4 : ∀ x ∈ u_ws RX4 TX4 4, x ∈ wsX4_hider := by decide +kernel
  obtain ⟨h0, hfa, hfq, hfb, hpl, hcf, hcp⟩ := id hcs
  refine j_iload_n (pc := 0) C rfl dX4_hider_0 rfl ?_
  refine jxS_v (pc := 1) (k2 := 1) (n2 := 6) (np := 1) (As := [.int x]) C (ct_reqFilter hlt x) gX4_hider_X4_requireFilter rfl (by decide +kernel) ⟨by decide, by decide⟩ rfl rfl (Nat.le_of_ble_eq_true rfl) dX4_hider_1 (by decide) (by decide) ⟨by decide, by decide⟩ (fun E9 L9 w9 h9 => (by obtain ⟨rfl, hn9, hu9⟩ := h9; cases hu9; exact jx_out C rfl hx0 hlk (Or.inl ⟨rfl, hn9, rfl⟩) (by decide) (by decide))) (fun L9 w9 hv => ?_)
  obtain ⟨hv, hu⟩ := hv
  cases hu
  obtain ⟨j, hj, rfl⟩ := hv
  obtain ⟨ft, tc, cl, hF, hR, hC, hb⟩ := id (hcf j hj)
  refine j_aload_n (pc := 4) C rfl dX4_hider_4 rfl ?_
  refine j_iload_n (pc := 5) C rfl dX4_hider_5 rfl ?_
  refine j_iload_n (pc := 6) C rfl dX4_hider_6 rfl ?_
  refine jxV_v (pc := 7) (k2 := 2) (n2 := 12) (np := 2) (As := [.int (nI j), .int x2]) C (ct_reqRule hlt hcs hj x2) gX4_hider_X4_requireRule rfl (by decide +kernel) ⟨by decide, by decide⟩ h0 rfl rfl rfl (Nat.le_of_ble_eq_true rfl) dX4_hider_7 (by decide) (by decide) ⟨by decide, by decide⟩ (fun E9 L9 w9 h9 => (by obtain ⟨rfl, hn9, hu9⟩ := h9; cases hu9; exact jx_out C rfl hx0 hlk (Or.inr ⟨rfl, j, hj, rfl, hn9, rfl⟩) (by decide) (by decide))) (fun L9 w9 hv => ?_)
  obtain ⟨⟨i, hi, rfl⟩, hu⟩ := hv
  cases hu
  refine j_aload_n (pc := 10) C rfl dX4_hider_10 rfl ?_
  refine j_get (pc := 11) C hin_X4 h0 rfl 0 (by decide) (by decide +kernel) rfl dX4_hider_11 ?_
  refine j_iload_n (pc := 14) C rfl dX4_hider_14 rfl ?_
  refine j_aldF (pc := 15) (v := .ref (ad (30 + 3 * j))) C hfa rfl hj (by decide) (far_at (by omega)) dX4_hider_15 ?_
  refine j_iload_n (pc := 16) C rfl dX4_hider_16 rfl ?_
  refine jV_i0 (pc := 17) (k2 := 2) (n2 := 12) (np := 1) (As := [.int (nI i)]) C (ct_hiderOf hF hR hi) gX4_hider_X0_hiderOf rfl (by decide +kernel) ⟨by decide, by decide⟩ hF rfl rfl rfl (Nat.le_of_ble_eq_true rfl) dX4_hider_17 (by decide) (by decide) ⟨by decide, by decide⟩ (fun v hv => ?_)
  exact xret_i C rfl hr hlk dX4_hider_20 ⟨j, hj, rfl, i, hi, rfl, hv, rfl⟩ (by decide) (by decide)

set_option maxRecDepth 100000 in
set_option maxHeartbeats 4000000 in
theorem ct_isCompiled {l : Launch} {G : Gp} {L : List Nat} {w : Wn} {ad : Nat → Nat} {cp : Int32} {fq : Nat → Nat} {df : Nat → Int32} {E : Nat → EL} (hcs : CS G ad L w cp (cp = 1) fq df E) : CI l yX4_isCompiled wsX4_isCompiled (rmD 30 10 100) G L w [.ref (ad 0)] (fun r u => r = cp ∧ u = (L, w)) := by
  refine mk_i (cc := cX4_isCompiled) (maxL := 1) [some (.ref (ad 0))] (by decide) rfl (Nat.le_of_ble_eq_true rfl) rfl ?_
  intro p e s m args below meth c A C hr hlk hnm
  have hin_X4 : ∀ x ∈ u_ws RX4 TX4 4, x ∈ wsX4_isCompiled := by decide +kernel
  obtain ⟨h0, hfa, hfq, hfb, hpl, hcf, hcp⟩ := id hcs
  refine j_aload_n (pc := 0) C rfl dX4_isCompiled_0 rfl ?_
  refine j_get (pc := 1) C hin_X4 h0 rfl 3 (by decide) (by decide +kernel) rfl dX4_isCompiled_1 ?_
  exact ret_z C rfl hr hlk (by rcases hcp with rfl | rfl <;> rfl) dX4_isCompiled_4 ⟨rfl, rfl⟩ (by decide) (by decide)

theorem ge1_pos {x : Int32} (h : 1 ≤ x) : ¬ x < 0 := fun z => by
  have h1 := Int32.le_iff_toInt_le.mp h
  have h2 := Int32.lt_iff_toInt_lt.mp z
  have h3 : (1 : Int32).toInt = 1 := rfl
  have h4 : (0 : Int32).toInt = 0 := rfl
  omega
set_option maxRecDepth 100000 in
set_option maxHeartbeats 4000000 in
theorem ct_worst {l : Launch} {G : Gp} {L : List Nat} {w : Wn} (hlt : l.stackTraces = false) {ad : Nat → Nat} {cp : Int32} {fq : Nat → Nat} {df : Nat → Int32} {E : Nat → EL} (hcs : CS G ad L w cp (cp = 1) fq df E) (x : Int32) : XI l yX4_worst wsX4_worst (rmD 30 10 100) G L w [.ref (ad 0), .int x] (fun r u => ∃ j, j < 4 ∧ x = nI j ∧ cp = 1 ∧ r = wF fq (E j) ∧ u = (L, w)) (fun E9 u => (E9 = IAE ∧ ¬ vld x 4 ∧ u = (L, w)) ∨ (E9 = ISE ∧ vld x 4 ∧ ¬ cp = 1 ∧ u = (L, w))) := by
  refine mkx_i (cc := cX4_worst) (maxL := 2) [some (.ref (ad 0)), some (.int x)] (by decide) rfl (Nat.le_of_ble_eq_true rfl) rfl ?_
  intro p e s m args below meth c A C hr hlk hx0
  have hin_X4 : ∀ x ∈ u_ws RX4 TX4 4, x ∈ wsX4_worst := by decide +kernel
  obtain ⟨h0, hfa, hfq, hfb, hpl, hcf, hcp⟩ := id hcs
  refine j_iload_n (pc := 0) C rfl dX4_worst_0 rfl ?_
  refine jxS_v (pc := 1) (k2 := 1) (n2 := 6) (np := 1) (As := [.int x]) C (ct_reqFilter hlt x) gX4_worst_X4_requireFilter rfl (by decide +kernel) ⟨by decide, by decide⟩ rfl rfl (Nat.le_of_ble_eq_true rfl) dX4_worst_1 (by decide) (by decide) ⟨by decide, by decide⟩ (fun E9 L9 w9 h9 => (by obtain ⟨rfl, hn9, hu9⟩ := h9; cases hu9; exact jx_out C rfl hx0 hlk (Or.inl ⟨rfl, hn9, rfl⟩) (by decide) (by decide))) (fun L9 w9 hv => ?_)
  obtain ⟨hv, hu⟩ := hv
  cases hu
  obtain ⟨j, hj, rfl⟩ := hv
  obtain ⟨ft, tc, cl, hF, hR, hC, hb⟩ := id (hcf j hj)
  refine j_aload_n (pc := 4) C rfl dX4_worst_4 rfl ?_
  refine jxV_v (pc := 5) (k2 := 2) (n2 := 12) (np := 0) (As := []) C (ct_reqCompiled hlt hcs) gX4_worst_X4_requireCompiled rfl (by decide +kernel) ⟨by decide, by decide⟩ h0 rfl rfl rfl (Nat.le_of_ble_eq_true rfl) dX4_worst_5 (by decide) (by decide) ⟨by decide, by decide⟩ (fun E9 L9 w9 h9 => (by obtain ⟨rfl, hn9, hu9⟩ := h9; cases hu9; exact jx_out C rfl hx0 hlk (Or.inr ⟨rfl, ⟨j, hj, rfl⟩, hn9, rfl⟩) (by decide) (by decide))) (fun L9 w9 hv => ?_)
  obtain ⟨hc1, hu⟩ := hv
  cases hu
  obtain ⟨rfl, hT, hTc⟩ := hb hc1
  refine j_aload_n (pc := 8) C rfl dX4_worst_8 rfl ?_
  refine j_get (pc := 9) C hin_X4 h0 rfl 0 (by decide) (by decide +kernel) rfl dX4_worst_9 ?_
  refine j_iload_n (pc := 12) C rfl dX4_worst_12 rfl ?_
  refine j_aldF (pc := 13) (v := .ref (ad (30 + 3 * j))) C hfa rfl hj (by decide) (far_at (by omega)) dX4_worst_13 ?_
  refine jV_i0 (pc := 14) (k2 := 2) (n2 := 12) (np := 0) (As := []) C (ct_worstPath hF hC hT) gX4_worst_X0_worstPath rfl (by decide +kernel) ⟨by decide, by decide⟩ hF rfl rfl rfl (Nat.le_of_ble_eq_true rfl) dX4_worst_14 (by decide) (by decide) ⟨by decide, by decide⟩ (fun v hv => ?_)
  exact xret_i C rfl hr hlk dX4_worst_17 ⟨j, hj, rfl, hc1, hv, rfl⟩ (by decide) (by decide)

set_option maxRecDepth 100000 in
set_option maxHeartbeats 4000000 in
theorem ct_actionOf {l : Launch} {G : Gp} {L : List Nat} {w : Wn} (hlt : l.stackTraces = false) {ad : Nat → Nat} {cp : Int32} {fq : Nat → Nat} {df : Nat → Int32} {E : Nat → EL} (hcs : CS G ad L w cp (cp = 1) fq df E) (x x2 : Int32) (fi se : Int64) : XI l yX4_actionOf wsX4_actionOf (rmD 30 10 100) G L w [.ref (ad 0), .int x, .int x2, .long fi, .long se] (fun r u => ∃ j, j < 4 ∧ x = nI j ∧ vld x2 32 ∧ r = fAct x2 fi se (df j) (E j) ∧ u = (L, w)) (fun E9 u => E9 = IAE ∧ ¬ (vld x 4 ∧ vld x2 32) ∧ u = (L, w)) := by
  refine mkx_i (cc := cX4_actionOf) (maxL := 7) [some (.ref (ad 0)), some (.int x), some (.int x2), some (.long fi), none, some (.long se), none] (by decide) rfl (Nat.le_of_ble_eq_true rfl) rfl ?_
  intro p e s m args below meth c A C hr hlk hx0
  have hin_X4 : ∀ x ∈ u_ws RX4 TX4 4, x ∈ wsX4_actionOf := by decide +kernel
  obtain ⟨h0, hfa, hfq, hfb, hpl, hcf, hcp⟩ := id hcs
  refine j_iload_n (pc := 0) C rfl dX4_actionOf_0 rfl ?_
  refine jxS_v (pc := 1) (k2 := 1) (n2 := 6) (np := 1) (As := [.int x]) C (ct_reqFilter hlt x) gX4_actionOf_X4_requireFilter rfl (by decide +kernel) ⟨by decide, by decide⟩ rfl rfl (Nat.le_of_ble_eq_true rfl) dX4_actionOf_1 (by decide) (by decide) ⟨by decide, by decide⟩ (fun E9 L9 w9 h9 => (by obtain ⟨rfl, hn9, hu9⟩ := h9; cases hu9; exact jx_out C rfl hx0 hlk (⟨rfl, fun z => hn9 z.1, rfl⟩) (by decide) (by decide))) (fun L9 w9 hv => ?_)
  obtain ⟨hv, hu⟩ := hv
  cases hu
  obtain ⟨j, hj, rfl⟩ := hv
  obtain ⟨ft, tc, cl, hF, hR, hC, hb⟩ := id (hcf j hj)
  refine j_iload_n (pc := 4) C rfl dX4_actionOf_4 rfl ?_
  refine jxS_v (pc := 5) (k2 := 2) (n2 := 12) (np := 1) (As := [.int x2]) C (ct_reqNumber hlt x2) gX4_actionOf_X4_requireNumber rfl (by decide +kernel) ⟨by decide, by decide⟩ rfl rfl (Nat.le_of_ble_eq_true rfl) dX4_actionOf_5 (by decide) (by decide) ⟨by decide, by decide⟩ (fun E9 L9 w9 h9 => (by obtain ⟨rfl, hn9, hu9⟩ := h9; cases hu9; exact jx_out C rfl hx0 hlk (⟨rfl, fun z => hn9 z.2, rfl⟩) (by decide) (by decide))) (fun L9 w9 hv => ?_)
  obtain ⟨hv, hu⟩ := hv
  cases hu
  refine j_aload_n (pc := 8) C rfl dX4_actionOf_8 rfl ?_
  refine j_get (pc := 9) C hin_X4 h0 rfl 0 (by decide) (by decide +kernel) rfl dX4_actionOf_9 ?_
  refine j_iload_n (pc := 12) C rfl dX4_actionOf_12 rfl ?_
  refine j_aldF (pc := 13) (v := .ref (ad (30 + 3 * j))) C hfa rfl hj (by decide) (far_at (by omega)) dX4_actionOf_13 ?_
  refine j_iload_n (pc := 14) C rfl dX4_actionOf_14 rfl ?_
  refine j_lload_n (pc := 15) C rfl dX4_actionOf_15 rfl ?_
  refine j_lload (pc := 16) C dX4_actionOf_16 rfl ?_
  refine jV_i0 (pc := 18) (k2 := 2) (n2 := 12) (np := 3) (As := [.int x2, .long fi, .long se]) C (ct_actionByRules hF hR x2 fi se) gX4_actionOf_X0_actionByRules rfl (by decide +kernel) ⟨by decide, by decide⟩ hF rfl rfl rfl (Nat.le_of_ble_eq_true rfl) dX4_actionOf_18 (by decide) (by decide) ⟨by decide, by decide⟩ (fun v hvv => ?_)
  exact xret_i C rfl hr hlk dX4_actionOf_21 ⟨j, hj, rfl, hv, hvv, rfl⟩ (by decide) (by decide)

