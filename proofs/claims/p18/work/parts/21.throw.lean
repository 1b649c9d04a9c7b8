/-! THROWS: out of a method, through a method -/
abbrev IAE : String := "java/lang/IllegalArgumentException"
abbrev ISE : String := "java/lang/IllegalStateException"
abbrev IOE : String := "java/lang/IndexOutOfBoundsException"
abbrev RNM : List String := ["java/lang/RuntimeException", "java/lang/Exception"]
theorem xat_1 : ∀ w ∈ (vx_atS RX4 38 IAE RNM).filter (fun w => !goodWord w), w ∈ xwords := by decide +kernel
theorem xat_2 : ∀ w ∈ (vx_atS RX4 52 ISE RNM).filter (fun w => !goodWord w), w ∈ xwords := by decide +kernel
theorem xat_3 : ∀ w ∈ (vx_atS RX4 145 IOE RNM).filter (fun w => !goodWord w), w ∈ xwords := by decide +kernel
theorem xgd_1 : ∀ w ∈ Cond.classLink RX4 34 IAE :: Cond.initialized IAE :: vx_atS RX4 38 IAE RNM, vx_ot w = true := by decide +kernel
theorem xgd_2 : ∀ w ∈ Cond.classLink RX4 48 ISE :: Cond.initialized ISE :: vx_atS RX4 52 ISE RNM, vx_ot w = true := by decide +kernel
theorem xgd_3 : ∀ w ∈ Cond.classLink RX4 141 IOE :: Cond.initialized IOE :: vx_atS RX4 145 IOE RNM, vx_ot w = true := by decide +kernel
section JTHR
variable {p : Program} {l : Launch} {e : Env} {R : Room} {s : State} {m : MethodId} {args : Array Value} {below : List Frame} {meth : Method} {c : Code} {G : Gp} {A : Nat → Prop} {H0 : Heap} {nL : Nat} {L : List Nat} {w : Wn} {k n : Nat} {pc : Nat} {lo : List (Option Value)} {st : List Value} {cc : ByteArray} {own : String} {Ts : List Cond}
theorem j_throwS (C : Cx p s m args c cc own nL Ts G A H0) (hH : H0 = s.heap) (hlt : l.stackTraces = false) (hx0 : ∀ x ∈ c.exceptionTable.toList, False) (hlk : meth.locks = false) {Qc : Array Value → State → Outcome → State → Prop} {xp : String → Sw → Prop} {mc ms ik is ic : Nat} {cls text : String} {names : List String} (hcls : Bundle.fit cls = true) (hnames : ∀ n ∈ names, Bundle.fit n = true)
    (hk : Cond.classLink own ik cls ∈ Ts) (hini : Cond.initialized cls ∈ Ts) (hstr : (own, is, text) ∈ xstrs) (hg : ∀ w ∈ (vx_atS own ic cls names).filter goodWord, w ∈ Ts) (hg2 : ∀ w ∈ (vx_atS own ic cls names).filter (fun w => !goodWord w), w ∈ xwords) (hgood : ∀ w ∈ Cond.classLink own ik cls :: Cond.initialized cls :: vx_atS own ic cls names, vx_ot w = true)
    (d0 : decode cc pc = .ok (.new ik, 3)) (d3 : decode cc (pc + 3) = .ok (.dup, 1)) (d4 : decode cc (pc + 4) = .ok (.ldc is, 2)) (d6 : decode cc (pc + 6) = .ok (.invokespecial ic, 3)) (d9 : decode cc (pc + 9) = .ok (.athrow, 1))
    (hRf : names.length + 3 < R.frames) (hst9 : (st.map fun v => v.category).sum ≤ 8) (hRl : 8 + (13 * (names.length + 1) + 43) ≤ R.locals) (hRc : k + 1 ≤ R.cells) (hRs : n + 6 ≤ R.slots) (hmc : k + 1 ≤ mc) (hms : n + 6 ≤ ms) (hxp : xp cls (L, w)) :
    J p l e R s m args below meth c G A H0 nL (vx_MQ below Qc (XX G A xp) args s mc ms A) L w k n pc lo st := fun H locs ls hP hD hS hl => by
  subst hH
  refine vx_throwS C.1 C.2.1 hlt C.2.2.2.1 hcls hnames (C.2.2.2.2.1 _ hk) (C.2.2.2.2.1 _ hini) (C.2.2.2.2.2.2.2.2.2.2.2.2.1 _ hstr) (vx_hat (fun w hw => C.2.2.2.2.1 _ (hg w hw)) hg2 (fun w hw => va_Nw.use (xk_all _ hw).2 (C.2.2.2.2.2.2.2.2.2.2.2.1 _ hw))) hgood C.2.2.2.2.2.2.2.2.2.1 C.2.2.2.2.2.2.2.2.2.2.1 hS (hl.1.trans C.2.2.1.symm) d0 d3 d4 d6 d9 (fun x hx => (hx0 x hx).elim) hRf (by omega) hRc hRs hlk (fun t ha hz hq => ?_) hS.2.2 hmc hms
  refine ⟨(cls, (L, w)), hxp, ⟨rfl, hP.kept (fun k9 x hx => hq x.1 ((hP k9 x hx).lt)), hD⟩, ?_⟩
  exact ⟨Nat.le_trans hS.1 hz, fun q h1 h2 => (hq q (Nat.lt_of_lt_of_le h1 hS.1)).trans (hS.2.1 q h1 h2)⟩
theorem jx_out (C : Cx p s m args c cc own nL Ts G A H0) (hH : H0 = s.heap) (hx0 : ∀ x ∈ c.exceptionTable.toList, False) (hlk : meth.locks = false) {Qc : Array Value → State → Outcome → State → Prop} {xp : String → Sw → Prop} {mc ms : Nat} {E : String} (hxp : xp E (L, w)) (hk : k ≤ mc) (hn : n ≤ ms) : JX p l e R s m args below meth c G A H0 nL (vx_MQ below Qc (XX G A xp) args s mc ms A) L w k n pc lo st E := fun H locs ls q ce hP hD hS hl hq hv hcl => by
  subst hH
  exact vx_out (fun x hx => (hx0 x hx).elim) hlk hq hv hcl (fun t ht ha => ⟨(E, (L, w)), hxp, ⟨rfl, by rw [ht]; exact hP, hD⟩, hS.F ht⟩) hS.2.2 hk hn
end JTHR
def vld (x : Int32) (n : Nat) : Prop := ∃ j, j < n ∧ x = nI j
theorem vld_of {x : Int32} {n : Nat} (hn : n < 2147483648) (h1 : ¬ x < 0) (h2 : x < nI n) : vld x n := by
  rcases pk_ix x hn with h | h | ⟨j, h3, h4⟩
  · exact absurd h h1
  · exact absurd h2 (Int32.not_lt.mpr h)
  · exact ⟨j, h3, h4⟩
theorem vld_n0 {x : Int32} {n : Nat} (hn : n < 2147483648) (h : x < 0) : ¬ vld x n := fun ⟨j, h1, h2⟩ => by
  subst h2
  exact nI_pos (by omega) h
theorem vld_n1 {x : Int32} {n : Nat} (hn : n < 2147483648) (h : ¬ x < nI n) : ¬ vld x n := fun ⟨j, h1, h2⟩ => by
  subst h2
  exact h (nI_lt h1 (by omega))
set_option maxRecDepth 100000 in
set_option maxHeartbeats 4000000 in
theorem ct_reqFilter {l : Launch} {G : Gp} {L : List Nat} {w : Wn} (hlt : l.stackTraces = false) (x : Int32) : XV l yX4_requireFilter wsX4_requireFilter (rmD 1 1 6) G L w [.int x] (fun u => vld x 4 ∧ u = (L, w)) (fun E u => E = IAE ∧ ¬ vld x 4 ∧ u = (L, w)) := by
  refine mkx_v (cc := cX4_requireFilter) (maxL := 1) [some (.int x)] (by decide) rfl (Nat.le_of_ble_eq_true rfl) rfl ?_
  intro p e s m args below meth c A C hr hlk hx0
  refine j_iload_n (pc := 0) C rfl dX4_requireFilter_0 rfl ?_
  refine j_if_lt (pc := 1) (tgt := 9) C dX4_requireFilter_1 (by decide) (fun c1 => ?_) (fun c1 => ?_)
  · refine j_throwS (pc := 9) (cls := IAE) (names := RNM) (text := "a filter is 0 to 3") C rfl hlt hx0 hlk (by decide) (by decide) (by decide +kernel) (by decide +kernel) (by decide +kernel) (by decide +kernel) xat_1 xgd_1 dX4_requireFilter_9 dX4_requireFilter_12 dX4_requireFilter_13 dX4_requireFilter_15 dX4_requireFilter_18 (by decide) (Nat.le_of_ble_eq_true rfl) (by decide) (by decide) (by decide) (by decide) (by decide) (⟨rfl, vld_n0 (by decide) c1, rfl⟩)
  · refine j_iload_n (pc := 4) C rfl dX4_requireFilter_4 rfl ?_
    refine j_iconst (pc := 5) (v := 4) C dX4_requireFilter_5 (by decide) ?_
    refine j_icmp_lt (pc := 6) (tgt := 19) C dX4_requireFilter_6 (by decide) (fun c6 => ?_) (fun c6 => ?_)
    · have c6 : x < nI 4 := c6
      exact xret_v C rfl hr hlk dX4_requireFilter_19 ⟨vld_of (by decide) c1 c6, rfl⟩ (by decide) (by decide)
    · have c6 : ¬ x < nI 4 := c6
      refine j_throwS (pc := 9) (cls := IAE) (names := RNM) (text := "a filter is 0 to 3") C rfl hlt hx0 hlk (by decide) (by decide) (by decide +kernel) (by decide +kernel) (by decide +kernel) (by decide +kernel) xat_1 xgd_1 dX4_requireFilter_9 dX4_requireFilter_12 dX4_requireFilter_13 dX4_requireFilter_15 dX4_requireFilter_18 (by decide) (Nat.le_of_ble_eq_true rfl) (by decide) (by decide) (by decide) (by decide) (by decide) (⟨rfl, vld_n1 (by decide) c6, rfl⟩)

set_option maxRecDepth 100000 in
set_option maxHeartbeats 4000000 in
theorem ct_reqNumber {l : Launch} {G : Gp} {L : List Nat} {w : Wn} (hlt : l.stackTraces = false) (x : Int32) : XV l yX4_requireNumber wsX4_requireNumber (rmD 1 1 6) G L w [.int x] (fun u => vld x 32 ∧ u = (L, w)) (fun E u => E = IAE ∧ ¬ vld x 32 ∧ u = (L, w)) := by
  refine mkx_v (cc := cX4_requireNumber) (maxL := 1) [some (.int x)] (by decide) rfl (Nat.le_of_ble_eq_true rfl) rfl ?_
  intro p e s m args below meth c A C hr hlk hx0
  refine j_iload_n (pc := 0) C rfl dX4_requireNumber_0 rfl ?_
  refine j_if_lt (pc := 1) (tgt := 10) C dX4_requireNumber_1 (by decide) (fun c1 => ?_) (fun c1 => ?_)
  · refine j_throwS (pc := 10) (cls := IAE) (names := RNM) (text := "a number is 0 to 31") C rfl hlt hx0 hlk (by decide) (by decide) (by decide +kernel) (by decide +kernel) (by decide +kernel) (by decide +kernel) xat_1 xgd_1 dX4_requireNumber_10 dX4_requireNumber_13 dX4_requireNumber_14 dX4_requireNumber_16 dX4_requireNumber_19 (by decide) (Nat.le_of_ble_eq_true rfl) (by decide) (by decide) (by decide) (by decide) (by decide) (⟨rfl, vld_n0 (by decide) c1, rfl⟩)
  · refine j_iload_n (pc := 4) C rfl dX4_requireNumber_4 rfl ?_
    refine j_bipush (pc := 5) (v := 32) C dX4_requireNumber_5 (by decide) ?_
    refine j_icmp_lt (pc := 7) (tgt := 20) C dX4_requireNumber_7 (by decide) (fun c7 => ?_) (fun c7 => ?_)
    · have c7 : x < nI 32 := c7
      exact xret_v C rfl hr hlk dX4_requireNumber_20 ⟨vld_of (by decide) c1 c7, rfl⟩ (by decide) (by decide)
    · have c7 : ¬ x < nI 32 := c7
      refine j_throwS (pc := 10) (cls := IAE) (names := RNM) (text := "a number is 0 to 31") C rfl hlt hx0 hlk (by decide) (by decide) (by decide +kernel) (by decide +kernel) (by decide +kernel) (by decide +kernel) xat_1 xgd_1 dX4_requireNumber_10 dX4_requireNumber_13 dX4_requireNumber_14 dX4_requireNumber_16 dX4_requireNumber_19 (by decide) (Nat.le_of_ble_eq_true rfl) (by decide) (by decide) (by decide) (by decide) (by decide) (⟨rfl, vld_n1 (by decide) c7, rfl⟩)

set_option maxRecDepth 100000 in
set_option maxHeartbeats 4000000 in
theorem ct_reqAction {l : Launch} {G : Gp} {L : List Nat} {w : Wn} (hlt : l.stackTraces = false) (x : Int32) : XV l yX4_requireAction wsX4_requireAction (rmD 1 1 6) G L w [.int x] (fun u => vld x 7 ∧ u = (L, w)) (fun E u => E = IAE ∧ ¬ vld x 7 ∧ u = (L, w)) := by
  refine mkx_v (cc := cX4_requireAction) (maxL := 1) [some (.int x)] (by decide) rfl (Nat.le_of_ble_eq_true rfl) rfl ?_
  intro p e s m args below meth c A C hr hlk hx0
  refine j_iload_n (pc := 0) C rfl dX4_requireAction_0 rfl ?_
  refine j_if_lt (pc := 1) (tgt := 10) C dX4_requireAction_1 (by decide) (fun c1 => ?_) (fun c1 => ?_)
  · refine j_throwS (pc := 10) (cls := IAE) (names := RNM) (text := "an action is 0 to 6") C rfl hlt hx0 hlk (by decide) (by decide) (by decide +kernel) (by decide +kernel) (by decide +kernel) (by decide +kernel) xat_1 xgd_1 dX4_requireAction_10 dX4_requireAction_13 dX4_requireAction_14 dX4_requireAction_16 dX4_requireAction_19 (by decide) (Nat.le_of_ble_eq_true rfl) (by decide) (by decide) (by decide) (by decide) (by decide) (⟨rfl, vld_n0 (by decide) c1, rfl⟩)
  · refine j_iload_n (pc := 4) C rfl dX4_requireAction_4 rfl ?_
    refine j_bipush (pc := 5) (v := 7) C dX4_requireAction_5 (by decide) ?_
    refine j_icmp_lt (pc := 7) (tgt := 20) C dX4_requireAction_7 (by decide) (fun c7 => ?_) (fun c7 => ?_)
    · have c7 : x < nI 7 := c7
      exact xret_v C rfl hr hlk dX4_requireAction_20 ⟨vld_of (by decide) c1 c7, rfl⟩ (by decide) (by decide)
    · have c7 : ¬ x < nI 7 := c7
      refine j_throwS (pc := 10) (cls := IAE) (names := RNM) (text := "an action is 0 to 6") C rfl hlt hx0 hlk (by decide) (by decide) (by decide +kernel) (by decide +kernel) (by decide +kernel) (by decide +kernel) xat_1 xgd_1 dX4_requireAction_10 dX4_requireAction_13 dX4_requireAction_14 dX4_requireAction_16 dX4_requireAction_19 (by decide) (Nat.le_of_ble_eq_true rfl) (by decide) (by decide) (by decide) (by decide) (by decide) (⟨rfl, vld_n1 (by decide) c7, rfl⟩)

