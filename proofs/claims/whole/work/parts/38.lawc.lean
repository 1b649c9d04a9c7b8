/-! THE LAW: call by call -/
theorem nI_p2 (a : Nat) : nI a + (2 : Int32) = nI (a + 2) := nI_add a 2
theorem nI_p3 (a : Nat) : nI a + (3 : Int32) = nI (a + 3) := nI_add a 3
theorem nI_p4 (a : Nat) : nI a + (4 : Int32) = nI (a + 4) := nI_add a 4
theorem nI_p5 (a : Nat) : nI a + (5 : Int32) = nI (a + 5) := nI_add a 5
theorem nI_p6 (a : Nat) : nI a + (6 : Int32) = nI (a + 6) := nI_add a 6
theorem nI_p7 (a : Nat) : nI a + (7 : Int32) = nI (a + 7) := nI_add a 7
theorem nI_p8 (a : Nat) : nI a + (8 : Int32) = nI (a + 8) := nI_add a 8
theorem nI_p1 (a : Nat) : nI a + (1 : Int32) = nI (a + 1) := nI_add a 1
section JSCR
variable {p : Program} {l : Launch} {e : Env} {R : Room} {s : State} {m : MethodId} {args : Array Value} {below : List Frame} {meth : Method} {c : Code} {G : Gp} {A : Nat → Prop} {H0 : Heap} {nL : Nat} {Q : State → Prop} {L : List Nat} {w : Wn} {k n : Nat} {pc : Nat} {lo : List (Option Value)} {st : List Value} {cc : ByteArray} {own : String} {Ts : List Cond}
theorem j_sld (C : Cx p s m args c cc own nL Ts G A H0) {b LL : Nat} {xs : Nat → Int32} (hX : va_X b LL xs s H0) (hbl : b < H0.size) (hbA : ¬ A b) {j : Nat} (hj : j < LL) (hL : LL < 2147483648) (hdg : decode cc pc = .ok (.iaload, 1)) (kk : J p l e R s m args below meth c G A H0 nL Q L w k n (pc + 1) lo (.int (xs j) :: st)) : J p l e R s m args below meth c G A H0 nL Q L w k n pc lo (.int (nI j) :: .ref b :: st) := fun H locs ls hP hD hS hl => va_sld C.1 C.2.1 hX hbl hbA hS (vp_in_nI hj hL) hdg (by rw [nI_clamp (by omega)]; exact kk H locs ls hP hD hS hl)
theorem j_slen (C : Cx p s m args c cc own nL Ts G A H0) {b LL : Nat} {xs : Nat → Int32} (hX : va_X b LL xs s H0) (hbl : b < H0.size) (hbA : ¬ A b) (hdg : decode cc pc = .ok (.arraylength, 1)) (kk : J p l e R s m args below meth c G A H0 nL Q L w k n (pc + 1) lo (.int (nI LL) :: st)) : J p l e R s m args below meth c G A H0 nL Q L w k n pc lo (.ref b :: st) := fun H locs ls hP hD hS hl => va_slen C.1 C.2.1 hX hbl hbA hS hdg (kk H locs ls hP hD hS hl)
theorem j_tblIn (C : Cx p s m args c cc own nL Ts G A H0) {dflt lo9 hi9 : Int} {offs : Array Int} {len : Nat} {x : Int32} {off : Int} {tgt : Nat} (hdg : decode cc pc = .ok (.tableswitch dflt lo9 hi9 offs, len)) (h1 : ¬ x.toInt < lo9) (h2 : ¬ hi9 < x.toInt) (ho : offs[(x.toInt - lo9).toNat]? = some off) (ht : (pc : Int) + off = (tgt : Int)) (kk : J p l e R s m args below meth c G A H0 nL Q L w k n tgt lo st) : J p l e R s m args below meth c G A H0 nL Q L w k n pc lo (.int x :: st) := fun H locs ls hP hD hS hl => lv_tableIn C.1 C.2.1 hdg h1 h2 ho ht (kk H locs ls hP hD hS hl)
theorem j_tblOut (C : Cx p s m args c cc own nL Ts G A H0) {dflt lo9 hi9 : Int} {offs : Array Int} {len : Nat} {x : Int32} {tgt : Nat} (hdg : decode cc pc = .ok (.tableswitch dflt lo9 hi9 offs, len)) (h : x.toInt < lo9 ∨ hi9 < x.toInt) (ht : (pc : Int) + dflt = (tgt : Int)) (kk : J p l e R s m args below meth c G A H0 nL Q L w k n tgt lo st) : J p l e R s m args below meth c G A H0 nL Q L w k n pc lo (.int x :: st) := fun H locs ls hP hD hS hl => lv_tableOut C.1 C.2.1 hdg h ht (kk H locs ls hP hD hS hl)
end JSCR
/-- at the head of the law's loop -/
def LI (G : Gp) (ad am : Nat → Nat) (ao : Nat) (L : List Nat) (w : Wn) : Prop := ∃ th cp fq df E fo, CS G ad L w cp (cp = 1) fq df E ∧ MD G am L w th cp df fq E ∧ Hs L w 54 ao (jarE G 1 fo)
theorem AG.li {G : Gp} {ad am : Nat → Nat} {ao : Nat} {k r : Int32} {L : List Nat} {w : Wn} (h : AG G ad am ao k r L w) : LI G ad am ao L w := by
  obtain ⟨cp, fq, df, E, fo, h1, h2, h3, -⟩ := h
  exact ⟨k, cp, fq, df, E, fo, h1, h2, h3⟩
theorem ct_thr {l : Launch} {G : Gp} {L : List Nat} {w : Wn} {am : Nat → Nat} {th cp : Int32} {df : Nat → Int32} {fq : Nat → Nat} {E : Nat → EL} (hd : MD G am L w th cp df fq E) : CI l yX5_thrown wsX5_thrown (rmD 8 0 0) G L w [.ref (am 42)] (fun r u => r = th ∧ u = (L, w)) := ct_thrown (ns := fun _ => 0) (ar := fun _ => 0) (ac := fun _ => 0) (mk := fun _ => 0) (vl := fun _ => 0) (ks := fun _ => 0) (sz := 0) (co := fun _ => 0) (ro := fun _ => 0) hd
theorem hp_rules {G : Gp} {ad : Nat → Nat} {ao : Nat} {L : List Nat} {w : Wn} {cp : Int32} {fq : Nat → Nat} {df : Nat → Int32} {E : Nat → EL} {fo : Nat → Int64} {x : Int32} (hO : Hs L w 54 ao (jarE G 1 fo)) : ∀ (r : Int32) (L2 : List Nat) (w9 : Wn), (fun (r : Int32) (u : Sw) => ∃ j, j < 4 ∧ x = nI j ∧ r = nI (E j).length ∧ u = (L, w)) r (L2, w9) → Hs L2 w9 54 ao (jarE G 1 fo) := by
  intro r L2 w9 hp
  obtain ⟨j, hj, rfl, rfl, hu⟩ := hp
  cases hu
  exact hO
theorem hp_hider {G : Gp} {ad : Nat → Nat} {ao : Nat} {L : List Nat} {w : Wn} {cp : Int32} {fq : Nat → Nat} {df : Nat → Int32} {E : Nat → EL} {fo : Nat → Int64} {x x2 : Int32} (hO : Hs L w 54 ao (jarE G 1 fo)) : ∀ (r : Int32) (L2 : List Nat) (w9 : Wn), (fun (r : Int32) (u : Sw) => ∃ j, j < 4 ∧ x = nI j ∧ ∃ i, i < (E j).length ∧ x2 = nI i ∧ r = onI (hid (rul (E j)) i) ∧ u = (L, w)) r (L2, w9) → Hs L2 w9 54 ao (jarE G 1 fo) := by
  intro r L2 w9 hp
  obtain ⟨j, hj, rfl, i, hi, rfl, rfl, hu⟩ := hp
  cases hu
  exact hO
theorem hp_compile {G : Gp} {ad : Nat → Nat} {ao : Nat} {L : List Nat} {w : Wn} {cp : Int32} {fq : Nat → Nat} {df : Nat → Int32} {E : Nat → EL} {fo : Nat → Int64} {x : Int32} (hO : Hs L w 54 ao (jarE G 1 fo)) : ∀ (r : Int32) (L2 : List Nat) (w9 : Wn), (fun (r : Int32) (u : Sw) => vld x 1001 ∧ ((smN (fun j => wF fq (E j)) 4 ≤ x ∧ r = smN (fun j => wF fq (E j)) 4 ∧ CS G ad u.1 u.2 1 ((1 : Int32) = 1) fq df E) ∨ (¬ smN (fun j => wF fq (E j)) 4 ≤ x ∧ r = -1 ∧ CS G ad u.1 u.2 cp (cp = 1) fq df E)) ∧ FrC L w u.1 u.2) r (L2, w9) → Hs L2 w9 54 ao (jarE G 1 fo) := by
  intro r L2 w9 hp
  obtain ⟨hA, hc, hfC⟩ := hp
  exact hfC.hs hO (by unfold MC; omega)
theorem hp_test {G : Gp} {ad : Nat → Nat} {ao : Nat} {L : List Nat} {w : Wn} {cp : Int32} {fq : Nat → Nat} {df : Nat → Int32} {E : Nat → EL} {fo : Nat → Int64} {x x2 : Int32} (hO : Hs L w 54 ao (jarE G 1 fo)) : ∀ (r : Int32) (L2 : List Nat) (w9 : Wn), (fun (r : Int32) (u : Sw) => ∃ j, j < 4 ∧ x = nI j ∧ ∃ P9, P9 < 2147483648 ∧ x2 = nI P9 ∧ 1 ≤ x2 ∧ cp = 1 ∧ r = down (kyF (rch (E j))) (wtF fq (rch (E j))) 10 0 (ksz (rch (E j))) P9 ∧ u = (L, w)) r (L2, w9) → Hs L2 w9 54 ao (jarE G 1 fo) := by
  intro r L2 w9 hp
  obtain ⟨j, hj, rfl, P9, hP9, rfl, h1, hB, rfl, hu⟩ := hp
  cases hu
  exact hO
theorem hp_cost {G : Gp} {ad : Nat → Nat} {ao : Nat} {L : List Nat} {w : Wn} {cp : Int32} {fq : Nat → Nat} {df : Nat → Int32} {E : Nat → EL} {fo : Nat → Int64} {x : Int32} (hO : Hs L w 54 ao (jarE G 1 fo)) : ∀ (r : Int32) (L2 : List Nat) (w9 : Wn), (fun (r : Int32) (u : Sw) => ∃ j, j < 4 ∧ x = nI j ∧ cp = 1 ∧ r = nI (cs (wtF fq (rch (E j))) 0 (ksz (rch (E j)))) ∧ u = (L, w)) r (L2, w9) → Hs L2 w9 54 ao (jarE G 1 fo) := by
  intro r L2 w9 hp
  obtain ⟨j, hj, rfl, hB, rfl, hu⟩ := hp
  cases hu
  exact hO
theorem hp_worst {G : Gp} {ad : Nat → Nat} {ao : Nat} {L : List Nat} {w : Wn} {cp : Int32} {fq : Nat → Nat} {df : Nat → Int32} {E : Nat → EL} {fo : Nat → Int64} {x : Int32} (hO : Hs L w 54 ao (jarE G 1 fo)) : ∀ (r : Int32) (L2 : List Nat) (w9 : Wn), (fun (r : Int32) (u : Sw) => ∃ j, j < 4 ∧ x = nI j ∧ cp = 1 ∧ r = wF fq (E j) ∧ u = (L, w)) r (L2, w9) → Hs L2 w9 54 ao (jarE G 1 fo) := by
  intro r L2 w9 hp
  obtain ⟨j, hj, rfl, hB, rfl, hu⟩ := hp
  cases hu
  exact hO
theorem hp_judge {G : Gp} {ad : Nat → Nat} {ao : Nat} {L : List Nat} {w : Wn} {cp : Int32} {fq : Nat → Nat} {df : Nat → Int32} {E : Nat → EL} {fo : Nat → Int64} {x : Int32} {fi se : Int64} (hO : Hs L w 54 ao (jarE G 1 fo)) : ∀ (r : Int32) (L2 : List Nat) (w9 : Wn), (fun (r : Int32) (u : Sw) => vld x 32 ∧ cp = 1 ∧ r = mxN (fun i => actT fq (E i) (df i) x fi se) 4 ∧ u = (L, w)) r (L2, w9) → Hs L2 w9 54 ao (jarE G 1 fo) := by
  intro r L2 w9 hp
  obtain ⟨hA, hB, rfl, hu⟩ := hp
  cases hu
  exact hO
theorem hp_path {G : Gp} {ad : Nat → Nat} {ao : Nat} {L : List Nat} {w : Wn} {cp : Int32} {fq : Nat → Nat} {df : Nat → Int32} {E : Nat → EL} {fo : Nat → Int64} {x : Int32} {fi se : Int64} (hO : Hs L w 54 ao (jarE G 1 fo)) : ∀ (r : Int32) (L2 : List Nat) (w9 : Wn), (fun (r : Int32) (u : Sw) => vld x 32 ∧ cp = 1 ∧ r = smN (fun i => pthT fq (E i) x fi se) 4 ∧ u = (L, w)) r (L2, w9) → Hs L2 w9 54 ao (jarE G 1 fo) := by
  intro r L2 w9 hp
  obtain ⟨hA, hB, rfl, hu⟩ := hp
  cases hu
  exact hO
theorem hp_judgeByRules {G : Gp} {ad : Nat → Nat} {ao : Nat} {L : List Nat} {w : Wn} {cp : Int32} {fq : Nat → Nat} {df : Nat → Int32} {E : Nat → EL} {fo : Nat → Int64} {x : Int32} {fi se : Int64} (hO : Hs L w 54 ao (jarE G 1 fo)) : ∀ (r : Int32) (L2 : List Nat) (w9 : Wn), (fun (r : Int32) (u : Sw) => vld x 32 ∧ r = mxN (fun i => fAct x fi se (df i) (E i)) 4 ∧ u = (L, w)) r (L2, w9) → Hs L2 w9 54 ao (jarE G 1 fo) := by
  intro r L2 w9 hp
  obtain ⟨hA, rfl, hu⟩ := hp
  cases hu
  exact hO
theorem hp_actionOf {G : Gp} {ad : Nat → Nat} {ao : Nat} {L : List Nat} {w : Wn} {cp : Int32} {fq : Nat → Nat} {df : Nat → Int32} {E : Nat → EL} {fo : Nat → Int64} {x x2 : Int32} {fi se : Int64} (hO : Hs L w 54 ao (jarE G 1 fo)) : ∀ (r : Int32) (L2 : List Nat) (w9 : Wn), (fun (r : Int32) (u : Sw) => ∃ j, j < 4 ∧ x = nI j ∧ vld x2 32 ∧ r = fAct x2 fi se (df j) (E j) ∧ u = (L, w)) r (L2, w9) → Hs L2 w9 54 ao (jarE G 1 fo) := by
  intro r L2 w9 hp
  obtain ⟨j, hj, rfl, hv, rfl, hu⟩ := hp
  cases hu
  exact hO
theorem hp_add {G : Gp} {ad : Nat → Nat} {ao : Nat} {L : List Nat} {w : Wn} {cp : Int32} {fq : Nat → Nat} {df : Nat → Int32} {E : Nat → EL} {fo : Nat → Int64} {x x2 x3 x4 : Int32} {fi se : Int64} (hO : Hs L w 54 ao (jarE G 1 fo)) : ∀ (r : Int32) (L2 : List Nat) (w9 : Wn), (fun (r : Int32) (u : Sw) => ∃ j, j < 4 ∧ x = nI j ∧ vld x2 32 ∧ vld x3 2 ∧ vld x4 7 ∧ (E j).length < 10 ∧ r = nI (E j).length ∧ ∃ b, CS G ad u.1 u.2 0 ((0 : Int32) = 1) fq df (va_up E j (E j ++ [(b, (x2, x3, fi, se, x4))])) ∧ FrC L w u.1 u.2) r (L2, w9) → Hs L2 w9 54 ao (jarE G 1 fo) := by
  intro r L2 w9 hp
  obtain ⟨j, hj, rfl, v1, v2, v3, hl, rfl, b, hc9, hfC⟩ := hp
  exact hfC.hs hO (by unfold MC; omega)
theorem hp_remove {G : Gp} {ad : Nat → Nat} {ao : Nat} {L : List Nat} {w : Wn} {cp : Int32} {fq : Nat → Nat} {df : Nat → Int32} {E : Nat → EL} {fo : Nat → Int64} {x x2 : Int32} (hO : Hs L w 54 ao (jarE G 1 fo)) : ∀ (r : Int32) (L2 : List Nat) (w9 : Wn), (fun (r : Int32) (u : Sw) => ∃ j, j < 4 ∧ x = nI j ∧ ∃ i, i < (E j).length ∧ x2 = nI i ∧ r = nI ((E j).length - 1) ∧ CS G ad u.1 u.2 0 ((0 : Int32) = 1) fq df (va_up E j ((E j).eraseIdx i)) ∧ FrC L w u.1 u.2) r (L2, w9) → Hs L2 w9 54 ao (jarE G 1 fo) := by
  intro r L2 w9 hp
  obtain ⟨j, hj, rfl, i, hi, rfl, rfl, hc9, hfC⟩ := hp
  exact hfC.hs hO (by unfold MC; omega)
theorem hp_setDefault {G : Gp} {ad : Nat → Nat} {ao : Nat} {L : List Nat} {w : Wn} {cp : Int32} {fq : Nat → Nat} {df : Nat → Int32} {E : Nat → EL} {fo : Nat → Int64} {x x2 : Int32} (hO : Hs L w 54 ao (jarE G 1 fo)) : ∀ (r : Int32) (L2 : List Nat) (w9 : Wn), (fun (r : Int32) (u : Sw) => ∃ j, j < 4 ∧ x = nI j ∧ vld x2 7 ∧ r = df j ∧ ((x2 = df j ∧ u = (L, w)) ∨ (¬ x2 = df j ∧ CS G ad u.1 u.2 0 ((0 : Int32) = 1) fq (va_up df j x2) E ∧ FrC L w u.1 u.2))) r (L2, w9) → Hs L2 w9 54 ao (jarE G 1 fo) := by
  intro r L2 w9 hp
  obtain ⟨j, hj, rfl, v1, rfl, hc⟩ := hp
  have hfC : FrC L w L2 w9 := by
    rcases hc with ⟨-, hu⟩ | ⟨-, -, h⟩
    · cases hu; exact Fr.rf
    · exact h
  exact hfC.hs hO (by unfold MC; omega)
theorem hp_setFrequency {G : Gp} {ad : Nat → Nat} {ao : Nat} {L : List Nat} {w : Wn} {cp : Int32} {fq : Nat → Nat} {df : Nat → Int32} {E : Nat → EL} {fo : Nat → Int64} {x x2 : Int32} (hO : Hs L w 54 ao (jarE G 1 fo)) : ∀ (r : Int32) (L2 : List Nat) (w9 : Wn), (fun (r : Int32) (u : Sw) => ∃ j, j < 32 ∧ x = nI j ∧ vld x2 1001 ∧ r = nI (fq j) ∧ ((x2 = nI (fq j) ∧ u = (L, w)) ∨ (¬ x2 = nI (fq j) ∧ ∃ F9, x2 = nI F9 ∧ CS G ad u.1 u.2 0 ((0 : Int32) = 1) (va_up fq j F9) df E ∧ FrC L w u.1 u.2))) r (L2, w9) → Hs L2 w9 54 ao (jarE G 1 fo) := by
  intro r L2 w9 hp
  obtain ⟨j, hj, rfl, v1, rfl, hc⟩ := hp
  have hfC : FrC L w L2 w9 := by
    rcases hc with ⟨-, hu⟩ | ⟨-, F9, -, -, h⟩
    · cases hu; exact Fr.rf
    · exact h
  exact hfC.hs hO (by unfold MC; omega)
set_option maxRecDepth 100000 in
set_option maxHeartbeats 8000000 in
theorem lawc_add {p : Program} {l : Launch} {e : Env} {s : State} {m : MethodId} {below : List Frame} {meth : Method} {c : Code} {G : Gp} {b LL : Nat} {xs : Nat → Int32} (hlt : l.stackTraces = false) (hLL : LL ≤ 4608) (C : Cx p s m #[Value.ref b] c cL_law RL 7 wsL_law G (fun q => s.heap.size ≤ q) s.heap) (hX : va_X b LL xs s s.heap) (hbl : b < s.heap.size) {ad am : Nat → Nat} {ao : Nat} {Q : State → Prop} {i : Nat} (hi : 9 * i + 9 ≤ LL) {L : List Nat} {w : Wn} {th cp : Int32} {fq : Nat → Nat} {df : Nat → Int32} {E : Nat → EL} {fo : Nat → Int64} (hcs : CS G ad L w cp (cp = 1) fq df E) (hmd : MD G am L w th cp df fq E) (hO : Hs L w 54 ao (jarE G 1 fo)) (hnext : ∀ (L3 : List Nat) (w3 : Wn), LI G ad am ao L3 w3 → J p l e room_1 s m #[Value.ref b] below meth c G (fun q => s.heap.size ≤ q) s.heap 7 Q L3 w3 (55 + 100 * i + 100) (838 + 1000 * i + 1000) 1469 [some (.ref b), some (.ref (ad 0)), some (.ref (am 42)), some (.ref ao), some (.int (nI (9 * i))), none, none] []) : J p l e room_1 s m #[Value.ref b] below meth c G (fun q => s.heap.size ≤ q) s.heap 7 Q L w (55 + 100 * i) (838 + 1000 * i) 116 [some (.ref b), some (.ref (ad 0)), some (.ref (am 42)), some (.ref ao), some (.int (nI (9 * i))), none, none] [] := by
  have hbA : ¬ (fun q : Nat => s.heap.size ≤ q) b := Nat.not_le.mpr hbl
  refine j_aload_n (pc := 116) C rfl dL_law_116 rfl ?_
  refine j_aload_n (pc := 117) C rfl dL_law_117 rfl ?_
  refine j_iload (pc := 118) C dL_law_118 rfl ?_
  refine j_iconst (pc := 120) (v := 1) C dL_law_120 (by decide) ?_
  refine j_iadd (pc := 121) C dL_law_121 ?_
  refine j_st (by rw [nI_p1]) ?_
  refine j_sld (pc := 122) C hX hbl hbA (show 9 * i + 1 < LL by omega) (by omega) dL_law_122 ?_
  refine j_aload_n (pc := 123) C rfl dL_law_123 rfl ?_
  refine j_iload (pc := 124) C dL_law_124 rfl ?_
  refine j_iconst (pc := 126) (v := 2) C dL_law_126 (by decide) ?_
  refine j_iadd (pc := 127) C dL_law_127 ?_
  refine j_st (by rw [nI_p2]) ?_
  refine j_sld (pc := 128) C hX hbl hbA (show 9 * i + 2 < LL by omega) (by omega) dL_law_128 ?_
  refine j_aload_n (pc := 129) C rfl dL_law_129 rfl ?_
  refine j_iload (pc := 130) C dL_law_130 rfl ?_
  refine j_iconst (pc := 132) (v := 3) C dL_law_132 (by decide) ?_
  refine j_iadd (pc := 133) C dL_law_133 ?_
  refine j_st (by rw [nI_p3]) ?_
  refine j_sld (pc := 134) C hX hbl hbA (show 9 * i + 3 < LL by omega) (by omega) dL_law_134 ?_
  refine j_aload_n (pc := 135) C rfl dL_law_135 rfl ?_
  refine j_iload (pc := 136) C dL_law_136 rfl ?_
  refine j_iconst (pc := 138) (v := 4) C dL_law_138 (by decide) ?_
  refine j_iadd (pc := 139) C dL_law_139 ?_
  refine j_st (by rw [nI_p4]) ?_
  refine j_sld (pc := 140) C hX hbl hbA (show 9 * i + 4 < LL by omega) (by omega) dL_law_140 ?_
  refine j_i2l (pc := 141) C dL_law_141 ?_
  refine j_bipush (pc := 142) (v := 32) C dL_law_142 (by decide) ?_
  refine j_lshl (pc := 144) C dL_law_144 ?_
  refine j_aload_n (pc := 145) C rfl dL_law_145 rfl ?_
  refine j_iload (pc := 146) C dL_law_146 rfl ?_
  refine j_iconst (pc := 148) (v := 5) C dL_law_148 (by decide) ?_
  refine j_iadd (pc := 149) C dL_law_149 ?_
  refine j_st (by rw [nI_p5]) ?_
  refine j_sld (pc := 150) C hX hbl hbA (show 9 * i + 5 < LL by omega) (by omega) dL_law_150 ?_
  refine j_i2l (pc := 151) C dL_law_151 ?_
  refine j_ldc2 (pc := 152) (v := 4294967295) C dL_law_152 (by decide +kernel) ?_
  refine j_land (pc := 155) C dL_law_155 ?_
  refine j_lor (pc := 156) C dL_law_156 ?_
  refine j_topl (fun y1 ey1 => ?_)
  refine j_aload_n (pc := 157) C rfl dL_law_157 rfl ?_
  refine j_iload (pc := 158) C dL_law_158 rfl ?_
  refine j_bipush (pc := 160) (v := 6) C dL_law_160 (by decide) ?_
  refine j_iadd (pc := 162) C dL_law_162 ?_
  refine j_st (by rw [nI_p6]) ?_
  refine j_sld (pc := 163) C hX hbl hbA (show 9 * i + 6 < LL by omega) (by omega) dL_law_163 ?_
  refine j_i2l (pc := 164) C dL_law_164 ?_
  refine j_bipush (pc := 165) (v := 32) C dL_law_165 (by decide) ?_
  refine j_lshl (pc := 167) C dL_law_167 ?_
  refine j_aload_n (pc := 168) C rfl dL_law_168 rfl ?_
  refine j_iload (pc := 169) C dL_law_169 rfl ?_
  refine j_bipush (pc := 171) (v := 7) C dL_law_171 (by decide) ?_
  refine j_iadd (pc := 173) C dL_law_173 ?_
  refine j_st (by rw [nI_p7]) ?_
  refine j_sld (pc := 174) C hX hbl hbA (show 9 * i + 7 < LL by omega) (by omega) dL_law_174 ?_
  refine j_i2l (pc := 175) C dL_law_175 ?_
  refine j_ldc2 (pc := 176) (v := 4294967295) C dL_law_176 (by decide +kernel) ?_
  refine j_land (pc := 179) C dL_law_179 ?_
  refine j_lor (pc := 180) C dL_law_180 ?_
  refine j_topl (fun y2 ey2 => ?_)
  refine j_aload_n (pc := 181) C rfl dL_law_181 rfl ?_
  refine j_iload (pc := 182) C dL_law_182 rfl ?_
  refine j_bipush (pc := 184) (v := 8) C dL_law_184 (by decide) ?_
  refine j_iadd (pc := 186) C dL_law_186 ?_
  refine j_st (by rw [nI_p8]) ?_
  refine j_sld (pc := 187) C hX hbl hbA (show 9 * i + 8 < LL by omega) (by omega) dL_law_187 ?_
  refine j_aload_n (pc := 188) C rfl dL_law_188 rfl ?_
  refine jSW_i (pc := 189) (k2 := 55 + 100 * i + 100) (n2 := 838 + 1000 * i + 1000) (np := 8) (As := [.ref (ad 0), .int (xs (9 * i + 1)), .int (xs (9 * i + 2)), .int (xs (9 * i + 3)), .long y1, .long y2, .int (xs (9 * i + 8)), .ref ao]) C (ct_L_add hcs.1 (ct_add hlt hcs (xs (9 * i + 1)) (xs (9 * i + 2)) (xs (9 * i + 3)) (xs (9 * i + 8)) y1 y2) (hp_add (ad := ad) (cp := cp) (fq := fq) (df := df) (E := E) hO) (fun _ _ h => h.elim (fun z => Or.inl z.1) (fun z => Or.inr z.1))) gL_law_L_add rfl (by decide +kernel) ⟨by decide, by decide⟩ rfl rfl (Nat.le_of_ble_eq_true rfl) dL_law_189 (Nat.le_refl _) (Nat.le_refl _) ⟨by show 55 + 100 * i + 100 ≤ 601024; omega, by show 838 + 1000 * i + 1000 ≤ 7293034; omega⟩ (fun k9 L2 w2 hk9 => ?_)
  obtain ⟨hm2, hag⟩ := ag_add (L2 := L2) (w2 := w2) hcs hmd hO hk9
  obtain ⟨ns, ar, ac, mk, vl, ks, sz, co, ro, hmB⟩ := id hm2
  have h42 := hmB.1
  refine j_istore_5 (pc := 192) C dL_law_192 (by decide) rfl ?_
  refine j_aload_n (pc := 194) C rfl dL_law_194 rfl ?_
  refine j_aload_n (pc := 195) C rfl dL_law_195 rfl ?_
  refine j_iload (pc := 196) C dL_law_196 rfl ?_
  refine j_iconst (pc := 198) (v := 1) C dL_law_198 (by decide) ?_
  refine j_iadd (pc := 199) C dL_law_199 ?_
  refine j_st (by rw [nI_p1]) ?_
  refine j_sld (pc := 200) C hX hbl hbA (show 9 * i + 1 < LL by omega) (by omega) dL_law_200 ?_
  refine j_aload_n (pc := 201) C rfl dL_law_201 rfl ?_
  refine j_iload (pc := 202) C dL_law_202 rfl ?_
  refine j_iconst (pc := 204) (v := 2) C dL_law_204 (by decide) ?_
  refine j_iadd (pc := 205) C dL_law_205 ?_
  refine j_st (by rw [nI_p2]) ?_
  refine j_sld (pc := 206) C hX hbl hbA (show 9 * i + 2 < LL by omega) (by omega) dL_law_206 ?_
  refine j_aload_n (pc := 207) C rfl dL_law_207 rfl ?_
  refine j_iload (pc := 208) C dL_law_208 rfl ?_
  refine j_iconst (pc := 210) (v := 3) C dL_law_210 (by decide) ?_
  refine j_iadd (pc := 211) C dL_law_211 ?_
  refine j_st (by rw [nI_p3]) ?_
  refine j_sld (pc := 212) C hX hbl hbA (show 9 * i + 3 < LL by omega) (by omega) dL_law_212 ?_
  refine j_aload_n (pc := 213) C rfl dL_law_213 rfl ?_
  refine j_iload (pc := 214) C dL_law_214 rfl ?_
  refine j_iconst (pc := 216) (v := 4) C dL_law_216 (by decide) ?_
  refine j_iadd (pc := 217) C dL_law_217 ?_
  refine j_st (by rw [nI_p4]) ?_
  refine j_sld (pc := 218) C hX hbl hbA (show 9 * i + 4 < LL by omega) (by omega) dL_law_218 ?_
  refine j_i2l (pc := 219) C dL_law_219 ?_
  refine j_bipush (pc := 220) (v := 32) C dL_law_220 (by decide) ?_
  refine j_lshl (pc := 222) C dL_law_222 ?_
  refine j_aload_n (pc := 223) C rfl dL_law_223 rfl ?_
  refine j_iload (pc := 224) C dL_law_224 rfl ?_
  refine j_iconst (pc := 226) (v := 5) C dL_law_226 (by decide) ?_
  refine j_iadd (pc := 227) C dL_law_227 ?_
  refine j_st (by rw [nI_p5]) ?_
  refine j_sld (pc := 228) C hX hbl hbA (show 9 * i + 5 < LL by omega) (by omega) dL_law_228 ?_
  refine j_i2l (pc := 229) C dL_law_229 ?_
  refine j_ldc2 (pc := 230) (v := 4294967295) C dL_law_230 (by decide +kernel) ?_
  refine j_land (pc := 233) C dL_law_233 ?_
  refine j_lor (pc := 234) C dL_law_234 ?_
  refine j_st (by rw [← ey1]) ?_
  refine j_aload_n (pc := 235) C rfl dL_law_235 rfl ?_
  refine j_iload (pc := 236) C dL_law_236 rfl ?_
  refine j_bipush (pc := 238) (v := 6) C dL_law_238 (by decide) ?_
  refine j_iadd (pc := 240) C dL_law_240 ?_
  refine j_st (by rw [nI_p6]) ?_
  refine j_sld (pc := 241) C hX hbl hbA (show 9 * i + 6 < LL by omega) (by omega) dL_law_241 ?_
  refine j_i2l (pc := 242) C dL_law_242 ?_
  refine j_bipush (pc := 243) (v := 32) C dL_law_243 (by decide) ?_
  refine j_lshl (pc := 245) C dL_law_245 ?_
  refine j_aload_n (pc := 246) C rfl dL_law_246 rfl ?_
  refine j_iload (pc := 247) C dL_law_247 rfl ?_
  refine j_bipush (pc := 249) (v := 7) C dL_law_249 (by decide) ?_
  refine j_iadd (pc := 251) C dL_law_251 ?_
  refine j_st (by rw [nI_p7]) ?_
  refine j_sld (pc := 252) C hX hbl hbA (show 9 * i + 7 < LL by omega) (by omega) dL_law_252 ?_
  refine j_i2l (pc := 253) C dL_law_253 ?_
  refine j_ldc2 (pc := 254) (v := 4294967295) C dL_law_254 (by decide +kernel) ?_
  refine j_land (pc := 257) C dL_law_257 ?_
  refine j_lor (pc := 258) C dL_law_258 ?_
  refine j_st (by rw [← ey2]) ?_
  refine j_aload_n (pc := 259) C rfl dL_law_259 rfl ?_
  refine j_iload (pc := 260) C dL_law_260 rfl ?_
  refine j_bipush (pc := 262) (v := 8) C dL_law_262 (by decide) ?_
  refine j_iadd (pc := 264) C dL_law_264 ?_
  refine j_st (by rw [nI_p8]) ?_
  refine j_sld (pc := 265) C hX hbl hbA (show 9 * i + 8 < LL by omega) (by omega) dL_law_265 ?_
  refine jV_i (pc := 266) (k2 := 55 + 100 * i + 100) (n2 := 838 + 1000 * i + 1000) (np := 6) (As := [.int (xs (9 * i + 1)), .int (xs (9 * i + 2)), .int (xs (9 * i + 3)), .long y1, .long y2, .int (xs (9 * i + 8))]) C (ct_M_add hmB (xs (9 * i + 1)) (xs (9 * i + 2)) (xs (9 * i + 3)) (xs (9 * i + 8)) y1 y2) gL_law_X5_add rfl (by decide +kernel) ⟨by decide, by decide⟩ h42 rfl rfl rfl (Nat.le_of_ble_eq_true rfl) dL_law_266 (Nat.le_refl _) (Nat.le_refl _) ⟨by show 55 + 100 * i + 100 ≤ 601024; omega, by show 838 + 1000 * i + 1000 ≤ 7293034; omega⟩ (fun r2 L3 w3 hu => ?_)
  obtain ⟨w4, e4, hf4, hc4⟩ := hu
  cases e4
  have hgA := hag r2 w3 hf4 hc4
  obtain ⟨cp3, fq3, df3, E3, fo3, hcs3, hmd3, hO3, hk3⟩ := id hgA
  obtain ⟨_, _, _, _, _, _, _, _, _, hmB3⟩ := id hmd3
  have h42 := hmB3.1
  refine j_istore_6 (pc := 269) C dL_law_269 (by decide) rfl ?_
  refine j_aload_n (pc := 271) C rfl dL_law_271 rfl ?_
  refine jV_i0 (pc := 272) (k2 := 55 + 100 * i + 100) (n2 := 838 + 1000 * i + 1000) (np := 0) (As := []) C (ct_thr hmd3) gL_law_X5_thrown rfl (by decide +kernel) ⟨by decide, by decide⟩ h42 rfl rfl rfl (Nat.le_of_ble_eq_true rfl) dL_law_272 (Nat.le_refl _) (Nat.le_refl _) ⟨by show 55 + 100 * i + 100 ≤ 601024; omega, by show 838 + 1000 * i + 1000 ≤ 7293034; omega⟩ (fun v hv => ?_)
  refine j_st (by rw [hv]) ?_
  refine j_iload (pc := 275) C dL_law_275 rfl ?_
  refine j_icmp_eq (pc := 277) (tgt := 282) C dL_law_277 (by decide) (fun c277 => ?_) (fun c277 => ?_)
  · refine j_iload (pc := 282) C dL_law_282 rfl ?_
    refine j_if_ne (pc := 284) (tgt := 299) C dL_law_284 (by decide) (fun c284 => ?_) (fun c284 => ?_)
    · refine j_goto (pc := 299) (tgt := 1469) C dL_law_299 (by decide) ?_
      exact j_weak (by simp [lw1]) (hnext L2 w3 hgA.li)
    · refine j_aload_n (pc := 287) C rfl dL_law_287 rfl ?_
      refine j_iconst (pc := 288) (v := 0) C dL_law_288 (by decide) ?_
      refine j_lald (pc := 289) C hO3 rfl (show 0 < 1 by decide) (by decide) dL_law_289 ?_
      refine j_iload (pc := 290) C dL_law_290 rfl ?_
      refine j_i2l (pc := 292) C dL_law_292 ?_
      refine j_lcmp (pc := 293) C dL_law_293 ?_
      refine j_if_eq (pc := 294) (tgt := 299) C dL_law_294 (by decide) (fun c294 => ?_) (fun c294 => ?_)
      · have c294 := ez_c c294
        refine j_goto (pc := 299) (tgt := 1469) C dL_law_299 (by decide) ?_
        exact j_weak (by simp [lw1]) (hnext L2 w3 hgA.li)
      · have c294 := nz_c c294
        exact absurd (hk3 c284) c294
  · exact absurd rfl c277

set_option maxRecDepth 100000 in
set_option maxHeartbeats 8000000 in
theorem lawc_remove {p : Program} {l : Launch} {e : Env} {s : State} {m : MethodId} {below : List Frame} {meth : Method} {c : Code} {G : Gp} {b LL : Nat} {xs : Nat → Int32} (hlt : l.stackTraces = false) (hLL : LL ≤ 4608) (C : Cx p s m #[Value.ref b] c cL_law RL 7 wsL_law G (fun q => s.heap.size ≤ q) s.heap) (hX : va_X b LL xs s s.heap) (hbl : b < s.heap.size) {ad am : Nat → Nat} {ao : Nat} {Q : State → Prop} {i : Nat} (hi : 9 * i + 9 ≤ LL) {L : List Nat} {w : Wn} {th cp : Int32} {fq : Nat → Nat} {df : Nat → Int32} {E : Nat → EL} {fo : Nat → Int64} (hcs : CS G ad L w cp (cp = 1) fq df E) (hmd : MD G am L w th cp df fq E) (hO : Hs L w 54 ao (jarE G 1 fo)) (hnext : ∀ (L3 : List Nat) (w3 : Wn), LI G ad am ao L3 w3 → J p l e room_1 s m #[Value.ref b] below meth c G (fun q => s.heap.size ≤ q) s.heap 7 Q L3 w3 (55 + 100 * i + 100) (838 + 1000 * i + 1000) 1469 [some (.ref b), some (.ref (ad 0)), some (.ref (am 42)), some (.ref ao), some (.int (nI (9 * i))), none, none] []) : J p l e room_1 s m #[Value.ref b] below meth c G (fun q => s.heap.size ≤ q) s.heap 7 Q L w (55 + 100 * i) (838 + 1000 * i) 302 [some (.ref b), some (.ref (ad 0)), some (.ref (am 42)), some (.ref ao), some (.int (nI (9 * i))), none, none] [] := by
  have hbA : ¬ (fun q : Nat => s.heap.size ≤ q) b := Nat.not_le.mpr hbl
  refine j_aload_n (pc := 302) C rfl dL_law_302 rfl ?_
  refine j_aload_n (pc := 303) C rfl dL_law_303 rfl ?_
  refine j_iload (pc := 304) C dL_law_304 rfl ?_
  refine j_iconst (pc := 306) (v := 1) C dL_law_306 (by decide) ?_
  refine j_iadd (pc := 307) C dL_law_307 ?_
  refine j_st (by rw [nI_p1]) ?_
  refine j_sld (pc := 308) C hX hbl hbA (show 9 * i + 1 < LL by omega) (by omega) dL_law_308 ?_
  refine j_aload_n (pc := 309) C rfl dL_law_309 rfl ?_
  refine j_iload (pc := 310) C dL_law_310 rfl ?_
  refine j_iconst (pc := 312) (v := 2) C dL_law_312 (by decide) ?_
  refine j_iadd (pc := 313) C dL_law_313 ?_
  refine j_st (by rw [nI_p2]) ?_
  refine j_sld (pc := 314) C hX hbl hbA (show 9 * i + 2 < LL by omega) (by omega) dL_law_314 ?_
  refine j_aload_n (pc := 315) C rfl dL_law_315 rfl ?_
  refine jSW_i (pc := 316) (k2 := 55 + 100 * i + 100) (n2 := 838 + 1000 * i + 1000) (np := 4) (As := [.ref (ad 0), .int (xs (9 * i + 1)), .int (xs (9 * i + 2)), .ref ao]) C (ct_L_remove hcs.1 (ct_removeS hlt hcs (xs (9 * i + 1)) (xs (9 * i + 2))) (hp_remove (ad := ad) (cp := cp) (fq := fq) (df := df) (E := E) hO) (fun _ _ h => h.elim (fun z => Or.inl z.1) (fun z => Or.inr z.1))) gL_law_L_remove rfl (by decide +kernel) ⟨by decide, by decide⟩ rfl rfl (Nat.le_of_ble_eq_true rfl) dL_law_316 (Nat.le_refl _) (Nat.le_refl _) ⟨by show 55 + 100 * i + 100 ≤ 601024; omega, by show 838 + 1000 * i + 1000 ≤ 7293034; omega⟩ (fun k9 L2 w2 hk9 => ?_)
  obtain ⟨hm2, hag⟩ := ag_remove (L2 := L2) (w2 := w2) hcs hmd hO hk9
  obtain ⟨ns, ar, ac, mk, vl, ks, sz, co, ro, hmB⟩ := id hm2
  have h42 := hmB.1
  refine j_istore_5 (pc := 319) C dL_law_319 (by decide) rfl ?_
  refine j_aload_n (pc := 321) C rfl dL_law_321 rfl ?_
  refine j_aload_n (pc := 322) C rfl dL_law_322 rfl ?_
  refine j_iload (pc := 323) C dL_law_323 rfl ?_
  refine j_iconst (pc := 325) (v := 1) C dL_law_325 (by decide) ?_
  refine j_iadd (pc := 326) C dL_law_326 ?_
  refine j_st (by rw [nI_p1]) ?_
  refine j_sld (pc := 327) C hX hbl hbA (show 9 * i + 1 < LL by omega) (by omega) dL_law_327 ?_
  refine j_aload_n (pc := 328) C rfl dL_law_328 rfl ?_
  refine j_iload (pc := 329) C dL_law_329 rfl ?_
  refine j_iconst (pc := 331) (v := 2) C dL_law_331 (by decide) ?_
  refine j_iadd (pc := 332) C dL_law_332 ?_
  refine j_st (by rw [nI_p2]) ?_
  refine j_sld (pc := 333) C hX hbl hbA (show 9 * i + 2 < LL by omega) (by omega) dL_law_333 ?_
  refine jV_i (pc := 334) (k2 := 55 + 100 * i + 100) (n2 := 838 + 1000 * i + 1000) (np := 2) (As := [.int (xs (9 * i + 1)), .int (xs (9 * i + 2))]) C (ct_M_remove hmB (xs (9 * i + 1)) (xs (9 * i + 2))) gL_law_X5_remove rfl (by decide +kernel) ⟨by decide, by decide⟩ h42 rfl rfl rfl (Nat.le_of_ble_eq_true rfl) dL_law_334 (Nat.le_refl _) (Nat.le_refl _) ⟨by show 55 + 100 * i + 100 ≤ 601024; omega, by show 838 + 1000 * i + 1000 ≤ 7293034; omega⟩ (fun r2 L3 w3 hu => ?_)
  obtain ⟨w4, e4, hf4, hc4⟩ := hu
  cases e4
  have hgA := hag r2 w3 hf4 hc4
  obtain ⟨cp3, fq3, df3, E3, fo3, hcs3, hmd3, hO3, hk3⟩ := id hgA
  obtain ⟨_, _, _, _, _, _, _, _, _, hmB3⟩ := id hmd3
  have h42 := hmB3.1
  refine j_istore_6 (pc := 337) C dL_law_337 (by decide) rfl ?_
  refine j_aload_n (pc := 339) C rfl dL_law_339 rfl ?_
  refine jV_i0 (pc := 340) (k2 := 55 + 100 * i + 100) (n2 := 838 + 1000 * i + 1000) (np := 0) (As := []) C (ct_thr hmd3) gL_law_X5_thrown rfl (by decide +kernel) ⟨by decide, by decide⟩ h42 rfl rfl rfl (Nat.le_of_ble_eq_true rfl) dL_law_340 (Nat.le_refl _) (Nat.le_refl _) ⟨by show 55 + 100 * i + 100 ≤ 601024; omega, by show 838 + 1000 * i + 1000 ≤ 7293034; omega⟩ (fun v hv => ?_)
  refine j_st (by rw [hv]) ?_
  refine j_iload (pc := 343) C dL_law_343 rfl ?_
  refine j_icmp_eq (pc := 345) (tgt := 350) C dL_law_345 (by decide) (fun c345 => ?_) (fun c345 => ?_)
  · refine j_iload (pc := 350) C dL_law_350 rfl ?_
    refine j_if_ne (pc := 352) (tgt := 367) C dL_law_352 (by decide) (fun c352 => ?_) (fun c352 => ?_)
    · refine j_goto (pc := 367) (tgt := 1469) C dL_law_367 (by decide) ?_
      exact j_weak (by simp [lw1]) (hnext L2 w3 hgA.li)
    · refine j_aload_n (pc := 355) C rfl dL_law_355 rfl ?_
      refine j_iconst (pc := 356) (v := 0) C dL_law_356 (by decide) ?_
      refine j_lald (pc := 357) C hO3 rfl (show 0 < 1 by decide) (by decide) dL_law_357 ?_
      refine j_iload (pc := 358) C dL_law_358 rfl ?_
      refine j_i2l (pc := 360) C dL_law_360 ?_
      refine j_lcmp (pc := 361) C dL_law_361 ?_
      refine j_if_eq (pc := 362) (tgt := 367) C dL_law_362 (by decide) (fun c362 => ?_) (fun c362 => ?_)
      · have c362 := ez_c c362
        refine j_goto (pc := 367) (tgt := 1469) C dL_law_367 (by decide) ?_
        exact j_weak (by simp [lw1]) (hnext L2 w3 hgA.li)
      · have c362 := nz_c c362
        exact absurd (hk3 c352) c362
  · exact absurd rfl c345

set_option maxRecDepth 100000 in
set_option maxHeartbeats 8000000 in
theorem lawc_setDefault {p : Program} {l : Launch} {e : Env} {s : State} {m : MethodId} {below : List Frame} {meth : Method} {c : Code} {G : Gp} {b LL : Nat} {xs : Nat → Int32} (hlt : l.stackTraces = false) (hLL : LL ≤ 4608) (C : Cx p s m #[Value.ref b] c cL_law RL 7 wsL_law G (fun q => s.heap.size ≤ q) s.heap) (hX : va_X b LL xs s s.heap) (hbl : b < s.heap.size) {ad am : Nat → Nat} {ao : Nat} {Q : State → Prop} {i : Nat} (hi : 9 * i + 9 ≤ LL) {L : List Nat} {w : Wn} {th cp : Int32} {fq : Nat → Nat} {df : Nat → Int32} {E : Nat → EL} {fo : Nat → Int64} (hcs : CS G ad L w cp (cp = 1) fq df E) (hmd : MD G am L w th cp df fq E) (hO : Hs L w 54 ao (jarE G 1 fo)) (hnext : ∀ (L3 : List Nat) (w3 : Wn), LI G ad am ao L3 w3 → J p l e room_1 s m #[Value.ref b] below meth c G (fun q => s.heap.size ≤ q) s.heap 7 Q L3 w3 (55 + 100 * i + 100) (838 + 1000 * i + 1000) 1469 [some (.ref b), some (.ref (ad 0)), some (.ref (am 42)), some (.ref ao), some (.int (nI (9 * i))), none, none] []) : J p l e room_1 s m #[Value.ref b] below meth c G (fun q => s.heap.size ≤ q) s.heap 7 Q L w (55 + 100 * i) (838 + 1000 * i) 370 [some (.ref b), some (.ref (ad 0)), some (.ref (am 42)), some (.ref ao), some (.int (nI (9 * i))), none, none] [] := by
  have hbA : ¬ (fun q : Nat => s.heap.size ≤ q) b := Nat.not_le.mpr hbl
  refine j_aload_n (pc := 370) C rfl dL_law_370 rfl ?_
  refine j_aload_n (pc := 371) C rfl dL_law_371 rfl ?_
  refine j_iload (pc := 372) C dL_law_372 rfl ?_
  refine j_iconst (pc := 374) (v := 1) C dL_law_374 (by decide) ?_
  refine j_iadd (pc := 375) C dL_law_375 ?_
  refine j_st (by rw [nI_p1]) ?_
  refine j_sld (pc := 376) C hX hbl hbA (show 9 * i + 1 < LL by omega) (by omega) dL_law_376 ?_
  refine j_aload_n (pc := 377) C rfl dL_law_377 rfl ?_
  refine j_iload (pc := 378) C dL_law_378 rfl ?_
  refine j_iconst (pc := 380) (v := 2) C dL_law_380 (by decide) ?_
  refine j_iadd (pc := 381) C dL_law_381 ?_
  refine j_st (by rw [nI_p2]) ?_
  refine j_sld (pc := 382) C hX hbl hbA (show 9 * i + 2 < LL by omega) (by omega) dL_law_382 ?_
  refine j_aload_n (pc := 383) C rfl dL_law_383 rfl ?_
  refine jSW_i (pc := 384) (k2 := 55 + 100 * i + 100) (n2 := 838 + 1000 * i + 1000) (np := 4) (As := [.ref (ad 0), .int (xs (9 * i + 1)), .int (xs (9 * i + 2)), .ref ao]) C (ct_L_setDefault hcs.1 (ct_setDefault hlt hcs (xs (9 * i + 1)) (xs (9 * i + 2))) (hp_setDefault (ad := ad) (cp := cp) (fq := fq) (df := df) (E := E) hO) (fun _ _ h => h.1)) gL_law_L_setDefault rfl (by decide +kernel) ⟨by decide, by decide⟩ rfl rfl (Nat.le_of_ble_eq_true rfl) dL_law_384 (Nat.le_refl _) (Nat.le_refl _) ⟨by show 55 + 100 * i + 100 ≤ 601024; omega, by show 838 + 1000 * i + 1000 ≤ 7293034; omega⟩ (fun k9 L2 w2 hk9 => ?_)
  obtain ⟨hm2, hag⟩ := ag_setDefault (L2 := L2) (w2 := w2) hcs hmd hO hk9
  obtain ⟨ns, ar, ac, mk, vl, ks, sz, co, ro, hmB⟩ := id hm2
  have h42 := hmB.1
  refine j_istore_5 (pc := 387) C dL_law_387 (by decide) rfl ?_
  refine j_aload_n (pc := 389) C rfl dL_law_389 rfl ?_
  refine j_aload_n (pc := 390) C rfl dL_law_390 rfl ?_
  refine j_iload (pc := 391) C dL_law_391 rfl ?_
  refine j_iconst (pc := 393) (v := 1) C dL_law_393 (by decide) ?_
  refine j_iadd (pc := 394) C dL_law_394 ?_
  refine j_st (by rw [nI_p1]) ?_
  refine j_sld (pc := 395) C hX hbl hbA (show 9 * i + 1 < LL by omega) (by omega) dL_law_395 ?_
  refine j_aload_n (pc := 396) C rfl dL_law_396 rfl ?_
  refine j_iload (pc := 397) C dL_law_397 rfl ?_
  refine j_iconst (pc := 399) (v := 2) C dL_law_399 (by decide) ?_
  refine j_iadd (pc := 400) C dL_law_400 ?_
  refine j_st (by rw [nI_p2]) ?_
  refine j_sld (pc := 401) C hX hbl hbA (show 9 * i + 2 < LL by omega) (by omega) dL_law_401 ?_
  refine jV_i (pc := 402) (k2 := 55 + 100 * i + 100) (n2 := 838 + 1000 * i + 1000) (np := 2) (As := [.int (xs (9 * i + 1)), .int (xs (9 * i + 2))]) C (ct_M_setDefault hmB hcs.cp (xs (9 * i + 1)) (xs (9 * i + 2))) gL_law_X5_setDefault rfl (by decide +kernel) ⟨by decide, by decide⟩ h42 rfl rfl rfl (Nat.le_of_ble_eq_true rfl) dL_law_402 (Nat.le_refl _) (Nat.le_refl _) ⟨by show 55 + 100 * i + 100 ≤ 601024; omega, by show 838 + 1000 * i + 1000 ≤ 7293034; omega⟩ (fun r2 L3 w3 hu => ?_)
  obtain ⟨w4, e4, hf4, hc4⟩ := hu
  cases e4
  have hgA := hag r2 w3 hf4 hc4
  obtain ⟨cp3, fq3, df3, E3, fo3, hcs3, hmd3, hO3, hk3⟩ := id hgA
  obtain ⟨_, _, _, _, _, _, _, _, _, hmB3⟩ := id hmd3
  have h42 := hmB3.1
  refine j_istore_6 (pc := 405) C dL_law_405 (by decide) rfl ?_
  refine j_aload_n (pc := 407) C rfl dL_law_407 rfl ?_
  refine jV_i0 (pc := 408) (k2 := 55 + 100 * i + 100) (n2 := 838 + 1000 * i + 1000) (np := 0) (As := []) C (ct_thr hmd3) gL_law_X5_thrown rfl (by decide +kernel) ⟨by decide, by decide⟩ h42 rfl rfl rfl (Nat.le_of_ble_eq_true rfl) dL_law_408 (Nat.le_refl _) (Nat.le_refl _) ⟨by show 55 + 100 * i + 100 ≤ 601024; omega, by show 838 + 1000 * i + 1000 ≤ 7293034; omega⟩ (fun v hv => ?_)
  refine j_st (by rw [hv]) ?_
  refine j_iload (pc := 411) C dL_law_411 rfl ?_
  refine j_icmp_eq (pc := 413) (tgt := 418) C dL_law_413 (by decide) (fun c413 => ?_) (fun c413 => ?_)
  · refine j_iload (pc := 418) C dL_law_418 rfl ?_
    refine j_if_ne (pc := 420) (tgt := 435) C dL_law_420 (by decide) (fun c420 => ?_) (fun c420 => ?_)
    · refine j_goto (pc := 435) (tgt := 1469) C dL_law_435 (by decide) ?_
      exact j_weak (by simp [lw1]) (hnext L2 w3 hgA.li)
    · refine j_aload_n (pc := 423) C rfl dL_law_423 rfl ?_
      refine j_iconst (pc := 424) (v := 0) C dL_law_424 (by decide) ?_
      refine j_lald (pc := 425) C hO3 rfl (show 0 < 1 by decide) (by decide) dL_law_425 ?_
      refine j_iload (pc := 426) C dL_law_426 rfl ?_
      refine j_i2l (pc := 428) C dL_law_428 ?_
      refine j_lcmp (pc := 429) C dL_law_429 ?_
      refine j_if_eq (pc := 430) (tgt := 435) C dL_law_430 (by decide) (fun c430 => ?_) (fun c430 => ?_)
      · have c430 := ez_c c430
        refine j_goto (pc := 435) (tgt := 1469) C dL_law_435 (by decide) ?_
        exact j_weak (by simp [lw1]) (hnext L2 w3 hgA.li)
      · have c430 := nz_c c430
        exact absurd (hk3 c420) c430
  · exact absurd rfl c413

set_option maxRecDepth 100000 in
set_option maxHeartbeats 8000000 in
theorem lawc_setFrequency {p : Program} {l : Launch} {e : Env} {s : State} {m : MethodId} {below : List Frame} {meth : Method} {c : Code} {G : Gp} {b LL : Nat} {xs : Nat → Int32} (hlt : l.stackTraces = false) (hLL : LL ≤ 4608) (C : Cx p s m #[Value.ref b] c cL_law RL 7 wsL_law G (fun q => s.heap.size ≤ q) s.heap) (hX : va_X b LL xs s s.heap) (hbl : b < s.heap.size) {ad am : Nat → Nat} {ao : Nat} {Q : State → Prop} {i : Nat} (hi : 9 * i + 9 ≤ LL) {L : List Nat} {w : Wn} {th cp : Int32} {fq : Nat → Nat} {df : Nat → Int32} {E : Nat → EL} {fo : Nat → Int64} (hcs : CS G ad L w cp (cp = 1) fq df E) (hmd : MD G am L w th cp df fq E) (hO : Hs L w 54 ao (jarE G 1 fo)) (hnext : ∀ (L3 : List Nat) (w3 : Wn), LI G ad am ao L3 w3 → J p l e room_1 s m #[Value.ref b] below meth c G (fun q => s.heap.size ≤ q) s.heap 7 Q L3 w3 (55 + 100 * i + 100) (838 + 1000 * i + 1000) 1469 [some (.ref b), some (.ref (ad 0)), some (.ref (am 42)), some (.ref ao), some (.int (nI (9 * i))), none, none] []) : J p l e room_1 s m #[Value.ref b] below meth c G (fun q => s.heap.size ≤ q) s.heap 7 Q L w (55 + 100 * i) (838 + 1000 * i) 438 [some (.ref b), some (.ref (ad 0)), some (.ref (am 42)), some (.ref ao), some (.int (nI (9 * i))), none, none] [] := by
  have hbA : ¬ (fun q : Nat => s.heap.size ≤ q) b := Nat.not_le.mpr hbl
  refine j_aload_n (pc := 438) C rfl dL_law_438 rfl ?_
  refine j_aload_n (pc := 439) C rfl dL_law_439 rfl ?_
  refine j_iload (pc := 440) C dL_law_440 rfl ?_
  refine j_iconst (pc := 442) (v := 1) C dL_law_442 (by decide) ?_
  refine j_iadd (pc := 443) C dL_law_443 ?_
  refine j_st (by rw [nI_p1]) ?_
  refine j_sld (pc := 444) C hX hbl hbA (show 9 * i + 1 < LL by omega) (by omega) dL_law_444 ?_
  refine j_aload_n (pc := 445) C rfl dL_law_445 rfl ?_
  refine j_iload (pc := 446) C dL_law_446 rfl ?_
  refine j_iconst (pc := 448) (v := 2) C dL_law_448 (by decide) ?_
  refine j_iadd (pc := 449) C dL_law_449 ?_
  refine j_st (by rw [nI_p2]) ?_
  refine j_sld (pc := 450) C hX hbl hbA (show 9 * i + 2 < LL by omega) (by omega) dL_law_450 ?_
  refine j_aload_n (pc := 451) C rfl dL_law_451 rfl ?_
  refine jSW_i (pc := 452) (k2 := 55 + 100 * i + 100) (n2 := 838 + 1000 * i + 1000) (np := 4) (As := [.ref (ad 0), .int (xs (9 * i + 1)), .int (xs (9 * i + 2)), .ref ao]) C (ct_L_setFrequency hcs.1 (ct_setFrequency hlt hcs (xs (9 * i + 1)) (xs (9 * i + 2))) (hp_setFrequency (ad := ad) (cp := cp) (fq := fq) (df := df) (E := E) hO) (fun _ _ h => h.1)) gL_law_L_setFrequency rfl (by decide +kernel) ⟨by decide, by decide⟩ rfl rfl (Nat.le_of_ble_eq_true rfl) dL_law_452 (Nat.le_refl _) (Nat.le_refl _) ⟨by show 55 + 100 * i + 100 ≤ 601024; omega, by show 838 + 1000 * i + 1000 ≤ 7293034; omega⟩ (fun k9 L2 w2 hk9 => ?_)
  obtain ⟨hm2, hag⟩ := ag_setFrequency (L2 := L2) (w2 := w2) hcs hmd hO hk9
  obtain ⟨ns, ar, ac, mk, vl, ks, sz, co, ro, hmB⟩ := id hm2
  have h42 := hmB.1
  refine j_istore_5 (pc := 455) C dL_law_455 (by decide) rfl ?_
  refine j_aload_n (pc := 457) C rfl dL_law_457 rfl ?_
  refine j_aload_n (pc := 458) C rfl dL_law_458 rfl ?_
  refine j_iload (pc := 459) C dL_law_459 rfl ?_
  refine j_iconst (pc := 461) (v := 1) C dL_law_461 (by decide) ?_
  refine j_iadd (pc := 462) C dL_law_462 ?_
  refine j_st (by rw [nI_p1]) ?_
  refine j_sld (pc := 463) C hX hbl hbA (show 9 * i + 1 < LL by omega) (by omega) dL_law_463 ?_
  refine j_aload_n (pc := 464) C rfl dL_law_464 rfl ?_
  refine j_iload (pc := 465) C dL_law_465 rfl ?_
  refine j_iconst (pc := 467) (v := 2) C dL_law_467 (by decide) ?_
  refine j_iadd (pc := 468) C dL_law_468 ?_
  refine j_st (by rw [nI_p2]) ?_
  refine j_sld (pc := 469) C hX hbl hbA (show 9 * i + 2 < LL by omega) (by omega) dL_law_469 ?_
  refine jV_i (pc := 470) (k2 := 55 + 100 * i + 100) (n2 := 838 + 1000 * i + 1000) (np := 2) (As := [.int (xs (9 * i + 1)), .int (xs (9 * i + 2))]) C (ct_M_setFrequency hmB hcs.cp (xs (9 * i + 1)) (xs (9 * i + 2))) gL_law_X5_setFrequency rfl (by decide +kernel) ⟨by decide, by decide⟩ h42 rfl rfl rfl (Nat.le_of_ble_eq_true rfl) dL_law_470 (Nat.le_refl _) (Nat.le_refl _) ⟨by show 55 + 100 * i + 100 ≤ 601024; omega, by show 838 + 1000 * i + 1000 ≤ 7293034; omega⟩ (fun r2 L3 w3 hu => ?_)
  obtain ⟨w4, e4, hf4, hc4⟩ := hu
  cases e4
  have hgA := hag r2 w3 hf4 hc4
  obtain ⟨cp3, fq3, df3, E3, fo3, hcs3, hmd3, hO3, hk3⟩ := id hgA
  obtain ⟨_, _, _, _, _, _, _, _, _, hmB3⟩ := id hmd3
  have h42 := hmB3.1
  refine j_istore_6 (pc := 473) C dL_law_473 (by decide) rfl ?_
  refine j_aload_n (pc := 475) C rfl dL_law_475 rfl ?_
  refine jV_i0 (pc := 476) (k2 := 55 + 100 * i + 100) (n2 := 838 + 1000 * i + 1000) (np := 0) (As := []) C (ct_thr hmd3) gL_law_X5_thrown rfl (by decide +kernel) ⟨by decide, by decide⟩ h42 rfl rfl rfl (Nat.le_of_ble_eq_true rfl) dL_law_476 (Nat.le_refl _) (Nat.le_refl _) ⟨by show 55 + 100 * i + 100 ≤ 601024; omega, by show 838 + 1000 * i + 1000 ≤ 7293034; omega⟩ (fun v hv => ?_)
  refine j_st (by rw [hv]) ?_
  refine j_iload (pc := 479) C dL_law_479 rfl ?_
  refine j_icmp_eq (pc := 481) (tgt := 486) C dL_law_481 (by decide) (fun c481 => ?_) (fun c481 => ?_)
  · refine j_iload (pc := 486) C dL_law_486 rfl ?_
    refine j_if_ne (pc := 488) (tgt := 503) C dL_law_488 (by decide) (fun c488 => ?_) (fun c488 => ?_)
    · refine j_goto (pc := 503) (tgt := 1469) C dL_law_503 (by decide) ?_
      exact j_weak (by simp [lw1]) (hnext L2 w3 hgA.li)
    · refine j_aload_n (pc := 491) C rfl dL_law_491 rfl ?_
      refine j_iconst (pc := 492) (v := 0) C dL_law_492 (by decide) ?_
      refine j_lald (pc := 493) C hO3 rfl (show 0 < 1 by decide) (by decide) dL_law_493 ?_
      refine j_iload (pc := 494) C dL_law_494 rfl ?_
      refine j_i2l (pc := 496) C dL_law_496 ?_
      refine j_lcmp (pc := 497) C dL_law_497 ?_
      refine j_if_eq (pc := 498) (tgt := 503) C dL_law_498 (by decide) (fun c498 => ?_) (fun c498 => ?_)
      · have c498 := ez_c c498
        refine j_goto (pc := 503) (tgt := 1469) C dL_law_503 (by decide) ?_
        exact j_weak (by simp [lw1]) (hnext L2 w3 hgA.li)
      · have c498 := nz_c c498
        exact absurd (hk3 c488) c498
  · exact absurd rfl c481

set_option maxRecDepth 100000 in
set_option maxHeartbeats 8000000 in
theorem lawc_rules {p : Program} {l : Launch} {e : Env} {s : State} {m : MethodId} {below : List Frame} {meth : Method} {c : Code} {G : Gp} {b LL : Nat} {xs : Nat → Int32} (hlt : l.stackTraces = false) (hLL : LL ≤ 4608) (C : Cx p s m #[Value.ref b] c cL_law RL 7 wsL_law G (fun q => s.heap.size ≤ q) s.heap) (hX : va_X b LL xs s s.heap) (hbl : b < s.heap.size) {ad am : Nat → Nat} {ao : Nat} {Q : State → Prop} {i : Nat} (hi : 9 * i + 9 ≤ LL) {L : List Nat} {w : Wn} {th cp : Int32} {fq : Nat → Nat} {df : Nat → Int32} {E : Nat → EL} {fo : Nat → Int64} (hcs : CS G ad L w cp (cp = 1) fq df E) (hmd : MD G am L w th cp df fq E) (hO : Hs L w 54 ao (jarE G 1 fo)) (hnext : ∀ (L3 : List Nat) (w3 : Wn), LI G ad am ao L3 w3 → J p l e room_1 s m #[Value.ref b] below meth c G (fun q => s.heap.size ≤ q) s.heap 7 Q L3 w3 (55 + 100 * i + 100) (838 + 1000 * i + 1000) 1469 [some (.ref b), some (.ref (ad 0)), some (.ref (am 42)), some (.ref ao), some (.int (nI (9 * i))), none, none] []) : J p l e room_1 s m #[Value.ref b] below meth c G (fun q => s.heap.size ≤ q) s.heap 7 Q L w (55 + 100 * i) (838 + 1000 * i) 506 [some (.ref b), some (.ref (ad 0)), some (.ref (am 42)), some (.ref ao), some (.int (nI (9 * i))), none, none] [] := by
  have hbA : ¬ (fun q : Nat => s.heap.size ≤ q) b := Nat.not_le.mpr hbl
  refine j_aload_n (pc := 506) C rfl dL_law_506 rfl ?_
  refine j_aload_n (pc := 507) C rfl dL_law_507 rfl ?_
  refine j_iload (pc := 508) C dL_law_508 rfl ?_
  refine j_iconst (pc := 510) (v := 1) C dL_law_510 (by decide) ?_
  refine j_iadd (pc := 511) C dL_law_511 ?_
  refine j_st (by rw [nI_p1]) ?_
  refine j_sld (pc := 512) C hX hbl hbA (show 9 * i + 1 < LL by omega) (by omega) dL_law_512 ?_
  refine j_aload_n (pc := 513) C rfl dL_law_513 rfl ?_
  refine jSW_i (pc := 514) (k2 := 55 + 100 * i + 100) (n2 := 838 + 1000 * i + 1000) (np := 3) (As := [.ref (ad 0), .int (xs (9 * i + 1)), .ref ao]) C (ct_L_rules hcs.1 (ct_rules hlt hcs (xs (9 * i + 1))) (hp_rules (ad := ad) (cp := cp) (fq := fq) (df := df) (E := E) hO) (fun _ _ h => h.1)) gL_law_L_rules rfl (by decide +kernel) ⟨by decide, by decide⟩ rfl rfl (Nat.le_of_ble_eq_true rfl) dL_law_514 (Nat.le_refl _) (Nat.le_refl _) ⟨by show 55 + 100 * i + 100 ≤ 601024; omega, by show 838 + 1000 * i + 1000 ≤ 7293034; omega⟩ (fun k9 L2 w2 hk9 => ?_)
  obtain ⟨hm2, hag⟩ := ag_rules (L2 := L2) (w2 := w2) hcs hmd hO hk9
  obtain ⟨ns, ar, ac, mk, vl, ks, sz, co, ro, hmB⟩ := id hm2
  have h42 := hmB.1
  refine j_istore_5 (pc := 517) C dL_law_517 (by decide) rfl ?_
  refine j_aload_n (pc := 519) C rfl dL_law_519 rfl ?_
  refine j_aload_n (pc := 520) C rfl dL_law_520 rfl ?_
  refine j_iload (pc := 521) C dL_law_521 rfl ?_
  refine j_iconst (pc := 523) (v := 1) C dL_law_523 (by decide) ?_
  refine j_iadd (pc := 524) C dL_law_524 ?_
  refine j_st (by rw [nI_p1]) ?_
  refine j_sld (pc := 525) C hX hbl hbA (show 9 * i + 1 < LL by omega) (by omega) dL_law_525 ?_
  refine jV_i (pc := 526) (k2 := 55 + 100 * i + 100) (n2 := 838 + 1000 * i + 1000) (np := 1) (As := [.int (xs (9 * i + 1))]) C (ct_M_rules hmB (xs (9 * i + 1))) gL_law_X5_rules rfl (by decide +kernel) ⟨by decide, by decide⟩ h42 rfl rfl rfl (Nat.le_of_ble_eq_true rfl) dL_law_526 (Nat.le_refl _) (Nat.le_refl _) ⟨by show 55 + 100 * i + 100 ≤ 601024; omega, by show 838 + 1000 * i + 1000 ≤ 7293034; omega⟩ (fun r2 L3 w3 hu => ?_)
  obtain ⟨w4, e4, hf4, hc4⟩ := hu
  cases e4
  have hgA := hag r2 w3 hf4 hc4
  obtain ⟨cp3, fq3, df3, E3, fo3, hcs3, hmd3, hO3, hk3⟩ := id hgA
  obtain ⟨_, _, _, _, _, _, _, _, _, hmB3⟩ := id hmd3
  have h42 := hmB3.1
  refine j_istore_6 (pc := 529) C dL_law_529 (by decide) rfl ?_
  refine j_aload_n (pc := 531) C rfl dL_law_531 rfl ?_
  refine jV_i0 (pc := 532) (k2 := 55 + 100 * i + 100) (n2 := 838 + 1000 * i + 1000) (np := 0) (As := []) C (ct_thr hmd3) gL_law_X5_thrown rfl (by decide +kernel) ⟨by decide, by decide⟩ h42 rfl rfl rfl (Nat.le_of_ble_eq_true rfl) dL_law_532 (Nat.le_refl _) (Nat.le_refl _) ⟨by show 55 + 100 * i + 100 ≤ 601024; omega, by show 838 + 1000 * i + 1000 ≤ 7293034; omega⟩ (fun v hv => ?_)
  refine j_st (by rw [hv]) ?_
  refine j_iload (pc := 535) C dL_law_535 rfl ?_
  refine j_icmp_eq (pc := 537) (tgt := 542) C dL_law_537 (by decide) (fun c537 => ?_) (fun c537 => ?_)
  · refine j_iload (pc := 542) C dL_law_542 rfl ?_
    refine j_if_ne (pc := 544) (tgt := 559) C dL_law_544 (by decide) (fun c544 => ?_) (fun c544 => ?_)
    · refine j_goto (pc := 559) (tgt := 1469) C dL_law_559 (by decide) ?_
      exact j_weak (by simp [lw1]) (hnext L2 w3 hgA.li)
    · refine j_aload_n (pc := 547) C rfl dL_law_547 rfl ?_
      refine j_iconst (pc := 548) (v := 0) C dL_law_548 (by decide) ?_
      refine j_lald (pc := 549) C hO3 rfl (show 0 < 1 by decide) (by decide) dL_law_549 ?_
      refine j_iload (pc := 550) C dL_law_550 rfl ?_
      refine j_i2l (pc := 552) C dL_law_552 ?_
      refine j_lcmp (pc := 553) C dL_law_553 ?_
      refine j_if_eq (pc := 554) (tgt := 559) C dL_law_554 (by decide) (fun c554 => ?_) (fun c554 => ?_)
      · have c554 := ez_c c554
        refine j_goto (pc := 559) (tgt := 1469) C dL_law_559 (by decide) ?_
        exact j_weak (by simp [lw1]) (hnext L2 w3 hgA.li)
      · have c554 := nz_c c554
        exact absurd (hk3 c544) c554
  · exact absurd rfl c537

set_option maxRecDepth 100000 in
set_option maxHeartbeats 8000000 in
theorem lawc_hider {p : Program} {l : Launch} {e : Env} {s : State} {m : MethodId} {below : List Frame} {meth : Method} {c : Code} {G : Gp} {b LL : Nat} {xs : Nat → Int32} (hlt : l.stackTraces = false) (hLL : LL ≤ 4608) (C : Cx p s m #[Value.ref b] c cL_law RL 7 wsL_law G (fun q => s.heap.size ≤ q) s.heap) (hX : va_X b LL xs s s.heap) (hbl : b < s.heap.size) {ad am : Nat → Nat} {ao : Nat} {Q : State → Prop} {i : Nat} (hi : 9 * i + 9 ≤ LL) {L : List Nat} {w : Wn} {th cp : Int32} {fq : Nat → Nat} {df : Nat → Int32} {E : Nat → EL} {fo : Nat → Int64} (hcs : CS G ad L w cp (cp = 1) fq df E) (hmd : MD G am L w th cp df fq E) (hO : Hs L w 54 ao (jarE G 1 fo)) (hnext : ∀ (L3 : List Nat) (w3 : Wn), LI G ad am ao L3 w3 → J p l e room_1 s m #[Value.ref b] below meth c G (fun q => s.heap.size ≤ q) s.heap 7 Q L3 w3 (55 + 100 * i + 100) (838 + 1000 * i + 1000) 1469 [some (.ref b), some (.ref (ad 0)), some (.ref (am 42)), some (.ref ao), some (.int (nI (9 * i))), none, none] []) : J p l e room_1 s m #[Value.ref b] below meth c G (fun q => s.heap.size ≤ q) s.heap 7 Q L w (55 + 100 * i) (838 + 1000 * i) 562 [some (.ref b), some (.ref (ad 0)), some (.ref (am 42)), some (.ref ao), some (.int (nI (9 * i))), none, none] [] := by
  have hbA : ¬ (fun q : Nat => s.heap.size ≤ q) b := Nat.not_le.mpr hbl
  refine j_aload_n (pc := 562) C rfl dL_law_562 rfl ?_
  refine j_aload_n (pc := 563) C rfl dL_law_563 rfl ?_
  refine j_iload (pc := 564) C dL_law_564 rfl ?_
  refine j_iconst (pc := 566) (v := 1) C dL_law_566 (by decide) ?_
  refine j_iadd (pc := 567) C dL_law_567 ?_
  refine j_st (by rw [nI_p1]) ?_
  refine j_sld (pc := 568) C hX hbl hbA (show 9 * i + 1 < LL by omega) (by omega) dL_law_568 ?_
  refine j_aload_n (pc := 569) C rfl dL_law_569 rfl ?_
  refine j_iload (pc := 570) C dL_law_570 rfl ?_
  refine j_iconst (pc := 572) (v := 2) C dL_law_572 (by decide) ?_
  refine j_iadd (pc := 573) C dL_law_573 ?_
  refine j_st (by rw [nI_p2]) ?_
  refine j_sld (pc := 574) C hX hbl hbA (show 9 * i + 2 < LL by omega) (by omega) dL_law_574 ?_
  refine j_aload_n (pc := 575) C rfl dL_law_575 rfl ?_
  refine jSW_i (pc := 576) (k2 := 55 + 100 * i + 100) (n2 := 838 + 1000 * i + 1000) (np := 4) (As := [.ref (ad 0), .int (xs (9 * i + 1)), .int (xs (9 * i + 2)), .ref ao]) C (ct_L_hider hcs.1 (ct_hider hlt hcs (xs (9 * i + 1)) (xs (9 * i + 2))) (hp_hider (ad := ad) (cp := cp) (fq := fq) (df := df) (E := E) hO) (fun _ _ h => h.elim (fun z => Or.inl z.1) (fun z => Or.inr z.1))) gL_law_L_hider rfl (by decide +kernel) ⟨by decide, by decide⟩ rfl rfl (Nat.le_of_ble_eq_true rfl) dL_law_576 (Nat.le_refl _) (Nat.le_refl _) ⟨by show 55 + 100 * i + 100 ≤ 601024; omega, by show 838 + 1000 * i + 1000 ≤ 7293034; omega⟩ (fun k9 L2 w2 hk9 => ?_)
  obtain ⟨hm2, hag⟩ := ag_hider (L2 := L2) (w2 := w2) hcs hmd hO hk9
  obtain ⟨ns, ar, ac, mk, vl, ks, sz, co, ro, hmB⟩ := id hm2
  have h42 := hmB.1
  refine j_istore_5 (pc := 579) C dL_law_579 (by decide) rfl ?_
  refine j_aload_n (pc := 581) C rfl dL_law_581 rfl ?_
  refine j_aload_n (pc := 582) C rfl dL_law_582 rfl ?_
  refine j_iload (pc := 583) C dL_law_583 rfl ?_
  refine j_iconst (pc := 585) (v := 1) C dL_law_585 (by decide) ?_
  refine j_iadd (pc := 586) C dL_law_586 ?_
  refine j_st (by rw [nI_p1]) ?_
  refine j_sld (pc := 587) C hX hbl hbA (show 9 * i + 1 < LL by omega) (by omega) dL_law_587 ?_
  refine j_aload_n (pc := 588) C rfl dL_law_588 rfl ?_
  refine j_iload (pc := 589) C dL_law_589 rfl ?_
  refine j_iconst (pc := 591) (v := 2) C dL_law_591 (by decide) ?_
  refine j_iadd (pc := 592) C dL_law_592 ?_
  refine j_st (by rw [nI_p2]) ?_
  refine j_sld (pc := 593) C hX hbl hbA (show 9 * i + 2 < LL by omega) (by omega) dL_law_593 ?_
  refine jV_i (pc := 594) (k2 := 55 + 100 * i + 100) (n2 := 838 + 1000 * i + 1000) (np := 2) (As := [.int (xs (9 * i + 1)), .int (xs (9 * i + 2))]) C (ct_M_hider hmB (xs (9 * i + 1)) (xs (9 * i + 2))) gL_law_X5_hider rfl (by decide +kernel) ⟨by decide, by decide⟩ h42 rfl rfl rfl (Nat.le_of_ble_eq_true rfl) dL_law_594 (Nat.le_refl _) (Nat.le_refl _) ⟨by show 55 + 100 * i + 100 ≤ 601024; omega, by show 838 + 1000 * i + 1000 ≤ 7293034; omega⟩ (fun r2 L3 w3 hu => ?_)
  obtain ⟨w4, e4, hf4, hc4⟩ := hu
  cases e4
  have hgA := hag r2 w3 hf4 hc4
  obtain ⟨cp3, fq3, df3, E3, fo3, hcs3, hmd3, hO3, hk3⟩ := id hgA
  obtain ⟨_, _, _, _, _, _, _, _, _, hmB3⟩ := id hmd3
  have h42 := hmB3.1
  refine j_istore_6 (pc := 597) C dL_law_597 (by decide) rfl ?_
  refine j_aload_n (pc := 599) C rfl dL_law_599 rfl ?_
  refine jV_i0 (pc := 600) (k2 := 55 + 100 * i + 100) (n2 := 838 + 1000 * i + 1000) (np := 0) (As := []) C (ct_thr hmd3) gL_law_X5_thrown rfl (by decide +kernel) ⟨by decide, by decide⟩ h42 rfl rfl rfl (Nat.le_of_ble_eq_true rfl) dL_law_600 (Nat.le_refl _) (Nat.le_refl _) ⟨by show 55 + 100 * i + 100 ≤ 601024; omega, by show 838 + 1000 * i + 1000 ≤ 7293034; omega⟩ (fun v hv => ?_)
  refine j_st (by rw [hv]) ?_
  refine j_iload (pc := 603) C dL_law_603 rfl ?_
  refine j_icmp_eq (pc := 605) (tgt := 610) C dL_law_605 (by decide) (fun c605 => ?_) (fun c605 => ?_)
  · refine j_iload (pc := 610) C dL_law_610 rfl ?_
    refine j_if_ne (pc := 612) (tgt := 627) C dL_law_612 (by decide) (fun c612 => ?_) (fun c612 => ?_)
    · refine j_goto (pc := 627) (tgt := 1469) C dL_law_627 (by decide) ?_
      exact j_weak (by simp [lw1]) (hnext L2 w3 hgA.li)
    · refine j_aload_n (pc := 615) C rfl dL_law_615 rfl ?_
      refine j_iconst (pc := 616) (v := 0) C dL_law_616 (by decide) ?_
      refine j_lald (pc := 617) C hO3 rfl (show 0 < 1 by decide) (by decide) dL_law_617 ?_
      refine j_iload (pc := 618) C dL_law_618 rfl ?_
      refine j_i2l (pc := 620) C dL_law_620 ?_
      refine j_lcmp (pc := 621) C dL_law_621 ?_
      refine j_if_eq (pc := 622) (tgt := 627) C dL_law_622 (by decide) (fun c622 => ?_) (fun c622 => ?_)
      · have c622 := ez_c c622
        refine j_goto (pc := 627) (tgt := 1469) C dL_law_627 (by decide) ?_
        exact j_weak (by simp [lw1]) (hnext L2 w3 hgA.li)
      · have c622 := nz_c c622
        exact absurd (hk3 c612) c622
  · exact absurd rfl c605

set_option maxRecDepth 100000 in
set_option maxHeartbeats 8000000 in
theorem lawc_compile {p : Program} {l : Launch} {e : Env} {s : State} {m : MethodId} {below : List Frame} {meth : Method} {c : Code} {G : Gp} {b LL : Nat} {xs : Nat → Int32} (hlt : l.stackTraces = false) (hLL : LL ≤ 4608) (C : Cx p s m #[Value.ref b] c cL_law RL 7 wsL_law G (fun q => s.heap.size ≤ q) s.heap) (hX : va_X b LL xs s s.heap) (hbl : b < s.heap.size) {ad am : Nat → Nat} {ao : Nat} {Q : State → Prop} {i : Nat} (hi : 9 * i + 9 ≤ LL) {L : List Nat} {w : Wn} {th cp : Int32} {fq : Nat → Nat} {df : Nat → Int32} {E : Nat → EL} {fo : Nat → Int64} (hcs : CS G ad L w cp (cp = 1) fq df E) (hmd : MD G am L w th cp df fq E) (hO : Hs L w 54 ao (jarE G 1 fo)) (hnext : ∀ (L3 : List Nat) (w3 : Wn), LI G ad am ao L3 w3 → J p l e room_1 s m #[Value.ref b] below meth c G (fun q => s.heap.size ≤ q) s.heap 7 Q L3 w3 (55 + 100 * i + 100) (838 + 1000 * i + 1000) 1469 [some (.ref b), some (.ref (ad 0)), some (.ref (am 42)), some (.ref ao), some (.int (nI (9 * i))), none, none] []) : J p l e room_1 s m #[Value.ref b] below meth c G (fun q => s.heap.size ≤ q) s.heap 7 Q L w (55 + 100 * i) (838 + 1000 * i) 630 [some (.ref b), some (.ref (ad 0)), some (.ref (am 42)), some (.ref ao), some (.int (nI (9 * i))), none, none] [] := by
  have hbA : ¬ (fun q : Nat => s.heap.size ≤ q) b := Nat.not_le.mpr hbl
  refine j_aload_n (pc := 630) C rfl dL_law_630 rfl ?_
  refine j_aload_n (pc := 631) C rfl dL_law_631 rfl ?_
  refine j_iload (pc := 632) C dL_law_632 rfl ?_
  refine j_iconst (pc := 634) (v := 1) C dL_law_634 (by decide) ?_
  refine j_iadd (pc := 635) C dL_law_635 ?_
  refine j_st (by rw [nI_p1]) ?_
  refine j_sld (pc := 636) C hX hbl hbA (show 9 * i + 1 < LL by omega) (by omega) dL_law_636 ?_
  refine j_aload_n (pc := 637) C rfl dL_law_637 rfl ?_
  refine jSW_i (pc := 638) (k2 := 55 + 100 * i + 100) (n2 := 838 + 1000 * i + 1000) (np := 3) (As := [.ref (ad 0), .int (xs (9 * i + 1)), .ref ao]) C (ct_L_compile hcs.1 (ct_compile hlt hcs (xs (9 * i + 1))) (hp_compile (ad := ad) (cp := cp) (fq := fq) (df := df) (E := E) hO) (fun _ _ h => h.1)) gL_law_L_compile rfl (by decide +kernel) ⟨by decide, by decide⟩ rfl rfl (Nat.le_of_ble_eq_true rfl) dL_law_638 (Nat.le_refl _) (Nat.le_refl _) ⟨by show 55 + 100 * i + 100 ≤ 601024; omega, by show 838 + 1000 * i + 1000 ≤ 7293034; omega⟩ (fun k9 L2 w2 hk9 => ?_)
  obtain ⟨hm2, hag⟩ := ag_compile (L2 := L2) (w2 := w2) hcs hmd hO hk9
  obtain ⟨ns, ar, ac, mk, vl, ks, sz, co, ro, hmB⟩ := id hm2
  have h42 := hmB.1
  refine j_istore_5 (pc := 641) C dL_law_641 (by decide) rfl ?_
  refine j_aload_n (pc := 643) C rfl dL_law_643 rfl ?_
  refine j_aload_n (pc := 644) C rfl dL_law_644 rfl ?_
  refine j_iload (pc := 645) C dL_law_645 rfl ?_
  refine j_iconst (pc := 647) (v := 1) C dL_law_647 (by decide) ?_
  refine j_iadd (pc := 648) C dL_law_648 ?_
  refine j_st (by rw [nI_p1]) ?_
  refine j_sld (pc := 649) C hX hbl hbA (show 9 * i + 1 < LL by omega) (by omega) dL_law_649 ?_
  refine jV_i (pc := 650) (k2 := 55 + 100 * i + 100) (n2 := 838 + 1000 * i + 1000) (np := 1) (As := [.int (xs (9 * i + 1))]) C (ct_M_compile hmB hcs.cp (xs (9 * i + 1))) gL_law_X5_compile rfl (by decide +kernel) ⟨by decide, by decide⟩ h42 rfl rfl rfl (Nat.le_of_ble_eq_true rfl) dL_law_650 (Nat.le_refl _) (Nat.le_refl _) ⟨by show 55 + 100 * i + 100 ≤ 601024; omega, by show 838 + 1000 * i + 1000 ≤ 7293034; omega⟩ (fun r2 L3 w3 hu => ?_)
  obtain ⟨w4, e4, hf4, hc4⟩ := hu
  cases e4
  have hgA := hag r2 w3 hf4 hc4
  obtain ⟨cp3, fq3, df3, E3, fo3, hcs3, hmd3, hO3, hk3⟩ := id hgA
  obtain ⟨_, _, _, _, _, _, _, _, _, hmB3⟩ := id hmd3
  have h42 := hmB3.1
  refine j_istore_6 (pc := 653) C dL_law_653 (by decide) rfl ?_
  refine j_aload_n (pc := 655) C rfl dL_law_655 rfl ?_
  refine jV_i0 (pc := 656) (k2 := 55 + 100 * i + 100) (n2 := 838 + 1000 * i + 1000) (np := 0) (As := []) C (ct_thr hmd3) gL_law_X5_thrown rfl (by decide +kernel) ⟨by decide, by decide⟩ h42 rfl rfl rfl (Nat.le_of_ble_eq_true rfl) dL_law_656 (Nat.le_refl _) (Nat.le_refl _) ⟨by show 55 + 100 * i + 100 ≤ 601024; omega, by show 838 + 1000 * i + 1000 ≤ 7293034; omega⟩ (fun v hv => ?_)
  refine j_st (by rw [hv]) ?_
  refine j_iload (pc := 659) C dL_law_659 rfl ?_
  refine j_icmp_eq (pc := 661) (tgt := 666) C dL_law_661 (by decide) (fun c661 => ?_) (fun c661 => ?_)
  · refine j_iload (pc := 666) C dL_law_666 rfl ?_
    refine j_if_ne (pc := 668) (tgt := 683) C dL_law_668 (by decide) (fun c668 => ?_) (fun c668 => ?_)
    · refine j_goto (pc := 683) (tgt := 1469) C dL_law_683 (by decide) ?_
      exact j_weak (by simp [lw1]) (hnext L2 w3 hgA.li)
    · refine j_aload_n (pc := 671) C rfl dL_law_671 rfl ?_
      refine j_iconst (pc := 672) (v := 0) C dL_law_672 (by decide) ?_
      refine j_lald (pc := 673) C hO3 rfl (show 0 < 1 by decide) (by decide) dL_law_673 ?_
      refine j_iload (pc := 674) C dL_law_674 rfl ?_
      refine j_i2l (pc := 676) C dL_law_676 ?_
      refine j_lcmp (pc := 677) C dL_law_677 ?_
      refine j_if_eq (pc := 678) (tgt := 683) C dL_law_678 (by decide) (fun c678 => ?_) (fun c678 => ?_)
      · have c678 := ez_c c678
        refine j_goto (pc := 683) (tgt := 1469) C dL_law_683 (by decide) ?_
        exact j_weak (by simp [lw1]) (hnext L2 w3 hgA.li)
      · have c678 := nz_c c678
        exact absurd (hk3 c668) c678
  · exact absurd rfl c661

set_option maxRecDepth 100000 in
set_option maxHeartbeats 8000000 in
theorem lawc_test {p : Program} {l : Launch} {e : Env} {s : State} {m : MethodId} {below : List Frame} {meth : Method} {c : Code} {G : Gp} {b LL : Nat} {xs : Nat → Int32} (hlt : l.stackTraces = false) (hLL : LL ≤ 4608) (C : Cx p s m #[Value.ref b] c cL_law RL 7 wsL_law G (fun q => s.heap.size ≤ q) s.heap) (hX : va_X b LL xs s s.heap) (hbl : b < s.heap.size) {ad am : Nat → Nat} {ao : Nat} {Q : State → Prop} {i : Nat} (hi : 9 * i + 9 ≤ LL) {L : List Nat} {w : Wn} {th cp : Int32} {fq : Nat → Nat} {df : Nat → Int32} {E : Nat → EL} {fo : Nat → Int64} (hcs : CS G ad L w cp (cp = 1) fq df E) (hmd : MD G am L w th cp df fq E) (hO : Hs L w 54 ao (jarE G 1 fo)) (hnext : ∀ (L3 : List Nat) (w3 : Wn), LI G ad am ao L3 w3 → J p l e room_1 s m #[Value.ref b] below meth c G (fun q => s.heap.size ≤ q) s.heap 7 Q L3 w3 (55 + 100 * i + 100) (838 + 1000 * i + 1000) 1469 [some (.ref b), some (.ref (ad 0)), some (.ref (am 42)), some (.ref ao), some (.int (nI (9 * i))), none, none] []) : J p l e room_1 s m #[Value.ref b] below meth c G (fun q => s.heap.size ≤ q) s.heap 7 Q L w (55 + 100 * i) (838 + 1000 * i) 699 [some (.ref b), some (.ref (ad 0)), some (.ref (am 42)), some (.ref ao), some (.int (nI (9 * i))), none, none] [] := by
  have hbA : ¬ (fun q : Nat => s.heap.size ≤ q) b := Nat.not_le.mpr hbl
  refine j_aload_n (pc := 699) C rfl dL_law_699 rfl ?_
  refine j_aload_n (pc := 700) C rfl dL_law_700 rfl ?_
  refine j_iload (pc := 701) C dL_law_701 rfl ?_
  refine j_iconst (pc := 703) (v := 1) C dL_law_703 (by decide) ?_
  refine j_iadd (pc := 704) C dL_law_704 ?_
  refine j_st (by rw [nI_p1]) ?_
  refine j_sld (pc := 705) C hX hbl hbA (show 9 * i + 1 < LL by omega) (by omega) dL_law_705 ?_
  refine j_aload_n (pc := 706) C rfl dL_law_706 rfl ?_
  refine j_iload (pc := 707) C dL_law_707 rfl ?_
  refine j_iconst (pc := 709) (v := 2) C dL_law_709 (by decide) ?_
  refine j_iadd (pc := 710) C dL_law_710 ?_
  refine j_st (by rw [nI_p2]) ?_
  refine j_sld (pc := 711) C hX hbl hbA (show 9 * i + 2 < LL by omega) (by omega) dL_law_711 ?_
  refine j_aload_n (pc := 712) C rfl dL_law_712 rfl ?_
  refine jSW_i (pc := 713) (k2 := 55 + 100 * i + 100) (n2 := 838 + 1000 * i + 1000) (np := 4) (As := [.ref (ad 0), .int (xs (9 * i + 1)), .int (xs (9 * i + 2)), .ref ao]) C (ct_L_test hcs.1 (ct_test hlt hcs (xs (9 * i + 1)) (xs (9 * i + 2))) (hp_test (ad := ad) (cp := cp) (fq := fq) (df := df) (E := E) hO) (fun _ _ h => h.elim (fun z => Or.inl z.1) (fun z => Or.inr z.1))) gL_law_L_test rfl (by decide +kernel) ⟨by decide, by decide⟩ rfl rfl (Nat.le_of_ble_eq_true rfl) dL_law_713 (Nat.le_refl _) (Nat.le_refl _) ⟨by show 55 + 100 * i + 100 ≤ 601024; omega, by show 838 + 1000 * i + 1000 ≤ 7293034; omega⟩ (fun k9 L2 w2 hk9 => ?_)
  obtain ⟨hm2, hag⟩ := ag_test (L2 := L2) (w2 := w2) hcs hmd hO hk9
  obtain ⟨ns, ar, ac, mk, vl, ks, sz, co, ro, hmB⟩ := id hm2
  have h42 := hmB.1
  refine j_istore_5 (pc := 716) C dL_law_716 (by decide) rfl ?_
  refine j_aload_n (pc := 718) C rfl dL_law_718 rfl ?_
  refine j_aload_n (pc := 719) C rfl dL_law_719 rfl ?_
  refine j_iload (pc := 720) C dL_law_720 rfl ?_
  refine j_iconst (pc := 722) (v := 1) C dL_law_722 (by decide) ?_
  refine j_iadd (pc := 723) C dL_law_723 ?_
  refine j_st (by rw [nI_p1]) ?_
  refine j_sld (pc := 724) C hX hbl hbA (show 9 * i + 1 < LL by omega) (by omega) dL_law_724 ?_
  refine j_aload_n (pc := 725) C rfl dL_law_725 rfl ?_
  refine j_iload (pc := 726) C dL_law_726 rfl ?_
  refine j_iconst (pc := 728) (v := 2) C dL_law_728 (by decide) ?_
  refine j_iadd (pc := 729) C dL_law_729 ?_
  refine j_st (by rw [nI_p2]) ?_
  refine j_sld (pc := 730) C hX hbl hbA (show 9 * i + 2 < LL by omega) (by omega) dL_law_730 ?_
  refine jV_i (pc := 731) (k2 := 55 + 100 * i + 100) (n2 := 838 + 1000 * i + 1000) (np := 2) (As := [.int (xs (9 * i + 1)), .int (xs (9 * i + 2))]) C (ct_M_test hmB (xs (9 * i + 1)) (xs (9 * i + 2))) gL_law_X5_test rfl (by decide +kernel) ⟨by decide, by decide⟩ h42 rfl rfl rfl (Nat.le_of_ble_eq_true rfl) dL_law_731 (Nat.le_refl _) (Nat.le_refl _) ⟨by show 55 + 100 * i + 100 ≤ 601024; omega, by show 838 + 1000 * i + 1000 ≤ 7293034; omega⟩ (fun r2 L3 w3 hu => ?_)
  obtain ⟨w4, e4, hf4, hc4⟩ := hu
  cases e4
  have hgA := hag r2 w3 hf4 hc4
  obtain ⟨cp3, fq3, df3, E3, fo3, hcs3, hmd3, hO3, hk3⟩ := id hgA
  obtain ⟨_, _, _, _, _, _, _, _, _, hmB3⟩ := id hmd3
  have h42 := hmB3.1
  refine j_istore_6 (pc := 734) C dL_law_734 (by decide) rfl ?_
  refine j_aload_n (pc := 736) C rfl dL_law_736 rfl ?_
  refine jV_i0 (pc := 737) (k2 := 55 + 100 * i + 100) (n2 := 838 + 1000 * i + 1000) (np := 0) (As := []) C (ct_thr hmd3) gL_law_X5_thrown rfl (by decide +kernel) ⟨by decide, by decide⟩ h42 rfl rfl rfl (Nat.le_of_ble_eq_true rfl) dL_law_737 (Nat.le_refl _) (Nat.le_refl _) ⟨by show 55 + 100 * i + 100 ≤ 601024; omega, by show 838 + 1000 * i + 1000 ≤ 7293034; omega⟩ (fun v hv => ?_)
  refine j_st (by rw [hv]) ?_
  refine j_iload (pc := 740) C dL_law_740 rfl ?_
  refine j_icmp_eq (pc := 742) (tgt := 747) C dL_law_742 (by decide) (fun c742 => ?_) (fun c742 => ?_)
  · refine j_iload (pc := 747) C dL_law_747 rfl ?_
    refine j_if_ne (pc := 749) (tgt := 764) C dL_law_749 (by decide) (fun c749 => ?_) (fun c749 => ?_)
    · refine j_goto (pc := 764) (tgt := 1469) C dL_law_764 (by decide) ?_
      exact j_weak (by simp [lw1]) (hnext L2 w3 hgA.li)
    · refine j_aload_n (pc := 752) C rfl dL_law_752 rfl ?_
      refine j_iconst (pc := 753) (v := 0) C dL_law_753 (by decide) ?_
      refine j_lald (pc := 754) C hO3 rfl (show 0 < 1 by decide) (by decide) dL_law_754 ?_
      refine j_iload (pc := 755) C dL_law_755 rfl ?_
      refine j_i2l (pc := 757) C dL_law_757 ?_
      refine j_lcmp (pc := 758) C dL_law_758 ?_
      refine j_if_eq (pc := 759) (tgt := 764) C dL_law_759 (by decide) (fun c759 => ?_) (fun c759 => ?_)
      · have c759 := ez_c c759
        refine j_goto (pc := 764) (tgt := 1469) C dL_law_764 (by decide) ?_
        exact j_weak (by simp [lw1]) (hnext L2 w3 hgA.li)
      · have c759 := nz_c c759
        exact absurd (hk3 c749) c759
  · exact absurd rfl c742

set_option maxRecDepth 100000 in
set_option maxHeartbeats 8000000 in
theorem lawc_cost {p : Program} {l : Launch} {e : Env} {s : State} {m : MethodId} {below : List Frame} {meth : Method} {c : Code} {G : Gp} {b LL : Nat} {xs : Nat → Int32} (hlt : l.stackTraces = false) (hLL : LL ≤ 4608) (C : Cx p s m #[Value.ref b] c cL_law RL 7 wsL_law G (fun q => s.heap.size ≤ q) s.heap) (hX : va_X b LL xs s s.heap) (hbl : b < s.heap.size) {ad am : Nat → Nat} {ao : Nat} {Q : State → Prop} {i : Nat} (hi : 9 * i + 9 ≤ LL) {L : List Nat} {w : Wn} {th cp : Int32} {fq : Nat → Nat} {df : Nat → Int32} {E : Nat → EL} {fo : Nat → Int64} (hcs : CS G ad L w cp (cp = 1) fq df E) (hmd : MD G am L w th cp df fq E) (hO : Hs L w 54 ao (jarE G 1 fo)) (hnext : ∀ (L3 : List Nat) (w3 : Wn), LI G ad am ao L3 w3 → J p l e room_1 s m #[Value.ref b] below meth c G (fun q => s.heap.size ≤ q) s.heap 7 Q L3 w3 (55 + 100 * i + 100) (838 + 1000 * i + 1000) 1469 [some (.ref b), some (.ref (ad 0)), some (.ref (am 42)), some (.ref ao), some (.int (nI (9 * i))), none, none] []) : J p l e room_1 s m #[Value.ref b] below meth c G (fun q => s.heap.size ≤ q) s.heap 7 Q L w (55 + 100 * i) (838 + 1000 * i) 767 [some (.ref b), some (.ref (ad 0)), some (.ref (am 42)), some (.ref ao), some (.int (nI (9 * i))), none, none] [] := by
  have hbA : ¬ (fun q : Nat => s.heap.size ≤ q) b := Nat.not_le.mpr hbl
  refine j_aload_n (pc := 767) C rfl dL_law_767 rfl ?_
  refine j_aload_n (pc := 768) C rfl dL_law_768 rfl ?_
  refine j_iload (pc := 769) C dL_law_769 rfl ?_
  refine j_iconst (pc := 771) (v := 1) C dL_law_771 (by decide) ?_
  refine j_iadd (pc := 772) C dL_law_772 ?_
  refine j_st (by rw [nI_p1]) ?_
  refine j_sld (pc := 773) C hX hbl hbA (show 9 * i + 1 < LL by omega) (by omega) dL_law_773 ?_
  refine j_aload_n (pc := 774) C rfl dL_law_774 rfl ?_
  refine jSW_i (pc := 775) (k2 := 55 + 100 * i + 100) (n2 := 838 + 1000 * i + 1000) (np := 3) (As := [.ref (ad 0), .int (xs (9 * i + 1)), .ref ao]) C (ct_L_cost hcs.1 (ct_cost hlt hcs (xs (9 * i + 1))) (hp_cost (ad := ad) (cp := cp) (fq := fq) (df := df) (E := E) hO) (fun _ _ h => h.elim (fun z => Or.inl z.1) (fun z => Or.inr z.1))) gL_law_L_cost rfl (by decide +kernel) ⟨by decide, by decide⟩ rfl rfl (Nat.le_of_ble_eq_true rfl) dL_law_775 (Nat.le_refl _) (Nat.le_refl _) ⟨by show 55 + 100 * i + 100 ≤ 601024; omega, by show 838 + 1000 * i + 1000 ≤ 7293034; omega⟩ (fun k9 L2 w2 hk9 => ?_)
  obtain ⟨hm2, hag⟩ := ag_cost (L2 := L2) (w2 := w2) hcs hmd hO hk9
  obtain ⟨ns, ar, ac, mk, vl, ks, sz, co, ro, hmB⟩ := id hm2
  have h42 := hmB.1
  refine j_istore_5 (pc := 778) C dL_law_778 (by decide) rfl ?_
  refine j_aload_n (pc := 780) C rfl dL_law_780 rfl ?_
  refine j_aload_n (pc := 781) C rfl dL_law_781 rfl ?_
  refine j_iload (pc := 782) C dL_law_782 rfl ?_
  refine j_iconst (pc := 784) (v := 1) C dL_law_784 (by decide) ?_
  refine j_iadd (pc := 785) C dL_law_785 ?_
  refine j_st (by rw [nI_p1]) ?_
  refine j_sld (pc := 786) C hX hbl hbA (show 9 * i + 1 < LL by omega) (by omega) dL_law_786 ?_
  refine jV_i (pc := 787) (k2 := 55 + 100 * i + 100) (n2 := 838 + 1000 * i + 1000) (np := 1) (As := [.int (xs (9 * i + 1))]) C (ct_M_cost hmB (xs (9 * i + 1))) gL_law_X5_cost rfl (by decide +kernel) ⟨by decide, by decide⟩ h42 rfl rfl rfl (Nat.le_of_ble_eq_true rfl) dL_law_787 (Nat.le_refl _) (Nat.le_refl _) ⟨by show 55 + 100 * i + 100 ≤ 601024; omega, by show 838 + 1000 * i + 1000 ≤ 7293034; omega⟩ (fun r2 L3 w3 hu => ?_)
  obtain ⟨w4, e4, hf4, hc4⟩ := hu
  cases e4
  have hgA := hag r2 w3 hf4 hc4
  obtain ⟨cp3, fq3, df3, E3, fo3, hcs3, hmd3, hO3, hk3⟩ := id hgA
  obtain ⟨_, _, _, _, _, _, _, _, _, hmB3⟩ := id hmd3
  have h42 := hmB3.1
  refine j_istore_6 (pc := 790) C dL_law_790 (by decide) rfl ?_
  refine j_aload_n (pc := 792) C rfl dL_law_792 rfl ?_
  refine jV_i0 (pc := 793) (k2 := 55 + 100 * i + 100) (n2 := 838 + 1000 * i + 1000) (np := 0) (As := []) C (ct_thr hmd3) gL_law_X5_thrown rfl (by decide +kernel) ⟨by decide, by decide⟩ h42 rfl rfl rfl (Nat.le_of_ble_eq_true rfl) dL_law_793 (Nat.le_refl _) (Nat.le_refl _) ⟨by show 55 + 100 * i + 100 ≤ 601024; omega, by show 838 + 1000 * i + 1000 ≤ 7293034; omega⟩ (fun v hv => ?_)
  refine j_st (by rw [hv]) ?_
  refine j_iload (pc := 796) C dL_law_796 rfl ?_
  refine j_icmp_eq (pc := 798) (tgt := 803) C dL_law_798 (by decide) (fun c798 => ?_) (fun c798 => ?_)
  · refine j_iload (pc := 803) C dL_law_803 rfl ?_
    refine j_if_ne (pc := 805) (tgt := 820) C dL_law_805 (by decide) (fun c805 => ?_) (fun c805 => ?_)
    · refine j_goto (pc := 820) (tgt := 1469) C dL_law_820 (by decide) ?_
      exact j_weak (by simp [lw1]) (hnext L2 w3 hgA.li)
    · refine j_aload_n (pc := 808) C rfl dL_law_808 rfl ?_
      refine j_iconst (pc := 809) (v := 0) C dL_law_809 (by decide) ?_
      refine j_lald (pc := 810) C hO3 rfl (show 0 < 1 by decide) (by decide) dL_law_810 ?_
      refine j_iload (pc := 811) C dL_law_811 rfl ?_
      refine j_i2l (pc := 813) C dL_law_813 ?_
      refine j_lcmp (pc := 814) C dL_law_814 ?_
      refine j_if_eq (pc := 815) (tgt := 820) C dL_law_815 (by decide) (fun c815 => ?_) (fun c815 => ?_)
      · have c815 := ez_c c815
        refine j_goto (pc := 820) (tgt := 1469) C dL_law_820 (by decide) ?_
        exact j_weak (by simp [lw1]) (hnext L2 w3 hgA.li)
      · have c815 := nz_c c815
        exact absurd (hk3 c805) c815
  · exact absurd rfl c798

set_option maxRecDepth 100000 in
set_option maxHeartbeats 8000000 in
theorem lawc_worst {p : Program} {l : Launch} {e : Env} {s : State} {m : MethodId} {below : List Frame} {meth : Method} {c : Code} {G : Gp} {b LL : Nat} {xs : Nat → Int32} (hlt : l.stackTraces = false) (hLL : LL ≤ 4608) (C : Cx p s m #[Value.ref b] c cL_law RL 7 wsL_law G (fun q => s.heap.size ≤ q) s.heap) (hX : va_X b LL xs s s.heap) (hbl : b < s.heap.size) {ad am : Nat → Nat} {ao : Nat} {Q : State → Prop} {i : Nat} (hi : 9 * i + 9 ≤ LL) {L : List Nat} {w : Wn} {th cp : Int32} {fq : Nat → Nat} {df : Nat → Int32} {E : Nat → EL} {fo : Nat → Int64} (hcs : CS G ad L w cp (cp = 1) fq df E) (hmd : MD G am L w th cp df fq E) (hO : Hs L w 54 ao (jarE G 1 fo)) (hnext : ∀ (L3 : List Nat) (w3 : Wn), LI G ad am ao L3 w3 → J p l e room_1 s m #[Value.ref b] below meth c G (fun q => s.heap.size ≤ q) s.heap 7 Q L3 w3 (55 + 100 * i + 100) (838 + 1000 * i + 1000) 1469 [some (.ref b), some (.ref (ad 0)), some (.ref (am 42)), some (.ref ao), some (.int (nI (9 * i))), none, none] []) : J p l e room_1 s m #[Value.ref b] below meth c G (fun q => s.heap.size ≤ q) s.heap 7 Q L w (55 + 100 * i) (838 + 1000 * i) 823 [some (.ref b), some (.ref (ad 0)), some (.ref (am 42)), some (.ref ao), some (.int (nI (9 * i))), none, none] [] := by
  have hbA : ¬ (fun q : Nat => s.heap.size ≤ q) b := Nat.not_le.mpr hbl
  refine j_aload_n (pc := 823) C rfl dL_law_823 rfl ?_
  refine j_aload_n (pc := 824) C rfl dL_law_824 rfl ?_
  refine j_iload (pc := 825) C dL_law_825 rfl ?_
  refine j_iconst (pc := 827) (v := 1) C dL_law_827 (by decide) ?_
  refine j_iadd (pc := 828) C dL_law_828 ?_
  refine j_st (by rw [nI_p1]) ?_
  refine j_sld (pc := 829) C hX hbl hbA (show 9 * i + 1 < LL by omega) (by omega) dL_law_829 ?_
  refine j_aload_n (pc := 830) C rfl dL_law_830 rfl ?_
  refine jSW_i (pc := 831) (k2 := 55 + 100 * i + 100) (n2 := 838 + 1000 * i + 1000) (np := 3) (As := [.ref (ad 0), .int (xs (9 * i + 1)), .ref ao]) C (ct_L_worst hcs.1 (ct_worst hlt hcs (xs (9 * i + 1))) (hp_worst (ad := ad) (cp := cp) (fq := fq) (df := df) (E := E) hO) (fun _ _ h => h.elim (fun z => Or.inl z.1) (fun z => Or.inr z.1))) gL_law_L_worst rfl (by decide +kernel) ⟨by decide, by decide⟩ rfl rfl (Nat.le_of_ble_eq_true rfl) dL_law_831 (Nat.le_refl _) (Nat.le_refl _) ⟨by show 55 + 100 * i + 100 ≤ 601024; omega, by show 838 + 1000 * i + 1000 ≤ 7293034; omega⟩ (fun k9 L2 w2 hk9 => ?_)
  obtain ⟨hm2, hag⟩ := ag_worst (L2 := L2) (w2 := w2) hcs hmd hO hk9
  obtain ⟨ns, ar, ac, mk, vl, ks, sz, co, ro, hmB⟩ := id hm2
  have h42 := hmB.1
  refine j_istore_5 (pc := 834) C dL_law_834 (by decide) rfl ?_
  refine j_aload_n (pc := 836) C rfl dL_law_836 rfl ?_
  refine j_aload_n (pc := 837) C rfl dL_law_837 rfl ?_
  refine j_iload (pc := 838) C dL_law_838 rfl ?_
  refine j_iconst (pc := 840) (v := 1) C dL_law_840 (by decide) ?_
  refine j_iadd (pc := 841) C dL_law_841 ?_
  refine j_st (by rw [nI_p1]) ?_
  refine j_sld (pc := 842) C hX hbl hbA (show 9 * i + 1 < LL by omega) (by omega) dL_law_842 ?_
  refine jV_i (pc := 843) (k2 := 55 + 100 * i + 100) (n2 := 838 + 1000 * i + 1000) (np := 1) (As := [.int (xs (9 * i + 1))]) C (ct_M_worst hmB (xs (9 * i + 1))) gL_law_X5_worst rfl (by decide +kernel) ⟨by decide, by decide⟩ h42 rfl rfl rfl (Nat.le_of_ble_eq_true rfl) dL_law_843 (Nat.le_refl _) (Nat.le_refl _) ⟨by show 55 + 100 * i + 100 ≤ 601024; omega, by show 838 + 1000 * i + 1000 ≤ 7293034; omega⟩ (fun r2 L3 w3 hu => ?_)
  obtain ⟨w4, e4, hf4, hc4⟩ := hu
  cases e4
  have hgA := hag r2 w3 hf4 hc4
  obtain ⟨cp3, fq3, df3, E3, fo3, hcs3, hmd3, hO3, hk3⟩ := id hgA
  obtain ⟨_, _, _, _, _, _, _, _, _, hmB3⟩ := id hmd3
  have h42 := hmB3.1
  refine j_istore_6 (pc := 846) C dL_law_846 (by decide) rfl ?_
  refine j_aload_n (pc := 848) C rfl dL_law_848 rfl ?_
  refine jV_i0 (pc := 849) (k2 := 55 + 100 * i + 100) (n2 := 838 + 1000 * i + 1000) (np := 0) (As := []) C (ct_thr hmd3) gL_law_X5_thrown rfl (by decide +kernel) ⟨by decide, by decide⟩ h42 rfl rfl rfl (Nat.le_of_ble_eq_true rfl) dL_law_849 (Nat.le_refl _) (Nat.le_refl _) ⟨by show 55 + 100 * i + 100 ≤ 601024; omega, by show 838 + 1000 * i + 1000 ≤ 7293034; omega⟩ (fun v hv => ?_)
  refine j_st (by rw [hv]) ?_
  refine j_iload (pc := 852) C dL_law_852 rfl ?_
  refine j_icmp_eq (pc := 854) (tgt := 859) C dL_law_854 (by decide) (fun c854 => ?_) (fun c854 => ?_)
  · refine j_iload (pc := 859) C dL_law_859 rfl ?_
    refine j_if_ne (pc := 861) (tgt := 876) C dL_law_861 (by decide) (fun c861 => ?_) (fun c861 => ?_)
    · refine j_goto (pc := 876) (tgt := 1469) C dL_law_876 (by decide) ?_
      exact j_weak (by simp [lw1]) (hnext L2 w3 hgA.li)
    · refine j_aload_n (pc := 864) C rfl dL_law_864 rfl ?_
      refine j_iconst (pc := 865) (v := 0) C dL_law_865 (by decide) ?_
      refine j_lald (pc := 866) C hO3 rfl (show 0 < 1 by decide) (by decide) dL_law_866 ?_
      refine j_iload (pc := 867) C dL_law_867 rfl ?_
      refine j_i2l (pc := 869) C dL_law_869 ?_
      refine j_lcmp (pc := 870) C dL_law_870 ?_
      refine j_if_eq (pc := 871) (tgt := 876) C dL_law_871 (by decide) (fun c871 => ?_) (fun c871 => ?_)
      · have c871 := ez_c c871
        refine j_goto (pc := 876) (tgt := 1469) C dL_law_876 (by decide) ?_
        exact j_weak (by simp [lw1]) (hnext L2 w3 hgA.li)
      · have c871 := nz_c c871
        exact absurd (hk3 c861) c871
  · exact absurd rfl c854

set_option maxRecDepth 100000 in
set_option maxHeartbeats 8000000 in
theorem lawc_judge {p : Program} {l : Launch} {e : Env} {s : State} {m : MethodId} {below : List Frame} {meth : Method} {c : Code} {G : Gp} {b LL : Nat} {xs : Nat → Int32} (hlt : l.stackTraces = false) (hLL : LL ≤ 4608) (C : Cx p s m #[Value.ref b] c cL_law RL 7 wsL_law G (fun q => s.heap.size ≤ q) s.heap) (hX : va_X b LL xs s s.heap) (hbl : b < s.heap.size) {ad am : Nat → Nat} {ao : Nat} {Q : State → Prop} {i : Nat} (hi : 9 * i + 9 ≤ LL) {L : List Nat} {w : Wn} {th cp : Int32} {fq : Nat → Nat} {df : Nat → Int32} {E : Nat → EL} {fo : Nat → Int64} (hcs : CS G ad L w cp (cp = 1) fq df E) (hmd : MD G am L w th cp df fq E) (hO : Hs L w 54 ao (jarE G 1 fo)) (hnext : ∀ (L3 : List Nat) (w3 : Wn), LI G ad am ao L3 w3 → J p l e room_1 s m #[Value.ref b] below meth c G (fun q => s.heap.size ≤ q) s.heap 7 Q L3 w3 (55 + 100 * i + 100) (838 + 1000 * i + 1000) 1469 [some (.ref b), some (.ref (ad 0)), some (.ref (am 42)), some (.ref ao), some (.int (nI (9 * i))), none, none] []) : J p l e room_1 s m #[Value.ref b] below meth c G (fun q => s.heap.size ≤ q) s.heap 7 Q L w (55 + 100 * i) (838 + 1000 * i) 879 [some (.ref b), some (.ref (ad 0)), some (.ref (am 42)), some (.ref ao), some (.int (nI (9 * i))), none, none] [] := by
  have hbA : ¬ (fun q : Nat => s.heap.size ≤ q) b := Nat.not_le.mpr hbl
  refine j_aload_n (pc := 879) C rfl dL_law_879 rfl ?_
  refine j_aload_n (pc := 880) C rfl dL_law_880 rfl ?_
  refine j_iload (pc := 881) C dL_law_881 rfl ?_
  refine j_iconst (pc := 883) (v := 1) C dL_law_883 (by decide) ?_
  refine j_iadd (pc := 884) C dL_law_884 ?_
  refine j_st (by rw [nI_p1]) ?_
  refine j_sld (pc := 885) C hX hbl hbA (show 9 * i + 1 < LL by omega) (by omega) dL_law_885 ?_
  refine j_aload_n (pc := 886) C rfl dL_law_886 rfl ?_
  refine j_iload (pc := 887) C dL_law_887 rfl ?_
  refine j_iconst (pc := 889) (v := 2) C dL_law_889 (by decide) ?_
  refine j_iadd (pc := 890) C dL_law_890 ?_
  refine j_st (by rw [nI_p2]) ?_
  refine j_sld (pc := 891) C hX hbl hbA (show 9 * i + 2 < LL by omega) (by omega) dL_law_891 ?_
  refine j_i2l (pc := 892) C dL_law_892 ?_
  refine j_bipush (pc := 893) (v := 32) C dL_law_893 (by decide) ?_
  refine j_lshl (pc := 895) C dL_law_895 ?_
  refine j_aload_n (pc := 896) C rfl dL_law_896 rfl ?_
  refine j_iload (pc := 897) C dL_law_897 rfl ?_
  refine j_iconst (pc := 899) (v := 3) C dL_law_899 (by decide) ?_
  refine j_iadd (pc := 900) C dL_law_900 ?_
  refine j_st (by rw [nI_p3]) ?_
  refine j_sld (pc := 901) C hX hbl hbA (show 9 * i + 3 < LL by omega) (by omega) dL_law_901 ?_
  refine j_i2l (pc := 902) C dL_law_902 ?_
  refine j_ldc2 (pc := 903) (v := 4294967295) C dL_law_903 (by decide +kernel) ?_
  refine j_land (pc := 906) C dL_law_906 ?_
  refine j_lor (pc := 907) C dL_law_907 ?_
  refine j_topl (fun y1 ey1 => ?_)
  refine j_aload_n (pc := 908) C rfl dL_law_908 rfl ?_
  refine j_iload (pc := 909) C dL_law_909 rfl ?_
  refine j_iconst (pc := 911) (v := 4) C dL_law_911 (by decide) ?_
  refine j_iadd (pc := 912) C dL_law_912 ?_
  refine j_st (by rw [nI_p4]) ?_
  refine j_sld (pc := 913) C hX hbl hbA (show 9 * i + 4 < LL by omega) (by omega) dL_law_913 ?_
  refine j_i2l (pc := 914) C dL_law_914 ?_
  refine j_bipush (pc := 915) (v := 32) C dL_law_915 (by decide) ?_
  refine j_lshl (pc := 917) C dL_law_917 ?_
  refine j_aload_n (pc := 918) C rfl dL_law_918 rfl ?_
  refine j_iload (pc := 919) C dL_law_919 rfl ?_
  refine j_iconst (pc := 921) (v := 5) C dL_law_921 (by decide) ?_
  refine j_iadd (pc := 922) C dL_law_922 ?_
  refine j_st (by rw [nI_p5]) ?_
  refine j_sld (pc := 923) C hX hbl hbA (show 9 * i + 5 < LL by omega) (by omega) dL_law_923 ?_
  refine j_i2l (pc := 924) C dL_law_924 ?_
  refine j_ldc2 (pc := 925) (v := 4294967295) C dL_law_925 (by decide +kernel) ?_
  refine j_land (pc := 928) C dL_law_928 ?_
  refine j_lor (pc := 929) C dL_law_929 ?_
  refine j_topl (fun y2 ey2 => ?_)
  refine j_aload_n (pc := 930) C rfl dL_law_930 rfl ?_
  refine jSW_i (pc := 931) (k2 := 55 + 100 * i + 100) (n2 := 838 + 1000 * i + 1000) (np := 5) (As := [.ref (ad 0), .int (xs (9 * i + 1)), .long y1, .long y2, .ref ao]) C (ct_L_judge hcs.1 (ct_judge hlt hcs (xs (9 * i + 1)) y1 y2) (hp_judge (ad := ad) (cp := cp) (fq := fq) (df := df) (E := E) hO) (fun _ _ h => h.elim (fun z => Or.inl z.1) (fun z => Or.inr z.1))) gL_law_L_judge rfl (by decide +kernel) ⟨by decide, by decide⟩ rfl rfl (Nat.le_of_ble_eq_true rfl) dL_law_931 (Nat.le_refl _) (Nat.le_refl _) ⟨by show 55 + 100 * i + 100 ≤ 601024; omega, by show 838 + 1000 * i + 1000 ≤ 7293034; omega⟩ (fun k9 L2 w2 hk9 => ?_)
  obtain ⟨hm2, hag⟩ := ag_judge (L2 := L2) (w2 := w2) hcs hmd hO hk9
  obtain ⟨ns, ar, ac, mk, vl, ks, sz, co, ro, hmB⟩ := id hm2
  have h42 := hmB.1
  refine j_istore_5 (pc := 934) C dL_law_934 (by decide) rfl ?_
  refine j_aload_n (pc := 936) C rfl dL_law_936 rfl ?_
  refine j_aload_n (pc := 937) C rfl dL_law_937 rfl ?_
  refine j_iload (pc := 938) C dL_law_938 rfl ?_
  refine j_iconst (pc := 940) (v := 1) C dL_law_940 (by decide) ?_
  refine j_iadd (pc := 941) C dL_law_941 ?_
  refine j_st (by rw [nI_p1]) ?_
  refine j_sld (pc := 942) C hX hbl hbA (show 9 * i + 1 < LL by omega) (by omega) dL_law_942 ?_
  refine j_aload_n (pc := 943) C rfl dL_law_943 rfl ?_
  refine j_iload (pc := 944) C dL_law_944 rfl ?_
  refine j_iconst (pc := 946) (v := 2) C dL_law_946 (by decide) ?_
  refine j_iadd (pc := 947) C dL_law_947 ?_
  refine j_st (by rw [nI_p2]) ?_
  refine j_sld (pc := 948) C hX hbl hbA (show 9 * i + 2 < LL by omega) (by omega) dL_law_948 ?_
  refine j_i2l (pc := 949) C dL_law_949 ?_
  refine j_bipush (pc := 950) (v := 32) C dL_law_950 (by decide) ?_
  refine j_lshl (pc := 952) C dL_law_952 ?_
  refine j_aload_n (pc := 953) C rfl dL_law_953 rfl ?_
  refine j_iload (pc := 954) C dL_law_954 rfl ?_
  refine j_iconst (pc := 956) (v := 3) C dL_law_956 (by decide) ?_
  refine j_iadd (pc := 957) C dL_law_957 ?_
  refine j_st (by rw [nI_p3]) ?_
  refine j_sld (pc := 958) C hX hbl hbA (show 9 * i + 3 < LL by omega) (by omega) dL_law_958 ?_
  refine j_i2l (pc := 959) C dL_law_959 ?_
  refine j_ldc2 (pc := 960) (v := 4294967295) C dL_law_960 (by decide +kernel) ?_
  refine j_land (pc := 963) C dL_law_963 ?_
  refine j_lor (pc := 964) C dL_law_964 ?_
  refine j_st (by rw [← ey1]) ?_
  refine j_aload_n (pc := 965) C rfl dL_law_965 rfl ?_
  refine j_iload (pc := 966) C dL_law_966 rfl ?_
  refine j_iconst (pc := 968) (v := 4) C dL_law_968 (by decide) ?_
  refine j_iadd (pc := 969) C dL_law_969 ?_
  refine j_st (by rw [nI_p4]) ?_
  refine j_sld (pc := 970) C hX hbl hbA (show 9 * i + 4 < LL by omega) (by omega) dL_law_970 ?_
  refine j_i2l (pc := 971) C dL_law_971 ?_
  refine j_bipush (pc := 972) (v := 32) C dL_law_972 (by decide) ?_
  refine j_lshl (pc := 974) C dL_law_974 ?_
  refine j_aload_n (pc := 975) C rfl dL_law_975 rfl ?_
  refine j_iload (pc := 976) C dL_law_976 rfl ?_
  refine j_iconst (pc := 978) (v := 5) C dL_law_978 (by decide) ?_
  refine j_iadd (pc := 979) C dL_law_979 ?_
  refine j_st (by rw [nI_p5]) ?_
  refine j_sld (pc := 980) C hX hbl hbA (show 9 * i + 5 < LL by omega) (by omega) dL_law_980 ?_
  refine j_i2l (pc := 981) C dL_law_981 ?_
  refine j_ldc2 (pc := 982) (v := 4294967295) C dL_law_982 (by decide +kernel) ?_
  refine j_land (pc := 985) C dL_law_985 ?_
  refine j_lor (pc := 986) C dL_law_986 ?_
  refine j_st (by rw [← ey2]) ?_
  refine jV_i (pc := 987) (k2 := 55 + 100 * i + 100) (n2 := 838 + 1000 * i + 1000) (np := 3) (As := [.int (xs (9 * i + 1)), .long y1, .long y2]) C (ct_M_judge hmB (xs (9 * i + 1)) y1 y2) gL_law_X5_judge rfl (by decide +kernel) ⟨by decide, by decide⟩ h42 rfl rfl rfl (Nat.le_of_ble_eq_true rfl) dL_law_987 (Nat.le_refl _) (Nat.le_refl _) ⟨by show 55 + 100 * i + 100 ≤ 601024; omega, by show 838 + 1000 * i + 1000 ≤ 7293034; omega⟩ (fun r2 L3 w3 hu => ?_)
  obtain ⟨w4, e4, hf4, hc4⟩ := hu
  cases e4
  have hgA := hag r2 w3 hf4 hc4
  obtain ⟨cp3, fq3, df3, E3, fo3, hcs3, hmd3, hO3, hk3⟩ := id hgA
  obtain ⟨_, _, _, _, _, _, _, _, _, hmB3⟩ := id hmd3
  have h42 := hmB3.1
  refine j_istore_6 (pc := 990) C dL_law_990 (by decide) rfl ?_
  refine j_aload_n (pc := 992) C rfl dL_law_992 rfl ?_
  refine jV_i0 (pc := 993) (k2 := 55 + 100 * i + 100) (n2 := 838 + 1000 * i + 1000) (np := 0) (As := []) C (ct_thr hmd3) gL_law_X5_thrown rfl (by decide +kernel) ⟨by decide, by decide⟩ h42 rfl rfl rfl (Nat.le_of_ble_eq_true rfl) dL_law_993 (Nat.le_refl _) (Nat.le_refl _) ⟨by show 55 + 100 * i + 100 ≤ 601024; omega, by show 838 + 1000 * i + 1000 ≤ 7293034; omega⟩ (fun v hv => ?_)
  refine j_st (by rw [hv]) ?_
  refine j_iload (pc := 996) C dL_law_996 rfl ?_
  refine j_icmp_eq (pc := 998) (tgt := 1003) C dL_law_998 (by decide) (fun c998 => ?_) (fun c998 => ?_)
  · refine j_iload (pc := 1003) C dL_law_1003 rfl ?_
    refine j_if_ne (pc := 1005) (tgt := 1020) C dL_law_1005 (by decide) (fun c1005 => ?_) (fun c1005 => ?_)
    · refine j_goto (pc := 1020) (tgt := 1469) C dL_law_1020 (by decide) ?_
      exact j_weak (by simp [lw1]) (hnext L2 w3 hgA.li)
    · refine j_aload_n (pc := 1008) C rfl dL_law_1008 rfl ?_
      refine j_iconst (pc := 1009) (v := 0) C dL_law_1009 (by decide) ?_
      refine j_lald (pc := 1010) C hO3 rfl (show 0 < 1 by decide) (by decide) dL_law_1010 ?_
      refine j_iload (pc := 1011) C dL_law_1011 rfl ?_
      refine j_i2l (pc := 1013) C dL_law_1013 ?_
      refine j_lcmp (pc := 1014) C dL_law_1014 ?_
      refine j_if_eq (pc := 1015) (tgt := 1020) C dL_law_1015 (by decide) (fun c1015 => ?_) (fun c1015 => ?_)
      · have c1015 := ez_c c1015
        refine j_goto (pc := 1020) (tgt := 1469) C dL_law_1020 (by decide) ?_
        exact j_weak (by simp [lw1]) (hnext L2 w3 hgA.li)
      · have c1015 := nz_c c1015
        exact absurd (hk3 c1005) c1015
  · exact absurd rfl c998

set_option maxRecDepth 100000 in
set_option maxHeartbeats 8000000 in
theorem lawc_judgeByRules {p : Program} {l : Launch} {e : Env} {s : State} {m : MethodId} {below : List Frame} {meth : Method} {c : Code} {G : Gp} {b LL : Nat} {xs : Nat → Int32} (hlt : l.stackTraces = false) (hLL : LL ≤ 4608) (C : Cx p s m #[Value.ref b] c cL_law RL 7 wsL_law G (fun q => s.heap.size ≤ q) s.heap) (hX : va_X b LL xs s s.heap) (hbl : b < s.heap.size) {ad am : Nat → Nat} {ao : Nat} {Q : State → Prop} {i : Nat} (hi : 9 * i + 9 ≤ LL) {L : List Nat} {w : Wn} {th cp : Int32} {fq : Nat → Nat} {df : Nat → Int32} {E : Nat → EL} {fo : Nat → Int64} (hcs : CS G ad L w cp (cp = 1) fq df E) (hmd : MD G am L w th cp df fq E) (hO : Hs L w 54 ao (jarE G 1 fo)) (hnext : ∀ (L3 : List Nat) (w3 : Wn), LI G ad am ao L3 w3 → J p l e room_1 s m #[Value.ref b] below meth c G (fun q => s.heap.size ≤ q) s.heap 7 Q L3 w3 (55 + 100 * i + 100) (838 + 1000 * i + 1000) 1469 [some (.ref b), some (.ref (ad 0)), some (.ref (am 42)), some (.ref ao), some (.int (nI (9 * i))), none, none] []) : J p l e room_1 s m #[Value.ref b] below meth c G (fun q => s.heap.size ≤ q) s.heap 7 Q L w (55 + 100 * i) (838 + 1000 * i) 1023 [some (.ref b), some (.ref (ad 0)), some (.ref (am 42)), some (.ref ao), some (.int (nI (9 * i))), none, none] [] := by
  have hbA : ¬ (fun q : Nat => s.heap.size ≤ q) b := Nat.not_le.mpr hbl
  refine j_aload_n (pc := 1023) C rfl dL_law_1023 rfl ?_
  refine j_aload_n (pc := 1024) C rfl dL_law_1024 rfl ?_
  refine j_iload (pc := 1025) C dL_law_1025 rfl ?_
  refine j_iconst (pc := 1027) (v := 1) C dL_law_1027 (by decide) ?_
  refine j_iadd (pc := 1028) C dL_law_1028 ?_
  refine j_st (by rw [nI_p1]) ?_
  refine j_sld (pc := 1029) C hX hbl hbA (show 9 * i + 1 < LL by omega) (by omega) dL_law_1029 ?_
  refine j_aload_n (pc := 1030) C rfl dL_law_1030 rfl ?_
  refine j_iload (pc := 1031) C dL_law_1031 rfl ?_
  refine j_iconst (pc := 1033) (v := 2) C dL_law_1033 (by decide) ?_
  refine j_iadd (pc := 1034) C dL_law_1034 ?_
  refine j_st (by rw [nI_p2]) ?_
  refine j_sld (pc := 1035) C hX hbl hbA (show 9 * i + 2 < LL by omega) (by omega) dL_law_1035 ?_
  refine j_i2l (pc := 1036) C dL_law_1036 ?_
  refine j_bipush (pc := 1037) (v := 32) C dL_law_1037 (by decide) ?_
  refine j_lshl (pc := 1039) C dL_law_1039 ?_
  refine j_aload_n (pc := 1040) C rfl dL_law_1040 rfl ?_
  refine j_iload (pc := 1041) C dL_law_1041 rfl ?_
  refine j_iconst (pc := 1043) (v := 3) C dL_law_1043 (by decide) ?_
  refine j_iadd (pc := 1044) C dL_law_1044 ?_
  refine j_st (by rw [nI_p3]) ?_
  refine j_sld (pc := 1045) C hX hbl hbA (show 9 * i + 3 < LL by omega) (by omega) dL_law_1045 ?_
  refine j_i2l (pc := 1046) C dL_law_1046 ?_
  refine j_ldc2 (pc := 1047) (v := 4294967295) C dL_law_1047 (by decide +kernel) ?_
  refine j_land (pc := 1050) C dL_law_1050 ?_
  refine j_lor (pc := 1051) C dL_law_1051 ?_
  refine j_topl (fun y1 ey1 => ?_)
  refine j_aload_n (pc := 1052) C rfl dL_law_1052 rfl ?_
  refine j_iload (pc := 1053) C dL_law_1053 rfl ?_
  refine j_iconst (pc := 1055) (v := 4) C dL_law_1055 (by decide) ?_
  refine j_iadd (pc := 1056) C dL_law_1056 ?_
  refine j_st (by rw [nI_p4]) ?_
  refine j_sld (pc := 1057) C hX hbl hbA (show 9 * i + 4 < LL by omega) (by omega) dL_law_1057 ?_
  refine j_i2l (pc := 1058) C dL_law_1058 ?_
  refine j_bipush (pc := 1059) (v := 32) C dL_law_1059 (by decide) ?_
  refine j_lshl (pc := 1061) C dL_law_1061 ?_
  refine j_aload_n (pc := 1062) C rfl dL_law_1062 rfl ?_
  refine j_iload (pc := 1063) C dL_law_1063 rfl ?_
  refine j_iconst (pc := 1065) (v := 5) C dL_law_1065 (by decide) ?_
  refine j_iadd (pc := 1066) C dL_law_1066 ?_
  refine j_st (by rw [nI_p5]) ?_
  refine j_sld (pc := 1067) C hX hbl hbA (show 9 * i + 5 < LL by omega) (by omega) dL_law_1067 ?_
  refine j_i2l (pc := 1068) C dL_law_1068 ?_
  refine j_ldc2 (pc := 1069) (v := 4294967295) C dL_law_1069 (by decide +kernel) ?_
  refine j_land (pc := 1072) C dL_law_1072 ?_
  refine j_lor (pc := 1073) C dL_law_1073 ?_
  refine j_topl (fun y2 ey2 => ?_)
  refine j_aload_n (pc := 1074) C rfl dL_law_1074 rfl ?_
  refine jSW_i (pc := 1075) (k2 := 55 + 100 * i + 100) (n2 := 838 + 1000 * i + 1000) (np := 5) (As := [.ref (ad 0), .int (xs (9 * i + 1)), .long y1, .long y2, .ref ao]) C (ct_L_judgeByRules hcs.1 (ct_judgeByRules hlt hcs (xs (9 * i + 1)) y1 y2) (hp_judgeByRules (ad := ad) (cp := cp) (fq := fq) (df := df) (E := E) hO) (fun _ _ h => h.1)) gL_law_L_judgeByRules rfl (by decide +kernel) ⟨by decide, by decide⟩ rfl rfl (Nat.le_of_ble_eq_true rfl) dL_law_1075 (Nat.le_refl _) (Nat.le_refl _) ⟨by show 55 + 100 * i + 100 ≤ 601024; omega, by show 838 + 1000 * i + 1000 ≤ 7293034; omega⟩ (fun k9 L2 w2 hk9 => ?_)
  obtain ⟨hm2, hag⟩ := ag_judgeByRules (L2 := L2) (w2 := w2) hcs hmd hO hk9
  obtain ⟨ns, ar, ac, mk, vl, ks, sz, co, ro, hmB⟩ := id hm2
  have h42 := hmB.1
  refine j_istore_5 (pc := 1078) C dL_law_1078 (by decide) rfl ?_
  refine j_aload_n (pc := 1080) C rfl dL_law_1080 rfl ?_
  refine j_aload_n (pc := 1081) C rfl dL_law_1081 rfl ?_
  refine j_iload (pc := 1082) C dL_law_1082 rfl ?_
  refine j_iconst (pc := 1084) (v := 1) C dL_law_1084 (by decide) ?_
  refine j_iadd (pc := 1085) C dL_law_1085 ?_
  refine j_st (by rw [nI_p1]) ?_
  refine j_sld (pc := 1086) C hX hbl hbA (show 9 * i + 1 < LL by omega) (by omega) dL_law_1086 ?_
  refine j_aload_n (pc := 1087) C rfl dL_law_1087 rfl ?_
  refine j_iload (pc := 1088) C dL_law_1088 rfl ?_
  refine j_iconst (pc := 1090) (v := 2) C dL_law_1090 (by decide) ?_
  refine j_iadd (pc := 1091) C dL_law_1091 ?_
  refine j_st (by rw [nI_p2]) ?_
  refine j_sld (pc := 1092) C hX hbl hbA (show 9 * i + 2 < LL by omega) (by omega) dL_law_1092 ?_
  refine j_i2l (pc := 1093) C dL_law_1093 ?_
  refine j_bipush (pc := 1094) (v := 32) C dL_law_1094 (by decide) ?_
  refine j_lshl (pc := 1096) C dL_law_1096 ?_
  refine j_aload_n (pc := 1097) C rfl dL_law_1097 rfl ?_
  refine j_iload (pc := 1098) C dL_law_1098 rfl ?_
  refine j_iconst (pc := 1100) (v := 3) C dL_law_1100 (by decide) ?_
  refine j_iadd (pc := 1101) C dL_law_1101 ?_
  refine j_st (by rw [nI_p3]) ?_
  refine j_sld (pc := 1102) C hX hbl hbA (show 9 * i + 3 < LL by omega) (by omega) dL_law_1102 ?_
  refine j_i2l (pc := 1103) C dL_law_1103 ?_
  refine j_ldc2 (pc := 1104) (v := 4294967295) C dL_law_1104 (by decide +kernel) ?_
  refine j_land (pc := 1107) C dL_law_1107 ?_
  refine j_lor (pc := 1108) C dL_law_1108 ?_
  refine j_st (by rw [← ey1]) ?_
  refine j_aload_n (pc := 1109) C rfl dL_law_1109 rfl ?_
  refine j_iload (pc := 1110) C dL_law_1110 rfl ?_
  refine j_iconst (pc := 1112) (v := 4) C dL_law_1112 (by decide) ?_
  refine j_iadd (pc := 1113) C dL_law_1113 ?_
  refine j_st (by rw [nI_p4]) ?_
  refine j_sld (pc := 1114) C hX hbl hbA (show 9 * i + 4 < LL by omega) (by omega) dL_law_1114 ?_
  refine j_i2l (pc := 1115) C dL_law_1115 ?_
  refine j_bipush (pc := 1116) (v := 32) C dL_law_1116 (by decide) ?_
  refine j_lshl (pc := 1118) C dL_law_1118 ?_
  refine j_aload_n (pc := 1119) C rfl dL_law_1119 rfl ?_
  refine j_iload (pc := 1120) C dL_law_1120 rfl ?_
  refine j_iconst (pc := 1122) (v := 5) C dL_law_1122 (by decide) ?_
  refine j_iadd (pc := 1123) C dL_law_1123 ?_
  refine j_st (by rw [nI_p5]) ?_
  refine j_sld (pc := 1124) C hX hbl hbA (show 9 * i + 5 < LL by omega) (by omega) dL_law_1124 ?_
  refine j_i2l (pc := 1125) C dL_law_1125 ?_
  refine j_ldc2 (pc := 1126) (v := 4294967295) C dL_law_1126 (by decide +kernel) ?_
  refine j_land (pc := 1129) C dL_law_1129 ?_
  refine j_lor (pc := 1130) C dL_law_1130 ?_
  refine j_st (by rw [← ey2]) ?_
  refine jV_i (pc := 1131) (k2 := 55 + 100 * i + 100) (n2 := 838 + 1000 * i + 1000) (np := 3) (As := [.int (xs (9 * i + 1)), .long y1, .long y2]) C (ct_M_judgeByRules hmB (xs (9 * i + 1)) y1 y2) gL_law_X5_judgeByRules rfl (by decide +kernel) ⟨by decide, by decide⟩ h42 rfl rfl rfl (Nat.le_of_ble_eq_true rfl) dL_law_1131 (Nat.le_refl _) (Nat.le_refl _) ⟨by show 55 + 100 * i + 100 ≤ 601024; omega, by show 838 + 1000 * i + 1000 ≤ 7293034; omega⟩ (fun r2 L3 w3 hu => ?_)
  obtain ⟨w4, e4, hf4, hc4⟩ := hu
  cases e4
  have hgA := hag r2 w3 hf4 hc4
  obtain ⟨cp3, fq3, df3, E3, fo3, hcs3, hmd3, hO3, hk3⟩ := id hgA
  obtain ⟨_, _, _, _, _, _, _, _, _, hmB3⟩ := id hmd3
  have h42 := hmB3.1
  refine j_istore_6 (pc := 1134) C dL_law_1134 (by decide) rfl ?_
  refine j_aload_n (pc := 1136) C rfl dL_law_1136 rfl ?_
  refine jV_i0 (pc := 1137) (k2 := 55 + 100 * i + 100) (n2 := 838 + 1000 * i + 1000) (np := 0) (As := []) C (ct_thr hmd3) gL_law_X5_thrown rfl (by decide +kernel) ⟨by decide, by decide⟩ h42 rfl rfl rfl (Nat.le_of_ble_eq_true rfl) dL_law_1137 (Nat.le_refl _) (Nat.le_refl _) ⟨by show 55 + 100 * i + 100 ≤ 601024; omega, by show 838 + 1000 * i + 1000 ≤ 7293034; omega⟩ (fun v hv => ?_)
  refine j_st (by rw [hv]) ?_
  refine j_iload (pc := 1140) C dL_law_1140 rfl ?_
  refine j_icmp_eq (pc := 1142) (tgt := 1147) C dL_law_1142 (by decide) (fun c1142 => ?_) (fun c1142 => ?_)
  · refine j_iload (pc := 1147) C dL_law_1147 rfl ?_
    refine j_if_ne (pc := 1149) (tgt := 1164) C dL_law_1149 (by decide) (fun c1149 => ?_) (fun c1149 => ?_)
    · refine j_goto (pc := 1164) (tgt := 1469) C dL_law_1164 (by decide) ?_
      exact j_weak (by simp [lw1]) (hnext L2 w3 hgA.li)
    · refine j_aload_n (pc := 1152) C rfl dL_law_1152 rfl ?_
      refine j_iconst (pc := 1153) (v := 0) C dL_law_1153 (by decide) ?_
      refine j_lald (pc := 1154) C hO3 rfl (show 0 < 1 by decide) (by decide) dL_law_1154 ?_
      refine j_iload (pc := 1155) C dL_law_1155 rfl ?_
      refine j_i2l (pc := 1157) C dL_law_1157 ?_
      refine j_lcmp (pc := 1158) C dL_law_1158 ?_
      refine j_if_eq (pc := 1159) (tgt := 1164) C dL_law_1159 (by decide) (fun c1159 => ?_) (fun c1159 => ?_)
      · have c1159 := ez_c c1159
        refine j_goto (pc := 1164) (tgt := 1469) C dL_law_1164 (by decide) ?_
        exact j_weak (by simp [lw1]) (hnext L2 w3 hgA.li)
      · have c1159 := nz_c c1159
        exact absurd (hk3 c1149) c1159
  · exact absurd rfl c1142

set_option maxRecDepth 100000 in
set_option maxHeartbeats 8000000 in
theorem lawc_path {p : Program} {l : Launch} {e : Env} {s : State} {m : MethodId} {below : List Frame} {meth : Method} {c : Code} {G : Gp} {b LL : Nat} {xs : Nat → Int32} (hlt : l.stackTraces = false) (hLL : LL ≤ 4608) (C : Cx p s m #[Value.ref b] c cL_law RL 7 wsL_law G (fun q => s.heap.size ≤ q) s.heap) (hX : va_X b LL xs s s.heap) (hbl : b < s.heap.size) {ad am : Nat → Nat} {ao : Nat} {Q : State → Prop} {i : Nat} (hi : 9 * i + 9 ≤ LL) {L : List Nat} {w : Wn} {th cp : Int32} {fq : Nat → Nat} {df : Nat → Int32} {E : Nat → EL} {fo : Nat → Int64} (hcs : CS G ad L w cp (cp = 1) fq df E) (hmd : MD G am L w th cp df fq E) (hO : Hs L w 54 ao (jarE G 1 fo)) (hnext : ∀ (L3 : List Nat) (w3 : Wn), LI G ad am ao L3 w3 → J p l e room_1 s m #[Value.ref b] below meth c G (fun q => s.heap.size ≤ q) s.heap 7 Q L3 w3 (55 + 100 * i + 100) (838 + 1000 * i + 1000) 1469 [some (.ref b), some (.ref (ad 0)), some (.ref (am 42)), some (.ref ao), some (.int (nI (9 * i))), none, none] []) : J p l e room_1 s m #[Value.ref b] below meth c G (fun q => s.heap.size ≤ q) s.heap 7 Q L w (55 + 100 * i) (838 + 1000 * i) 1167 [some (.ref b), some (.ref (ad 0)), some (.ref (am 42)), some (.ref ao), some (.int (nI (9 * i))), none, none] [] := by
  have hbA : ¬ (fun q : Nat => s.heap.size ≤ q) b := Nat.not_le.mpr hbl
  refine j_aload_n (pc := 1167) C rfl dL_law_1167 rfl ?_
  refine j_aload_n (pc := 1168) C rfl dL_law_1168 rfl ?_
  refine j_iload (pc := 1169) C dL_law_1169 rfl ?_
  refine j_iconst (pc := 1171) (v := 1) C dL_law_1171 (by decide) ?_
  refine j_iadd (pc := 1172) C dL_law_1172 ?_
  refine j_st (by rw [nI_p1]) ?_
  refine j_sld (pc := 1173) C hX hbl hbA (show 9 * i + 1 < LL by omega) (by omega) dL_law_1173 ?_
  refine j_aload_n (pc := 1174) C rfl dL_law_1174 rfl ?_
  refine j_iload (pc := 1175) C dL_law_1175 rfl ?_
  refine j_iconst (pc := 1177) (v := 2) C dL_law_1177 (by decide) ?_
  refine j_iadd (pc := 1178) C dL_law_1178 ?_
  refine j_st (by rw [nI_p2]) ?_
  refine j_sld (pc := 1179) C hX hbl hbA (show 9 * i + 2 < LL by omega) (by omega) dL_law_1179 ?_
  refine j_i2l (pc := 1180) C dL_law_1180 ?_
  refine j_bipush (pc := 1181) (v := 32) C dL_law_1181 (by decide) ?_
  refine j_lshl (pc := 1183) C dL_law_1183 ?_
  refine j_aload_n (pc := 1184) C rfl dL_law_1184 rfl ?_
  refine j_iload (pc := 1185) C dL_law_1185 rfl ?_
  refine j_iconst (pc := 1187) (v := 3) C dL_law_1187 (by decide) ?_
  refine j_iadd (pc := 1188) C dL_law_1188 ?_
  refine j_st (by rw [nI_p3]) ?_
  refine j_sld (pc := 1189) C hX hbl hbA (show 9 * i + 3 < LL by omega) (by omega) dL_law_1189 ?_
  refine j_i2l (pc := 1190) C dL_law_1190 ?_
  refine j_ldc2 (pc := 1191) (v := 4294967295) C dL_law_1191 (by decide +kernel) ?_
  refine j_land (pc := 1194) C dL_law_1194 ?_
  refine j_lor (pc := 1195) C dL_law_1195 ?_
  refine j_topl (fun y1 ey1 => ?_)
  refine j_aload_n (pc := 1196) C rfl dL_law_1196 rfl ?_
  refine j_iload (pc := 1197) C dL_law_1197 rfl ?_
  refine j_iconst (pc := 1199) (v := 4) C dL_law_1199 (by decide) ?_
  refine j_iadd (pc := 1200) C dL_law_1200 ?_
  refine j_st (by rw [nI_p4]) ?_
  refine j_sld (pc := 1201) C hX hbl hbA (show 9 * i + 4 < LL by omega) (by omega) dL_law_1201 ?_
  refine j_i2l (pc := 1202) C dL_law_1202 ?_
  refine j_bipush (pc := 1203) (v := 32) C dL_law_1203 (by decide) ?_
  refine j_lshl (pc := 1205) C dL_law_1205 ?_
  refine j_aload_n (pc := 1206) C rfl dL_law_1206 rfl ?_
  refine j_iload (pc := 1207) C dL_law_1207 rfl ?_
  refine j_iconst (pc := 1209) (v := 5) C dL_law_1209 (by decide) ?_
  refine j_iadd (pc := 1210) C dL_law_1210 ?_
  refine j_st (by rw [nI_p5]) ?_
  refine j_sld (pc := 1211) C hX hbl hbA (show 9 * i + 5 < LL by omega) (by omega) dL_law_1211 ?_
  refine j_i2l (pc := 1212) C dL_law_1212 ?_
  refine j_ldc2 (pc := 1213) (v := 4294967295) C dL_law_1213 (by decide +kernel) ?_
  refine j_land (pc := 1216) C dL_law_1216 ?_
  refine j_lor (pc := 1217) C dL_law_1217 ?_
  refine j_topl (fun y2 ey2 => ?_)
  refine j_aload_n (pc := 1218) C rfl dL_law_1218 rfl ?_
  refine jSW_i (pc := 1219) (k2 := 55 + 100 * i + 100) (n2 := 838 + 1000 * i + 1000) (np := 5) (As := [.ref (ad 0), .int (xs (9 * i + 1)), .long y1, .long y2, .ref ao]) C (ct_L_path hcs.1 (ct_path hlt hcs (xs (9 * i + 1)) y1 y2) (hp_path (ad := ad) (cp := cp) (fq := fq) (df := df) (E := E) hO) (fun _ _ h => h.elim (fun z => Or.inl z.1) (fun z => Or.inr z.1))) gL_law_L_path rfl (by decide +kernel) ⟨by decide, by decide⟩ rfl rfl (Nat.le_of_ble_eq_true rfl) dL_law_1219 (Nat.le_refl _) (Nat.le_refl _) ⟨by show 55 + 100 * i + 100 ≤ 601024; omega, by show 838 + 1000 * i + 1000 ≤ 7293034; omega⟩ (fun k9 L2 w2 hk9 => ?_)
  obtain ⟨hm2, hag⟩ := ag_path (L2 := L2) (w2 := w2) hcs hmd hO hk9
  obtain ⟨ns, ar, ac, mk, vl, ks, sz, co, ro, hmB⟩ := id hm2
  have h42 := hmB.1
  refine j_istore_5 (pc := 1222) C dL_law_1222 (by decide) rfl ?_
  refine j_aload_n (pc := 1224) C rfl dL_law_1224 rfl ?_
  refine j_aload_n (pc := 1225) C rfl dL_law_1225 rfl ?_
  refine j_iload (pc := 1226) C dL_law_1226 rfl ?_
  refine j_iconst (pc := 1228) (v := 1) C dL_law_1228 (by decide) ?_
  refine j_iadd (pc := 1229) C dL_law_1229 ?_
  refine j_st (by rw [nI_p1]) ?_
  refine j_sld (pc := 1230) C hX hbl hbA (show 9 * i + 1 < LL by omega) (by omega) dL_law_1230 ?_
  refine j_aload_n (pc := 1231) C rfl dL_law_1231 rfl ?_
  refine j_iload (pc := 1232) C dL_law_1232 rfl ?_
  refine j_iconst (pc := 1234) (v := 2) C dL_law_1234 (by decide) ?_
  refine j_iadd (pc := 1235) C dL_law_1235 ?_
  refine j_st (by rw [nI_p2]) ?_
  refine j_sld (pc := 1236) C hX hbl hbA (show 9 * i + 2 < LL by omega) (by omega) dL_law_1236 ?_
  refine j_i2l (pc := 1237) C dL_law_1237 ?_
  refine j_bipush (pc := 1238) (v := 32) C dL_law_1238 (by decide) ?_
  refine j_lshl (pc := 1240) C dL_law_1240 ?_
  refine j_aload_n (pc := 1241) C rfl dL_law_1241 rfl ?_
  refine j_iload (pc := 1242) C dL_law_1242 rfl ?_
  refine j_iconst (pc := 1244) (v := 3) C dL_law_1244 (by decide) ?_
  refine j_iadd (pc := 1245) C dL_law_1245 ?_
  refine j_st (by rw [nI_p3]) ?_
  refine j_sld (pc := 1246) C hX hbl hbA (show 9 * i + 3 < LL by omega) (by omega) dL_law_1246 ?_
  refine j_i2l (pc := 1247) C dL_law_1247 ?_
  refine j_ldc2 (pc := 1248) (v := 4294967295) C dL_law_1248 (by decide +kernel) ?_
  refine j_land (pc := 1251) C dL_law_1251 ?_
  refine j_lor (pc := 1252) C dL_law_1252 ?_
  refine j_st (by rw [← ey1]) ?_
  refine j_aload_n (pc := 1253) C rfl dL_law_1253 rfl ?_
  refine j_iload (pc := 1254) C dL_law_1254 rfl ?_
  refine j_iconst (pc := 1256) (v := 4) C dL_law_1256 (by decide) ?_
  refine j_iadd (pc := 1257) C dL_law_1257 ?_
  refine j_st (by rw [nI_p4]) ?_
  refine j_sld (pc := 1258) C hX hbl hbA (show 9 * i + 4 < LL by omega) (by omega) dL_law_1258 ?_
  refine j_i2l (pc := 1259) C dL_law_1259 ?_
  refine j_bipush (pc := 1260) (v := 32) C dL_law_1260 (by decide) ?_
  refine j_lshl (pc := 1262) C dL_law_1262 ?_
  refine j_aload_n (pc := 1263) C rfl dL_law_1263 rfl ?_
  refine j_iload (pc := 1264) C dL_law_1264 rfl ?_
  refine j_iconst (pc := 1266) (v := 5) C dL_law_1266 (by decide) ?_
  refine j_iadd (pc := 1267) C dL_law_1267 ?_
  refine j_st (by rw [nI_p5]) ?_
  refine j_sld (pc := 1268) C hX hbl hbA (show 9 * i + 5 < LL by omega) (by omega) dL_law_1268 ?_
  refine j_i2l (pc := 1269) C dL_law_1269 ?_
  refine j_ldc2 (pc := 1270) (v := 4294967295) C dL_law_1270 (by decide +kernel) ?_
  refine j_land (pc := 1273) C dL_law_1273 ?_
  refine j_lor (pc := 1274) C dL_law_1274 ?_
  refine j_st (by rw [← ey2]) ?_
  refine jV_i (pc := 1275) (k2 := 55 + 100 * i + 100) (n2 := 838 + 1000 * i + 1000) (np := 3) (As := [.int (xs (9 * i + 1)), .long y1, .long y2]) C (ct_M_path hmB (xs (9 * i + 1)) y1 y2) gL_law_X5_path rfl (by decide +kernel) ⟨by decide, by decide⟩ h42 rfl rfl rfl (Nat.le_of_ble_eq_true rfl) dL_law_1275 (Nat.le_refl _) (Nat.le_refl _) ⟨by show 55 + 100 * i + 100 ≤ 601024; omega, by show 838 + 1000 * i + 1000 ≤ 7293034; omega⟩ (fun r2 L3 w3 hu => ?_)
  obtain ⟨w4, e4, hf4, hc4⟩ := hu
  cases e4
  have hgA := hag r2 w3 hf4 hc4
  obtain ⟨cp3, fq3, df3, E3, fo3, hcs3, hmd3, hO3, hk3⟩ := id hgA
  obtain ⟨_, _, _, _, _, _, _, _, _, hmB3⟩ := id hmd3
  have h42 := hmB3.1
  refine j_istore_6 (pc := 1278) C dL_law_1278 (by decide) rfl ?_
  refine j_aload_n (pc := 1280) C rfl dL_law_1280 rfl ?_
  refine jV_i0 (pc := 1281) (k2 := 55 + 100 * i + 100) (n2 := 838 + 1000 * i + 1000) (np := 0) (As := []) C (ct_thr hmd3) gL_law_X5_thrown rfl (by decide +kernel) ⟨by decide, by decide⟩ h42 rfl rfl rfl (Nat.le_of_ble_eq_true rfl) dL_law_1281 (Nat.le_refl _) (Nat.le_refl _) ⟨by show 55 + 100 * i + 100 ≤ 601024; omega, by show 838 + 1000 * i + 1000 ≤ 7293034; omega⟩ (fun v hv => ?_)
  refine j_st (by rw [hv]) ?_
  refine j_iload (pc := 1284) C dL_law_1284 rfl ?_
  refine j_icmp_eq (pc := 1286) (tgt := 1291) C dL_law_1286 (by decide) (fun c1286 => ?_) (fun c1286 => ?_)
  · refine j_iload (pc := 1291) C dL_law_1291 rfl ?_
    refine j_if_ne (pc := 1293) (tgt := 1308) C dL_law_1293 (by decide) (fun c1293 => ?_) (fun c1293 => ?_)
    · refine j_goto (pc := 1308) (tgt := 1469) C dL_law_1308 (by decide) ?_
      exact j_weak (by simp [lw1]) (hnext L2 w3 hgA.li)
    · refine j_aload_n (pc := 1296) C rfl dL_law_1296 rfl ?_
      refine j_iconst (pc := 1297) (v := 0) C dL_law_1297 (by decide) ?_
      refine j_lald (pc := 1298) C hO3 rfl (show 0 < 1 by decide) (by decide) dL_law_1298 ?_
      refine j_iload (pc := 1299) C dL_law_1299 rfl ?_
      refine j_i2l (pc := 1301) C dL_law_1301 ?_
      refine j_lcmp (pc := 1302) C dL_law_1302 ?_
      refine j_if_eq (pc := 1303) (tgt := 1308) C dL_law_1303 (by decide) (fun c1303 => ?_) (fun c1303 => ?_)
      · have c1303 := ez_c c1303
        refine j_goto (pc := 1308) (tgt := 1469) C dL_law_1308 (by decide) ?_
        exact j_weak (by simp [lw1]) (hnext L2 w3 hgA.li)
      · have c1303 := nz_c c1303
        exact absurd (hk3 c1293) c1303
  · exact absurd rfl c1286

set_option maxRecDepth 100000 in
set_option maxHeartbeats 8000000 in
theorem lawc_actionOf {p : Program} {l : Launch} {e : Env} {s : State} {m : MethodId} {below : List Frame} {meth : Method} {c : Code} {G : Gp} {b LL : Nat} {xs : Nat → Int32} (hlt : l.stackTraces = false) (hLL : LL ≤ 4608) (C : Cx p s m #[Value.ref b] c cL_law RL 7 wsL_law G (fun q => s.heap.size ≤ q) s.heap) (hX : va_X b LL xs s s.heap) (hbl : b < s.heap.size) {ad am : Nat → Nat} {ao : Nat} {Q : State → Prop} {i : Nat} (hi : 9 * i + 9 ≤ LL) {L : List Nat} {w : Wn} {th cp : Int32} {fq : Nat → Nat} {df : Nat → Int32} {E : Nat → EL} {fo : Nat → Int64} (hcs : CS G ad L w cp (cp = 1) fq df E) (hmd : MD G am L w th cp df fq E) (hO : Hs L w 54 ao (jarE G 1 fo)) (hnext : ∀ (L3 : List Nat) (w3 : Wn), LI G ad am ao L3 w3 → J p l e room_1 s m #[Value.ref b] below meth c G (fun q => s.heap.size ≤ q) s.heap 7 Q L3 w3 (55 + 100 * i + 100) (838 + 1000 * i + 1000) 1469 [some (.ref b), some (.ref (ad 0)), some (.ref (am 42)), some (.ref ao), some (.int (nI (9 * i))), none, none] []) : J p l e room_1 s m #[Value.ref b] below meth c G (fun q => s.heap.size ≤ q) s.heap 7 Q L w (55 + 100 * i) (838 + 1000 * i) 1311 [some (.ref b), some (.ref (ad 0)), some (.ref (am 42)), some (.ref ao), some (.int (nI (9 * i))), none, none] [] := by
  have hbA : ¬ (fun q : Nat => s.heap.size ≤ q) b := Nat.not_le.mpr hbl
  refine j_aload_n (pc := 1311) C rfl dL_law_1311 rfl ?_
  refine j_aload_n (pc := 1312) C rfl dL_law_1312 rfl ?_
  refine j_iload (pc := 1313) C dL_law_1313 rfl ?_
  refine j_iconst (pc := 1315) (v := 1) C dL_law_1315 (by decide) ?_
  refine j_iadd (pc := 1316) C dL_law_1316 ?_
  refine j_st (by rw [nI_p1]) ?_
  refine j_sld (pc := 1317) C hX hbl hbA (show 9 * i + 1 < LL by omega) (by omega) dL_law_1317 ?_
  refine j_aload_n (pc := 1318) C rfl dL_law_1318 rfl ?_
  refine j_iload (pc := 1319) C dL_law_1319 rfl ?_
  refine j_iconst (pc := 1321) (v := 2) C dL_law_1321 (by decide) ?_
  refine j_iadd (pc := 1322) C dL_law_1322 ?_
  refine j_st (by rw [nI_p2]) ?_
  refine j_sld (pc := 1323) C hX hbl hbA (show 9 * i + 2 < LL by omega) (by omega) dL_law_1323 ?_
  refine j_aload_n (pc := 1324) C rfl dL_law_1324 rfl ?_
  refine j_iload (pc := 1325) C dL_law_1325 rfl ?_
  refine j_iconst (pc := 1327) (v := 3) C dL_law_1327 (by decide) ?_
  refine j_iadd (pc := 1328) C dL_law_1328 ?_
  refine j_st (by rw [nI_p3]) ?_
  refine j_sld (pc := 1329) C hX hbl hbA (show 9 * i + 3 < LL by omega) (by omega) dL_law_1329 ?_
  refine j_i2l (pc := 1330) C dL_law_1330 ?_
  refine j_bipush (pc := 1331) (v := 32) C dL_law_1331 (by decide) ?_
  refine j_lshl (pc := 1333) C dL_law_1333 ?_
  refine j_aload_n (pc := 1334) C rfl dL_law_1334 rfl ?_
  refine j_iload (pc := 1335) C dL_law_1335 rfl ?_
  refine j_iconst (pc := 1337) (v := 4) C dL_law_1337 (by decide) ?_
  refine j_iadd (pc := 1338) C dL_law_1338 ?_
  refine j_st (by rw [nI_p4]) ?_
  refine j_sld (pc := 1339) C hX hbl hbA (show 9 * i + 4 < LL by omega) (by omega) dL_law_1339 ?_
  refine j_i2l (pc := 1340) C dL_law_1340 ?_
  refine j_ldc2 (pc := 1341) (v := 4294967295) C dL_law_1341 (by decide +kernel) ?_
  refine j_land (pc := 1344) C dL_law_1344 ?_
  refine j_lor (pc := 1345) C dL_law_1345 ?_
  refine j_topl (fun y1 ey1 => ?_)
  refine j_aload_n (pc := 1346) C rfl dL_law_1346 rfl ?_
  refine j_iload (pc := 1347) C dL_law_1347 rfl ?_
  refine j_iconst (pc := 1349) (v := 5) C dL_law_1349 (by decide) ?_
  refine j_iadd (pc := 1350) C dL_law_1350 ?_
  refine j_st (by rw [nI_p5]) ?_
  refine j_sld (pc := 1351) C hX hbl hbA (show 9 * i + 5 < LL by omega) (by omega) dL_law_1351 ?_
  refine j_i2l (pc := 1352) C dL_law_1352 ?_
  refine j_bipush (pc := 1353) (v := 32) C dL_law_1353 (by decide) ?_
  refine j_lshl (pc := 1355) C dL_law_1355 ?_
  refine j_aload_n (pc := 1356) C rfl dL_law_1356 rfl ?_
  refine j_iload (pc := 1357) C dL_law_1357 rfl ?_
  refine j_bipush (pc := 1359) (v := 6) C dL_law_1359 (by decide) ?_
  refine j_iadd (pc := 1361) C dL_law_1361 ?_
  refine j_st (by rw [nI_p6]) ?_
  refine j_sld (pc := 1362) C hX hbl hbA (show 9 * i + 6 < LL by omega) (by omega) dL_law_1362 ?_
  refine j_i2l (pc := 1363) C dL_law_1363 ?_
  refine j_ldc2 (pc := 1364) (v := 4294967295) C dL_law_1364 (by decide +kernel) ?_
  refine j_land (pc := 1367) C dL_law_1367 ?_
  refine j_lor (pc := 1368) C dL_law_1368 ?_
  refine j_topl (fun y2 ey2 => ?_)
  refine j_aload_n (pc := 1369) C rfl dL_law_1369 rfl ?_
  refine jSW_i (pc := 1370) (k2 := 55 + 100 * i + 100) (n2 := 838 + 1000 * i + 1000) (np := 6) (As := [.ref (ad 0), .int (xs (9 * i + 1)), .int (xs (9 * i + 2)), .long y1, .long y2, .ref ao]) C (ct_L_actionOf hcs.1 (ct_actionOf hlt hcs (xs (9 * i + 1)) (xs (9 * i + 2)) y1 y2) (hp_actionOf (ad := ad) (cp := cp) (fq := fq) (df := df) (E := E) hO) (fun _ _ h => h.1)) gL_law_L_actionOf rfl (by decide +kernel) ⟨by decide, by decide⟩ rfl rfl (Nat.le_of_ble_eq_true rfl) dL_law_1370 (Nat.le_refl _) (Nat.le_refl _) ⟨by show 55 + 100 * i + 100 ≤ 601024; omega, by show 838 + 1000 * i + 1000 ≤ 7293034; omega⟩ (fun k9 L2 w2 hk9 => ?_)
  obtain ⟨hm2, hag⟩ := ag_actionOf (L2 := L2) (w2 := w2) hcs hmd hO hk9
  obtain ⟨ns, ar, ac, mk, vl, ks, sz, co, ro, hmB⟩ := id hm2
  have h42 := hmB.1
  refine j_istore_5 (pc := 1373) C dL_law_1373 (by decide) rfl ?_
  refine j_aload_n (pc := 1375) C rfl dL_law_1375 rfl ?_
  refine j_aload_n (pc := 1376) C rfl dL_law_1376 rfl ?_
  refine j_iload (pc := 1377) C dL_law_1377 rfl ?_
  refine j_iconst (pc := 1379) (v := 1) C dL_law_1379 (by decide) ?_
  refine j_iadd (pc := 1380) C dL_law_1380 ?_
  refine j_st (by rw [nI_p1]) ?_
  refine j_sld (pc := 1381) C hX hbl hbA (show 9 * i + 1 < LL by omega) (by omega) dL_law_1381 ?_
  refine j_aload_n (pc := 1382) C rfl dL_law_1382 rfl ?_
  refine j_iload (pc := 1383) C dL_law_1383 rfl ?_
  refine j_iconst (pc := 1385) (v := 2) C dL_law_1385 (by decide) ?_
  refine j_iadd (pc := 1386) C dL_law_1386 ?_
  refine j_st (by rw [nI_p2]) ?_
  refine j_sld (pc := 1387) C hX hbl hbA (show 9 * i + 2 < LL by omega) (by omega) dL_law_1387 ?_
  refine j_aload_n (pc := 1388) C rfl dL_law_1388 rfl ?_
  refine j_iload (pc := 1389) C dL_law_1389 rfl ?_
  refine j_iconst (pc := 1391) (v := 3) C dL_law_1391 (by decide) ?_
  refine j_iadd (pc := 1392) C dL_law_1392 ?_
  refine j_st (by rw [nI_p3]) ?_
  refine j_sld (pc := 1393) C hX hbl hbA (show 9 * i + 3 < LL by omega) (by omega) dL_law_1393 ?_
  refine j_i2l (pc := 1394) C dL_law_1394 ?_
  refine j_bipush (pc := 1395) (v := 32) C dL_law_1395 (by decide) ?_
  refine j_lshl (pc := 1397) C dL_law_1397 ?_
  refine j_aload_n (pc := 1398) C rfl dL_law_1398 rfl ?_
  refine j_iload (pc := 1399) C dL_law_1399 rfl ?_
  refine j_iconst (pc := 1401) (v := 4) C dL_law_1401 (by decide) ?_
  refine j_iadd (pc := 1402) C dL_law_1402 ?_
  refine j_st (by rw [nI_p4]) ?_
  refine j_sld (pc := 1403) C hX hbl hbA (show 9 * i + 4 < LL by omega) (by omega) dL_law_1403 ?_
  refine j_i2l (pc := 1404) C dL_law_1404 ?_
  refine j_ldc2 (pc := 1405) (v := 4294967295) C dL_law_1405 (by decide +kernel) ?_
  refine j_land (pc := 1408) C dL_law_1408 ?_
  refine j_lor (pc := 1409) C dL_law_1409 ?_
  refine j_st (by rw [← ey1]) ?_
  refine j_aload_n (pc := 1410) C rfl dL_law_1410 rfl ?_
  refine j_iload (pc := 1411) C dL_law_1411 rfl ?_
  refine j_iconst (pc := 1413) (v := 5) C dL_law_1413 (by decide) ?_
  refine j_iadd (pc := 1414) C dL_law_1414 ?_
  refine j_st (by rw [nI_p5]) ?_
  refine j_sld (pc := 1415) C hX hbl hbA (show 9 * i + 5 < LL by omega) (by omega) dL_law_1415 ?_
  refine j_i2l (pc := 1416) C dL_law_1416 ?_
  refine j_bipush (pc := 1417) (v := 32) C dL_law_1417 (by decide) ?_
  refine j_lshl (pc := 1419) C dL_law_1419 ?_
  refine j_aload_n (pc := 1420) C rfl dL_law_1420 rfl ?_
  refine j_iload (pc := 1421) C dL_law_1421 rfl ?_
  refine j_bipush (pc := 1423) (v := 6) C dL_law_1423 (by decide) ?_
  refine j_iadd (pc := 1425) C dL_law_1425 ?_
  refine j_st (by rw [nI_p6]) ?_
  refine j_sld (pc := 1426) C hX hbl hbA (show 9 * i + 6 < LL by omega) (by omega) dL_law_1426 ?_
  refine j_i2l (pc := 1427) C dL_law_1427 ?_
  refine j_ldc2 (pc := 1428) (v := 4294967295) C dL_law_1428 (by decide +kernel) ?_
  refine j_land (pc := 1431) C dL_law_1431 ?_
  refine j_lor (pc := 1432) C dL_law_1432 ?_
  refine j_st (by rw [← ey2]) ?_
  refine jV_i (pc := 1433) (k2 := 55 + 100 * i + 100) (n2 := 838 + 1000 * i + 1000) (np := 4) (As := [.int (xs (9 * i + 1)), .int (xs (9 * i + 2)), .long y1, .long y2]) C (ct_M_actionOf hmB (xs (9 * i + 1)) (xs (9 * i + 2)) y1 y2) gL_law_X5_actionOf rfl (by decide +kernel) ⟨by decide, by decide⟩ h42 rfl rfl rfl (Nat.le_of_ble_eq_true rfl) dL_law_1433 (Nat.le_refl _) (Nat.le_refl _) ⟨by show 55 + 100 * i + 100 ≤ 601024; omega, by show 838 + 1000 * i + 1000 ≤ 7293034; omega⟩ (fun r2 L3 w3 hu => ?_)
  obtain ⟨w4, e4, hf4, hc4⟩ := hu
  cases e4
  have hgA := hag r2 w3 hf4 hc4
  obtain ⟨cp3, fq3, df3, E3, fo3, hcs3, hmd3, hO3, hk3⟩ := id hgA
  obtain ⟨_, _, _, _, _, _, _, _, _, hmB3⟩ := id hmd3
  have h42 := hmB3.1
  refine j_istore_6 (pc := 1436) C dL_law_1436 (by decide) rfl ?_
  refine j_aload_n (pc := 1438) C rfl dL_law_1438 rfl ?_
  refine jV_i0 (pc := 1439) (k2 := 55 + 100 * i + 100) (n2 := 838 + 1000 * i + 1000) (np := 0) (As := []) C (ct_thr hmd3) gL_law_X5_thrown rfl (by decide +kernel) ⟨by decide, by decide⟩ h42 rfl rfl rfl (Nat.le_of_ble_eq_true rfl) dL_law_1439 (Nat.le_refl _) (Nat.le_refl _) ⟨by show 55 + 100 * i + 100 ≤ 601024; omega, by show 838 + 1000 * i + 1000 ≤ 7293034; omega⟩ (fun v hv => ?_)
  refine j_st (by rw [hv]) ?_
  refine j_iload (pc := 1442) C dL_law_1442 rfl ?_
  refine j_icmp_eq (pc := 1444) (tgt := 1449) C dL_law_1444 (by decide) (fun c1444 => ?_) (fun c1444 => ?_)
  · refine j_iload (pc := 1449) C dL_law_1449 rfl ?_
    refine j_if_ne (pc := 1451) (tgt := 1466) C dL_law_1451 (by decide) (fun c1451 => ?_) (fun c1451 => ?_)
    · refine j_goto (pc := 1466) (tgt := 1469) C dL_law_1466 (by decide) ?_
      exact j_weak (by simp [lw1]) (hnext L2 w3 hgA.li)
    · refine j_aload_n (pc := 1454) C rfl dL_law_1454 rfl ?_
      refine j_iconst (pc := 1455) (v := 0) C dL_law_1455 (by decide) ?_
      refine j_lald (pc := 1456) C hO3 rfl (show 0 < 1 by decide) (by decide) dL_law_1456 ?_
      refine j_iload (pc := 1457) C dL_law_1457 rfl ?_
      refine j_i2l (pc := 1459) C dL_law_1459 ?_
      refine j_lcmp (pc := 1460) C dL_law_1460 ?_
      refine j_if_eq (pc := 1461) (tgt := 1466) C dL_law_1461 (by decide) (fun c1461 => ?_) (fun c1461 => ?_)
      · have c1461 := ez_c c1461
        refine j_goto (pc := 1466) (tgt := 1469) C dL_law_1466 (by decide) ?_
        exact j_weak (by simp [lw1]) (hnext L2 w3 hgA.li)
      · have c1461 := nz_c c1461
        exact absurd (hk3 c1451) c1461
  · exact absurd rfl c1444

