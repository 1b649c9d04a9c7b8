/-! THE LAW'S LOOP -/
theorem nI_p9 (a : Nat) : nI a + (9 : Int32) = nI (a + 9) := nI_add a 9
set_option maxRecDepth 100000 in
set_option maxHeartbeats 8000000 in
theorem lawc_isCompiled {p : Program} {l : Launch} {e : Env} {s : State} {m : MethodId} {below : List Frame} {meth : Method} {c : Code} {G : Gp} {b LL : Nat} {xs : Nat → Int32} (hlt : l.stackTraces = false) (hLL : LL ≤ 4608) (C : Cx p s m #[Value.ref b] c cL_law RL 7 wsL_law G (fun q => s.heap.size ≤ q) s.heap) (hX : va_X b LL xs s s.heap) (hbl : b < s.heap.size) {ad am : Nat → Nat} {ao : Nat} {Q : State → Prop} {i : Nat} (hi : 9 * i + 9 ≤ LL) {L : List Nat} {w : Wn} {th cp : Int32} {fq : Nat → Nat} {df : Nat → Int32} {E : Nat → EL} {fo : Nat → Int64} (hcs : CS G ad L w cp (cp = 1) fq df E) (hmd : MD G am L w th cp df fq E) (hO : Hs L w 54 ao (jarE G 1 fo)) (hnext : ∀ (L3 : List Nat) (w3 : Wn), LI G ad am ao L3 w3 → J p l e room_1 s m #[Value.ref b] below meth c G (fun q => s.heap.size ≤ q) s.heap 7 Q L3 w3 (55 + 100 * i + 100) (838 + 1000 * i + 1000) 1469 [some (.ref b), some (.ref (ad 0)), some (.ref (am 42)), some (.ref ao), some (.int (nI (9 * i))), none, none] []) : J p l e room_1 s m #[Value.ref b] below meth c G (fun q => s.heap.size ≤ q) s.heap 7 Q L w (55 + 100 * i) (838 + 1000 * i) 686 [some (.ref b), some (.ref (ad 0)), some (.ref (am 42)), some (.ref ao), some (.int (nI (9 * i))), none, none] [] := by
  obtain ⟨ns, ar, ac, mk, vl, ks, sz, co, ro, hmB⟩ := id hmd
  have h42 := hmB.1
  refine j_aload_n (pc := 686) C rfl dL_law_686 rfl ?_
  refine jV_i0 (pc := 687) (k2 := 55 + 100 * i + 100) (n2 := 838 + 1000 * i + 1000) (np := 0) (As := []) C (ct_isCompiled hcs) gL_law_X4_isCompiled rfl (by decide +kernel) ⟨by decide, by decide⟩ hcs.1 rfl rfl rfl (Nat.le_of_ble_eq_true rfl) dL_law_687 (Nat.le_refl _) (Nat.le_refl _) ⟨by show 55 + 100 * i + 100 ≤ 601024; omega, by show 838 + 1000 * i + 1000 ≤ 7293034; omega⟩ (fun v hv => ?_)
  refine j_st (by rw [hv]) ?_
  refine j_aload_n (pc := 690) C rfl dL_law_690 rfl ?_
  refine jV_i (pc := 691) (k2 := 55 + 100 * i + 100) (n2 := 838 + 1000 * i + 1000) (np := 0) (As := []) C (ct_M_isCompiled hmB hcs.cp) gL_law_X5_isCompiled rfl (by decide +kernel) ⟨by decide, by decide⟩ h42 rfl rfl rfl (Nat.le_of_ble_eq_true rfl) dL_law_691 (Nat.le_refl _) (Nat.le_refl _) ⟨by show 55 + 100 * i + 100 ≤ 601024; omega, by show 838 + 1000 * i + 1000 ≤ 7293034; omega⟩ (fun r2 L3 w3 hu => ?_)
  obtain ⟨w4, e4, hf4, hr4, hm4⟩ := hu
  cases e4
  refine j_st (by rw [hr4]) ?_
  refine j_icmp_eq (pc := 694) (tgt := 1469) C dL_law_694 (by decide) (fun c694 => ?_) (fun c694 => ?_)
  · exact hnext L w3 ⟨0, cp, fq, df, E, fo, hcs.fr hf4 (fun m z => by omega), hm4, hf4.hs hO (by decide)⟩
  · exact absurd rfl c694

set_option maxRecDepth 100000 in
set_option maxHeartbeats 8000000 in
theorem law_loop {p : Program} {l : Launch} {e : Env} {s : State} {m : MethodId} {below : List Frame} {meth : Method} {c : Code} {G : Gp} {b LL : Nat} {xs : Nat → Int32} (hlt : l.stackTraces = false) (hLL : LL ≤ 4608) (C : Cx p s m #[Value.ref b] c cL_law RL 7 wsL_law G (fun q => s.heap.size ≤ q) s.heap) (hX : va_X b LL xs s s.heap) (hbl : b < s.heap.size) {ad am : Nat → Nat} {ao : Nat} (hr : meth.sig.returnType = ret) (hlk : meth.locks = false) : ∀ (f i : Nat) (L : List Nat) (w : Wn), 513 - i = f → i ≤ 512 → LI G ad am ao L w → J p l e room_1 s m #[Value.ref b] below meth c G (fun q => s.heap.size ≤ q) s.heap 7 (lw_Z below #[Value.ref b] s) L w (55 + 100 * i) (838 + 1000 * i) 23 [some (.ref b), some (.ref (ad 0)), some (.ref (am 42)), some (.ref ao), some (.int (nI (9 * i))), none, none] [] := by
  have hbA : ¬ (fun q : Nat => s.heap.size ≤ q) b := Nat.not_le.mpr hbl
  intro f
  induction f using Nat.strongRecOn with
  | _ f ih =>
    intro i L w hf hi0 hli
    obtain ⟨th, cp, fq, df, E, fo, hcs, hmd, hO⟩ := id hli
    refine j_iload (pc := 23) C dL_law_23 rfl ?_
    refine j_aload_n (pc := 25) C rfl dL_law_25 rfl ?_
    refine j_slen (pc := 26) C hX hbl hbA dL_law_26 ?_
    refine j_bipush (pc := 27) (v := 9) C dL_law_27 (by decide) ?_
    refine j_isub (pc := 29) C dL_law_29 ?_
    refine j_icmp_gt (pc := 30) (tgt := 1475) C dL_law_30 (by decide) (fun c30 => ?_) (fun c30 => ?_)
    · refine j_iconst (pc := 1475) (v := 1) C dL_law_1475 (by decide) ?_
      exact fun H locs ls hP hD hS hl => va_forget (fun q hq => hS.2.2 q hq) (W.widen (k := 601024) (n := 7293034) (by omega) (by omega) (lw_ret C.1 C.2.1 hr hlk dL_law_1476))
    · have hi : 9 * i + 9 ≤ LL := by
        have h1 := Int32.le_iff_toInt_le.mp (Int32.not_lt.mp c30)
        have h2 := pk_sub_toInt (a := LL) (b := 9) (by omega) (by decide)
        have h3 : (nI LL - 9).toInt = (LL : Int) - 9 := h2
        have h4 := nI_toInt (n := 9 * i) (by omega)
        omega
      have hnext : ∀ (L3 : List Nat) (w3 : Wn), LI G ad am ao L3 w3 → J p l e room_1 s m #[Value.ref b] below meth c G (fun q => s.heap.size ≤ q) s.heap 7 (lw_Z below #[Value.ref b] s) L3 w3 (55 + 100 * i + 100) (838 + 1000 * i + 1000) 1469 [some (.ref b), some (.ref (ad 0)), some (.ref (am 42)), some (.ref ao), some (.int (nI (9 * i))), none, none] [] := fun L3 w3 h3 => by
        refine j_iinc_4 (pc := 1469) (d := 9) C dL_law_1469 (by decide) rfl rfl ?_
        refine j_lo (by rw [nI_p9]) ?_
        refine j_goto (pc := 1472) (tgt := 23) C dL_law_1472 (by decide) ?_
        rw [show 55 + 100 * i + 100 = 55 + 100 * (i + 1) by omega, show 838 + 1000 * i + 1000 = 838 + 1000 * (i + 1) by omega, show 9 * i + 9 = 9 * (i + 1) by omega]
        exact ih (513 - (i + 1)) (by omega) (i + 1) L3 w3 rfl (by omega) h3
      refine j_aload_n (pc := 33) C rfl dL_law_33 rfl ?_
      refine j_iload (pc := 34) C dL_law_34 rfl ?_
      refine j_sld (pc := 36) C hX hbl hbA (show 9 * i < LL by omega) (by omega) dL_law_36 ?_
      refine j_bipush (pc := 37) (v := 15) C dL_law_37 (by decide) ?_
      refine j_iand (pc := 39) C dL_law_39 ?_
      refine j_top (fun y ey => ?_)
      rcases (show y.toInt < 0 ∨ 14 < y.toInt ∨ y.toInt = 0 ∨ y.toInt = 1 ∨ y.toInt = 2 ∨ y.toInt = 3 ∨ y.toInt = 4 ∨ y.toInt = 5 ∨ y.toInt = 6 ∨ y.toInt = 7 ∨ y.toInt = 8 ∨ y.toInt = 9 ∨ y.toInt = 10 ∨ y.toInt = 11 ∨ y.toInt = 12 ∨ y.toInt = 13 ∨ y.toInt = 14 by omega) with h | h | h | h | h | h | h | h | h | h | h | h | h | h | h | h | h
      · refine j_tblOut (pc := 40) (tgt := 1469) C dL_law_40 (Or.inl h) (by decide) ?_
        exact j_widen (by omega) (by omega) (hnext L w ⟨th, cp, fq, df, E, fo, hcs, hmd, hO⟩)
      · refine j_tblOut (pc := 40) (tgt := 1469) C dL_law_40 (Or.inr h) (by decide) ?_
        exact j_widen (by omega) (by omega) (hnext L w ⟨th, cp, fq, df, E, fo, hcs, hmd, hO⟩)
      · refine j_tblIn (pc := 40) (off := 76) (tgt := 116) C dL_law_40 (by omega) (by omega) (by rw [h]; rfl) (by decide) ?_
        exact lawc_add hlt hLL C hX hbl hi hcs hmd hO hnext
      · refine j_tblIn (pc := 40) (off := 262) (tgt := 302) C dL_law_40 (by omega) (by omega) (by rw [h]; rfl) (by decide) ?_
        exact lawc_remove hlt hLL C hX hbl hi hcs hmd hO hnext
      · refine j_tblIn (pc := 40) (off := 330) (tgt := 370) C dL_law_40 (by omega) (by omega) (by rw [h]; rfl) (by decide) ?_
        exact lawc_setDefault hlt hLL C hX hbl hi hcs hmd hO hnext
      · refine j_tblIn (pc := 40) (off := 398) (tgt := 438) C dL_law_40 (by omega) (by omega) (by rw [h]; rfl) (by decide) ?_
        exact lawc_setFrequency hlt hLL C hX hbl hi hcs hmd hO hnext
      · refine j_tblIn (pc := 40) (off := 466) (tgt := 506) C dL_law_40 (by omega) (by omega) (by rw [h]; rfl) (by decide) ?_
        exact lawc_rules hlt hLL C hX hbl hi hcs hmd hO hnext
      · refine j_tblIn (pc := 40) (off := 522) (tgt := 562) C dL_law_40 (by omega) (by omega) (by rw [h]; rfl) (by decide) ?_
        exact lawc_hider hlt hLL C hX hbl hi hcs hmd hO hnext
      · refine j_tblIn (pc := 40) (off := 590) (tgt := 630) C dL_law_40 (by omega) (by omega) (by rw [h]; rfl) (by decide) ?_
        exact lawc_compile hlt hLL C hX hbl hi hcs hmd hO hnext
      · refine j_tblIn (pc := 40) (off := 646) (tgt := 686) C dL_law_40 (by omega) (by omega) (by rw [h]; rfl) (by decide) ?_
        exact lawc_isCompiled hlt hLL C hX hbl hi hcs hmd hO hnext
      · refine j_tblIn (pc := 40) (off := 659) (tgt := 699) C dL_law_40 (by omega) (by omega) (by rw [h]; rfl) (by decide) ?_
        exact lawc_test hlt hLL C hX hbl hi hcs hmd hO hnext
      · refine j_tblIn (pc := 40) (off := 727) (tgt := 767) C dL_law_40 (by omega) (by omega) (by rw [h]; rfl) (by decide) ?_
        exact lawc_cost hlt hLL C hX hbl hi hcs hmd hO hnext
      · refine j_tblIn (pc := 40) (off := 783) (tgt := 823) C dL_law_40 (by omega) (by omega) (by rw [h]; rfl) (by decide) ?_
        exact lawc_worst hlt hLL C hX hbl hi hcs hmd hO hnext
      · refine j_tblIn (pc := 40) (off := 839) (tgt := 879) C dL_law_40 (by omega) (by omega) (by rw [h]; rfl) (by decide) ?_
        exact lawc_judge hlt hLL C hX hbl hi hcs hmd hO hnext
      · refine j_tblIn (pc := 40) (off := 983) (tgt := 1023) C dL_law_40 (by omega) (by omega) (by rw [h]; rfl) (by decide) ?_
        exact lawc_judgeByRules hlt hLL C hX hbl hi hcs hmd hO hnext
      · refine j_tblIn (pc := 40) (off := 1127) (tgt := 1167) C dL_law_40 (by omega) (by omega) (by rw [h]; rfl) (by decide) ?_
        exact lawc_path hlt hLL C hX hbl hi hcs hmd hO hnext
      · refine j_tblIn (pc := 40) (off := 1271) (tgt := 1311) C dL_law_40 (by omega) (by omega) (by rw [h]; rfl) (by decide) ?_
        exact lawc_actionOf hlt hLL C hX hbl hi hcs hmd hO hnext

