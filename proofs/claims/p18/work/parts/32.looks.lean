/-! WHAT THE LAW LOOKS AT: hiders, likeness, a call -/
theorem hid_rng {rs : List RV} {i : Nat} (hi : i ≤ 100) : ¬ onI (hid rs i) < -1 ∧ onI (hid rs i) ≤ nI i := by
  cases h : hid rs i with
  | none =>
    have h1 : (nI i).toInt = i := nI_toInt (by omega)
    refine ⟨by show ¬ (-1 : Int32) < -1; decide, ?_⟩
    show (-1 : Int32) ≤ nI i
    exact Int32.le_iff_toInt_le.mpr (by rw [h1]; show (-1 : Int) ≤ _; omega)
  | some q =>
    have hq := hid_lt h
    have h1 : (nI q).toInt = q := nI_toInt (by omega)
    refine ⟨fun z => ?_, nI_le hq (by omega)⟩
    have z1 := Int32.lt_iff_toInt_lt.mp z
    have z2 : (onI (some q)).toInt = q := h1
    rw [z2] at z1
    have z3 : ((-1 : Int32)).toInt = -1 := rfl
    omega
section LOOKS
variable {l : Launch} {G : Gp} {L : List Nat} {w : Wn} {ad ap : Nat → Nat} {S : Ms}
set_option maxRecDepth 100000 in
set_option maxHeartbeats 8000000 in
theorem ct_areHidersSo (hlt : l.stackTraces = false) (hS : OS G ad L w S) {j : Nat} (hj : j < 4) : CI l yL_areHidersSo wsL_areHidersSo (rmD 32 220 2200) G L w [.ref (ad 0), .int (nI j)] (fun r u => r = 1 ∧ u = (L, w)) := by
  have hle := hS.le hj
  refine mk_i (cc := cL_areHidersSo) (maxL := 4) [some (.ref (ad 0)), some (.int (nI j)), none, none] (by decide) rfl (Nat.le_of_ble_eq_true rfl) rfl ?_
  intro p e s m args below meth c A C hr hlk hnm
  have loop : ∀ (f i : Nat), (S.2.2.2 j).length - i = f → i ≤ (S.2.2.2 j).length → J p l e (rmD 32 220 2200) s m args below meth c G A s.heap 4 (MQ below (va_Qi (fun r u => r = 1 ∧ u = (L, w)) (PB G A) A) args s (rmD 32 220 2200).cells (rmD 32 220 2200).slots A) L w (20 * i) (200 * i) 2 [some (.ref (ad 0)), some (.int (nI j)), some (.int (nI i)), none] [] := by
    intro f
    induction f using Nat.strongRecOn with
    | _ f ih =>
      intro i hf hi
      refine j_iload_n (pc := 2) C rfl dL_areHidersSo_2 rfl ?_
      refine j_aload_n (pc := 3) C rfl dL_areHidersSo_3 rfl ?_
      refine j_iload_n (pc := 4) C rfl dL_areHidersSo_4 rfl ?_
      refine jV_i0 (pc := 5) (k2 := 20 * i + 10) (n2 := 200 * i + 100) (np := 1) (As := [.int (nI j)]) C (cr_rules hlt hS hj) gL_areHidersSo_X4_rules rfl (by decide +kernel) ⟨by decide, by decide⟩ hS.at0 rfl rfl rfl (Nat.le_of_ble_eq_true rfl) dL_areHidersSo_5 (by show _ + 10 ≤ _; omega) (by show _ + 100 ≤ _; omega) ⟨by show _ ≤ 220; omega, by show _ ≤ 2200; omega⟩ (fun v5 hv5 => ?_)
      subst hv5
      refine j_icmp_ge (pc := 8) (tgt := 36) C dL_areHidersSo_8 (by decide) (fun c8 => ?_) (fun c8 => ?_)
      · refine j_iconst (pc := 36) (v := 1) C dL_areHidersSo_36 (by decide) ?_
        exact ret_z C rfl hr hlk rfl dL_areHidersSo_37 (⟨rfl, rfl⟩) (by show _ ≤ 220; omega) (by show _ ≤ 2200; omega)
      · have hlt9 : i < (S.2.2.2 j).length := Nat.not_le.mp (fun q => c8 (nI_le q (by omega)))
        refine j_aload_n (pc := 11) C rfl dL_areHidersSo_11 rfl ?_
        refine j_iload_n (pc := 12) C rfl dL_areHidersSo_12 rfl ?_
        refine j_iload_n (pc := 13) C rfl dL_areHidersSo_13 rfl ?_
        refine jV_i0 (pc := 14) (k2 := 20 * i + 20) (n2 := 200 * i + 200) (np := 2) (As := [.int (nI j), .int (nI i)]) C (cr_hider hlt hS hj hlt9) gL_areHidersSo_X4_hider rfl (by decide +kernel) ⟨by decide, by decide⟩ hS.at0 rfl rfl rfl (Nat.le_of_ble_eq_true rfl) dL_areHidersSo_14 (by show _ + 10 ≤ _; omega) (by show _ + 100 ≤ _; omega) ⟨by show _ ≤ 220; omega, by show _ ≤ 2200; omega⟩ (fun v14 hv14 => ?_)
        subst hv14
        refine j_istore_3 (pc := 17) C dL_areHidersSo_17 (by decide) rfl ?_
        refine j_iload_n (pc := 18) C rfl dL_areHidersSo_18 rfl ?_
        refine j_iconst (pc := 19) (v := (-1)) C dL_areHidersSo_19 (by decide) ?_
        refine j_icmp_lt (pc := 20) (tgt := 28) C dL_areHidersSo_20 (by decide) (fun c20 => ?_) (fun c20 => ?_)
        · exact absurd c20 (hid_rng (by omega)).1
        · refine j_iload_n (pc := 23) C rfl dL_areHidersSo_23 rfl ?_
          refine j_iload_n (pc := 24) C rfl dL_areHidersSo_24 rfl ?_
          refine j_icmp_le (pc := 25) (tgt := 30) C dL_areHidersSo_25 (by decide) (fun c25 => ?_) (fun c25 => ?_)
          · refine j_iinc_2 (pc := 30) (d := 1) C dL_areHidersSo_30 (by decide) rfl rfl ?_
            refine j_goto (pc := 33) (tgt := 2) C dL_areHidersSo_33 (by decide) ?_
            refine j_weak (lo2 := [some (.ref (ad 0)), some (.int (nI j)), some (.int (nI (i + 1))), none]) ⟨rfl, rfl, by first | rfl | rw [nI_1], trivial⟩ ?_
            exact j_widen (by omega) (by omega) (ih ((S.2.2.2 j).length - (i + 1)) (by omega) (i + 1) rfl (by omega))
          · exact absurd (hid_rng (by omega)).2 c25
  refine j_iconst (pc := 0) (v := 0) C dL_areHidersSo_0 (by decide) ?_
  refine j_istore_2 (pc := 1) C dL_areHidersSo_1 (by decide) rfl ?_
  exact loop (S.2.2.2 j).length 0 (by omega) (Nat.zero_le _)

set_option maxRecDepth 100000 in
set_option maxHeartbeats 8000000 in
theorem ct_areAlike (hlt : l.stackTraces = false) (hS : OS G ad L w S) (hp : OS G ap (sL L) (sW w) S) (v : Int32) : CI l yL_areAlike wsL_areAlike (rmD 34 1420 14200) G L w [.ref (ad 0), .ref (ap 0), .int v] (fun r u => r = 1 ∧ u = (L, w)) := by
  refine mk_i (cc := cL_areAlike) (maxL := 6) [some (.ref (ad 0)), some (.ref (ap 0)), some (.int v), none, none, none] (by decide) rfl (Nat.le_of_ble_eq_true rfl) rfl ?_
  intro p e s m args below meth c A C hr hlk hnm
  have outer : ∀ (f j : Nat), 4 - j = f → j ≤ 4 → J p l e (rmD 34 1420 14200) s m args below meth c G A s.heap 6 (MQ below (va_Qi (fun r u => r = 1 ∧ u = (L, w)) (PB G A) A) args s (rmD 34 1420 14200).cells (rmD 34 1420 14200).slots A) L w (20 + 350 * j) (200 + 3500 * j) 20 [some (.ref (ad 0)), some (.ref (ap 0)), some (.int v), some (.int 1), some (.int (nI j)), none] [] := by
    intro f
    induction f using Nat.strongRecOn with
    | _ f ih =>
      intro j hf hj0
      have inner : ∀ (hj : j < 4) (f2 i : Nat), (S.2.2.2 j).length - i = f2 → i ≤ (S.2.2.2 j).length → J p l e (rmD 34 1420 14200) s m args below meth c G A s.heap 6 (MQ below (va_Qi (fun r u => r = 1 ∧ u = (L, w)) (PB G A) A) args s (rmD 34 1420 14200).cells (rmD 34 1420 14200).slots A) L w (60 + 350 * j + 30 * i) (600 + 3500 * j + 300 * i) 105 [some (.ref (ad 0)), some (.ref (ap 0)), some (.int v), some (.int 1), some (.int (nI j)), some (.int (nI i))] [] := by
        intro hj
        have hle := hS.le hj
        intro f2
        induction f2 using Nat.strongRecOn with
        | _ f2 ih2 =>
          intro i hf2 hi
          refine j_iload (pc := 105) C dL_areAlike_105 rfl ?_
          refine j_aload_n (pc := 107) C rfl dL_areAlike_107 rfl ?_
          refine j_iload (pc := 108) C dL_areAlike_108 rfl ?_
          refine jV_i0 (pc := 110) (k2 := 60 + 350 * j + 30 * i + 10) (n2 := 600 + 3500 * j + 300 * i + 100) (np := 1) (As := [.int (nI j)]) C (cr_rules hlt hS hj) gL_areAlike_X4_rules rfl (by decide +kernel) ⟨by decide, by decide⟩ hS.at0 rfl rfl rfl (Nat.le_of_ble_eq_true rfl) dL_areAlike_110 (by show _ + 10 ≤ _; omega) (by show _ + 100 ≤ _; omega) ⟨by show _ ≤ 1420; omega, by show _ ≤ 14200; omega⟩ (fun v110 hv110 => ?_)
          subst hv110
          refine j_icmp_ge (pc := 113) (tgt := 151) C dL_areAlike_113 (by decide) (fun c113 => ?_) (fun c113 => ?_)
          · refine j_iinc_4 (pc := 151) (d := 1) C dL_areAlike_151 (by decide) rfl rfl ?_
            refine j_goto (pc := 154) (tgt := 20) C dL_areAlike_154 (by decide) ?_
            refine j_weak (lo2 := [some (.ref (ad 0)), some (.ref (ap 0)), some (.int v), some (.int 1), some (.int (nI (j + 1))), none]) ⟨rfl, rfl, rfl, rfl, by first | rfl | rw [nI_1], trivial⟩ ?_
            exact j_widen (by omega) (by omega) (ih (4 - (j + 1)) (by omega) (j + 1) rfl (by omega))
          · have hlt9 : i < (S.2.2.2 j).length := Nat.not_le.mp (fun q => c113 (nI_le q (by omega)))
            refine j_iload_n (pc := 116) C rfl dL_areAlike_116 rfl ?_
            refine j_if_eq (pc := 117) (tgt := 151) C dL_areAlike_117 (by decide) (fun c117 => ?_) (fun c117 => ?_)
            · exact absurd c117 (by decide)
            · refine j_aload_n (pc := 120) C rfl dL_areAlike_120 rfl ?_
              refine j_iload (pc := 121) C dL_areAlike_121 rfl ?_
              refine j_iload (pc := 123) C dL_areAlike_123 rfl ?_
              refine jV_i0 (pc := 125) (k2 := 60 + 350 * j + 30 * i + 20) (n2 := 600 + 3500 * j + 300 * i + 200) (np := 2) (As := [.int (nI j), .int (nI i)]) C (cr_hider hlt hS hj hlt9) gL_areAlike_X4_hider rfl (by decide +kernel) ⟨by decide, by decide⟩ hS.at0 rfl rfl rfl (Nat.le_of_ble_eq_true rfl) dL_areAlike_125 (by show _ + 10 ≤ _; omega) (by show _ + 100 ≤ _; omega) ⟨by show _ ≤ 1420; omega, by show _ ≤ 14200; omega⟩ (fun v125 hv125 => ?_)
              subst hv125
              refine j_aload_n (pc := 128) C rfl dL_areAlike_128 rfl ?_
              refine j_iload (pc := 129) C dL_areAlike_129 rfl ?_
              refine j_iload (pc := 131) C dL_areAlike_131 rfl ?_
              refine jV_i0 (pc := 133) (k2 := 60 + 350 * j + 30 * i + 30) (n2 := 600 + 3500 * j + 300 * i + 300) (np := 2) (As := [.int (nI j), .int (nI i)]) C ((cr_hider hlt hp hj hlt9).sw0) gL_areAlike_X4_hider rfl (by decide +kernel) ⟨by decide, by decide⟩ hp.at0.sw rfl rfl rfl (Nat.le_of_ble_eq_true rfl) dL_areAlike_133 (by show _ + 10 ≤ _; omega) (by show _ + 100 ≤ _; omega) ⟨by show _ ≤ 1420; omega, by show _ ≤ 14200; omega⟩ (fun v133 hv133 => ?_)
              subst hv133
              refine j_icmp_ne (pc := 136) (tgt := 143) C dL_areAlike_136 (by decide) (fun c136 => ?_) (fun c136 => ?_)
              · exact absurd rfl c136
              · refine j_iconst (pc := 139) (v := 1) C dL_areAlike_139 (by decide) ?_
                refine j_goto (pc := 140) (tgt := 144) C dL_areAlike_140 (by decide) ?_
                refine j_istore_3 (pc := 144) C dL_areAlike_144 (by decide) rfl ?_
                refine j_iinc_5 (pc := 145) (d := 1) C dL_areAlike_145 (by decide) rfl rfl ?_
                refine j_goto (pc := 148) (tgt := 105) C dL_areAlike_148 (by decide) ?_
                refine j_lo (lo2 := [some (.ref (ad 0)), some (.ref (ap 0)), some (.int v), some (.int 1), some (.int (nI j)), some (.int (nI (i + 1)))]) (by rw [nI_1]) ?_
                exact j_widen (by omega) (by omega) (ih2 ((S.2.2.2 j).length - (i + 1)) (by omega) (i + 1) rfl (by omega))
      refine j_iload (pc := 20) C dL_areAlike_20 rfl ?_
      refine j_iconst (pc := 22) (v := 4) C dL_areAlike_22 (by decide) ?_
      refine j_icmp_ge (pc := 23) (tgt := 157) C dL_areAlike_23 (by decide) (fun c23 => ?_) (fun c23 => ?_)
      · refine j_weak (lo2 := [some (.ref (ad 0)), some (.ref (ap 0)), some (.int v), some (.int 1), none, none]) ⟨rfl, rfl, rfl, rfl, trivial⟩ ?_
        refine j_iload_n (pc := 157) C rfl dL_areAlike_157 rfl ?_
        exact ret_z C rfl hr hlk rfl dL_areAlike_158 (⟨rfl, rfl⟩) (by show _ ≤ 1420; omega) (by show _ ≤ 14200; omega)
      · have hj : j < 4 := Nat.not_le.mp (fun q => c23 (nI_le (a := 4) (b := j) q (by omega)))
        have hle := hS.le hj
        refine j_iload_n (pc := 26) C rfl dL_areAlike_26 rfl ?_
        refine j_if_eq (pc := 27) (tgt := 157) C dL_areAlike_27 (by decide) (fun c27 => ?_) (fun c27 => ?_)
        · exact absurd c27 (by decide)
        · refine j_aload_n (pc := 30) C rfl dL_areAlike_30 rfl ?_
          refine j_iload (pc := 31) C dL_areAlike_31 rfl ?_
          refine jV_i0 (pc := 33) (k2 := 20 + 350 * j + 10) (n2 := 200 + 3500 * j + 100) (np := 1) (As := [.int (nI j)]) C (cr_rules hlt hS hj) gL_areAlike_X4_rules rfl (by decide +kernel) ⟨by decide, by decide⟩ hS.at0 rfl rfl rfl (Nat.le_of_ble_eq_true rfl) dL_areAlike_33 (by show _ + 10 ≤ _; omega) (by show _ + 100 ≤ _; omega) ⟨by show _ ≤ 1420; omega, by show _ ≤ 14200; omega⟩ (fun v33 hv33 => ?_)
          subst hv33
          refine j_aload_n (pc := 36) C rfl dL_areAlike_36 rfl ?_
          refine j_iload (pc := 37) C dL_areAlike_37 rfl ?_
          refine jV_i0 (pc := 39) (k2 := 20 + 350 * j + 20) (n2 := 200 + 3500 * j + 200) (np := 1) (As := [.int (nI j)]) C ((cr_rules hlt hp hj).sw0) gL_areAlike_X4_rules rfl (by decide +kernel) ⟨by decide, by decide⟩ hp.at0.sw rfl rfl rfl (Nat.le_of_ble_eq_true rfl) dL_areAlike_39 (by show _ + 10 ≤ _; omega) (by show _ + 100 ≤ _; omega) ⟨by show _ ≤ 1420; omega, by show _ ≤ 14200; omega⟩ (fun v39 hv39 => ?_)
          subst hv39
          refine j_icmp_ne (pc := 42) (tgt := 100) C dL_areAlike_42 (by decide) (fun c42 => ?_) (fun c42 => ?_)
          · exact absurd rfl c42
          · refine j_aload_n (pc := 45) C rfl dL_areAlike_45 rfl ?_
            refine j_iload (pc := 46) C dL_areAlike_46 rfl ?_
            refine j_iload_n (pc := 48) C rfl dL_areAlike_48 rfl ?_
            refine j_iconst (pc := 49) (v := 5) C dL_areAlike_49 (by decide) ?_
            refine jS_i0 (pc := 50) (k2 := 20 + 350 * j + 20) (n2 := 200 + 3500 * j + 200) (np := 2) (As := [.int (v), .int 5]) C (ct_low (v) 5 (by decide)) gL_areAlike_L_low rfl (by decide +kernel) ⟨by decide, by decide⟩ rfl rfl (Nat.le_of_ble_eq_true rfl) dL_areAlike_50 (by exact Nat.le_refl _) (by exact Nat.le_refl _) ⟨by show _ ≤ 1420; omega, by show _ ≤ 14200; omega⟩ (fun v50 hv50 => ?_)
            subst hv50
            refine j_bipush (pc := 53) (v := 6) C dL_areAlike_53 (by decide) ?_
            refine j_imul (pc := 55) C dL_areAlike_55 ?_
            refine j_iload_n (pc := 56) C rfl dL_areAlike_56 rfl ?_
            refine jS_l0 (pc := 57) (k2 := 20 + 350 * j + 20) (n2 := 200 + 3500 * j + 200) (np := 1) (As := [.int (v)]) C (ct_bits (v)) gL_areAlike_L_bits rfl (by decide +kernel) ⟨by decide, by decide⟩ rfl rfl (Nat.le_of_ble_eq_true rfl) dL_areAlike_57 (by exact Nat.le_refl _) (by exact Nat.le_refl _) ⟨by show _ ≤ 1420; omega, by show _ ≤ 14200; omega⟩ (fun v57 hv57 => ?_)
            subst hv57
            refine j_iload_n (pc := 60) C rfl dL_areAlike_60 rfl ?_
            refine j_iconst (pc := 61) (v := 5) C dL_areAlike_61 (by decide) ?_
            refine j_ishr (pc := 62) C dL_areAlike_62 ?_
            refine jS_l0 (pc := 63) (k2 := 20 + 350 * j + 20) (n2 := 200 + 3500 * j + 200) (np := 1) (As := [.int (v >>> ((5 : Int32) &&& 31))]) C (ct_bits (v >>> ((5 : Int32) &&& 31))) gL_areAlike_L_bits rfl (by decide +kernel) ⟨by decide, by decide⟩ rfl rfl (Nat.le_of_ble_eq_true rfl) dL_areAlike_63 (by exact Nat.le_refl _) (by exact Nat.le_refl _) ⟨by show _ ≤ 1420; omega, by show _ ≤ 14200; omega⟩ (fun v63 hv63 => ?_)
            subst hv63
            refine jV_i0 (pc := 66) (k2 := 20 + 350 * j + 30) (n2 := 200 + 3500 * j + 300) (np := 4) (As := [.int (nI j), .int (lowF v 5 * 6), .long (bitsF v), .long (bitsF (v >>> ((5 : Int32) &&& 31)))]) C (cr_actionOf hlt hS hj (low5 v) _ _) gL_areAlike_X4_actionOf rfl (by decide +kernel) ⟨by decide, by decide⟩ hS.at0 rfl rfl rfl (Nat.le_of_ble_eq_true rfl) dL_areAlike_66 (by show _ + 10 ≤ _; omega) (by show _ + 100 ≤ _; omega) ⟨by show _ ≤ 1420; omega, by show _ ≤ 14200; omega⟩ (fun v66 hv66 => ?_)
            subst hv66
            refine j_aload_n (pc := 69) C rfl dL_areAlike_69 rfl ?_
            refine j_iload (pc := 70) C dL_areAlike_70 rfl ?_
            refine j_iload_n (pc := 72) C rfl dL_areAlike_72 rfl ?_
            refine j_iconst (pc := 73) (v := 5) C dL_areAlike_73 (by decide) ?_
            refine jS_i0 (pc := 74) (k2 := 20 + 350 * j + 30) (n2 := 200 + 3500 * j + 300) (np := 2) (As := [.int (v), .int 5]) C (ct_low (v) 5 (by decide)) gL_areAlike_L_low rfl (by decide +kernel) ⟨by decide, by decide⟩ rfl rfl (Nat.le_of_ble_eq_true rfl) dL_areAlike_74 (by exact Nat.le_refl _) (by exact Nat.le_refl _) ⟨by show _ ≤ 1420; omega, by show _ ≤ 14200; omega⟩ (fun v74 hv74 => ?_)
            subst hv74
            refine j_bipush (pc := 77) (v := 6) C dL_areAlike_77 (by decide) ?_
            refine j_imul (pc := 79) C dL_areAlike_79 ?_
            refine j_iload_n (pc := 80) C rfl dL_areAlike_80 rfl ?_
            refine jS_l0 (pc := 81) (k2 := 20 + 350 * j + 30) (n2 := 200 + 3500 * j + 300) (np := 1) (As := [.int (v)]) C (ct_bits (v)) gL_areAlike_L_bits rfl (by decide +kernel) ⟨by decide, by decide⟩ rfl rfl (Nat.le_of_ble_eq_true rfl) dL_areAlike_81 (by exact Nat.le_refl _) (by exact Nat.le_refl _) ⟨by show _ ≤ 1420; omega, by show _ ≤ 14200; omega⟩ (fun v81 hv81 => ?_)
            subst hv81
            refine j_iload_n (pc := 84) C rfl dL_areAlike_84 rfl ?_
            refine j_iconst (pc := 85) (v := 5) C dL_areAlike_85 (by decide) ?_
            refine j_ishr (pc := 86) C dL_areAlike_86 ?_
            refine jS_l0 (pc := 87) (k2 := 20 + 350 * j + 30) (n2 := 200 + 3500 * j + 300) (np := 1) (As := [.int (v >>> ((5 : Int32) &&& 31))]) C (ct_bits (v >>> ((5 : Int32) &&& 31))) gL_areAlike_L_bits rfl (by decide +kernel) ⟨by decide, by decide⟩ rfl rfl (Nat.le_of_ble_eq_true rfl) dL_areAlike_87 (by exact Nat.le_refl _) (by exact Nat.le_refl _) ⟨by show _ ≤ 1420; omega, by show _ ≤ 14200; omega⟩ (fun v87 hv87 => ?_)
            subst hv87
            refine jV_i0 (pc := 90) (k2 := 20 + 350 * j + 40) (n2 := 200 + 3500 * j + 400) (np := 4) (As := [.int (nI j), .int (lowF v 5 * 6), .long (bitsF v), .long (bitsF (v >>> ((5 : Int32) &&& 31)))]) C ((cr_actionOf hlt hp hj (low5 v) _ _).sw0) gL_areAlike_X4_actionOf rfl (by decide +kernel) ⟨by decide, by decide⟩ hp.at0.sw rfl rfl rfl (Nat.le_of_ble_eq_true rfl) dL_areAlike_90 (by show _ + 10 ≤ _; omega) (by show _ + 100 ≤ _; omega) ⟨by show _ ≤ 1420; omega, by show _ ≤ 14200; omega⟩ (fun v90 hv90 => ?_)
            subst hv90
            refine j_icmp_ne (pc := 93) (tgt := 100) C dL_areAlike_93 (by decide) (fun c93 => ?_) (fun c93 => ?_)
            · exact absurd rfl c93
            · refine j_iconst (pc := 96) (v := 1) C dL_areAlike_96 (by decide) ?_
              refine j_goto (pc := 97) (tgt := 101) C dL_areAlike_97 (by decide) ?_
              refine j_istore_3 (pc := 101) C dL_areAlike_101 (by decide) rfl ?_
              refine j_iconst (pc := 102) (v := 0) C dL_areAlike_102 (by decide) ?_
              refine j_istore_5 (pc := 103) C dL_areAlike_103 (by decide) rfl ?_
              exact j_widen (by omega) (by omega) (inner hj (S.2.2.2 j).length 0 (by omega) (Nat.zero_le _))
  refine j_aload_n (pc := 0) C rfl dL_areAlike_0 rfl ?_
  refine jV_i0 (pc := 1) (k2 := 10) (n2 := 100) (np := 0) (As := []) C (cr_isCompiled hS) gL_areAlike_X4_isCompiled rfl (by decide +kernel) ⟨by decide, by decide⟩ hS.at0 rfl rfl rfl (Nat.le_of_ble_eq_true rfl) dL_areAlike_1 (by show _ + 10 ≤ _; omega) (by show _ + 100 ≤ _; omega) ⟨by show _ ≤ 1420; omega, by show _ ≤ 14200; omega⟩ (fun v1 hv1 => ?_)
  subst hv1
  refine j_aload_n (pc := 4) C rfl dL_areAlike_4 rfl ?_
  refine jV_i0 (pc := 5) (k2 := 20) (n2 := 200) (np := 0) (As := []) C ((cr_isCompiled hp).sw0) gL_areAlike_X4_isCompiled rfl (by decide +kernel) ⟨by decide, by decide⟩ hp.at0.sw rfl rfl rfl (Nat.le_of_ble_eq_true rfl) dL_areAlike_5 (by show _ + 10 ≤ _; omega) (by show _ + 100 ≤ _; omega) ⟨by show _ ≤ 1420; omega, by show _ ≤ 14200; omega⟩ (fun v5 hv5 => ?_)
  subst hv5
  refine j_icmp_ne (pc := 8) (tgt := 15) C dL_areAlike_8 (by decide) (fun c8 => ?_) (fun c8 => ?_)
  · exact absurd rfl c8
  · refine j_iconst (pc := 11) (v := 1) C dL_areAlike_11 (by decide) ?_
    refine j_goto (pc := 12) (tgt := 16) C dL_areAlike_12 (by decide) ?_
    refine j_istore_3 (pc := 16) C dL_areAlike_16 (by decide) rfl ?_
    refine j_iconst (pc := 17) (v := 0) C dL_areAlike_17 (by decide) ?_
    refine j_istore_4 (pc := 18) C dL_areAlike_18 (by decide) rfl ?_
    exact outer 4 0 rfl (by decide)

/-- the worst ones that are counted: none, if it isn't compiled -/
def wwN (S : Ms) (n : Nat) : Int32 := if S.1 = 1 then smN (fun j => wF S.2.1 (S.2.2.2 j)) n else 0
theorem wwN_1 {S : Ms} (n : Nat) (h : ¬ S.1 = 0) (hc : S.1 = 0 ∨ S.1 = 1) : wwN S n + wF S.2.1 (S.2.2.2 n) = wwN S (n + 1) := by
  unfold wwN
  rw [if_pos (hc.resolve_left h), if_pos (hc.resolve_left h)]
  rfl
theorem wwN_0 {S : Ms} (n : Nat) (h : S.1 = 0) : wwN S n + 0 = wwN S (n + 1) := by
  unfold wwN
  rw [if_neg (by rw [h]; decide), if_neg (by rw [h]; decide)]
  rfl
set_option maxRecDepth 100000 in
set_option maxHeartbeats 8000000 in
theorem ct_isCallSo (hlt : l.stackTraces = false) (hS : OS G ad L w S) {x : Int32} (hx : vld x 32) (fi se : Int64) : CI l yL_isCallSo wsL_isCallSo (rmD 34 160 1600) G L w [.ref (ad 0), .int x, .long fi, .long se] (fun r u => r = 1 ∧ u = (L, w)) := by
  refine mk_i (cc := cL_isCallSo) (maxL := 11) [some (.ref (ad 0)), some (.int x), some (.long fi), none, some (.long se), none, none, none, none, none, none] (by decide) rfl (Nat.le_of_ble_eq_true rfl) rfl ?_
  intro p e s m args below meth c A C hr hlk hnm
  have h155 : ∀ Q9 : Prop, ¬ Q9 → Q9 → False := fun _ a b => a b
  have k81 : J p l e (rmD 34 160 1600) s m args below meth c G A s.heap 11 (MQ below (va_Qi (fun r u => r = 1 ∧ u = (L, w)) (PB G A) A) args s (rmD 34 160 1600).cells (rmD 34 160 1600).slots A) L w (130) (1300) 81 [some (.ref (ad 0)), some (.int x), some (.long fi), none, some (.long se), none, some (.int (byR S x fi se)), some (.int (byR S x fi se)), some (.int (wwN S 4)), none, none] [] := by
    refine j_aload_n (pc := 81) C rfl dL_isCallSo_81 rfl ?_
    refine j_iload_n (pc := 82) C rfl dL_isCallSo_82 rfl ?_
    refine j_lload_n (pc := 83) C rfl dL_isCallSo_83 rfl ?_
    refine j_lload (pc := 84) C dL_isCallSo_84 rfl ?_
    refine jSW_i (pc := 86) (k2 := 140) (n2 := 1400) (np := 4) (As := [.ref (ad 0), .int x, .long fi, .long se]) C (cw_path hlt hS hx fi se) gL_isCallSo_L_path rfl (by decide +kernel) ⟨by decide, by decide⟩ rfl rfl (Nat.le_of_ble_eq_true rfl) dL_isCallSo_86 (by show _ + 10 ≤ _; omega) (by show _ + 100 ≤ _; omega) ⟨by show _ ≤ 160; omega, by show _ ≤ 1600; omega⟩ (fun v86 L9 w9 h9 => ?_)
    obtain ⟨hv86, hu9⟩ := h9
    cases hu9
    refine j_istore_9 (pc := 89) C dL_isCallSo_89 (by decide) rfl ?_
    refine j_iload (pc := 91) C dL_isCallSo_91 rfl ?_
    refine j_iload (pc := 93) C dL_isCallSo_93 rfl ?_
    refine j_icmp_ne (pc := 95) (tgt := 155) C dL_isCallSo_95 (by decide) (fun c95 => ?_) (fun c95 => ?_)
    · exact absurd rfl c95
    · refine j_aload_n (pc := 98) C rfl dL_isCallSo_98 rfl ?_
      refine jV_i0 (pc := 99) (k2 := 150) (n2 := 1500) (np := 0) (As := []) C (cr_isCompiled hS) gL_isCallSo_X4_isCompiled rfl (by decide +kernel) ⟨by decide, by decide⟩ hS.at0 rfl rfl rfl (Nat.le_of_ble_eq_true rfl) dL_isCallSo_99 (by show _ + 10 ≤ _; omega) (by show _ + 100 ≤ _; omega) ⟨by show _ ≤ 160; omega, by show _ ≤ 1600; omega⟩ (fun v99 hv99 => ?_)
      subst hv99
      refine j_if_eq (pc := 102) (tgt := 133) C dL_isCallSo_102 (by decide) (fun c102 => ?_) (fun c102 => ?_)
      · have n1 : ¬ S.1 = 1 := by rw [c102]; decide
        obtain rfl : v86 = -1 := by rcases hv86 with h | h; exact absurd h.1 n1; exact h.2
        refine j_aload_n (pc := 133) C rfl dL_isCallSo_133 rfl ?_
        refine j_iload_n (pc := 134) C rfl dL_isCallSo_134 rfl ?_
        refine j_lload_n (pc := 135) C rfl dL_isCallSo_135 rfl ?_
        refine j_lload (pc := 136) C dL_isCallSo_136 rfl ?_
        refine jSW_i (pc := 138) (k2 := 160) (n2 := 1600) (np := 4) (As := [.ref (ad 0), .int x, .long fi, .long se]) C (cw_judge hlt hS hx fi se) gL_isCallSo_L_judge rfl (by decide +kernel) ⟨by decide, by decide⟩ rfl rfl (Nat.le_of_ble_eq_true rfl) dL_isCallSo_138 (by show _ + 10 ≤ _; omega) (by show _ + 100 ≤ _; omega) ⟨by show _ ≤ 160; omega, by show _ ≤ 1600; omega⟩ (fun v138 L9 w9 h9 => ?_)
        obtain ⟨hv138, hu9⟩ := h9
        cases hu9
        obtain rfl : v138 = -1 := by rcases hv138 with h | h; exact absurd h.1 n1; exact h.2
        refine j_iconst (pc := 141) (v := (-1)) C dL_isCallSo_141 (by decide) ?_
        refine j_icmp_ne (pc := 142) (tgt := 155) C dL_isCallSo_142 (by decide) (fun c142 => ?_) (fun c142 => ?_)
        · exact absurd rfl c142
        · refine j_iload (pc := 145) C dL_isCallSo_145 rfl ?_
          refine j_iconst (pc := 147) (v := (-1)) C dL_isCallSo_147 (by decide) ?_
          refine j_icmp_ne (pc := 148) (tgt := 155) C dL_isCallSo_148 (by decide) (fun c148 => ?_) (fun c148 => ?_)
          · exact absurd rfl c148
          · refine j_iconst (pc := 151) (v := 1) C dL_isCallSo_151 (by decide) ?_
            refine j_goto (pc := 152) (tgt := 156) C dL_isCallSo_152 (by decide) ?_
            exact ret_z C rfl hr hlk rfl dL_isCallSo_156 (⟨rfl, rfl⟩) (by show _ ≤ 160; omega) (by show _ ≤ 1600; omega)
      · have e1 : S.1 = 1 := hS.cp.resolve_left c102
        obtain ⟨q, hq, hq2⟩ := hS.pthN hx fi se
        have hw : wwN S 4 = nI (smn (fun j => wFn S.2.1 (S.2.2.2 j)) 4) := by unfold wwN; rw [if_pos e1]; exact hS.wsmN
        have hw2 := hS.wsm_le
        obtain rfl : v86 = nI q := by rcases hv86 with h | h; exact h.2.trans hq; exact absurd e1 h.1
        refine j_aload_n (pc := 105) C rfl dL_isCallSo_105 rfl ?_
        refine j_iload_n (pc := 106) C rfl dL_isCallSo_106 rfl ?_
        refine j_lload_n (pc := 107) C rfl dL_isCallSo_107 rfl ?_
        refine j_lload (pc := 108) C dL_isCallSo_108 rfl ?_
        refine jSW_i (pc := 110) (k2 := 160) (n2 := 1600) (np := 4) (As := [.ref (ad 0), .int x, .long fi, .long se]) C (cw_judge hlt hS hx fi se) gL_isCallSo_L_judge rfl (by decide +kernel) ⟨by decide, by decide⟩ rfl rfl (Nat.le_of_ble_eq_true rfl) dL_isCallSo_110 (by show _ + 10 ≤ _; omega) (by show _ + 100 ≤ _; omega) ⟨by show _ ≤ 160; omega, by show _ ≤ 1600; omega⟩ (fun v110 L9 w9 h9 => ?_)
        obtain ⟨hv110, hu9⟩ := h9
        cases hu9
        obtain rfl : v110 = byR S x fi se := by rcases hv110 with h | h; exact h.2; exact absurd e1 h.1
        refine j_iload (pc := 113) C dL_isCallSo_113 rfl ?_
        refine j_icmp_ne (pc := 115) (tgt := 155) C dL_isCallSo_115 (by decide) (fun c115 => ?_) (fun c115 => ?_)
        · exact absurd rfl c115
        · refine j_iload (pc := 118) C dL_isCallSo_118 rfl ?_
          refine j_if_lt (pc := 120) (tgt := 155) C dL_isCallSo_120 (by decide) (fun c120 => ?_) (fun c120 => ?_)
          · exact absurd c120 (nI_pos (by omega))
          · refine j_iload (pc := 123) C dL_isCallSo_123 rfl ?_
            refine j_iload (pc := 125) C dL_isCallSo_125 rfl ?_
            refine j_icmp_gt (pc := 127) (tgt := 155) C dL_isCallSo_127 (by decide) (fun c127 => ?_) (fun c127 => ?_)
            · exact absurd c127 (by rw [hw]; exact nI_nlt hq2 (by omega))
            · refine j_goto (pc := 130) (tgt := 151) C dL_isCallSo_130 (by decide) ?_
              refine j_iconst (pc := 151) (v := 1) C dL_isCallSo_151 (by decide) ?_
              refine j_goto (pc := 152) (tgt := 156) C dL_isCallSo_152 (by decide) ?_
              exact ret_z C rfl hr hlk rfl dL_isCallSo_156 (⟨rfl, rfl⟩) (by show _ ≤ 160; omega) (by show _ ≤ 1600; omega)
  have loop : ∀ (f j : Nat), 4 - j = f → j ≤ 4 → J p l e (rmD 34 160 1600) s m args below meth c G A s.heap 11 (MQ below (va_Qi (fun r u => r = 1 ∧ u = (L, w)) (PB G A) A) args s (rmD 34 160 1600).cells (rmD 34 160 1600).slots A) L w (10 + 30 * j) (100 + 300 * j) 19 [some (.ref (ad 0)), some (.int x), some (.long fi), none, some (.long se), none, some (.int (byR S x fi se)), some (.int (mxN (fun i => fAct x fi se (S.2.2.1 i) (S.2.2.2 i)) j)), some (.int (wwN S j)), some (.int (nI j)), none] [] := by
    intro f
    induction f using Nat.strongRecOn with
    | _ f ih =>
      intro j hf hj0
      have k72 : ∀ z : Int32, wwN S j + z = wwN S (j + 1) → j < 4 → J p l e (rmD 34 160 1600) s m args below meth c G A s.heap 11 (MQ below (va_Qi (fun r u => r = 1 ∧ u = (L, w)) (PB G A) A) args s (rmD 34 160 1600).cells (rmD 34 160 1600).slots A) L w (10 + 30 * j + 30) (100 + 300 * j + 300) 72 [some (.ref (ad 0)), some (.int x), some (.long fi), none, some (.long se), none, some (.int (byR S x fi se)), some (.int (mxN (fun i => fAct x fi se (S.2.2.1 i) (S.2.2.2 i)) (j + 1))), some (.int (wwN S j)), some (.int (nI j)), none] [.int z, .int (wwN S j)] := fun z hz hj => by
        refine j_iadd (pc := 72) C dL_isCallSo_72 ?_
        refine j_istore_8 (pc := 73) C dL_isCallSo_73 (by decide) rfl ?_
        refine j_iinc_9 (pc := 75) (d := 1) C dL_isCallSo_75 (by decide) rfl rfl ?_
        refine j_goto (pc := 78) (tgt := 19) C dL_isCallSo_78 (by decide) ?_
        refine j_lo (lo2 := [some (.ref (ad 0)), some (.int x), some (.long fi), none, some (.long se), none, some (.int (byR S x fi se)), some (.int (mxN (fun i => fAct x fi se (S.2.2.1 i) (S.2.2.2 i)) (j + 1))), some (.int (wwN S (j + 1))), some (.int (nI (j + 1))), none]) (by rw [hz, nI_1]) ?_
        exact j_widen (by omega) (by omega) (ih (4 - (j + 1)) (by omega) (j + 1) rfl (by omega))
      have k51 : ∀ z : Int32, z = mxN (fun i => fAct x fi se (S.2.2.1 i) (S.2.2.2 i)) (j + 1) → j < 4 → J p l e (rmD 34 160 1600) s m args below meth c G A s.heap 11 (MQ below (va_Qi (fun r u => r = 1 ∧ u = (L, w)) (PB G A) A) args s (rmD 34 160 1600).cells (rmD 34 160 1600).slots A) L w (10 + 30 * j + 10) (100 + 300 * j + 100) 51 [some (.ref (ad 0)), some (.int x), some (.long fi), none, some (.long se), none, some (.int (byR S x fi se)), some (.int (mxN (fun i => fAct x fi se (S.2.2.1 i) (S.2.2.2 i)) j)), some (.int (wwN S j)), some (.int (nI j)), none] [.int z] := fun z hz hj => by
        subst hz
        refine j_istore_7 (pc := 51) C dL_isCallSo_51 (by decide) rfl ?_
        refine j_iload (pc := 53) C dL_isCallSo_53 rfl ?_
        refine j_aload_n (pc := 55) C rfl dL_isCallSo_55 rfl ?_
        refine jV_i0 (pc := 56) (k2 := 10 + 30 * j + 20) (n2 := 100 + 300 * j + 200) (np := 0) (As := []) C (cr_isCompiled hS) gL_isCallSo_X4_isCompiled rfl (by decide +kernel) ⟨by decide, by decide⟩ hS.at0 rfl rfl rfl (Nat.le_of_ble_eq_true rfl) dL_isCallSo_56 (by show _ + 10 ≤ _; omega) (by show _ + 100 ≤ _; omega) ⟨by show _ ≤ 160; omega, by show _ ≤ 1600; omega⟩ (fun v56 hv56 => ?_)
        subst hv56
        refine j_if_eq (pc := 59) (tgt := 71) C dL_isCallSo_59 (by decide) (fun c59 => ?_) (fun c59 => ?_)
        · refine j_iconst (pc := 71) (v := 0) C dL_isCallSo_71 (by decide) ?_
          exact j_widen (by omega) (by omega) (k72 _ (by first | exact wwN_0 j c59 | exact wwN_1 j c59 hS.cp) hj)
        · refine j_aload_n (pc := 62) C rfl dL_isCallSo_62 rfl ?_
          refine j_iload (pc := 63) C dL_isCallSo_63 rfl ?_
          refine jV_i0 (pc := 65) (k2 := 10 + 30 * j + 30) (n2 := 100 + 300 * j + 300) (np := 1) (As := [.int (nI j)]) C (cr_worst hlt hS hj (hS.cp.resolve_left c59)) gL_isCallSo_X4_worst rfl (by decide +kernel) ⟨by decide, by decide⟩ hS.at0 rfl rfl rfl (Nat.le_of_ble_eq_true rfl) dL_isCallSo_65 (by show _ + 10 ≤ _; omega) (by show _ + 100 ≤ _; omega) ⟨by show _ ≤ 160; omega, by show _ ≤ 1600; omega⟩ (fun v65 hv65 => ?_)
          subst hv65
          refine j_goto (pc := 68) (tgt := 72) C dL_isCallSo_68 (by decide) ?_
          exact j_widen (by omega) (by omega) (k72 _ (by first | exact wwN_0 j c59 | exact wwN_1 j c59 hS.cp) hj)
      refine j_iload (pc := 19) C dL_isCallSo_19 rfl ?_
      refine j_iconst (pc := 21) (v := 4) C dL_isCallSo_21 (by decide) ?_
      refine j_icmp_ge (pc := 22) (tgt := 81) C dL_isCallSo_22 (by decide) (fun c22 => ?_) (fun c22 => ?_)
      · have e4 : j = 4 := by
          by_cases q : j = 4
          · exact q
          · exact absurd c22 (nI_ge (a := j) (b := 4) (by omega) (by decide))
        subst e4
        refine j_weak (lo2 := [some (.ref (ad 0)), some (.int x), some (.long fi), none, some (.long se), none, some (.int (byR S x fi se)), some (.int (byR S x fi se)), some (.int (wwN S 4)), none, none]) ⟨rfl, rfl, rfl, rfl, rfl, rfl, rfl, trivial⟩ ?_
        exact k81
      · have hj : j < 4 := Nat.not_le.mp (fun q => c22 (nI_le (a := 4) (b := j) q (by omega)))
        refine j_aload_n (pc := 25) C rfl dL_isCallSo_25 rfl ?_
        refine j_iload (pc := 26) C dL_isCallSo_26 rfl ?_
        refine j_iload_n (pc := 28) C rfl dL_isCallSo_28 rfl ?_
        refine j_lload_n (pc := 29) C rfl dL_isCallSo_29 rfl ?_
        refine j_lload (pc := 30) C dL_isCallSo_30 rfl ?_
        refine jV_i0 (pc := 32) (k2 := 10 + 30 * j + 10) (n2 := 100 + 300 * j + 100) (np := 4) (As := [.int (nI j), .int x, .long fi, .long se]) C (cr_actionOf hlt hS hj hx fi se) gL_isCallSo_X4_actionOf rfl (by decide +kernel) ⟨by decide, by decide⟩ hS.at0 rfl rfl rfl (Nat.le_of_ble_eq_true rfl) dL_isCallSo_32 (by show _ + 10 ≤ _; omega) (by show _ + 100 ≤ _; omega) ⟨by show _ ≤ 160; omega, by show _ ≤ 1600; omega⟩ (fun v32 hv32 => ?_)
        subst hv32
        refine j_istore_10 (pc := 35) C dL_isCallSo_35 (by decide) rfl ?_
        refine j_iload (pc := 37) C dL_isCallSo_37 rfl ?_
        refine j_iload (pc := 39) C dL_isCallSo_39 rfl ?_
        refine j_icmp_le (pc := 41) (tgt := 49) C dL_isCallSo_41 (by decide) (fun c41 => ?_) (fun c41 => ?_)
        · refine j_iload (pc := 49) C dL_isCallSo_49 rfl ?_
          refine j_weak (lo2 := [some (.ref (ad 0)), some (.int x), some (.long fi), none, some (.long se), none, some (.int (byR S x fi se)), some (.int (mxN (fun i => fAct x fi se (S.2.2.1 i) (S.2.2.2 i)) j)), some (.int (wwN S j)), some (.int (nI j)), none]) ⟨rfl, rfl, rfl, rfl, rfl, rfl, rfl, rfl, trivial⟩ ?_
          exact k51 _ (by first | exact (if_neg (Int32.not_lt.mpr c41)).symm | exact (if_pos (Int32.not_le.mp c41)).symm) hj
        · refine j_iload (pc := 44) C dL_isCallSo_44 rfl ?_
          refine j_goto (pc := 46) (tgt := 51) C dL_isCallSo_46 (by decide) ?_
          refine j_weak (lo2 := [some (.ref (ad 0)), some (.int x), some (.long fi), none, some (.long se), none, some (.int (byR S x fi se)), some (.int (mxN (fun i => fAct x fi se (S.2.2.1 i) (S.2.2.2 i)) j)), some (.int (wwN S j)), some (.int (nI j)), none]) ⟨rfl, rfl, rfl, rfl, rfl, rfl, rfl, rfl, trivial⟩ ?_
          exact k51 _ (by first | exact (if_neg (Int32.not_lt.mpr c41)).symm | exact (if_pos (Int32.not_le.mp c41)).symm) hj
  refine j_aload_n (pc := 0) C rfl dL_isCallSo_0 rfl ?_
  refine j_iload_n (pc := 1) C rfl dL_isCallSo_1 rfl ?_
  refine j_lload_n (pc := 2) C rfl dL_isCallSo_2 rfl ?_
  refine j_lload (pc := 3) C dL_isCallSo_3 rfl ?_
  refine jV_i0 (pc := 5) (k2 := 10) (n2 := 100) (np := 3) (As := [.int x, .long fi, .long se]) C (cr_judgeByRules hlt hS hx fi se) gL_isCallSo_X4_judgeByRules rfl (by decide +kernel) ⟨by decide, by decide⟩ hS.at0 rfl rfl rfl (Nat.le_of_ble_eq_true rfl) dL_isCallSo_5 (by show _ + 10 ≤ _; omega) (by show _ + 100 ≤ _; omega) ⟨by show _ ≤ 160; omega, by show _ ≤ 1600; omega⟩ (fun v5 hv5 => ?_)
  subst hv5
  refine j_istore_6 (pc := 8) C dL_isCallSo_8 (by decide) rfl ?_
  refine j_iconst (pc := 10) (v := 0) C dL_isCallSo_10 (by decide) ?_
  refine j_istore_7 (pc := 11) C dL_isCallSo_11 (by decide) rfl ?_
  refine j_iconst (pc := 13) (v := 0) C dL_isCallSo_13 (by decide) ?_
  refine j_istore_8 (pc := 14) C dL_isCallSo_14 (by decide) rfl ?_
  refine j_iconst (pc := 16) (v := 0) C dL_isCallSo_16 (by decide) ?_
  refine j_istore_9 (pc := 17) C dL_isCallSo_17 (by decide) rfl ?_
  refine j_lo (lo2 := [some (.ref (ad 0)), some (.int x), some (.long fi), none, some (.long se), none, some (.int (byR S x fi se)), some (.int (mxN (fun i => fAct x fi se (S.2.2.1 i) (S.2.2.2 i)) 0)), some (.int (wwN S 0)), some (.int (nI 0)), none]) (by first | rfl | (unfold wwN; split <;> rfl)) ?_
  exact loop 4 0 rfl (by decide)

end LOOKS
