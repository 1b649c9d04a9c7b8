/-! THE LAW'S LOOP -/
theorem two_nI (e : Nat) : (2 : Int32) * nI e = nI (2 * e) := pk_mul 2 e
set_option maxRecDepth 100000 in
set_option maxHeartbeats 8000000 in
theorem law_three {p : Program} {l : Launch} {e : Env} {s : State} {m : MethodId} {below : List Frame} {meth : Method} {c : Code} {G : Gp} {b : Nat} (hlt : l.stackTraces = false) (C : Cx p s m #[Value.ref b] c cL_law RL 8 wsL_law G (fun q => s.heap.size ≤ q) s.heap) {ad ap : Nat → Nat} {Q : State → Prop} {i : Nat} (hi : i < 60) {L : List Nat} {w : Wn} {S : Ms} (hS : OS G ad L w S) (v u r : Int32) (hnext : J p l e room_1 s m #[Value.ref b] below meth c G (fun q => s.heap.size ≤ q) s.heap 8 Q L w (84 + 2400 * i + 2400) (746 + 24000 * i + 24000) 159 [some (.ref b), some (.ref (ad 0)), some (.ref (ap 0)), some (.int (nI i)), none, none, none, none] []) : ∀ (f t : Nat), 3 - t = f → t ≤ 3 → J p l e room_1 s m #[Value.ref b] below meth c G (fun q => s.heap.size ≤ q) s.heap 8 Q L w (84 + 2400 * i + 1840 + 160 * t) (746 + 24000 * i + 18400 + 1600 * t) 104 [some (.ref b), some (.ref (ad 0)), some (.ref (ap 0)), some (.int (nI i)), some (.int v), some (.int u), some (.int r), some (.int (nI t))] [] := by
  intro f
  induction f using Nat.strongRecOn with
  | _ f ih =>
    intro t hf ht
    refine j_iload (pc := 104) C dL_law_104 rfl ?_
    refine j_iconst (pc := 106) (v := 3) C dL_law_106 (by decide) ?_
    refine j_icmp_ge (pc := 107) (tgt := 159) C dL_law_107 (by decide) (fun c107 => ?_) (fun c107 => ?_)
    · have e3 : t = 3 := by
        by_cases q : t = 3
        · exact q
        · exact absurd c107 (nI_ge (a := t) (b := 3) (by omega) (by decide))
      subst e3
      exact j_weak (lo2 := [some (.ref b), some (.ref (ad 0)), some (.ref (ap 0)), some (.int (nI i)), none, none, none, none]) ⟨rfl, rfl, rfl, rfl, trivial⟩ (j_widen (by omega) (by omega) hnext)
    · have ht3 : t < 3 := Nat.not_le.mp (fun q => c107 (nI_le (a := 3) (b := t) q (by omega)))
      refine j_aload_n (pc := 110) C rfl dL_law_110 rfl ?_
      refine j_iload (pc := 111) C dL_law_111 rfl ?_
      refine j_bipush (pc := 113) (v := 7) C dL_law_113 (by decide) ?_
      refine j_iload (pc := 115) C dL_law_115 rfl ?_
      refine j_iadd (pc := 117) C dL_law_117 ?_
      refine j_ishr (pc := 118) C dL_law_118 ?_
      refine j_iconst (pc := 119) (v := 5) C dL_law_119 (by decide) ?_
      refine jS_i0 (pc := 120) (k2 := 84 + 2400 * i + 1840 + 160 * t) (n2 := 746 + 24000 * i + 18400 + 1600 * t) (np := 2) (As := [.int (v >>> (((7 : Int32) + nI t) &&& 31)), .int 5]) C (ct_low (v >>> (((7 : Int32) + nI t) &&& 31)) 5 (by decide)) gL_law_L_low rfl (by decide +kernel) ⟨by decide, by decide⟩ rfl rfl (Nat.le_of_ble_eq_true rfl) dL_law_120 (by show _ + 0 ≤ _; omega) (by show _ + 0 ≤ _; omega) ⟨by show _ ≤ 730425; omega, by show _ ≤ 6910603; omega⟩ (fun v120 hv120 => ?_)
      subst hv120
      refine j_bipush (pc := 123) (v := 6) C dL_law_123 (by decide) ?_
      refine j_imul (pc := 125) C dL_law_125 ?_
      refine j_iload (pc := 126) C dL_law_126 rfl ?_
      refine j_iload (pc := 128) C dL_law_128 rfl ?_
      refine j_ishr (pc := 130) C dL_law_130 ?_
      refine jS_l0 (pc := 131) (k2 := 84 + 2400 * i + 1840 + 160 * t) (n2 := 746 + 24000 * i + 18400 + 1600 * t) (np := 1) (As := [.int (u >>> (nI t &&& 31))]) C (ct_bits (u >>> (nI t &&& 31))) gL_law_L_bits rfl (by decide +kernel) ⟨by decide, by decide⟩ rfl rfl (Nat.le_of_ble_eq_true rfl) dL_law_131 (by show _ + 0 ≤ _; omega) (by show _ + 0 ≤ _; omega) ⟨by show _ ≤ 730425; omega, by show _ ≤ 6910603; omega⟩ (fun v131 hv131 => ?_)
      refine j_iload (pc := 134) C dL_law_134 rfl ?_
      refine j_bipush (pc := 136) (v := 7) C dL_law_136 (by decide) ?_
      refine j_iload (pc := 138) C dL_law_138 rfl ?_
      refine j_iadd (pc := 140) C dL_law_140 ?_
      refine j_ishr (pc := 141) C dL_law_141 ?_
      refine jS_l0 (pc := 142) (k2 := 84 + 2400 * i + 1840 + 160 * t) (n2 := 746 + 24000 * i + 18400 + 1600 * t) (np := 1) (As := [.int (u >>> (((7 : Int32) + nI t) &&& 31))]) C (ct_bits (u >>> (((7 : Int32) + nI t) &&& 31))) gL_law_L_bits rfl (by decide +kernel) ⟨by decide, by decide⟩ rfl rfl (Nat.le_of_ble_eq_true rfl) dL_law_142 (by show _ + 0 ≤ _; omega) (by show _ + 0 ≤ _; omega) ⟨by show _ ≤ 730425; omega, by show _ ≤ 6910603; omega⟩ (fun v142 hv142 => ?_)
      refine jS_i0 (pc := 145) (k2 := 84 + 2400 * i + 1840 + 160 * t + 160) (n2 := 746 + 24000 * i + 18400 + 1600 * t + 1600) (np := 4) (As := [.ref (ad 0), .int (lowF (v >>> (((7 : Int32) + nI t) &&& 31)) 5 * 6), .long v131, .long v142]) C (ct_isCallSo hlt hS (low5 (v >>> (((7 : Int32) + nI t) &&& 31))) v131 v142) gL_law_L_isCallSo rfl (by decide +kernel) ⟨by decide, by decide⟩ rfl rfl (Nat.le_of_ble_eq_true rfl) dL_law_145 (by show _ + 160 ≤ _; omega) (by show _ + 1600 ≤ _; omega) ⟨by show _ ≤ 730425; omega, by show _ ≤ 6910603; omega⟩ (fun v145 hv145 => ?_)
      subst hv145
      refine j_if_ne (pc := 148) (tgt := 153) C dL_law_148 (by decide) (fun c148 => ?_) (fun c148 => ?_)
      · refine j_iinc_7 (pc := 153) (d := 1) C dL_law_153 (by decide) rfl rfl ?_
        refine j_goto (pc := 156) (tgt := 104) C dL_law_156 (by decide) ?_
        refine j_lo (lo2 := [some (.ref b), some (.ref (ad 0)), some (.ref (ap 0)), some (.int (nI i)), some (.int v), some (.int u), some (.int r), some (.int (nI (t + 1)))]) (by rw [nI_1]) ?_
        exact j_widen (by omega) (by omega) (ih (3 - (t + 1)) (by omega) (t + 1) rfl (by omega))
      · exact absurd c148 (by decide)

set_option maxRecDepth 100000 in
set_option maxHeartbeats 8000000 in
theorem law_look {p : Program} {l : Launch} {e : Env} {s : State} {m : MethodId} {below : List Frame} {meth : Method} {c : Code} {G : Gp} {b : Nat} (hlt : l.stackTraces = false) (C : Cx p s m #[Value.ref b] c cL_law RL 8 wsL_law G (fun q => s.heap.size ≤ q) s.heap) {ad ap : Nat → Nat} {Q : State → Prop} {i : Nat} (hi : i < 60) {L : List Nat} {w : Wn} {S : Ms} (hS : OS G ad L w S) (hp : OS G ap (sL L) (sW w) S) (v u r : Int32) (hnext : J p l e room_1 s m #[Value.ref b] below meth c G (fun q => s.heap.size ≤ q) s.heap 8 Q L w (84 + 2400 * i + 2400) (746 + 24000 * i + 24000) 159 [some (.ref b), some (.ref (ad 0)), some (.ref (ap 0)), some (.int (nI i)), none, none, none, none] []) : J p l e room_1 s m #[Value.ref b] below meth c G (fun q => s.heap.size ≤ q) s.heap 8 Q L w (84 + 2400 * i + 200) (746 + 24000 * i + 2000) 74 [some (.ref b), some (.ref (ad 0)), some (.ref (ap 0)), some (.int (nI i)), some (.int v), some (.int u), some (.int r), none] [] := by
  refine j_aload_n (pc := 74) C rfl dL_law_74 rfl ?_
  refine j_aload_n (pc := 75) C rfl dL_law_75 rfl ?_
  refine j_iload (pc := 76) C dL_law_76 rfl ?_
  refine jS_i0 (pc := 78) (k2 := 84 + 2400 * i + 200 + 1420) (n2 := 746 + 24000 * i + 2000 + 14200) (np := 3) (As := [.ref (ad 0), .ref (ap 0), .int u]) C (ct_areAlike hlt hS hp u) gL_law_L_areAlike rfl (by decide +kernel) ⟨by decide, by decide⟩ rfl rfl (Nat.le_of_ble_eq_true rfl) dL_law_78 (by show _ + 1420 ≤ _; omega) (by show _ + 14200 ≤ _; omega) ⟨by show _ ≤ 730425; omega, by show _ ≤ 6910603; omega⟩ (fun v78 hv78 => ?_)
  subst hv78
  refine j_if_eq (pc := 81) (tgt := 99) C dL_law_81 (by decide) (fun c81 => ?_) (fun c81 => ?_)
  · exact absurd c81 (by decide)
  · refine j_aload_n (pc := 84) C rfl dL_law_84 rfl ?_
    refine j_iload (pc := 85) C dL_law_85 rfl ?_
    refine j_iconst (pc := 87) (v := 4) C dL_law_87 (by decide) ?_
    refine j_ishr (pc := 88) C dL_law_88 ?_
    refine j_iconst (pc := 89) (v := 4) C dL_law_89 (by decide) ?_
    refine jS_i0 (pc := 90) (k2 := 84 + 2400 * i + 200 + 1420) (n2 := 746 + 24000 * i + 2000 + 14200) (np := 2) (As := [.int (v >>> ((4 : Int32) &&& 31)), .int 4]) C (ct_low (v >>> ((4 : Int32) &&& 31)) 4 (by decide)) gL_law_L_low rfl (by decide +kernel) ⟨by decide, by decide⟩ rfl rfl (Nat.le_of_ble_eq_true rfl) dL_law_90 (by show _ + 0 ≤ _; omega) (by show _ + 0 ≤ _; omega) ⟨by show _ ≤ 730425; omega, by show _ ≤ 6910603; omega⟩ (fun v90 hv90 => ?_)
    subst hv90
    obtain ⟨j, hj, ej⟩ := low4 (v >>> ((4 : Int32) &&& 31))
    refine j_st (by rw [ej]) ?_
    refine jS_i0 (pc := 93) (k2 := 84 + 2400 * i + 200 + 1640) (n2 := 746 + 24000 * i + 2000 + 16400) (np := 2) (As := [.ref (ad 0), .int (nI j)]) C (ct_areHidersSo hlt hS hj) gL_law_L_areHidersSo rfl (by decide +kernel) ⟨by decide, by decide⟩ rfl rfl (Nat.le_of_ble_eq_true rfl) dL_law_93 (by show _ + 220 ≤ _; omega) (by show _ + 2200 ≤ _; omega) ⟨by show _ ≤ 730425; omega, by show _ ≤ 6910603; omega⟩ (fun v93 hv93 => ?_)
    subst hv93
    refine j_if_ne (pc := 96) (tgt := 101) C dL_law_96 (by decide) (fun c96 => ?_) (fun c96 => ?_)
    · refine j_iconst (pc := 101) (v := 0) C dL_law_101 (by decide) ?_
      refine j_istore_7 (pc := 102) C dL_law_102 (by decide) rfl ?_
      exact law_three hlt C hi hS v u r hnext 3 0 rfl (by decide)
    · exact absurd c96 (by decide)

theorem cmp_1000 {G : Gp} {ad : Nat → Nat} {L : List Nat} {w : Wn} {S S2 : Ms} {r : Int32} (hS : OS G ad L w S) (h : cmpR 1000 S r S2) : S2.1 = 1 := by
  have hw : wsm S ≤ 1000 := by
    rw [hS.wsmN]
    exact nI_le (b := 1000) (by have := hS.wsm_le; omega) (by decide)
  unfold cmpR at h
  rw [if_pos hw, if_pos hw] at h
  rcases h with ⟨-, -, h⟩ | ⟨h, -⟩
  · rw [h]
  · exact absurd ⟨1000, by decide, rfl⟩ h
set_option maxRecDepth 100000 in
set_option maxHeartbeats 8000000 in
theorem law_end {p : Program} {l : Launch} {e : Env} {s : State} {m : MethodId} {below : List Frame} {meth : Method} {c : Code} {G : Gp} {b : Nat} (hlt : l.stackTraces = false) (C : Cx p s m #[Value.ref b] c cL_law RL 8 wsL_law G (fun q => s.heap.size ≤ q) s.heap) {ad ap : Nat → Nat} (hr : meth.sig.returnType = ret) (hlk : meth.locks = false) {i : Nat} (hi : i ≤ 60) {L : List Nat} {w : Wn} {S : Ms} (hS : OS G ad L w S) (hp : OS G ap (sL L) (sW w) S) : J p l e room_1 s m #[Value.ref b] below meth c G (fun q => s.heap.size ≤ q) s.heap 8 (lw_Z below #[Value.ref b] s) L w (84 + 2400 * i) (746 + 24000 * i) 165 [some (.ref b), some (.ref (ad 0)), some (.ref (ap 0)), some (.int (nI i)), none, none, none, none] [] := by
  refine j_aload_n (pc := 165) C rfl dL_law_165 rfl ?_
  refine j_sipush (pc := 166) (v := 1000) C dL_law_166 (by decide) ?_
  refine jSW_i (pc := 169) (k2 := 84 + 2400 * i + 100) (n2 := 746 + 24000 * i + 1000) (np := 2) (As := [.ref (ad 0), .int 1000]) C (cw_compile hlt hS 1000) gL_law_L_compile rfl (by decide +kernel) ⟨by decide, by decide⟩ rfl rfl (Nat.le_of_ble_eq_true rfl) dL_law_169 (by show _ + 100 ≤ _; omega) (by show _ + 1000 ≤ _; omega) ⟨by show _ ≤ 730425; omega, by show _ ≤ 6910603; omega⟩ (fun v169 L1 w1 hv169 => ?_)
  obtain ⟨S1, hS1, hf1, hR1⟩ := hv169
  have hp1 := hp.o hf1
  refine j_aload_n (pc := 172) C rfl dL_law_172 rfl ?_
  refine j_sipush (pc := 173) (v := 1000) C dL_law_173 (by decide) ?_
  refine jSW_i (pc := 176) (k2 := 84 + 2400 * i + 200) (n2 := 746 + 24000 * i + 2000) (np := 2) (As := [.ref (ap 0), .int 1000]) C ((cw_compile hlt hp1 1000).sw) gL_law_L_compile rfl (by decide +kernel) ⟨by decide, by decide⟩ rfl rfl (Nat.le_of_ble_eq_true rfl) dL_law_176 (by show _ + 100 ≤ _; omega) (by show _ + 1000 ≤ _; omega) ⟨by show _ ≤ 730425; omega, by show _ ≤ 6910603; omega⟩ (fun v176 L2 w2 hv176 => ?_)
  obtain ⟨S2, hS2, hf2, hR2⟩ := hv176
  have hS1 := hS1.p hf2
  obtain ⟨er, eS⟩ := StR.det hR1 hR2
  subst er
  have e1 : S1.1 = 1 := cmp_1000 hS hR1
  refine j_icmp_ne (pc := 179) (tgt := 204) C dL_law_179 (by decide) (fun c179 => ?_) (fun c179 => ?_)
  · exact absurd rfl c179
  · refine j_aload_n (pc := 182) C rfl dL_law_182 rfl ?_
    refine jV_i0 (pc := 183) (k2 := 84 + 2400 * i + 210) (n2 := 746 + 24000 * i + 2100) (np := 0) (As := []) C (cr_isCompiled hS1) gL_law_X4_isCompiled rfl (by decide +kernel) ⟨by decide, by decide⟩ hS1.at0 rfl rfl rfl (Nat.le_of_ble_eq_true rfl) dL_law_183 (by show _ + 10 ≤ _; omega) (by show _ + 100 ≤ _; omega) ⟨by show _ ≤ 730425; omega, by show _ ≤ 6910603; omega⟩ (fun v183 hv183 => ?_)
    subst hv183
    refine j_if_eq (pc := 186) (tgt := 204) C dL_law_186 (by decide) (fun c186 => ?_) (fun c186 => ?_)
    · exact absurd (e1.symm.trans c186) (by decide)
    · refine j_aload_n (pc := 189) C rfl dL_law_189 rfl ?_
      refine j_bipush (pc := 190) (v := 7) C dL_law_190 (by decide) ?_
      refine j_lconst (pc := 192) (v := 0) C dL_law_192 (by decide) ?_
      refine j_lconst (pc := 193) (v := 0) C dL_law_193 (by decide) ?_
      refine jS_i0 (pc := 194) (k2 := 84 + 2400 * i + 370) (n2 := 746 + 24000 * i + 3700) (np := 4) (As := [.ref (ad 0), .int 7, .long 0, .long 0]) C (ct_isCallSo hlt hS1 (x := 7) ⟨7, by decide, rfl⟩ 0 0) gL_law_L_isCallSo rfl (by decide +kernel) ⟨by decide, by decide⟩ rfl rfl (Nat.le_of_ble_eq_true rfl) dL_law_194 (by show _ + 160 ≤ _; omega) (by show _ + 1600 ≤ _; omega) ⟨by show _ ≤ 730425; omega, by show _ ≤ 6910603; omega⟩ (fun v194 hv194 => ?_)
      subst hv194
      refine j_if_eq (pc := 197) (tgt := 204) C dL_law_197 (by decide) (fun c197 => ?_) (fun c197 => ?_)
      · exact absurd c197 (by decide)
      · refine j_iconst (pc := 200) (v := 1) C dL_law_200 (by decide) ?_
        refine j_goto (pc := 201) (tgt := 205) C dL_law_201 (by decide) ?_
        exact fun H locs ls hP hD hS hl => va_forget (fun q hq => hS.2.2 q hq) (W.widen (k := 730425) (n := 6910603) (by omega) (by omega) (lw_ret C.1 C.2.1 hr hlk dL_law_205))


set_option maxRecDepth 100000 in
set_option maxHeartbeats 8000000 in
theorem law_loop {p : Program} {l : Launch} {e : Env} {s : State} {m : MethodId} {below : List Frame} {meth : Method} {c : Code} {G : Gp} {b : Nat} (hlt : l.stackTraces = false) (C : Cx p s m #[Value.ref b] c cL_law RL 8 wsL_law G (fun q => s.heap.size ≤ q) s.heap) {ad ap : Nat → Nat} {LL : Nat} {xs : Nat → Int32} (hLL : LL ≤ 260) (hX : va_X b LL xs s s.heap) (hbl : b < s.heap.size) (hr9 : meth.sig.returnType = ret) (hlk : meth.locks = false) : ∀ (f i : Nat) (L : List Nat) (w : Wn) (S : Ms), 61 - i = f → i ≤ 60 → OS G ad L w S → OS G ap (sL L) (sW w) S → J p l e room_1 s m #[Value.ref b] below meth c G (fun q => s.heap.size ≤ q) s.heap 8 (lw_Z below #[Value.ref b] s) L w (84 + 2400 * i) (746 + 24000 * i) 18 [some (.ref b), some (.ref (ad 0)), some (.ref (ap 0)), some (.int (nI i)), none, none, none, none] [] := by
  have hbA : ¬ (fun q : Nat => s.heap.size ≤ q) b := Nat.not_le.mpr hbl
  intro f
  induction f using Nat.strongRecOn with
  | _ f ih =>
    intro i L w S hf hi0 hS hp
    refine j_iload_n (pc := 18) C rfl dL_law_18 rfl ?_
    refine j_bipush (pc := 19) (v := 60) C dL_law_19 (by decide) ?_
    refine j_icmp_ge (pc := 21) (tgt := 165) C dL_law_21 (by decide) (fun c21 => ?_) (fun c21 => ?_)
    · have e6 : i = 60 := by
        by_cases q : i = 60
        · exact q
        · exact absurd c21 (nI_ge (a := i) (b := 60) (by omega) (by decide))
      exact law_end hlt C hr9 hlk hi0 hS hp
    · have hi : i < 60 := Nat.not_le.mp (fun q => c21 (nI_le (a := 60) (b := i) q (by omega)))
      have hnext : ∀ (L3 : List Nat) (w3 : Wn) (S3 : Ms), OS G ad L3 w3 S3 → OS G ap (sL L3) (sW w3) S3 → J p l e room_1 s m #[Value.ref b] below meth c G (fun q => s.heap.size ≤ q) s.heap 8 (lw_Z below #[Value.ref b] s) L3 w3 (84 + 2400 * i + 2400) (746 + 24000 * i + 24000) 159 [some (.ref b), some (.ref (ad 0)), some (.ref (ap 0)), some (.int (nI i)), none, none, none, none] [] := fun L3 w3 S3 h3 g3 => by
        refine j_iinc_3 (pc := 159) (d := 1) C dL_law_159 (by decide) rfl rfl ?_
        refine j_lo (by rw [nI_1]) ?_
        refine j_goto (pc := 162) (tgt := 18) C dL_law_162 (by decide) ?_
        rw [show 84 + 2400 * i + 2400 = 84 + 2400 * (i + 1) by omega, show 746 + 24000 * i + 24000 = 746 + 24000 * (i + 1) by omega]
        exact ih (61 - (i + 1)) (by omega) (i + 1) L3 w3 S3 rfl (by omega) h3 g3
      refine j_aload_n (pc := 24) C rfl dL_law_24 rfl ?_
      refine j_iconst (pc := 25) (v := 2) C dL_law_25 (by decide) ?_
      refine j_iload_n (pc := 26) C rfl dL_law_26 rfl ?_
      refine j_imul (pc := 27) C dL_law_27 ?_
      refine j_st (by rw [two_nI]) ?_
      refine jSX_i0 (pc := 28) (k2 := 84 + 2400 * i) (n2 := 746 + 24000 * i) (np := 2) (As := [.ref b, .int (nI (2 * i))]) C hX hbl hbA (ct_cell (by omega) (kk := 2 * i) (by omega)) gL_law_L_cell rfl (by decide +kernel) ⟨by decide, by decide⟩ rfl rfl (Nat.le_of_ble_eq_true rfl) dL_law_28 (by show _ + 0 ≤ _; omega) (by show _ + 0 ≤ _; omega) ⟨by show _ ≤ 730425; omega, by show _ ≤ 6910603; omega⟩ (fun v hv => ?_)
      refine j_istore_4 (pc := 31) C dL_law_31 (by decide) rfl ?_
      refine j_aload_n (pc := 33) C rfl dL_law_33 rfl ?_
      refine j_iconst (pc := 34) (v := 2) C dL_law_34 (by decide) ?_
      refine j_iload_n (pc := 35) C rfl dL_law_35 rfl ?_
      refine j_imul (pc := 36) C dL_law_36 ?_
      refine j_st (by rw [two_nI]) ?_
      refine j_iconst (pc := 37) (v := 1) C dL_law_37 (by decide) ?_
      refine j_iadd (pc := 38) C dL_law_38 ?_
      refine j_st (by rw [nI_1]) ?_
      refine jSX_i0 (pc := 39) (k2 := 84 + 2400 * i) (n2 := 746 + 24000 * i) (np := 2) (As := [.ref b, .int (nI (2 * i + 1))]) C hX hbl hbA (ct_cell (by omega) (kk := 2 * i + 1) (by omega)) gL_law_L_cell rfl (by decide +kernel) ⟨by decide, by decide⟩ rfl rfl (Nat.le_of_ble_eq_true rfl) dL_law_39 (by show _ + 0 ≤ _; omega) (by show _ + 0 ≤ _; omega) ⟨by show _ ≤ 730425; omega, by show _ ≤ 6910603; omega⟩ (fun u hu => ?_)
      refine j_istore_5 (pc := 42) C dL_law_42 (by decide) rfl ?_
      refine j_aload_n (pc := 44) C rfl dL_law_44 rfl ?_
      refine j_iload (pc := 45) C dL_law_45 rfl ?_
      refine j_iload (pc := 47) C dL_law_47 rfl ?_
      refine jS_i (pc := 49) (k2 := 84 + 2400 * i + 100) (n2 := 746 + 24000 * i + 1000) (np := 3) (As := [.ref (ad 0), .int v, .int u]) C (ct_act hlt hS v u) gL_law_L_act rfl (by decide +kernel) ⟨by decide, by decide⟩ rfl rfl (Nat.le_of_ble_eq_true rfl) dL_law_49 (by show _ + 100 ≤ _; omega) (by show _ + 1000 ≤ _; omega) ⟨by show _ ≤ 730425; omega, by show _ ≤ 6910603; omega⟩ (fun r L1 w1 hr => ?_)
      obtain ⟨S1, hS1, hf1, hR1⟩ := hr
      have hp1 := hp.o hf1
      refine j_istore_6 (pc := 52) C dL_law_52 (by decide) rfl ?_
      refine j_iload (pc := 54) C dL_law_54 rfl ?_
      refine j_ldc (pc := 56) (v := (-99999)) C dL_law_56 (by decide +kernel) ?_
      refine j_icmp_eq (pc := 58) (tgt := 74) C dL_law_58 (by decide) (fun c58 => ?_) (fun c58 => ?_)
      · have e9 := actR_9 hS hR1 c58
        subst e9
        refine j_widen (k2 := 84 + 2400 * i + 200) (n2 := 746 + 24000 * i + 2000) (by omega) (by omega) ?_
        exact law_look hlt C hi hS1 hp1 v u r (hnext _ _ _ hS1 hp1)
      · refine j_aload_n (pc := 61) C rfl dL_law_61 rfl ?_
        refine j_iload (pc := 62) C dL_law_62 rfl ?_
        refine j_iload (pc := 64) C dL_law_64 rfl ?_
        refine jS_i (pc := 66) (k2 := 84 + 2400 * i + 200) (n2 := 746 + 24000 * i + 2000) (np := 3) (As := [.ref (ap 0), .int v, .int u]) C ((ct_act hlt hp1 v u).sw) gL_law_L_act rfl (by decide +kernel) ⟨by decide, by decide⟩ rfl rfl (Nat.le_of_ble_eq_true rfl) dL_law_66 (by show _ + 100 ≤ _; omega) (by show _ + 1000 ≤ _; omega) ⟨by show _ ≤ 730425; omega, by show _ ≤ 6910603; omega⟩ (fun r2 L2 w2 hr2 => ?_)
        obtain ⟨S2, hS2, hf2, hR2⟩ := hr2
        have hS1 := hS1.p hf2
        obtain ⟨er, eS⟩ := actR_det hR1 hR2
        subst er
        subst eS
        refine j_iload (pc := 69) C dL_law_69 rfl ?_
        refine j_icmp_ne (pc := 71) (tgt := 99) C dL_law_71 (by decide) (fun c71 => ?_) (fun c71 => ?_)
        · exact absurd rfl c71
        · exact law_look hlt C hi hS1 hS2 v u _ (hnext _ _ _ hS1 hS2)

