/-! THE MODEL: a tree is laid; the ways in it -/
theorem kys_lt (cl : EL) : ∀ k, ∀ x ∈ kys cl k, x < k
  | 0 => fun x h => by cases h
  | k + 1 => fun x h => by
    unfold kys at h
    split at h
    · rcases List.mem_append.mp h with h | h
      · have := kys_lt cl k x h; omega
      · have := List.mem_singleton.mp h; omega
    · have := kys_lt cl k x h; omega
theorem kys_get {cl : EL} {k r : Nat} (h : r < (kys cl k).length) : (kys cl k).getD r 0 < k := by
  have e : (kys cl k).getD r 0 = (kys cl k)[r] := by simp [List.getD, h]
  rw [e]
  exact kys_lt cl k _ (List.getElem_mem h)
theorem rch_le {el : EL} (h : el.length ≤ 10) : (rch el).length ≤ 10 := Nat.le_trans (rchN_le el el.length) h
/-- a filter's tree is laid -/
def LaidM (cl : EL) (fq : Nat → Nat) (ks : Nat → Int32) (sz : Nat) (co ro : Nat → Int32) : Prop := sz = ksz cl ∧ (∀ r, r < sz → ks r = kyF cl r) ∧ ∀ i l, 0 < l → i + l ≤ sz → co (10 * i + (i + l - 1)) = nI (cs (wtF fq cl) i l) ∧ ro (10 * i + (i + l - 1)) = nI (rt (wtF fq cl) i l)
def keyA (cl : EL) (q : Nat) (ks : Nat → Int32) (sz : Nat) : Prop := sz = (kys cl q).length ∧ ∀ r, r < sz → ks r = nI ((kys cl q).getD r 0)
theorem keyA_n {cl : EL} {q sz : Nat} {ks : Nat → Int32} (h : keyA cl q ks sz) (hn : hasN (nI q) cl = false) : keyA cl (q + 1) ks sz := by
  unfold keyA
  rw [show kys cl (q + 1) = kys cl q from if_neg (by rw [hn]; decide)]
  exact h
theorem keyA_s {cl : EL} {q sz : Nat} {ks : Nat → Int32} (h : keyA cl q ks sz) (hn : hasN (nI q) cl = true) : keyA cl (q + 1) (upd ks sz (nI q)) (sz + 1) := by
  obtain ⟨h1, h2⟩ := h
  unfold keyA
  rw [show kys cl (q + 1) = kys cl q ++ [q] from if_pos hn]
  refine ⟨by rw [List.length_append, h1]; rfl, fun r hr => ?_⟩
  by_cases e : r = sz
  · subst e
    rw [upd_me, h1, getD_app]
  · rw [upd_ne e, h2 r (by omega), getD_app_lt (by omega)]
theorem keyA_lt {cl : EL} {q sz : Nat} {ks : Nat → Int32} (hc : cl.length ≤ 10) (h : keyA cl q ks sz) (hq : q < 32) (hn : hasN (nI q) cl = true) : sz < 10 := by
  have h1 := kys_le cl (q + 1) (by omega)
  rw [show kys cl (q + 1) = kys cl q ++ [q] from if_pos hn, List.length_append, ← h.1] at h1
  simp at h1
  omega
theorem laid_of {cl : EL} {fq : Nat → Nat} {ks : Nat → Int32} {sz m : Nat} {co ro : Nat → Int32} (hk : keyA cl 32 ks sz) (hm : sz < m) (hT : TabM (wtK fq (fun r => (kys cl 32).getD r 0)) sz m 0 co ro) : LaidM cl fq ks sz co ro := ⟨hk.1, hk.2, fun i l h1 h2 => hT i l h1 (Or.inl (by omega)) h2⟩
theorem TabM.over {wt : Nat → Nat} {n m j : Nat} {co ro : Nat → Int32} (h : TabM wt n m j co ro) (hj : n < j + m) : TabM wt n (m + 1) 0 co ro := fun i l h1 h2 h3 => h i l h1 (by omega) h3
set_option maxRecDepth 100000 in
set_option maxHeartbeats 4000000 in
theorem mll2_loop {p : Program} {e : Env} {s : State} {m : MethodId} {args : Array Value} {below : List Frame} {meth : Method} {c : Code} {A : Nat → Prop} {post : Sw → Prop} {l : Launch} {G : Gp} {L : List Nat} {am : Nat → Nat} {th cp : Int32} {df : Nat → Int32} {fq : Nat → Nat} {E : Nat → EL} {ns ar ac : Nat → Int32} {mk vl : Nat → Int64} {j : Nat} (hj : j < 4) {ks : Nat → Int32} {sz n : Nat} (hk : keyA (rch (E j)) 32 ks sz) (hn10 : n ≤ 10)  (C : Cx p s m args c cX5_lay yX5_lay.cls 4 wsX5_lay G A s.heap) (hr : meth.sig.returnType = none) (hlk : meth.locks = false) : ∀ (f i : Nat) (w : Wn) (co ro : Nat → Int32), sz + 1 - i = f → i ≤ sz + 1 → MB G am L w th cp df fq E ns ar ac mk vl ks sz co ro → TabM (wtK fq (fun r => (kys (rch (E j)) 32).getD r 0)) sz (n + 1) i co ro → (∀ (w2 : Wn) (co2 ro2 : Nat → Int32), MB G am L w2 th cp df fq E ns ar ac mk vl ks sz co2 ro2 → TabM (wtK fq (fun r => (kys (rch (E j)) 32).getD r 0)) sz (n + 1 + 1) 0 co2 ro2 → FrM L w w2 → J p l e (rmD 4 0 0) s m args below meth c G A s.heap 4 (MQ below (va_Qv post (PB G A) A) args s (rmD 4 0 0).cells (rmD 4 0 0).slots A) L w2 0 0 86 [some (.ref (am 42)), some (.int (nI j)), some (.int (nI (n + 1))), none] []) → J p l e (rmD 4 0 0) s m args below meth c G A s.heap 4 (MQ below (va_Qv post (PB G A) A) args s (rmD 4 0 0).cells (rmD 4 0 0).slots A) L w 0 0 60 [some (.ref (am 42)), some (.int (nI j)), some (.int (nI (n + 1))), some (.int (nI i))] [] := by
  have hin_X5 : ∀ x ∈ u_ws RX5 TX5 14, x ∈ wsX5_lay := by decide +kernel
  intro f
  induction f using Nat.strongRecOn with
  | _ f ih =>
    intro i w co ro hf hi0 hm hTab hend
    obtain ⟨h42, h43, h44, h45, h46, h47, h48, h49, h50, h51, h52, h53, hT, hE, hfb, hsz⟩ := id hm
    refine j_iload_n (pc := 60) C rfl dX5_lay_60 rfl ?_
    refine j_iload_n (pc := 61) C rfl dX5_lay_61 rfl ?_
    refine j_iadd (pc := 62) C dX5_lay_62 ?_
    refine j_st (by rw [nI_add]) ?_
    refine j_aload_n (pc := 63) C rfl dX5_lay_63 rfl ?_
    refine j_get (pc := 64) C hin_X5 h42 rfl 11 (by decide) (by decide +kernel) rfl dX5_lay_64 ?_
    refine j_icmp_gt (pc := 67) (tgt := 86) C dX5_lay_67 (by decide) (fun c67 => ?_) (fun c67 => ?_)
    · have c67 := nI_lt_of (by omega) (by omega) (show nI sz < nI (i + (n + 1)) from c67)
      exact j_weak (by simp [lw1]) (hend w co ro hm (hTab.over (by omega)) Fr.rf)
    · have c67 := nI_ge_of (by omega) (by omega) (show ¬ nI sz < nI (i + (n + 1)) from c67)
      refine j_aload_n (pc := 70) C rfl dX5_lay_70 rfl ?_
      refine j_iload_n (pc := 71) C rfl dX5_lay_71 rfl ?_
      refine j_iload_n (pc := 72) C rfl dX5_lay_72 rfl ?_
      refine j_iload_n (pc := 73) C rfl dX5_lay_73 rfl ?_
      refine j_iadd (pc := 74) C dX5_lay_74 ?_
      refine j_st (by rw [nI_add]) ?_
      refine j_iconst (pc := 75) (v := 1) C dX5_lay_75 (by decide) ?_
      refine j_isub (pc := 76) C dX5_lay_76 ?_
      refine j_st (by rw [show i + (n + 1) = i + n + 1 from rfl, nI_pred]) ?_
      refine jV_v (pc := 77) (k2 := 0) (n2 := 0) (np := 2) (As := [.int (nI i), .int (nI (i + n))]) C (ct_layPart hm (i := i) (m9 := n) (n9 := sz) (kk := fun r => (kys (rch (E j)) 32).getD r 0) (fun r z => ⟨hk.2 r z, kys_get (by rw [← hk.1]; exact z)⟩) hsz c67 hTab) gX5_lay_X5_layPart rfl (by decide +kernel) ⟨by decide, by decide⟩ h42 rfl rfl rfl (Nat.le_of_ble_eq_true rfl) dX5_lay_77 (by decide) (by decide) ⟨by decide, by decide⟩ (fun L2 w2 hu => ?_)
      obtain ⟨w9, co2, ro2, e9, hm2, hTab2, hf2⟩ := hu
      cases e9
      refine j_iinc_3 (pc := 80) (d := 1) C dX5_lay_80 (by decide) rfl rfl ?_
      refine j_lo (by rw [nI_1]) ?_
      refine j_goto (pc := 83) (tgt := 60) C dX5_lay_83 (by decide) ?_
      exact ih (sz + 1 - (i + 1)) (by omega) (i + 1) w2 co2 ro2 rfl (by omega) hm2 hTab2 (fun w3 co3 ro3 k1 k2 k3 => hend w3 co3 ro3 k1 k2 (hf2.tr k3))

set_option maxRecDepth 100000 in
set_option maxHeartbeats 4000000 in
theorem mll1_loop {p : Program} {e : Env} {s : State} {m : MethodId} {args : Array Value} {below : List Frame} {meth : Method} {c : Code} {A : Nat → Prop} {post : Sw → Prop} {l : Launch} {G : Gp} {L : List Nat} {am : Nat → Nat} {th cp : Int32} {df : Nat → Int32} {fq : Nat → Nat} {E : Nat → EL} {ns ar ac : Nat → Int32} {mk vl : Nat → Int64} {j : Nat} (hj : j < 4) {ks : Nat → Int32} {sz : Nat} (hk : keyA (rch (E j)) 32 ks sz) (C : Cx p s m args c cX5_lay yX5_lay.cls 4 wsX5_lay G A s.heap) (hr : meth.sig.returnType = none) (hlk : meth.locks = false) : ∀ (f n : Nat) (w : Wn) (co ro : Nat → Int32), 12 - n = f → n ≤ 11 → MB G am L w th cp df fq E ns ar ac mk vl ks sz co ro → TabM (wtK fq (fun r => (kys (rch (E j)) 32).getD r 0)) sz (n + 1) 0 co ro → (∀ (w2 : Wn) (co2 ro2 : Nat → Int32), MB G am L w2 th cp df fq E ns ar ac mk vl ks sz co2 ro2 → LaidM (rch (E j)) fq ks sz co2 ro2 → FrM L w w2 → post (L, w2)) → J p l e (rmD 4 0 0) s m args below meth c G A s.heap 4 (MQ below (va_Qv post (PB G A) A) args s (rmD 4 0 0).cells (rmD 4 0 0).slots A) L w 0 0 50 [some (.ref (am 42)), some (.int (nI j)), some (.int (nI (n + 1))), none] [] := by
  have hin_X5 : ∀ x ∈ u_ws RX5 TX5 14, x ∈ wsX5_lay := by decide +kernel
  intro f
  induction f using Nat.strongRecOn with
  | _ f ih =>
    intro n w co ro hf hi0 hm hTab hend
    obtain ⟨h42, h43, h44, h45, h46, h47, h48, h49, h50, h51, h52, h53, hT, hE, hfb, hsz⟩ := id hm
    refine j_iload_n (pc := 50) C rfl dX5_lay_50 rfl ?_
    refine j_aload_n (pc := 51) C rfl dX5_lay_51 rfl ?_
    refine j_get (pc := 52) C hin_X5 h42 rfl 11 (by decide) (by decide +kernel) rfl dX5_lay_52 ?_
    refine j_icmp_gt (pc := 55) (tgt := 92) C dX5_lay_55 (by decide) (fun c55 => ?_) (fun c55 => ?_)
    · have c55 := nI_lt_of (by omega) (by omega) (show nI sz < nI (n + 1) from c55)
      exact ret_v C rfl hr hlk dX5_lay_92 (hend w co ro hm (laid_of hk (show sz < n + 1 by omega) hTab) Fr.rf) (by decide) (by decide)
    · have c55 := nI_ge_of (by omega) (by omega) (show ¬ nI sz < nI (n + 1) from c55)
      refine j_iconst (pc := 58) (v := 0) C dX5_lay_58 (by decide) ?_
      refine j_istore_3 (pc := 59) C dX5_lay_59 (by decide) rfl ?_
      refine j_weak (by simp [lw1]; rfl) (mll2_loop hj hk (show n ≤ 10 by omega) C hr hlk (sz + 1) 0 w co ro rfl (Nat.zero_le _) hm hTab (fun w2 co2 ro2 hm2 hTab2 hf2 => ?_))
      obtain ⟨h42, h43, h44, h45, h46, h47, h48, h49, h50, h51, h52, h53, hT, hE, hfb, hsz⟩ := id hm2
      refine j_iinc_2 (pc := 86) (d := 1) C dX5_lay_86 (by decide) rfl rfl ?_
      refine j_lo (by rw [nI_1]) ?_
      refine j_goto (pc := 89) (tgt := 50) C dX5_lay_89 (by decide) ?_
      exact ih (12 - (n + 1)) (by omega) (n + 1) w2 co2 ro2 rfl (by omega) hm2 hTab2 (fun w3 co3 ro3 k1 k2 k3 => hend w3 co3 ro3 k1 k2 (hf2.tr k3))

set_option maxRecDepth 100000 in
set_option maxHeartbeats 4000000 in
theorem mlk_loop {p : Program} {e : Env} {s : State} {m : MethodId} {args : Array Value} {below : List Frame} {meth : Method} {c : Code} {A : Nat → Prop} {post : Sw → Prop} {l : Launch} {G : Gp} {L : List Nat} {am : Nat → Nat} {th cp : Int32} {df : Nat → Int32} {fq : Nat → Nat} {E : Nat → EL} {ns ar ac : Nat → Int32} {mk vl : Nat → Int64} {j : Nat} (hj : j < 4) {co ro : Nat → Int32} (C : Cx p s m args c cX5_lay yX5_lay.cls 4 wsX5_lay G A s.heap) (hr : meth.sig.returnType = none) (hlk : meth.locks = false) : ∀ (f q : Nat) (w : Wn) (ks : Nat → Int32) (sz : Nat), 32 - q = f → q ≤ 32 → MB G am L w th cp df fq E ns ar ac mk vl ks sz co ro → keyA (rch (E j)) q ks sz → (∀ (w2 : Wn) (ks2 : Nat → Int32) (sz2 : Nat) (co2 ro2 : Nat → Int32), MB G am L w2 th cp df fq E ns ar ac mk vl ks2 sz2 co2 ro2 → LaidM (rch (E j)) fq ks2 sz2 co2 ro2 → FrM L w w2 → post (L, w2)) → J p l e (rmD 4 0 0) s m args below meth c G A s.heap 4 (MQ below (va_Qv post (PB G A) A) args s (rmD 4 0 0).cells (rmD 4 0 0).slots A) L w 0 0 7 [some (.ref (am 42)), some (.int (nI j)), some (.int (nI q)), none] [] := by
  have hin_X5 : ∀ x ∈ u_ws RX5 TX5 14, x ∈ wsX5_lay := by decide +kernel
  intro f
  induction f using Nat.strongRecOn with
  | _ f ih =>
    intro q w ks sz hf hi0 hm hk hend
    obtain ⟨h42, h43, h44, h45, h46, h47, h48, h49, h50, h51, h52, h53, hT, hE, hfb, hsz⟩ := id hm
    have hj10 := hE j hj
    have hc10 := rch_le hj10
    refine j_iload_n (pc := 7) C rfl dX5_lay_7 rfl ?_
    refine j_bipush (pc := 8) (v := 32) C dX5_lay_8 (by decide) ?_
    refine j_icmp_ge (pc := 10) (tgt := 48) C dX5_lay_10 (by decide) (fun c10 => ?_) (fun c10 => ?_)
    · have c10 := nI_le_of (by omega) (by omega) (show nI 32 ≤ nI q from c10)
      refine j_iconst (pc := 48) (v := 1) C dX5_lay_48 (by decide) ?_
      refine j_istore_2 (pc := 49) C dX5_lay_49 (by decide) rfl ?_
      have hq32 : q = 32 := by omega
      subst hq32
      exact j_weak (by simp [lw1]; rfl) (mll1_loop hj hk C hr hlk 12 0 w co ro rfl (by decide) hm (fun i l h1 h2 h3 => absurd h2 (by omega)) (fun w2 co2 ro2 k1 k2 k3 => hend w2 ks sz co2 ro2 k1 k2 k3))
    · have c10 := nI_gt_of (by omega) (by omega) (show ¬ nI 32 ≤ nI q from c10)
      refine j_aload_n (pc := 13) C rfl dX5_lay_13 rfl ?_
      refine j_iload_n (pc := 14) C rfl dX5_lay_14 rfl ?_
      refine j_iload_n (pc := 15) C rfl dX5_lay_15 rfl ?_
      refine jV_i0 (pc := 16) (k2 := 0) (n2 := 0) (np := 2) (As := [.int (nI j), .int (nI q)]) C (ct_hasNumber hm hj (nI q)) gX5_lay_X5_hasNumber rfl (by decide +kernel) ⟨by decide, by decide⟩ h42 rfl rfl rfl (Nat.le_of_ble_eq_true rfl) dX5_lay_16 (by decide) (by decide) ⟨by decide, by decide⟩ (fun v hv => ?_)
      subst hv
      refine j_if_eq (pc := 19) (tgt := 42) C dX5_lay_19 (by decide) (fun c19 => ?_) (fun c19 => ?_)
      · have c19 := bI_0 c19
        refine j_iinc_2 (pc := 42) (d := 1) C dX5_lay_42 (by decide) rfl rfl ?_
        refine j_lo (by rw [nI_1]) ?_
        refine j_goto (pc := 45) (tgt := 7) C dX5_lay_45 (by decide) ?_
        first
          | exact ih (32 - (q + 1)) (by omega) (q + 1) w39 _ _ rfl (by omega) hm39 (keyA_s hk c19) (fun w3 ks3 sz3 co3 ro3 k1 k2 k3 => hend w3 ks3 sz3 co3 ro3 k1 k2 ((hf31.tr hf39).tr k3))
          | exact ih (32 - (q + 1)) (by omega) (q + 1) w _ _ rfl (by omega) hm (keyA_n hk c19) hend
      · have c19 := bI_1 c19
        refine j_aload_n (pc := 22) C rfl dX5_lay_22 rfl ?_
        refine j_get (pc := 23) C hin_X5 h42 rfl 10 (by decide) (by decide +kernel) rfl dX5_lay_23 ?_
        refine j_aload_n (pc := 26) C rfl dX5_lay_26 rfl ?_
        refine j_get (pc := 27) C hin_X5 h42 rfl 11 (by decide) (by decide +kernel) rfl dX5_lay_27 ?_
        refine j_iload_n (pc := 30) C rfl dX5_lay_30 rfl ?_
        have hs10 := keyA_lt hc10 hk c10 c19
        refine j_iast (pc := 31) C h51 rfl hs10 (by decide) dX5_lay_31 ?_
        refine j_nm (fun w31 ew31 => ?_)
        obtain ⟨hm31, hf31⟩ := hm.setks ew31
        obtain ⟨h42, h43, h44, h45, h46, h47, h48, h49, h50, h51, h52, h53, hT, hE, hfb, hsz⟩ := id hm31
        refine j_aload_n (pc := 32) C rfl dX5_lay_32 rfl ?_
        refine j_dup (pc := 33) C dX5_lay_33 rfl ?_
        refine j_get (pc := 34) C hin_X5 h42 rfl 11 (by decide) (by decide +kernel) rfl dX5_lay_34 ?_
        refine j_iconst (pc := 37) (v := 1) C dX5_lay_37 (by decide) ?_
        refine j_iadd (pc := 38) C dX5_lay_38 ?_
        refine j_st (by rw [nI_1]) ?_
        refine j_put (pc := 39) (fs2 := [.int th, .ref (am 43), .ref (am 44), .ref (am 45), .ref (am 46), .ref (am 47), .ref (am 48), .ref (am 49), .ref (am 50), .int cp, .ref (am 51), .int (nI (sz + 1)), .ref (am 52), .ref (am 53)]) C hin_X5 h42 rfl 11 (by decide) tyX5 tyX5_ok nmX5 (by decide +kernel) rfl (tyX5_ok 11 (by decide)) rfl rfl (Nat.le_of_ble_eq_true rfl) rfl dX5_lay_39 ?_
        refine j_nm (fun w39 ew39 => ?_)
        obtain ⟨hm39, hf39⟩ := hm31.setob ew39 (by omega)
        obtain ⟨h42, h43, h44, h45, h46, h47, h48, h49, h50, h51, h52, h53, hT, hE, hfb, hsz⟩ := id hm39
        refine j_iinc_2 (pc := 42) (d := 1) C dX5_lay_42 (by decide) rfl rfl ?_
        refine j_lo (by rw [nI_1]) ?_
        refine j_goto (pc := 45) (tgt := 7) C dX5_lay_45 (by decide) ?_
        first
          | exact ih (32 - (q + 1)) (by omega) (q + 1) w39 _ _ rfl (by omega) hm39 (keyA_s hk c19) (fun w3 ks3 sz3 co3 ro3 k1 k2 k3 => hend w3 ks3 sz3 co3 ro3 k1 k2 ((hf31.tr hf39).tr k3))
          | exact ih (32 - (q + 1)) (by omega) (q + 1) w _ _ rfl (by omega) hm (keyA_n hk c19) hend

set_option maxRecDepth 100000 in
set_option maxHeartbeats 4000000 in
theorem ct_lay {l : Launch} {G : Gp} {L : List Nat} {w : Wn} {am : Nat → Nat} {th cp : Int32} {df : Nat → Int32} {fq : Nat → Nat} {E : Nat → EL} {ns ar ac : Nat → Int32} {mk vl : Nat → Int64} {ks : Nat → Int32} {sz : Nat} {co ro : Nat → Int32} (hm : MB G am L w th cp df fq E ns ar ac mk vl ks sz co ro) {j : Nat} (hj : j < 4)  : CV l yX5_lay wsX5_lay (rmD 4 0 0) G L w [.ref (am 42), .int (nI j)] (fun u => ∃ w2 ks2 sz2 co2 ro2, u = (L, w2) ∧ MB G am L w2 th cp df fq E ns ar ac mk vl ks2 sz2 co2 ro2 ∧ LaidM (rch (E j)) fq ks2 sz2 co2 ro2 ∧ FrM L w w2) := by
  refine mk_v (cc := cX5_lay) (maxL := 4) [some (.ref (am 42)), some (.int (nI j)), none, none] (by decide) rfl (Nat.le_of_ble_eq_true rfl) rfl ?_
  intro p e s m args below meth c A C hr hlk hnm
  have hin_X5 : ∀ x ∈ u_ws RX5 TX5 14, x ∈ wsX5_lay := by decide +kernel
  obtain ⟨h42, h43, h44, h45, h46, h47, h48, h49, h50, h51, h52, h53, hT, hE, hfb, hsz⟩ := id hm
  refine j_aload_n (pc := 0) C rfl dX5_lay_0 rfl ?_
  refine j_iconst (pc := 1) (v := 0) C dX5_lay_1 (by decide) ?_
  refine j_put (pc := 2) (fs2 := [.int th, .ref (am 43), .ref (am 44), .ref (am 45), .ref (am 46), .ref (am 47), .ref (am 48), .ref (am 49), .ref (am 50), .int cp, .ref (am 51), .int 0, .ref (am 52), .ref (am 53)]) C hin_X5 h42 rfl 11 (by decide) tyX5 tyX5_ok nmX5 (by decide +kernel) rfl (tyX5_ok 11 (by decide)) rfl rfl (Nat.le_of_ble_eq_true rfl) rfl dX5_lay_2 ?_
  refine j_nm (fun w2 ew2 => ?_)
  obtain ⟨hm2, hf2⟩ := hm.setob (sz2 := 0) ew2 (by decide)
  obtain ⟨h42, h43, h44, h45, h46, h47, h48, h49, h50, h51, h52, h53, hT, hE, hfb, hsz⟩ := id hm2
  refine j_iconst (pc := 5) (v := 0) C dX5_lay_5 (by decide) ?_
  refine j_istore_2 (pc := 6) C dX5_lay_6 (by decide) rfl ?_
  exact mlk_loop hj (post := fun u => ∃ w2 ks2 sz2 co2 ro2, u = (L, w2) ∧ MB G am L w2 th cp df fq E ns ar ac mk vl ks2 sz2 co2 ro2 ∧ LaidM (rch (E j)) fq ks2 sz2 co2 ro2 ∧ FrM L w w2) C hr hlk 32 0 w2 ks 0 rfl (by decide) hm2 ⟨rfl, fun r z => absurd z (Nat.not_lt_zero r)⟩ (fun w3 ks3 sz3 co3 ro3 k1 k2 k3 => ⟨w3, ks3, sz3, co3, ro3, rfl, k1, k2, hf2.tr k3⟩)

