/-! THE MODEL: the ways in a tree -/
theorem mwalk_0 {ky : Nat → Int32} {wt : Nat → Nat} {x : Int32} {f i t : Nat} : walk ky wt x f i 0 t = t := by
  cases f with
  | zero => rfl
  | succ f => rw [walk, if_pos rfl]
set_option maxRecDepth 100000 in
set_option maxHeartbeats 4000000 in
theorem mto_loop {p : Program} {e : Env} {s : State} {m : MethodId} {args : Array Value} {below : List Frame} {meth : Method} {c : Code} {A : Nat → Prop} {post : Int32 → Sw → Prop} {l : Launch} {G : Gp} {L : List Nat} {w : Wn} {am : Nat → Nat} {th cp : Int32} {df : Nat → Int32} {fq : Nat → Nat} {E : Nat → EL} {ns ar ac : Nat → Int32} {mk vl : Nat → Int64} {ks : Nat → Int32} {sz : Nat} {co ro : Nat → Int32} (hm : MB G am L w th cp df fq E ns ar ac mk vl ks sz co ro) {cl : EL} (hla : LaidM cl fq ks sz co ro) {x : Int32} {W : Nat} (hend : ∀ r, r = nI W → post r (L, w)) (C : Cx p s m args c cX5_testsOf yX5_testsOf.cls 6 wsX5_testsOf G A s.heap) (hr : meth.sig.returnType = (some .int)) (hlk : meth.locks = false) : ∀ (f i l1 t : Nat) (x2 : Int32), l1 ≤ f → i + l1 ≤ sz → x2 = nI (i + l1) - 1 → walk (kyF cl) (wtF fq cl) x f i l1 t = W → J p l e (rmD 1 0 0) s m args below meth c G A s.heap 6 (MQ below (va_Qi post (PB G A) A) args s (rmD 1 0 0).cells (rmD 1 0 0).slots A) L w 0 0 12 [some (.ref (am 42)), some (.int x), some (.int (nI i)), some (.int x2), some (.int (nI t)), none] [] := by
  have hin_X5 : ∀ x ∈ u_ws RX5 TX5 14, x ∈ wsX5_testsOf := by decide +kernel
  obtain ⟨h42, h43, h44, h45, h46, h47, h48, h49, h50, h51, h52, h53, hT, hE, hfb, hsz⟩ := id hm
  intro f
  induction f using Nat.strongRecOn with
  | _ f ih =>
    intro i l1 t x2 hlf hil hx hW
    refine j_iload_n (pc := 12) C rfl dX5_testsOf_12 rfl ?_
    refine j_iload_n (pc := 13) C rfl dX5_testsOf_13 rfl ?_
    refine j_icmp_gt (pc := 14) (tgt := 74) C dX5_testsOf_14 (by decide) (fun c14 => ?_) (fun c14 => ?_)
    · have c14 : l1 = 0 := (to_gt hx (by omega)).mp c14
      refine j_iload (pc := 74) C dX5_testsOf_74 rfl ?_
      exact ret_i C rfl hr hlk dX5_testsOf_76 (hend _ (by rw [← hW, c14, mwalk_0])) (by decide) (by decide)
    · have hl0 : l1 ≠ 0 := fun z => c14 ((to_gt hx (by omega)).mpr z)
      obtain ⟨l2, rfl⟩ := Nat.exists_eq_succ_of_ne_zero hl0
      obtain ⟨f1, rfl⟩ : ∃ f1, f = f1 + 1 := ⟨f - 1, by omega⟩
      have hx2 : x2 = nI (i + l2) := hx.trans (nI_pred (i + l2))
      subst hx2
      have hro : ro (10 * i + (i + l2)) = nI (rt (wtF fq cl) i (l2 + 1)) := (hla.2.2 i (l2 + 1) (by omega) (by omega)).2
      have hrt := rt_in (wtF fq cl) i (l := l2 + 1) (by omega)
      have hW2 : walk (kyF cl) (wtF fq cl) x (f1 + 1) i (l2 + 1) t = W := hW
      rw [walk, if_neg (Nat.succ_ne_zero l2)] at hW2
      generalize hR : rt (wtF fq cl) i (l2 + 1) = rr at hro hrt hW2
      have hkr := hla.2.1 rr (by omega)
      refine j_aload_n (pc := 17) C rfl dX5_testsOf_17 rfl ?_
      refine j_get (pc := 18) C hin_X5 h42 rfl 13 (by decide) (by decide +kernel) rfl dX5_testsOf_18 ?_
      refine j_bipush (pc := 21) (v := 10) C dX5_testsOf_21 (by decide) ?_
      refine j_iload_n (pc := 23) C rfl dX5_testsOf_23 rfl ?_
      refine j_imul (pc := 24) C dX5_testsOf_24 ?_
      refine j_iload_n (pc := 25) C rfl dX5_testsOf_25 rfl ?_
      refine j_iadd (pc := 26) C dX5_testsOf_26 ?_
      refine j_st (by rw [ix10 i (i + l2)]) ?_
      refine j_iald (pc := 27) C h53 rfl (by omega) (by decide) dX5_testsOf_27 ?_
      refine j_st (by rw [hro]) ?_
      refine j_istore_5 (pc := 28) C dX5_testsOf_28 (by decide) rfl ?_
      refine j_iinc_4 (pc := 30) (d := 1) C dX5_testsOf_30 (by decide) rfl rfl ?_
      refine j_lo (by rw [nI_1]) ?_
      refine j_aload_n (pc := 33) C rfl dX5_testsOf_33 rfl ?_
      refine j_get (pc := 34) C hin_X5 h42 rfl 10 (by decide) (by decide +kernel) rfl dX5_testsOf_34 ?_
      refine j_iload (pc := 37) C dX5_testsOf_37 rfl ?_
      refine j_iald (pc := 39) C h51 rfl (by omega) (by decide) dX5_testsOf_39 ?_
      refine j_st (by rw [hkr]) ?_
      refine j_iload_n (pc := 40) C rfl dX5_testsOf_40 rfl ?_
      refine j_icmp_ne (pc := 41) (tgt := 47) C dX5_testsOf_41 (by decide) (fun c41 => ?_) (fun c41 => ?_)
      · have c41 : ¬ x = kyF cl rr := fun z => c41 z.symm
        rw [if_neg c41] at hW2
        refine j_iload_n (pc := 47) C rfl dX5_testsOf_47 rfl ?_
        refine j_aload_n (pc := 48) C rfl dX5_testsOf_48 rfl ?_
        refine j_get (pc := 49) C hin_X5 h42 rfl 10 (by decide) (by decide +kernel) rfl dX5_testsOf_49 ?_
        refine j_iload (pc := 52) C dX5_testsOf_52 rfl ?_
        refine j_iald (pc := 54) C h51 rfl (by omega) (by decide) dX5_testsOf_54 ?_
        refine j_st (by rw [hkr]) ?_
        refine j_icmp_ge (pc := 55) (tgt := 66) C dX5_testsOf_55 (by decide) (fun c55 => ?_) (fun c55 => ?_)
        · rw [if_neg (Int32.not_lt.mpr c55)] at hW2
          refine j_iload (pc := 66) C dX5_testsOf_66 rfl ?_
          refine j_iconst (pc := 68) (v := 1) C dX5_testsOf_68 (by decide) ?_
          refine j_iadd (pc := 69) C dX5_testsOf_69 ?_
          refine j_st (by rw [nI_1]) ?_
          refine j_istore_2 (pc := 70) C dX5_testsOf_70 (by decide) rfl ?_
          refine j_goto (pc := 71) (tgt := 12) C dX5_testsOf_71 (by decide) ?_
          first
            | exact j_weak (by simp [lw1]) (ih f1 (by omega) i (rr - i) (t + 1) (nI rr - 1) (by omega) (by omega) (by rw [show i + (rr - i) = rr by omega]) hW2)
            | exact j_weak (by simp [lw1]) (ih f1 (by omega) (rr + 1) (i + (l2 + 1) - rr - 1) (t + 1) (nI (i + l2)) (by omega) (by omega) (by rw [show rr + 1 + (i + (l2 + 1) - rr - 1) = i + l2 + 1 by omega, nI_pred]) hW2)
        · rw [if_pos (Int32.not_le.mp c55)] at hW2
          refine j_iload (pc := 58) C dX5_testsOf_58 rfl ?_
          refine j_iconst (pc := 60) (v := 1) C dX5_testsOf_60 (by decide) ?_
          refine j_isub (pc := 61) C dX5_testsOf_61 ?_
          refine j_istore_3 (pc := 62) C dX5_testsOf_62 (by decide) rfl ?_
          refine j_goto (pc := 63) (tgt := 71) C dX5_testsOf_63 (by decide) ?_
          refine j_goto (pc := 71) (tgt := 12) C dX5_testsOf_71 (by decide) ?_
          first
            | exact j_weak (by simp [lw1]) (ih f1 (by omega) i (rr - i) (t + 1) (nI rr - 1) (by omega) (by omega) (by rw [show i + (rr - i) = rr by omega]) hW2)
            | exact j_weak (by simp [lw1]) (ih f1 (by omega) (rr + 1) (i + (l2 + 1) - rr - 1) (t + 1) (nI (i + l2)) (by omega) (by omega) (by rw [show rr + 1 + (i + (l2 + 1) - rr - 1) = i + l2 + 1 by omega, nI_pred]) hW2)
      · have c41 : x = kyF cl rr := c41.symm
        rw [if_pos c41] at hW2
        refine j_iload (pc := 44) C dX5_testsOf_44 rfl ?_
        exact ret_i C rfl hr hlk dX5_testsOf_46 (hend _ (by rw [hW2])) (by decide) (by decide)

set_option maxRecDepth 100000 in
set_option maxHeartbeats 4000000 in
theorem ct_testsOf {l : Launch} {G : Gp} {L : List Nat} {w : Wn} {am : Nat → Nat} {th cp : Int32} {df : Nat → Int32} {fq : Nat → Nat} {E : Nat → EL} {ns ar ac : Nat → Int32} {mk vl : Nat → Int64} {ks : Nat → Int32} {sz : Nat} {co ro : Nat → Int32} (hm : MB G am L w th cp df fq E ns ar ac mk vl ks sz co ro) {cl : EL} (hla : LaidM cl fq ks sz co ro) (x : Int32) : CI l yX5_testsOf wsX5_testsOf (rmD 1 0 0) G L w [.ref (am 42), .int x] (fun r u => r = nI (walk (kyF cl) (wtF fq cl) x 10 0 (ksz cl) 0) ∧ u = (L, w)) := by
  refine mk_i (cc := cX5_testsOf) (maxL := 6) [some (.ref (am 42)), some (.int x), none, none, none, none] (by decide) rfl (Nat.le_of_ble_eq_true rfl) rfl ?_
  intro p e s m args below meth c A C hr hlk hnm
  have hin_X5 : ∀ x ∈ u_ws RX5 TX5 14, x ∈ wsX5_testsOf := by decide +kernel
  obtain ⟨h42, h43, h44, h45, h46, h47, h48, h49, h50, h51, h52, h53, hT, hE, hfb, hsz⟩ := id hm
  refine j_iconst (pc := 0) (v := 0) C dX5_testsOf_0 (by decide) ?_
  refine j_istore_2 (pc := 1) C dX5_testsOf_1 (by decide) rfl ?_
  refine j_aload_n (pc := 2) C rfl dX5_testsOf_2 rfl ?_
  refine j_get (pc := 3) C hin_X5 h42 rfl 11 (by decide) (by decide +kernel) rfl dX5_testsOf_3 ?_
  refine j_iconst (pc := 6) (v := 1) C dX5_testsOf_6 (by decide) ?_
  refine j_isub (pc := 7) C dX5_testsOf_7 ?_
  refine j_istore_3 (pc := 8) C dX5_testsOf_8 (by decide) rfl ?_
  refine j_iconst (pc := 9) (v := 0) C dX5_testsOf_9 (by decide) ?_
  refine j_istore_4 (pc := 10) C dX5_testsOf_10 (by decide) rfl ?_
  exact mto_loop hm hla (post := fun r u => r = nI (walk (kyF cl) (wtF fq cl) x 10 0 (ksz cl) 0) ∧ u = (L, w)) (fun r h => ⟨h, rfl⟩) C hr hlk 10 0 sz 0 _ hsz (by omega) (by rw [Nat.zero_add]) (by rw [hla.1])

set_option maxRecDepth 100000 in
set_option maxHeartbeats 4000000 in
theorem mte_end {p : Program} {e : Env} {s : State} {m : MethodId} {args : Array Value} {below : List Frame} {meth : Method} {c : Code} {A : Nat → Prop} {post : Int32 → Sw → Prop} {l : Launch} {G : Gp} {L : List Nat} {w : Wn} {am : Nat → Nat} {th cp : Int32} {df : Nat → Int32} {fq : Nat → Nat} {E : Nat → EL} {ns ar ac : Nat → Int32} {mk vl : Nat → Int64} {ks : Nat → Int32} {sz : Nat} {co ro : Nat → Int32} (hm : MB G am L w th cp df fq E ns ar ac mk vl ks sz co ro) {cl : EL} (hla : LaidM cl fq ks sz co ro) {x y z1 : Int32} {W : Int32} (hend : ∀ r, r = W → post r (L, w)) {f i l1 p9 : Nat} {x2 : Int32} {vr : Option Value} (hlf : l1 ≤ f) (hil : i + l1 ≤ sz) (hx : x2 = nI (i + l1) - 1) (c69 : 0 < l1 → p9 ≤ 1) (hW : down (kyF cl) (wtF fq cl) f i l1 p9 = W) (C : Cx p s m args c cX5_test yX5_test.cls 8 wsX5_test G A s.heap) (hr : meth.sig.returnType = (some .int)) (hlk : meth.locks = false) :  J p l e (rmD 5 0 0) s m args below meth c G A s.heap 8 (MQ below (va_Qi post (PB G A) A) args s (rmD 5 0 0).cells (rmD 5 0 0).slots A) L w 0 0 140 [some (.ref (am 42)), some (.int x), some (.int y), some (.int z1), some (.int (nI i)), some (.int x2), some (.int (nI p9)), vr] [] := by
  have hin_X5 : ∀ x ∈ u_ws RX5 TX5 14, x ∈ wsX5_test := by decide +kernel
  obtain ⟨h42, h43, h44, h45, h46, h47, h48, h49, h50, h51, h52, h53, hT, hE, hfb, hsz⟩ := id hm
  skip
  refine j_iload (pc := 140) C dX5_test_140 rfl ?_
  refine j_iload (pc := 142) C dX5_test_142 rfl ?_
  refine j_icmp_gt (pc := 144) (tgt := 168) C dX5_test_144 (by decide) (fun c144 => ?_) (fun c144 => ?_)
  · have c144 : l1 = 0 := (to_gt hx (by omega)).mp c144
    refine j_iconst (pc := 168) (v := (-1)) C dX5_test_168 (by decide) ?_
    first | exact ret_i C rfl hr hlk dX5_test_169 (hend _ (by rw [← hW, c144, down_0])) (by decide) (by decide) | exact ret_i C rfl hr hlk dX5_test_169 (hend _ hW2) (by decide) (by decide)
  · have hl0 : l1 ≠ 0 := fun z => c144 ((to_gt hx (by omega)).mpr z)
    obtain ⟨l2, rfl⟩ := Nat.exists_eq_succ_of_ne_zero hl0
    obtain ⟨f1, rfl⟩ : ∃ f1, f = f1 + 1 := ⟨f - 1, by omega⟩
    have hx2 : x2 = nI (i + l2) := hx.trans (nI_pred (i + l2))
    subst hx2
    have hro : ro (10 * i + (i + l2)) = nI (rt (wtF fq cl) i (l2 + 1)) := (hla.2.2 i (l2 + 1) (by omega) (by omega)).2
    have hrt := rt_in (wtF fq cl) i (l := l2 + 1) (by omega)
    have hW2 : down (kyF cl) (wtF fq cl) (f1 + 1) i (l2 + 1) p9 = W := hW
    rw [down, if_neg (Nat.succ_ne_zero l2), if_pos (c69 (by omega))] at hW2
    generalize hR : rt (wtF fq cl) i (l2 + 1) = rr at hro hrt hW2
    have hkr := hla.2.1 rr (by omega)
    refine j_aload_n (pc := 147) C rfl dX5_test_147 rfl ?_
    refine j_get (pc := 148) C hin_X5 h42 rfl 10 (by decide) (by decide +kernel) rfl dX5_test_148 ?_
    refine j_aload_n (pc := 151) C rfl dX5_test_151 rfl ?_
    refine j_get (pc := 152) C hin_X5 h42 rfl 13 (by decide) (by decide +kernel) rfl dX5_test_152 ?_
    refine j_bipush (pc := 155) (v := 10) C dX5_test_155 (by decide) ?_
    refine j_iload (pc := 157) C dX5_test_157 rfl ?_
    refine j_imul (pc := 159) C dX5_test_159 ?_
    refine j_iload (pc := 160) C dX5_test_160 rfl ?_
    refine j_iadd (pc := 162) C dX5_test_162 ?_
    refine j_st (by rw [ix10 i (i + l2)]) ?_
    refine j_iald (pc := 163) C h53 rfl (by omega) (by decide) dX5_test_163 ?_
    refine j_st (by rw [hro]) ?_
    refine j_iald (pc := 164) C h51 rfl (by omega) (by decide) dX5_test_164 ?_
    refine j_st (by rw [hkr]) ?_
    refine j_goto (pc := 165) (tgt := 169) C dX5_test_165 (by decide) ?_
    first | exact ret_i C rfl hr hlk dX5_test_169 (hend _ (by rw [← hW, c144, down_0])) (by decide) (by decide) | exact ret_i C rfl hr hlk dX5_test_169 (hend _ hW2) (by decide) (by decide)

set_option maxRecDepth 100000 in
set_option maxHeartbeats 4000000 in
theorem mte_loop {p : Program} {e : Env} {s : State} {m : MethodId} {args : Array Value} {below : List Frame} {meth : Method} {c : Code} {A : Nat → Prop} {post : Int32 → Sw → Prop} {l : Launch} {G : Gp} {L : List Nat} {w : Wn} {am : Nat → Nat} {th cp : Int32} {df : Nat → Int32} {fq : Nat → Nat} {E : Nat → EL} {ns ar ac : Nat → Int32} {mk vl : Nat → Int64} {ks : Nat → Int32} {sz : Nat} {co ro : Nat → Int32} (hm : MB G am L w th cp df fq E ns ar ac mk vl ks sz co ro) {cl : EL} (hla : LaidM cl fq ks sz co ro) {x y z1 : Int32} {W : Int32} (hend : ∀ r, r = W → post r (L, w)) (C : Cx p s m args c cX5_test yX5_test.cls 8 wsX5_test G A s.heap) (hr : meth.sig.returnType = (some .int)) (hlk : meth.locks = false) : ∀ (f i l1 p9 : Nat) (x2 : Int32), l1 ≤ f → i + l1 ≤ sz → x2 = nI (i + l1) - 1 → p9 < 2147483648 → down (kyF cl) (wtF fq cl) f i l1 p9 = W → J p l e (rmD 5 0 0) s m args below meth c G A s.heap 8 (MQ below (va_Qi post (PB G A) A) args s (rmD 5 0 0).cells (rmD 5 0 0).slots A) L w 0 0 66 [some (.ref (am 42)), some (.int x), some (.int y), some (.int z1), some (.int (nI i)), some (.int x2), some (.int (nI p9)), none] [] := by
  have hin_X5 : ∀ x ∈ u_ws RX5 TX5 14, x ∈ wsX5_test := by decide +kernel
  obtain ⟨h42, h43, h44, h45, h46, h47, h48, h49, h50, h51, h52, h53, hT, hE, hfb, hsz⟩ := id hm
  intro f
  induction f using Nat.strongRecOn with
  | _ f ih =>
    intro i l1 p9 x2 hlf hil hx hp9 hW
    refine j_iload (pc := 66) C dX5_test_66 rfl ?_
    refine j_iconst (pc := 68) (v := 1) C dX5_test_68 (by decide) ?_
    refine j_icmp_le (pc := 69) (tgt := 140) C dX5_test_69 (by decide) (fun c69 => ?_) (fun c69 => ?_)
    · have c69 := nI_le_of (by omega) (by omega) (show nI p9 ≤ nI 1 from c69)
      first
        | exact mte_end hm hla hend hlf hil hx (fun _ => c69) hW C hr hlk
        | exact mte_end hm hla hend hlf hil hx (fun z => absurd z (by omega)) hW C hr hlk
    · have c69 := nI_gt_of (by omega) (by omega) (show ¬ nI p9 ≤ nI 1 from c69)
      refine j_iload (pc := 72) C dX5_test_72 rfl ?_
      refine j_iload (pc := 74) C dX5_test_74 rfl ?_
      refine j_icmp_gt (pc := 76) (tgt := 140) C dX5_test_76 (by decide) (fun c76 => ?_) (fun c76 => ?_)
      · have c76 : l1 = 0 := (to_gt hx (by omega)).mp c76
        first
          | exact mte_end hm hla hend hlf hil hx (fun _ => c69) hW C hr hlk
          | exact mte_end hm hla hend hlf hil hx (fun z => absurd z (by omega)) hW C hr hlk
      · have hl0 : l1 ≠ 0 := fun z => c76 ((to_gt hx (by omega)).mpr z)
        obtain ⟨l2, rfl⟩ := Nat.exists_eq_succ_of_ne_zero hl0
        obtain ⟨f1, rfl⟩ : ∃ f1, f = f1 + 1 := ⟨f - 1, by omega⟩
        have hx2 : x2 = nI (i + l2) := hx.trans (nI_pred (i + l2))
        subst hx2
        have hro : ro (10 * i + (i + l2)) = nI (rt (wtF fq cl) i (l2 + 1)) := (hla.2.2 i (l2 + 1) (by omega) (by omega)).2
        have hrt := rt_in (wtF fq cl) i (l := l2 + 1) (by omega)
        have hW2 : down (kyF cl) (wtF fq cl) (f1 + 1) i (l2 + 1) p9 = W := hW
        rw [down, if_neg (Nat.succ_ne_zero l2), if_neg (show ¬ p9 ≤ 1 by omega)] at hW2
        generalize hR : rt (wtF fq cl) i (l2 + 1) = rr at hro hrt hW2
        have hkr := hla.2.1 rr (by omega)
        refine j_aload_n (pc := 79) C rfl dX5_test_79 rfl ?_
        refine j_get (pc := 80) C hin_X5 h42 rfl 13 (by decide) (by decide +kernel) rfl dX5_test_80 ?_
        refine j_bipush (pc := 83) (v := 10) C dX5_test_83 (by decide) ?_
        refine j_iload (pc := 85) C dX5_test_85 rfl ?_
        refine j_imul (pc := 87) C dX5_test_87 ?_
        refine j_iload (pc := 88) C dX5_test_88 rfl ?_
        refine j_iadd (pc := 90) C dX5_test_90 ?_
        refine j_st (by rw [ix10 i (i + l2)]) ?_
        refine j_iald (pc := 91) C h53 rfl (by omega) (by decide) dX5_test_91 ?_
        refine j_st (by rw [hro]) ?_
        refine j_istore_7 (pc := 92) C dX5_test_92 (by decide) rfl ?_
        refine j_iload (pc := 94) C dX5_test_94 rfl ?_
        refine j_iconst (pc := 96) (v := 2) C dX5_test_96 (by decide) ?_
        refine j_irem (pc := 97) C dX5_test_97 (by decide) ?_
        refine j_st (by rw [show (nI p9 - nI p9 / 2 * 2 : Int32) = nI (p9 % 2) from pk_rem (by omega) (by decide) (by decide)]) ?_
        refine j_if_ne (pc := 98) (tgt := 108) C dX5_test_98 (by decide) (fun c98 => ?_) (fun c98 => ?_)
        · have c98 : ¬ p9 % 2 = 0 := fun z => c98 (by rw [z]; rfl)
          refine j_iload (pc := 108) C dX5_test_108 rfl ?_
          refine j_istore_5 (pc := 110) C dX5_test_110 (by decide) rfl ?_
          refine j_iload (pc := 112) C dX5_test_112 rfl ?_
          refine j_iconst (pc := 114) (v := 2) C dX5_test_114 (by decide) ?_
          refine j_irem (pc := 115) C dX5_test_115 (by decide) ?_
          refine j_st (by rw [show (nI p9 - nI p9 / 2 * 2 : Int32) = nI (p9 % 2) from pk_rem (by omega) (by decide) (by decide)]) ?_
          refine j_iconst (pc := 116) (v := 1) C dX5_test_116 (by decide) ?_
          refine j_icmp_ne (pc := 117) (tgt := 127) C dX5_test_117 (by decide) (fun c117 => ?_) (fun c117 => ?_)
          · have c117 : ¬ p9 % 2 = 1 := fun z => c117 (by rw [z]; rfl)
            exact absurd c117 (by omega)
          · have c117 : p9 % 2 = 1 := nI_inj (by omega) (by decide) (show nI (p9 % 2) = nI 1 from c117)
            refine j_iload (pc := 120) C dX5_test_120 rfl ?_
            refine j_iconst (pc := 122) (v := 1) C dX5_test_122 (by decide) ?_
            refine j_iadd (pc := 123) C dX5_test_123 ?_
            refine j_st (by rw [nI_1]) ?_
            refine j_goto (pc := 124) (tgt := 129) C dX5_test_124 (by decide) ?_
            refine j_istore_4 (pc := 129) C dX5_test_129 (by decide) rfl ?_
            refine j_iload (pc := 131) C dX5_test_131 rfl ?_
            refine j_iconst (pc := 133) (v := 2) C dX5_test_133 (by decide) ?_
            refine j_idiv (pc := 134) C dX5_test_134 (by decide) ?_
            refine j_st (by rw [show (nI p9 / 2 : Int32) = nI (p9 / 2) from pk_div (by omega) (by decide) (by decide)]) ?_
            refine j_istore_6 (pc := 135) C dX5_test_135 (by decide) rfl ?_
            refine j_goto (pc := 137) (tgt := 66) C dX5_test_137 (by decide) ?_
            first
              | exact j_weak (by simp [lw1]) (ih f1 (by omega) i (rr - i) (p9 / 2) (nI rr - 1) (by omega) (by omega) (by rw [show i + (rr - i) = rr by omega]) (by omega) (by rw [if_pos c98] at hW2; exact hW2))
              | exact j_weak (by simp [lw1]) (ih f1 (by omega) (rr + 1) (i + (l2 + 1) - rr - 1) (p9 / 2) (nI (i + l2)) (by omega) (by omega) (by rw [show rr + 1 + (i + (l2 + 1) - rr - 1) = i + l2 + 1 by omega, nI_pred]) (by omega) (by rw [if_neg c98] at hW2; exact hW2))
              | (exfalso; omega)
        · have c98 : p9 % 2 = 0 := nI_inj (by omega) (by decide) (show nI (p9 % 2) = nI 0 from c98)
          refine j_iload (pc := 101) C dX5_test_101 rfl ?_
          refine j_iconst (pc := 103) (v := 1) C dX5_test_103 (by decide) ?_
          refine j_isub (pc := 104) C dX5_test_104 ?_
          refine j_goto (pc := 105) (tgt := 110) C dX5_test_105 (by decide) ?_
          refine j_istore_5 (pc := 110) C dX5_test_110 (by decide) rfl ?_
          refine j_iload (pc := 112) C dX5_test_112 rfl ?_
          refine j_iconst (pc := 114) (v := 2) C dX5_test_114 (by decide) ?_
          refine j_irem (pc := 115) C dX5_test_115 (by decide) ?_
          refine j_st (by rw [show (nI p9 - nI p9 / 2 * 2 : Int32) = nI (p9 % 2) from pk_rem (by omega) (by decide) (by decide)]) ?_
          refine j_iconst (pc := 116) (v := 1) C dX5_test_116 (by decide) ?_
          refine j_icmp_ne (pc := 117) (tgt := 127) C dX5_test_117 (by decide) (fun c117 => ?_) (fun c117 => ?_)
          · have c117 : ¬ p9 % 2 = 1 := fun z => c117 (by rw [z]; rfl)
            refine j_iload (pc := 127) C dX5_test_127 rfl ?_
            refine j_istore_4 (pc := 129) C dX5_test_129 (by decide) rfl ?_
            refine j_iload (pc := 131) C dX5_test_131 rfl ?_
            refine j_iconst (pc := 133) (v := 2) C dX5_test_133 (by decide) ?_
            refine j_idiv (pc := 134) C dX5_test_134 (by decide) ?_
            refine j_st (by rw [show (nI p9 / 2 : Int32) = nI (p9 / 2) from pk_div (by omega) (by decide) (by decide)]) ?_
            refine j_istore_6 (pc := 135) C dX5_test_135 (by decide) rfl ?_
            refine j_goto (pc := 137) (tgt := 66) C dX5_test_137 (by decide) ?_
            first
              | exact j_weak (by simp [lw1]) (ih f1 (by omega) i (rr - i) (p9 / 2) (nI rr - 1) (by omega) (by omega) (by rw [show i + (rr - i) = rr by omega]) (by omega) (by rw [if_pos c98] at hW2; exact hW2))
              | exact j_weak (by simp [lw1]) (ih f1 (by omega) (rr + 1) (i + (l2 + 1) - rr - 1) (p9 / 2) (nI (i + l2)) (by omega) (by omega) (by rw [show rr + 1 + (i + (l2 + 1) - rr - 1) = i + l2 + 1 by omega, nI_pred]) (by omega) (by rw [if_neg c98] at hW2; exact hW2))
              | (exfalso; omega)
          · have c117 : p9 % 2 = 1 := nI_inj (by omega) (by decide) (show nI (p9 % 2) = nI 1 from c117)
            exact absurd c117 (by omega)

set_option maxRecDepth 100000 in
set_option maxHeartbeats 4000000 in
theorem mwo_loop {p : Program} {e : Env} {s : State} {m : MethodId} {args : Array Value} {below : List Frame} {meth : Method} {c : Code} {A : Nat → Prop} {post : Int32 → Sw → Prop} {l : Launch} {G : Gp} {L : List Nat} {w : Wn} {am : Nat → Nat} {th cp : Int32} {df : Nat → Int32} {fq : Nat → Nat} {E : Nat → EL} {ns ar ac : Nat → Int32} {mk vl : Nat → Int64} {ks : Nat → Int32} {sz : Nat} {co ro : Nat → Int32} (hm : MB G am L w th cp df fq E ns ar ac mk vl ks sz co ro) {j : Nat} (hj : j < 4) (hla : LaidM (rch (E j)) fq ks sz co ro) (hend : ∀ r, r = mxN (fun k => nI (walk (kyF (rch (E j))) (wtF fq (rch (E j))) (nI k) 10 0 (ksz (rch (E j))) 0) + mRT (nI k) (rch (E j))) 32 → post r (L, w)) (C : Cx p s m args c cX5_worstOf yX5_worstOf.cls 5 wsX5_worstOf G A s.heap) (hr : meth.sig.returnType = (some .int)) (hlk : meth.locks = false) : ∀ (f q : Nat) (t : Int32), 32 - q = f → q ≤ 32 → t = mxN (fun k => nI (walk (kyF (rch (E j))) (wtF fq (rch (E j))) (nI k) 10 0 (ksz (rch (E j))) 0) + mRT (nI k) (rch (E j))) q → J p l e (rmD 5 0 0) s m args below meth c G A s.heap 5 (MQ below (va_Qi post (PB G A) A) args s (rmD 5 0 0).cells (rmD 5 0 0).slots A) L w 0 0 9 [some (.ref (am 42)), some (.int (nI j)), some (.int t), some (.int (nI q)), none] [] := by
  obtain ⟨h42, h43, h44, h45, h46, h47, h48, h49, h50, h51, h52, h53, hT, hE, hfb, hsz⟩ := id hm
  intro f
  induction f using Nat.strongRecOn with
  | _ f ih =>
    intro q t hf hi0 ht0
    subst ht0
    refine j_iload_n (pc := 9) C rfl dX5_worstOf_9 rfl ?_
    refine j_bipush (pc := 10) (v := 32) C dX5_worstOf_10 (by decide) ?_
    refine j_icmp_ge (pc := 12) (tgt := 48) C dX5_worstOf_12 (by decide) (fun c12 => ?_) (fun c12 => ?_)
    · have c12 := nI_le_of (by omega) (by omega) (show nI 32 ≤ nI q from c12)
      refine j_iload_n (pc := 48) C rfl dX5_worstOf_48 rfl ?_
      exact ret_i C rfl hr hlk dX5_worstOf_49 (hend _ (by rw [show q = 32 by omega])) (by decide) (by decide)
    · have c12 := nI_gt_of (by omega) (by omega) (show ¬ nI 32 ≤ nI q from c12)
      refine j_aload_n (pc := 15) C rfl dX5_worstOf_15 rfl ?_
      refine j_iload_n (pc := 16) C rfl dX5_worstOf_16 rfl ?_
      refine jV_i0 (pc := 17) (k2 := 0) (n2 := 0) (np := 1) (As := [.int (nI q)]) C (ct_testsOf hm hla (nI q)) gX5_worstOf_X5_testsOf rfl (by decide +kernel) ⟨by decide, by decide⟩ h42 rfl rfl rfl (Nat.le_of_ble_eq_true rfl) dX5_worstOf_17 (by decide) (by decide) ⟨by decide, by decide⟩ (fun v hv => ?_)
      subst hv
      refine j_aload_n (pc := 20) C rfl dX5_worstOf_20 rfl ?_
      refine j_iload_n (pc := 21) C rfl dX5_worstOf_21 rfl ?_
      refine j_iload_n (pc := 22) C rfl dX5_worstOf_22 rfl ?_
      refine jV_i0 (pc := 23) (k2 := 0) (n2 := 0) (np := 2) (As := [.int (nI j), .int (nI q)]) C (ct_halves hm hj (nI q)) gX5_worstOf_X5_halves rfl (by decide +kernel) ⟨by decide, by decide⟩ h42 rfl rfl rfl (Nat.le_of_ble_eq_true rfl) dX5_worstOf_23 (by decide) (by decide) ⟨by decide, by decide⟩ (fun v2 hv2 => ?_)
      subst hv2
      refine j_iadd (pc := 26) C dX5_worstOf_26 ?_
      refine j_istore_4 (pc := 27) C dX5_worstOf_27 (by decide) rfl ?_
      refine j_iload (pc := 29) C dX5_worstOf_29 rfl ?_
      refine j_iload_n (pc := 31) C rfl dX5_worstOf_31 rfl ?_
      refine j_icmp_le (pc := 32) (tgt := 40) C dX5_worstOf_32 (by decide) (fun c32 => ?_) (fun c32 => ?_)
      · have c32 := Int32.not_lt.mpr c32
        refine j_iload_n (pc := 40) C rfl dX5_worstOf_40 rfl ?_
        refine j_istore_2 (pc := 41) C dX5_worstOf_41 (by decide) rfl ?_
        refine j_iinc_3 (pc := 42) (d := 1) C dX5_worstOf_42 (by decide) rfl rfl ?_
        refine j_lo (by rw [nI_1]) ?_
        refine j_goto (pc := 45) (tgt := 9) C dX5_worstOf_45 (by decide) ?_
        exact j_weak (lo2 := [some (.ref (am 42)), some (.int (nI j)), some (.int (mxN (fun k => nI (walk (kyF (rch (E j))) (wtF fq (rch (E j))) (nI k) 10 0 (ksz (rch (E j))) 0) + mRT (nI k) (rch (E j))) (q + 1))), some (.int (nI (q + 1))), none]) ⟨rfl, rfl, (by rw [mxN]; first | rw [if_pos c32] | rw [if_neg c32]), rfl, trivial⟩ (ih (32 - (q + 1)) (by omega) (q + 1) _ rfl (by omega) rfl)
      · have c32 := Int32.not_le.mp c32
        refine j_iload (pc := 35) C dX5_worstOf_35 rfl ?_
        refine j_goto (pc := 37) (tgt := 41) C dX5_worstOf_37 (by decide) ?_
        refine j_istore_2 (pc := 41) C dX5_worstOf_41 (by decide) rfl ?_
        refine j_iinc_3 (pc := 42) (d := 1) C dX5_worstOf_42 (by decide) rfl rfl ?_
        refine j_lo (by rw [nI_1]) ?_
        refine j_goto (pc := 45) (tgt := 9) C dX5_worstOf_45 (by decide) ?_
        exact j_weak (lo2 := [some (.ref (am 42)), some (.int (nI j)), some (.int (mxN (fun k => nI (walk (kyF (rch (E j))) (wtF fq (rch (E j))) (nI k) 10 0 (ksz (rch (E j))) 0) + mRT (nI k) (rch (E j))) (q + 1))), some (.int (nI (q + 1))), none]) ⟨rfl, rfl, (by rw [mxN]; first | rw [if_pos c32] | rw [if_neg c32]), rfl, trivial⟩ (ih (32 - (q + 1)) (by omega) (q + 1) _ rfl (by omega) rfl)

set_option maxRecDepth 100000 in
set_option maxHeartbeats 4000000 in
theorem ct_worstOf {l : Launch} {G : Gp} {L : List Nat} {w : Wn} {am : Nat → Nat} {th cp : Int32} {df : Nat → Int32} {fq : Nat → Nat} {E : Nat → EL} {ns ar ac : Nat → Int32} {mk vl : Nat → Int64} {ks : Nat → Int32} {sz : Nat} {co ro : Nat → Int32} (hm : MB G am L w th cp df fq E ns ar ac mk vl ks sz co ro) {j : Nat} (hj : j < 4)  : CI l yX5_worstOf wsX5_worstOf (rmD 5 0 0) G L w [.ref (am 42), .int (nI j)] (fun r u => r = wF fq (E j) ∧ ∃ w2 ks2 sz2 co2 ro2, u = (L, w2) ∧ MB G am L w2 th cp df fq E ns ar ac mk vl ks2 sz2 co2 ro2 ∧ FrM L w w2) := by
  refine mk_i (cc := cX5_worstOf) (maxL := 5) [some (.ref (am 42)), some (.int (nI j)), none, none, none] (by decide) rfl (Nat.le_of_ble_eq_true rfl) rfl ?_
  intro p e s m args below meth c A C hr hlk hnm
  obtain ⟨h42, h43, h44, h45, h46, h47, h48, h49, h50, h51, h52, h53, hT, hE, hfb, hsz⟩ := id hm
  refine j_aload_n (pc := 0) C rfl dX5_worstOf_0 rfl ?_
  refine j_iload_n (pc := 1) C rfl dX5_worstOf_1 rfl ?_
  refine jV_v (pc := 2) (k2 := 0) (n2 := 0) (np := 1) (As := [.int (nI j)]) C (ct_lay hm hj) gX5_worstOf_X5_lay rfl (by decide +kernel) ⟨by decide, by decide⟩ h42 rfl rfl rfl (Nat.le_of_ble_eq_true rfl) dX5_worstOf_2 (by decide) (by decide) ⟨by decide, by decide⟩ (fun L2 w2 hu => ?_)
  obtain ⟨w9, ks2, sz2, co2, ro2, e9, hm2, hla, hf2⟩ := hu
  cases e9
  obtain ⟨h42, h43, h44, h45, h46, h47, h48, h49, h50, h51, h52, h53, hT, hE, hfb, hsz⟩ := id hm2
  refine j_iconst (pc := 5) (v := 0) C dX5_worstOf_5 (by decide) ?_
  refine j_istore_2 (pc := 6) C dX5_worstOf_6 (by decide) rfl ?_
  refine j_iconst (pc := 7) (v := 0) C dX5_worstOf_7 (by decide) ?_
  refine j_istore_3 (pc := 8) C dX5_worstOf_8 (by decide) rfl ?_
  exact mwo_loop hm2 hj hla (post := fun r u => r = wF fq (E j) ∧ ∃ w2 ks2 sz2 co2 ro2, u = (L, w2) ∧ MB G am L w2 th cp df fq E ns ar ac mk vl ks2 sz2 co2 ro2 ∧ FrM L w w2) (fun r h => ⟨h, w2, ks2, sz2, co2, ro2, rfl, hm2, hf2⟩) C hr hlk 32 0 0 rfl (by decide) rfl

