/-! THE MODEL: numbers that are reached, halves -/
theorem rchN_s {el : EL} {i : Nat} (hi : i < el.length) (h : hid (rul el) i = none) : rchN el (i + 1) = rchN el i ++ [el[i]] := by
  rw [rchN, if_pos h]
  simp [List.getD, hi]
theorem rchN_n {el : EL} {i : Nat} (h : hid (rul el) i ≠ none) : rchN el (i + 1) = rchN el i := by
  rw [rchN, if_neg h]
theorem rchN_pre (el : EL) (i : Nat) : ∀ k, ∃ t, rchN el (i + k) = rchN el i ++ t
  | 0 => ⟨[], by simp⟩
  | k + 1 => by
    obtain ⟨t, h⟩ := rchN_pre el i k
    show ∃ t, rchN el (i + k + 1) = rchN el i ++ t
    by_cases h9 : hid (rul el) (i + k) = none
    · exact ⟨t ++ [el.getD (i + k) e0], by rw [show rchN el (i + k + 1) = rchN el (i + k) ++ [el.getD (i + k) e0] from if_pos h9, h, List.append_assoc]⟩
    · exact ⟨t, by rw [show rchN el (i + k + 1) = rchN el (i + k) from if_neg h9, h]⟩
theorem rch_pre {el : EL} {i : Nat} (h : i ≤ el.length) : ∃ t, rch el = rchN el i ++ t := by
  obtain ⟨t, ht⟩ := rchN_pre el i (el.length - i)
  rw [show i + (el.length - i) = el.length by omega] at ht
  exact ⟨t, ht⟩
theorem hasN_app (x : Int32) (e9 : Nat × RV) : ∀ l : EL, hasN x (l ++ [e9]) = (hasN x l || decide (e9.2.1 = x))
  | [] => by
    show hasN x [e9] = _
    unfold hasN hasN
    by_cases h : e9.2.1 = x <;> simp [h]
  | a :: t => by
    show hasN x (a :: (t ++ [e9])) = _
    unfold hasN
    rw [hasN_app x e9 t]
    by_cases h : a.2.1 = x <;> simp [h]
theorem has_y {el : EL} {x : Int32} {i : Nat} (h : hasN x (rchN el i) = true) : (1 : Int32) = bI (hasN x (rchN el (i + 1))) := by
  rw [rchN]
  split
  · rw [hasN_app, h]; rfl
  · rw [h]; rfl
theorem has_n {el : EL} {x : Int32} {i : Nat} (hi : i < el.length) (h : hasN x (rchN el i) = false) (h2 : ¬ (el[i]).2.1 = x) : (0 : Int32) = bI (hasN x (rchN el (i + 1))) := by
  by_cases h3 : hid (rul el) i = none
  · rw [rchN_s hi h3, hasN_app, h, decide_eq_false h2]; rfl
  · rw [rchN_n h3, h]; rfl
theorem has_h {el : EL} {x : Int32} {i : Nat} (h : hasN x (rchN el i) = false) (h2 : hid (rul el) i ≠ none) : (0 : Int32) = bI (hasN x (rchN el (i + 1))) := by
  rw [rchN_n h2, h]; rfl
theorem has_1 {el : EL} {x : Int32} {i : Nat} (hi : i < el.length) (h2 : hid (rul el) i = none) (h3 : (el[i]).2.1 = x) : (1 : Int32) = bI (hasN x (rchN el (i + 1))) := by
  rw [rchN_s hi h2, hasN_app, decide_eq_true h3, Bool.or_true]; rfl
theorem mRT_app (x : Int32) (e9 : Nat × RV) : ∀ l : EL, mRT x (l ++ [e9]) = mRT x l + (if e9.2.1 = x then halT e9.2.2.2.1 else 0)
  | [] => by
    show mRT x [e9] = _
    unfold mRT mRT
    by_cases h : e9.2.1 = x <;> simp [h]
  | a :: t => by
    show mRT x (a :: (t ++ [e9])) = _
    unfold mRT
    rw [mRT_app x e9 t]
    by_cases h : a.2.1 = x <;> simp [h, Int32.add_assoc]
theorem mrt_n {el : EL} {x : Int32} {i : Nat} (hi : i < el.length) (h2 : ¬ (el[i]).2.1 = x) : mRT x (rchN el i) = mRT x (rchN el (i + 1)) := by
  by_cases h3 : hid (rul el) i = none
  · rw [rchN_s hi h3, mRT_app, if_neg h2, Int32.add_zero]
  · rw [rchN_n h3]
theorem mrt_h {el : EL} {x : Int32} {i : Nat} (h2 : hid (rul el) i ≠ none) : mRT x (rchN el i) = mRT x (rchN el (i + 1)) := by
  rw [rchN_n h2]
theorem mrt_s {el : EL} {x : Int32} {i : Nat} (hi : i < el.length) (h2 : hid (rul el) i = none) (h3 : (el[i]).2.1 = x) : mRT x (rchN el i) + halT (el[i]).2.2.2.1 = mRT x (rchN el (i + 1)) := by
  rw [rchN_s hi h2, mRT_app, if_pos h3]
theorem hid_nv {rs : List RV} {i : Nat} (h : hid rs i = none) : nevB (rs.getD i d0) = false := by
  unfold hid at h
  split at h
  · cases h
  · rename_i h2; exact Bool.eq_false_iff.mpr h2
theorem nev_eq {r : RV} (h : nevB r = false) : r.2.2.2.1 &&& (r.2.2.1 ^^^ (-1)) = 0 := by
  unfold nevB at h
  have := of_decide_eq_false h
  exact Classical.byContradiction this
theorem hid_cov {el : EL} {i k : Nat} (hk : k < el.length) (hik : i < k) (hc : covB (el[i]).2 (el[k]).2 = true) : hid (rul el) k ≠ none := fun z => by
  unfold hid at z
  split at z
  · cases z
  · have := (fstF_no _ k).mp z i hik
    rw [rul_get hk, rul_get (show i < el.length by omega)] at this
    rw [hc] at this
    cases this
theorem mrt_stop {el : EL} {x : Int32} {i : Nat} (hi : i < el.length) (h2 : hid (rul el) i = none) (h3 : (el[i]).2.1 = x) (h4 : (el[i]).2.2.2.1 = 0) : mRT x (rchN el (i + 1)) = mRT x (rch el) := by
  have hv : (el[i]).2.2.2.2.1 = 0 := by
    have := hid_nv h2
    rw [rul_get hi] at this
    exact m0_v0 h4 (nev_eq this)
  have key : ∀ d, i + 1 + d ≤ el.length → mRT x (rchN el (i + 1)) = mRT x (rchN el (i + 1 + d)) := by
    intro d
    induction d with
    | zero => intro _; rfl
    | succ d ih =>
      intro hd
      rw [ih (by omega)]
      show _ = mRT x (rchN el (i + 1 + d + 1))
      have hk : i + 1 + d < el.length := by omega
      by_cases e9 : (el[i + 1 + d]).2.1 = x
      · refine mrt_h (hid_cov hk (show i < i + 1 + d by omega) ?_)
        unfold covB
        rw [if_pos (h3.trans e9.symm), if_pos ⟨h4, hv⟩]
      · exact mrt_n hk e9
  have := key (el.length - (i + 1)) (by omega)
  rw [show i + 1 + (el.length - (i + 1)) = el.length by omega] at this
  exact this
/-- none of these is met -/
def noM (x : Int32) (f s : Int64) (l : EL) : Prop := ∀ e9 ∈ l, e9.2.1 = x → matB e9.2 f s = false
theorem pRT_app {x : Int32} {f s : Int64} {e9 : Nat × RV} : ∀ {l : EL}, noM x f s l → pRT x f s (l ++ [e9]) = pRT x f s l + (if e9.2.1 = x then tstT e9.2 f s else 0)
  | [], _ => by
    show pRT x f s [e9] = _
    unfold pRT pRT
    by_cases h : e9.2.1 = x <;> simp [h]
  | a :: t, hn => by
    have ih := pRT_app (e9 := e9) (l := t) (fun e h => hn e (List.mem_cons_of_mem _ h))
    show pRT x f s (a :: (t ++ [e9])) = _
    unfold pRT
    rw [ih]
    by_cases h : a.2.1 = x
    · rw [if_pos h, if_pos h, hn a List.mem_cons_self h]
      show tstT a.2 f s + (pRT x f s t + _) = (tstT a.2 f s + pRT x f s t) + _
      rw [Int32.add_assoc]
    · rw [if_neg h, if_neg h]
theorem pRT_stop {x : Int32} {f s : Int64} {e9 : Nat × RV} (h1 : e9.2.1 = x) (h2 : matB e9.2 f s = true) {l2 : EL} : ∀ {l : EL}, pRT x f s (l ++ [e9] ++ l2) = pRT x f s (l ++ [e9])
  | [] => by
    show pRT x f s (e9 :: l2) = pRT x f s (e9 :: [])
    unfold pRT
    rw [if_pos h1, if_pos h2, if_pos h1, if_pos h2]
  | a :: t => by
    have ih := pRT_stop (l2 := l2) h1 h2 (l := t)
    show pRT x f s (a :: (t ++ [e9] ++ l2)) = pRT x f s (a :: (t ++ [e9]))
    unfold pRT
    rw [ih]
theorem prt_n {el : EL} {x : Int32} {f s : Int64} {i : Nat} (hi : i < el.length) (hn : noM x f s (rchN el i)) (h2 : ¬ (el[i]).2.1 = x) : noM x f s (rchN el (i + 1)) ∧ pRT x f s (rchN el i) = pRT x f s (rchN el (i + 1)) := by
  by_cases h3 : hid (rul el) i = none
  · rw [rchN_s hi h3, pRT_app hn, if_neg h2, Int32.add_zero]
    refine ⟨fun e h z => ?_, rfl⟩
    rcases List.mem_append.mp h with h | h
    · exact hn e h z
    · rw [List.mem_singleton.mp h] at z; exact absurd z h2
  · rw [rchN_n h3]; exact ⟨hn, rfl⟩
theorem prt_h {el : EL} {x : Int32} {f s : Int64} {i : Nat} (hn : noM x f s (rchN el i)) (h2 : hid (rul el) i ≠ none) : noM x f s (rchN el (i + 1)) ∧ pRT x f s (rchN el i) = pRT x f s (rchN el (i + 1)) := by
  rw [rchN_n h2]; exact ⟨hn, rfl⟩
theorem prt_s {el : EL} {x : Int32} {f s : Int64} {i : Nat} (hi : i < el.length) (hn : noM x f s (rchN el i)) (h2 : hid (rul el) i = none) (h3 : (el[i]).2.1 = x) (h4 : matB (el[i]).2 f s = false) : noM x f s (rchN el (i + 1)) ∧ pRT x f s (rchN el i) + tstT (el[i]).2 f s = pRT x f s (rchN el (i + 1)) := by
  rw [rchN_s hi h2, pRT_app hn, if_pos h3]
  refine ⟨fun e h z => ?_, rfl⟩
  rcases List.mem_append.mp h with h | h
  · exact hn e h z
  · rw [List.mem_singleton.mp h]; exact h4
theorem prt_e {el : EL} {x : Int32} {f s : Int64} {i : Nat} (hi : i < el.length) (hn : noM x f s (rchN el i)) (h2 : hid (rul el) i = none) (h3 : (el[i]).2.1 = x) (h4 : matB (el[i]).2 f s = true) : pRT x f s (rchN el i) + tstT (el[i]).2 f s = pRT x f s (rch el) := by
  obtain ⟨t, ht⟩ := rch_pre (el := el) (i := i + 1) (by omega)
  rw [ht, rchN_s hi h2, pRT_stop h3 h4, pRT_app hn, if_pos h3]
theorem tst_lo {r : RV} {f s own : Int64} (ho : own = ownA r f s) (hn : nevB r = false) (h : ¬ ((own &&& r.2.2.1) ^^^ r.2.2.2.1) &&& 4294967295 = 0) : (1 : Int32) = tstT r f s := by
  unfold tstT lowT
  rw [← ho, if_neg h, if_neg (fun z => h (lo_fail z (nev_eq hn)))]
theorem tst_hi {r : RV} {f s own : Int64} (ho : own = ownA r f s) (h : ((own &&& r.2.2.1) ^^^ r.2.2.2.1) &&& 4294967295 = 0) : halT r.2.2.1 = tstT r f s := by
  unfold tstT
  rw [← ho, if_pos h]
theorem mat_1 {r : RV} {f s own : Int64} (ho : own = ownA r f s) (h : (own &&& r.2.2.1) ^^^ r.2.2.2.1 = 0) : matB r f s = true := by
  unfold matB
  rw [← ho]
  exact decide_eq_true (xor_z.mp h)
theorem mat_0 {r : RV} {f s own : Int64} (ho : own = ownA r f s) (h : ¬ (own &&& r.2.2.1) ^^^ r.2.2.2.1 = 0) : matB r f s = false := by
  unfold matB
  rw [← ho]
  exact decide_eq_false (fun z => h (xor_z.mpr z))
set_option maxRecDepth 100000 in
set_option maxHeartbeats 4000000 in
theorem mhn_loop {p : Program} {e : Env} {s : State} {m : MethodId} {args : Array Value} {below : List Frame} {meth : Method} {c : Code} {A : Nat → Prop} {post : Int32 → Sw → Prop} {l : Launch} {G : Gp} {L : List Nat} {w : Wn} {am : Nat → Nat} {th cp : Int32} {df : Nat → Int32} {fq : Nat → Nat} {E : Nat → EL} {ns ar ac : Nat → Int32} {mk vl : Nat → Int64} {ks : Nat → Int32} {sz : Nat} {co ro : Nat → Int32} (hm : MB G am L w th cp df fq E ns ar ac mk vl ks sz co ro) {j : Nat} (hj : j < 4) {x : Int32} (hend : ∀ r, r = bI (hasN x (rch (E j))) → post r (L, w)) (C : Cx p s m args c cX5_hasNumber yX5_hasNumber.cls 5 wsX5_hasNumber G A s.heap) (hr : meth.sig.returnType = (some .boolean)) (hlk : meth.locks = false) : ∀ (f i : Nat) (t : Int32), (E j).length - i = f → i ≤ (E j).length → t = bI (hasN x (rchN (E j) i)) → J p l e (rmD 3 0 0) s m args below meth c G A s.heap 5 (MQ below (va_Qi post (PB G A) A) args s (rmD 3 0 0).cells (rmD 3 0 0).slots A) L w 0 0 5 [some (.ref (am 42)), some (.int (nI j)), some (.int x), some (.int t), some (.int (nI i))] [] := by
  have hin_X5 : ∀ x ∈ u_ws RX5 TX5 14, x ∈ wsX5_hasNumber := by decide +kernel
  obtain ⟨h42, h43, h44, h45, h46, h47, h48, h49, h50, h51, h52, h53, hT, hE, hfb, hsz⟩ := id hm
  have hj10 := hE j hj
  intro f
  induction f using Nat.strongRecOn with
  | _ f ih =>
    intro i t hf hi0 ht0
    refine j_iload (pc := 5) C dX5_hasNumber_5 rfl ?_
    refine j_aload_n (pc := 7) C rfl dX5_hasNumber_7 rfl ?_
    refine j_get (pc := 8) C hin_X5 h42 rfl 6 (by decide) (by decide +kernel) rfl dX5_hasNumber_8 ?_
    refine j_iload_n (pc := 11) C rfl dX5_hasNumber_11 rfl ?_
    refine j_iald (pc := 12) C h48 rfl (by omega) (by decide) dX5_hasNumber_12 ?_
    refine j_icmp_ge (pc := 13) (tgt := 59) C dX5_hasNumber_13 (by decide) (fun c13 => ?_) (fun c13 => ?_)
    · have c13 := nI_le_of (by omega) (by omega) (show nI (E j).length ≤ nI i from c13)
      refine j_iload_n (pc := 59) C rfl dX5_hasNumber_59 rfl ?_
      exact ret_z C rfl hr hlk (by rw [ht0]; exact bI_z _) dX5_hasNumber_60 (hend _ (by rw [ht0, show i = (E j).length by omega]; rfl)) (by decide) (by decide)
    · have c13 := nI_gt_of (by omega) (by omega) (show ¬ nI (E j).length ≤ nI i from c13)
      have hi : i < (E j).length := c13
      have ht := hT j hj i hi
      refine j_iload_n (pc := 16) C rfl dX5_hasNumber_16 rfl ?_
      refine j_if_ne (pc := 17) (tgt := 47) C dX5_hasNumber_17 (by decide) (fun c17 => ?_) (fun c17 => ?_)
      · have c17 : hasN x (rchN (E j) i) = true := bI_1 (fun z => c17 (by rw [ht0]; exact z))
        refine j_iconst (pc := 47) (v := 1) C dX5_hasNumber_47 (by decide) ?_
        refine j_goto (pc := 48) (tgt := 52) C dX5_hasNumber_48 (by decide) ?_
        refine j_istore_3 (pc := 52) C dX5_hasNumber_52 (by decide) rfl ?_
        refine j_iinc_4 (pc := 53) (d := 1) C dX5_hasNumber_53 (by decide) rfl rfl ?_
        refine j_lo (by rw [nI_1]) ?_
        refine j_goto (pc := 56) (tgt := 5) C dX5_hasNumber_56 (by decide) ?_
        first
          | exact ih ((E j).length - (i + 1)) (by omega) (i + 1) 1 rfl (by omega) (has_y c17)
          | exact ih ((E j).length - (i + 1)) (by omega) (i + 1) 1 rfl (by omega) (has_1 hi c44 c33)
          | exact ih ((E j).length - (i + 1)) (by omega) (i + 1) 0 rfl (by omega) (has_h c17 c44)
          | exact ih ((E j).length - (i + 1)) (by omega) (i + 1) 0 rfl (by omega) (has_n hi c17 c33)
      · have c17 : hasN x (rchN (E j) i) = false := bI_0 (by rw [← ht0]; exact c17)
        refine j_aload_n (pc := 20) C rfl dX5_hasNumber_20 rfl ?_
        refine j_get (pc := 21) C hin_X5 h42 rfl 1 (by decide) (by decide +kernel) rfl dX5_hasNumber_21 ?_
        refine j_bipush (pc := 24) (v := 10) C dX5_hasNumber_24 (by decide) ?_
        refine j_iload_n (pc := 26) C rfl dX5_hasNumber_26 rfl ?_
        refine j_imul (pc := 27) C dX5_hasNumber_27 ?_
        refine j_iload (pc := 28) C dX5_hasNumber_28 rfl ?_
        refine j_iadd (pc := 30) C dX5_hasNumber_30 ?_
        refine j_st (by rw [ix10 j i]) ?_
        refine j_iald (pc := 31) C h43 rfl (by omega) (by decide) dX5_hasNumber_31 ?_
        refine j_iload_n (pc := 32) C rfl dX5_hasNumber_32 rfl ?_
        refine j_icmp_ne (pc := 33) (tgt := 51) C dX5_hasNumber_33 (by decide) (fun c33 => ?_) (fun c33 => ?_)
        · have c33 : ¬ ((E j)[i]).2.1 = x := by rw [← ht]; exact c33
          refine j_iconst (pc := 51) (v := 0) C dX5_hasNumber_51 (by decide) ?_
          refine j_istore_3 (pc := 52) C dX5_hasNumber_52 (by decide) rfl ?_
          refine j_iinc_4 (pc := 53) (d := 1) C dX5_hasNumber_53 (by decide) rfl rfl ?_
          refine j_lo (by rw [nI_1]) ?_
          refine j_goto (pc := 56) (tgt := 5) C dX5_hasNumber_56 (by decide) ?_
          first
            | exact ih ((E j).length - (i + 1)) (by omega) (i + 1) 1 rfl (by omega) (has_y c17)
            | exact ih ((E j).length - (i + 1)) (by omega) (i + 1) 1 rfl (by omega) (has_1 hi c44 c33)
            | exact ih ((E j).length - (i + 1)) (by omega) (i + 1) 0 rfl (by omega) (has_h c17 c44)
            | exact ih ((E j).length - (i + 1)) (by omega) (i + 1) 0 rfl (by omega) (has_n hi c17 c33)
        · have c33 : ((E j)[i]).2.1 = x := by rw [← ht]; exact c33
          refine j_aload_n (pc := 36) C rfl dX5_hasNumber_36 rfl ?_
          refine j_iload_n (pc := 37) C rfl dX5_hasNumber_37 rfl ?_
          refine j_iload (pc := 38) C dX5_hasNumber_38 rfl ?_
          refine jV_i0 (pc := 40) (k2 := 0) (n2 := 0) (np := 2) (As := [.int (nI j), .int (nI i)]) C (ct_M_hiderOf hm hj hi) gX5_hasNumber_X5_hiderOf rfl (by decide +kernel) ⟨by decide, by decide⟩ h42 rfl rfl rfl (Nat.le_of_ble_eq_true rfl) dX5_hasNumber_40 (by decide) (by decide) ⟨by decide, by decide⟩ (fun v hv => ?_)
          subst hv
          refine j_iconst (pc := 43) (v := (-1)) C dX5_hasNumber_43 (by decide) ?_
          refine j_icmp_ne (pc := 44) (tgt := 51) C dX5_hasNumber_44 (by decide) (fun c44 => ?_) (fun c44 => ?_)
          · have c44 : hid (rul (E j)) i ≠ none := fun z => c44 (by rw [z]; rfl)
            refine j_iconst (pc := 51) (v := 0) C dX5_hasNumber_51 (by decide) ?_
            refine j_istore_3 (pc := 52) C dX5_hasNumber_52 (by decide) rfl ?_
            refine j_iinc_4 (pc := 53) (d := 1) C dX5_hasNumber_53 (by decide) rfl rfl ?_
            refine j_lo (by rw [nI_1]) ?_
            refine j_goto (pc := 56) (tgt := 5) C dX5_hasNumber_56 (by decide) ?_
            first
              | exact ih ((E j).length - (i + 1)) (by omega) (i + 1) 1 rfl (by omega) (has_y c17)
              | exact ih ((E j).length - (i + 1)) (by omega) (i + 1) 1 rfl (by omega) (has_1 hi c44 c33)
              | exact ih ((E j).length - (i + 1)) (by omega) (i + 1) 0 rfl (by omega) (has_h c17 c44)
              | exact ih ((E j).length - (i + 1)) (by omega) (i + 1) 0 rfl (by omega) (has_n hi c17 c33)
          · have c44 := onI_m1 (fun j9 h9 => by have := hid_lt h9; omega) c44
            refine j_iconst (pc := 47) (v := 1) C dX5_hasNumber_47 (by decide) ?_
            refine j_goto (pc := 48) (tgt := 52) C dX5_hasNumber_48 (by decide) ?_
            refine j_istore_3 (pc := 52) C dX5_hasNumber_52 (by decide) rfl ?_
            refine j_iinc_4 (pc := 53) (d := 1) C dX5_hasNumber_53 (by decide) rfl rfl ?_
            refine j_lo (by rw [nI_1]) ?_
            refine j_goto (pc := 56) (tgt := 5) C dX5_hasNumber_56 (by decide) ?_
            first
              | exact ih ((E j).length - (i + 1)) (by omega) (i + 1) 1 rfl (by omega) (has_y c17)
              | exact ih ((E j).length - (i + 1)) (by omega) (i + 1) 1 rfl (by omega) (has_1 hi c44 c33)
              | exact ih ((E j).length - (i + 1)) (by omega) (i + 1) 0 rfl (by omega) (has_h c17 c44)
              | exact ih ((E j).length - (i + 1)) (by omega) (i + 1) 0 rfl (by omega) (has_n hi c17 c33)

set_option maxRecDepth 100000 in
set_option maxHeartbeats 4000000 in
theorem ct_hasNumber {l : Launch} {G : Gp} {L : List Nat} {w : Wn} {am : Nat → Nat} {th cp : Int32} {df : Nat → Int32} {fq : Nat → Nat} {E : Nat → EL} {ns ar ac : Nat → Int32} {mk vl : Nat → Int64} {ks : Nat → Int32} {sz : Nat} {co ro : Nat → Int32} (hm : MB G am L w th cp df fq E ns ar ac mk vl ks sz co ro) {j : Nat} (hj : j < 4) (x : Int32) : CI l yX5_hasNumber wsX5_hasNumber (rmD 3 0 0) G L w [.ref (am 42), .int (nI j), .int x] (fun r u => r = bI (hasN x (rch (E j))) ∧ u = (L, w)) := by
  refine mk_i (cc := cX5_hasNumber) (maxL := 5) [some (.ref (am 42)), some (.int (nI j)), some (.int x), none, none] (by decide) rfl (Nat.le_of_ble_eq_true rfl) rfl ?_
  intro p e s m args below meth c A C hr hlk hnm
  refine j_iconst (pc := 0) (v := 0) C dX5_hasNumber_0 (by decide) ?_
  refine j_istore_3 (pc := 1) C dX5_hasNumber_1 (by decide) rfl ?_
  refine j_iconst (pc := 2) (v := 0) C dX5_hasNumber_2 (by decide) ?_
  refine j_istore_4 (pc := 3) C dX5_hasNumber_3 (by decide) rfl ?_
  exact mhn_loop hm hj (post := fun r u => r = bI (hasN x (rch (E j))) ∧ u = (L, w)) (fun r h => ⟨h, rfl⟩) C hr hlk (E j).length 0 0 rfl (Nat.zero_le _) rfl

set_option maxRecDepth 100000 in
set_option maxHeartbeats 4000000 in
theorem mhv_loop {p : Program} {e : Env} {s : State} {m : MethodId} {args : Array Value} {below : List Frame} {meth : Method} {c : Code} {A : Nat → Prop} {post : Int32 → Sw → Prop} {l : Launch} {G : Gp} {L : List Nat} {w : Wn} {am : Nat → Nat} {th cp : Int32} {df : Nat → Int32} {fq : Nat → Nat} {E : Nat → EL} {ns ar ac : Nat → Int32} {mk vl : Nat → Int64} {ks : Nat → Int32} {sz : Nat} {co ro : Nat → Int32} (hm : MB G am L w th cp df fq E ns ar ac mk vl ks sz co ro) {j : Nat} (hj : j < 4) {x : Int32} (hend : ∀ r, r = mRT x (rch (E j)) → post r (L, w)) (C : Cx p s m args c cX5_halves yX5_halves.cls 6 wsX5_halves G A s.heap) (hr : meth.sig.returnType = (some .int)) (hlk : meth.locks = false) : ∀ (f i : Nat) (t : Int32), (E j).length - i = f → i ≤ (E j).length → t = mRT x (rchN (E j) i) → J p l e (rmD 3 0 0) s m args below meth c G A s.heap 6 (MQ below (va_Qi post (PB G A) A) args s (rmD 3 0 0).cells (rmD 3 0 0).slots A) L w 0 0 5 [some (.ref (am 42)), some (.int (nI j)), some (.int x), some (.int t), some (.int (nI i)), none] [] := by
  have hin_X5 : ∀ x ∈ u_ws RX5 TX5 14, x ∈ wsX5_halves := by decide +kernel
  obtain ⟨h42, h43, h44, h45, h46, h47, h48, h49, h50, h51, h52, h53, hT, hE, hfb, hsz⟩ := id hm
  have hj10 := hE j hj
  intro f
  induction f using Nat.strongRecOn with
  | _ f ih =>
    intro i t hf hi0 ht0
    refine j_iload (pc := 5) C dX5_halves_5 rfl ?_
    refine j_aload_n (pc := 7) C rfl dX5_halves_7 rfl ?_
    refine j_get (pc := 8) C hin_X5 h42 rfl 6 (by decide) (by decide +kernel) rfl dX5_halves_8 ?_
    refine j_iload_n (pc := 11) C rfl dX5_halves_11 rfl ?_
    refine j_iald (pc := 12) C h48 rfl (by omega) (by decide) dX5_halves_12 ?_
    refine j_icmp_ge (pc := 13) (tgt := 80) C dX5_halves_13 (by decide) (fun c13 => ?_) (fun c13 => ?_)
    · have c13 := nI_le_of (by omega) (by omega) (show nI (E j).length ≤ nI i from c13)
      refine j_iload_n (pc := 80) C rfl dX5_halves_80 rfl ?_
      exact ret_i C rfl hr hlk dX5_halves_81 (hend _ (by rw [ht0, show i = (E j).length by omega]; rfl)) (by decide) (by decide)
    · have c13 := nI_gt_of (by omega) (by omega) (show ¬ nI (E j).length ≤ nI i from c13)
      have hi : i < (E j).length := c13
      have ht := hT j hj i hi
      refine j_bipush (pc := 16) (v := 10) C dX5_halves_16 (by decide) ?_
      refine j_iload_n (pc := 18) C rfl dX5_halves_18 rfl ?_
      refine j_imul (pc := 19) C dX5_halves_19 ?_
      refine j_iload (pc := 20) C dX5_halves_20 rfl ?_
      refine j_iadd (pc := 22) C dX5_halves_22 ?_
      refine j_st (by rw [ix10 j i]) ?_
      refine j_istore_5 (pc := 23) C dX5_halves_23 (by decide) rfl ?_
      refine j_aload_n (pc := 25) C rfl dX5_halves_25 rfl ?_
      refine j_get (pc := 26) C hin_X5 h42 rfl 1 (by decide) (by decide +kernel) rfl dX5_halves_26 ?_
      refine j_iload (pc := 29) C dX5_halves_29 rfl ?_
      refine j_iald (pc := 31) C h43 rfl (by omega) (by decide) dX5_halves_31 ?_
      refine j_iload_n (pc := 32) C rfl dX5_halves_32 rfl ?_
      refine j_icmp_ne (pc := 33) (tgt := 74) C dX5_halves_33 (by decide) (fun c33 => ?_) (fun c33 => ?_)
      · have c33 : ¬ ((E j)[i]).2.1 = x := by rw [← ht]; exact c33
        refine j_iinc_4 (pc := 74) (d := 1) C dX5_halves_74 (by decide) rfl rfl ?_
        refine j_lo (by rw [nI_1]) ?_
        refine j_goto (pc := 77) (tgt := 5) C dX5_halves_77 (by decide) ?_
        first
          | exact j_weak (by simp [lw1]) (ih ((E j).length - (i + 1)) (by omega) (i + 1) (t + halT (mk (10 * j + i))) rfl (by omega) (by rw [ht0, ← mrt_s hi c44 c33, ← ht]))
          | exact j_weak (by simp [lw1]) (ih ((E j).length - (i + 1)) (by omega) (i + 1) t rfl (by omega) (ht0.trans (mrt_h c44)))
          | exact j_weak (by simp [lw1]) (ih ((E j).length - (i + 1)) (by omega) (i + 1) t rfl (by omega) (ht0.trans (mrt_n hi c33)))
      · have c33 : ((E j)[i]).2.1 = x := by rw [← ht]; exact c33
        refine j_aload_n (pc := 36) C rfl dX5_halves_36 rfl ?_
        refine j_iload_n (pc := 37) C rfl dX5_halves_37 rfl ?_
        refine j_iload (pc := 38) C dX5_halves_38 rfl ?_
        refine jV_i0 (pc := 40) (k2 := 0) (n2 := 0) (np := 2) (As := [.int (nI j), .int (nI i)]) C (ct_M_hiderOf hm hj hi) gX5_halves_X5_hiderOf rfl (by decide +kernel) ⟨by decide, by decide⟩ h42 rfl rfl rfl (Nat.le_of_ble_eq_true rfl) dX5_halves_40 (by decide) (by decide) ⟨by decide, by decide⟩ (fun v hv => ?_)
        subst hv
        refine j_iconst (pc := 43) (v := (-1)) C dX5_halves_43 (by decide) ?_
        refine j_icmp_ne (pc := 44) (tgt := 74) C dX5_halves_44 (by decide) (fun c44 => ?_) (fun c44 => ?_)
        · have c44 : hid (rul (E j)) i ≠ none := fun z => c44 (by rw [z]; rfl)
          refine j_iinc_4 (pc := 74) (d := 1) C dX5_halves_74 (by decide) rfl rfl ?_
          refine j_lo (by rw [nI_1]) ?_
          refine j_goto (pc := 77) (tgt := 5) C dX5_halves_77 (by decide) ?_
          first
            | exact j_weak (by simp [lw1]) (ih ((E j).length - (i + 1)) (by omega) (i + 1) (t + halT (mk (10 * j + i))) rfl (by omega) (by rw [ht0, ← mrt_s hi c44 c33, ← ht]))
            | exact j_weak (by simp [lw1]) (ih ((E j).length - (i + 1)) (by omega) (i + 1) t rfl (by omega) (ht0.trans (mrt_h c44)))
            | exact j_weak (by simp [lw1]) (ih ((E j).length - (i + 1)) (by omega) (i + 1) t rfl (by omega) (ht0.trans (mrt_n hi c33)))
        · have c44 := onI_m1 (fun j9 h9 => by have := hid_lt h9; omega) c44
          refine j_iload_n (pc := 47) C rfl dX5_halves_47 rfl ?_
          refine j_aload_n (pc := 48) C rfl dX5_halves_48 rfl ?_
          refine j_get (pc := 49) C hin_X5 h42 rfl 3 (by decide) (by decide +kernel) rfl dX5_halves_49 ?_
          refine j_iload (pc := 52) C dX5_halves_52 rfl ?_
          refine j_lald (pc := 54) C h45 rfl (by omega) (by decide) dX5_halves_54 ?_
          refine jS_i0 (pc := 55) (k2 := 0) (n2 := 0) (np := 1) (As := [.long (mk (10 * j + i))]) C (ct_halvesOf (mk (10 * j + i))) gX5_halves_X5_halvesOf rfl (by decide +kernel) ⟨by decide, by decide⟩ rfl rfl (Nat.le_of_ble_eq_true rfl) dX5_halves_55 (by decide) (by decide) ⟨by decide, by decide⟩ (fun v9 hv9 => ?_)
          subst hv9
          refine j_iadd (pc := 58) C dX5_halves_58 ?_
          refine j_istore_3 (pc := 59) C dX5_halves_59 (by decide) rfl ?_
          refine j_aload_n (pc := 60) C rfl dX5_halves_60 rfl ?_
          refine j_get (pc := 61) C hin_X5 h42 rfl 3 (by decide) (by decide +kernel) rfl dX5_halves_61 ?_
          refine j_iload (pc := 64) C dX5_halves_64 rfl ?_
          refine j_lald (pc := 66) C h45 rfl (by omega) (by decide) dX5_halves_66 ?_
          refine j_lconst (pc := 67) (v := 0) C dX5_halves_67 (by decide) ?_
          refine j_lcmp (pc := 68) C dX5_halves_68 ?_
          refine j_if_ne (pc := 69) (tgt := 74) C dX5_halves_69 (by decide) (fun c69 => ?_) (fun c69 => ?_)
          · have c69 := nz_c c69
            refine j_iinc_4 (pc := 74) (d := 1) C dX5_halves_74 (by decide) rfl rfl ?_
            refine j_lo (by rw [nI_1]) ?_
            refine j_goto (pc := 77) (tgt := 5) C dX5_halves_77 (by decide) ?_
            first
              | exact j_weak (by simp [lw1]) (ih ((E j).length - (i + 1)) (by omega) (i + 1) (t + halT (mk (10 * j + i))) rfl (by omega) (by rw [ht0, ← mrt_s hi c44 c33, ← ht]))
              | exact j_weak (by simp [lw1]) (ih ((E j).length - (i + 1)) (by omega) (i + 1) t rfl (by omega) (ht0.trans (mrt_h c44)))
              | exact j_weak (by simp [lw1]) (ih ((E j).length - (i + 1)) (by omega) (i + 1) t rfl (by omega) (ht0.trans (mrt_n hi c33)))
          · have c69 := ez_c c69
            refine j_iload_n (pc := 72) C rfl dX5_halves_72 rfl ?_
            exact ret_i C rfl hr hlk dX5_halves_73 (hend _ (by rw [ht0, ← mrt_stop hi c44 c33 (by rw [← ht]; exact c69), ← mrt_s hi c44 c33, ← ht])) (by decide) (by decide)

set_option maxRecDepth 100000 in
set_option maxHeartbeats 4000000 in
theorem ct_halves {l : Launch} {G : Gp} {L : List Nat} {w : Wn} {am : Nat → Nat} {th cp : Int32} {df : Nat → Int32} {fq : Nat → Nat} {E : Nat → EL} {ns ar ac : Nat → Int32} {mk vl : Nat → Int64} {ks : Nat → Int32} {sz : Nat} {co ro : Nat → Int32} (hm : MB G am L w th cp df fq E ns ar ac mk vl ks sz co ro) {j : Nat} (hj : j < 4) (x : Int32) : CI l yX5_halves wsX5_halves (rmD 3 0 0) G L w [.ref (am 42), .int (nI j), .int x] (fun r u => r = mRT x (rch (E j)) ∧ u = (L, w)) := by
  refine mk_i (cc := cX5_halves) (maxL := 6) [some (.ref (am 42)), some (.int (nI j)), some (.int x), none, none, none] (by decide) rfl (Nat.le_of_ble_eq_true rfl) rfl ?_
  intro p e s m args below meth c A C hr hlk hnm
  refine j_iconst (pc := 0) (v := 0) C dX5_halves_0 (by decide) ?_
  refine j_istore_3 (pc := 1) C dX5_halves_1 (by decide) rfl ?_
  refine j_iconst (pc := 2) (v := 0) C dX5_halves_2 (by decide) ?_
  refine j_istore_4 (pc := 3) C dX5_halves_3 (by decide) rfl ?_
  exact mhv_loop hm hj (post := fun r u => r = mRT x (rch (E j)) ∧ u = (L, w)) (fun r h => ⟨h, rfl⟩) C hr hlk (E j).length 0 0 rfl (Nat.zero_le _) rfl

set_option maxRecDepth 100000 in
set_option maxHeartbeats 4000000 in
theorem mhm_loop {p : Program} {e : Env} {s : State} {m : MethodId} {args : Array Value} {below : List Frame} {meth : Method} {c : Code} {A : Nat → Prop} {post : Int32 → Sw → Prop} {l : Launch} {G : Gp} {L : List Nat} {w : Wn} {am : Nat → Nat} {th cp : Int32} {df : Nat → Int32} {fq : Nat → Nat} {E : Nat → EL} {ns ar ac : Nat → Int32} {mk vl : Nat → Int64} {ks : Nat → Int32} {sz : Nat} {co ro : Nat → Int32} (hm : MB G am L w th cp df fq E ns ar ac mk vl ks sz co ro) {j : Nat} (hj : j < 4) {x : Int32} {fi se : Int64} (hend : ∀ r, r = pRT x fi se (rch (E j)) → post r (L, w)) (C : Cx p s m args c cX5_halvesMade yX5_halvesMade.cls 13 wsX5_halvesMade G A s.heap) (hr : meth.sig.returnType = (some .int)) (hlk : meth.locks = false) : ∀ (f i : Nat) (t : Int32), (E j).length - i = f → i ≤ (E j).length → noM x fi se (rchN (E j) i) → t = pRT x fi se (rchN (E j) i) → J p l e (rmD 3 0 0) s m args below meth c G A s.heap 13 (MQ below (va_Qi post (PB G A) A) args s (rmD 3 0 0).cells (rmD 3 0 0).slots A) L w 0 0 6 [some (.ref (am 42)), some (.int (nI j)), some (.int x), some (.long fi), none, some (.long se), none, some (.int t), some (.int (nI i)), none, none, none, none] [] := by
  have hin_X5 : ∀ x ∈ u_ws RX5 TX5 14, x ∈ wsX5_halvesMade := by decide +kernel
  obtain ⟨h42, h43, h44, h45, h46, h47, h48, h49, h50, h51, h52, h53, hT, hE, hfb, hsz⟩ := id hm
  have hj10 := hE j hj
  intro f
  induction f using Nat.strongRecOn with
  | _ f ih =>
    intro i t hf hi0 hn0 ht0
    refine j_iload (pc := 6) C dX5_halvesMade_6 rfl ?_
    refine j_aload_n (pc := 8) C rfl dX5_halvesMade_8 rfl ?_
    refine j_get (pc := 9) C hin_X5 h42 rfl 6 (by decide) (by decide +kernel) rfl dX5_halvesMade_9 ?_
    refine j_iload_n (pc := 12) C rfl dX5_halvesMade_12 rfl ?_
    refine j_iald (pc := 13) C h48 rfl (by omega) (by decide) dX5_halvesMade_13 ?_
    refine j_icmp_ge (pc := 14) (tgt := 140) C dX5_halvesMade_14 (by decide) (fun c14 => ?_) (fun c14 => ?_)
    · have c14 := nI_le_of (by omega) (by omega) (show nI (E j).length ≤ nI i from c14)
      refine j_iload (pc := 140) C dX5_halvesMade_140 rfl ?_
      exact ret_i C rfl hr hlk dX5_halvesMade_142 (hend _ (by rw [ht0, show i = (E j).length by omega]; rfl)) (by decide) (by decide)
    · have c14 := nI_gt_of (by omega) (by omega) (show ¬ nI (E j).length ≤ nI i from c14)
      have hi : i < (E j).length := c14
      have ht := hT j hj i hi
      refine j_bipush (pc := 17) (v := 10) C dX5_halvesMade_17 (by decide) ?_
      refine j_iload_n (pc := 19) C rfl dX5_halvesMade_19 rfl ?_
      refine j_imul (pc := 20) C dX5_halvesMade_20 ?_
      refine j_iload (pc := 21) C dX5_halvesMade_21 rfl ?_
      refine j_iadd (pc := 23) C dX5_halvesMade_23 ?_
      refine j_st (by rw [ix10 j i]) ?_
      refine j_istore_9 (pc := 24) C dX5_halvesMade_24 (by decide) rfl ?_
      refine j_aload_n (pc := 26) C rfl dX5_halvesMade_26 rfl ?_
      refine j_get (pc := 27) C hin_X5 h42 rfl 1 (by decide) (by decide +kernel) rfl dX5_halvesMade_27 ?_
      refine j_iload (pc := 30) C dX5_halvesMade_30 rfl ?_
      refine j_iald (pc := 32) C h43 rfl (by omega) (by decide) dX5_halvesMade_32 ?_
      refine j_iload_n (pc := 33) C rfl dX5_halvesMade_33 rfl ?_
      refine j_icmp_ne (pc := 34) (tgt := 134) C dX5_halvesMade_34 (by decide) (fun c34 => ?_) (fun c34 => ?_)
      · have c34 : ¬ ((E j)[i]).2.1 = x := by rw [← ht]; exact c34
        refine j_iinc_8 (pc := 134) (d := 1) C dX5_halvesMade_134 (by decide) rfl rfl ?_
        refine j_lo (by rw [nI_1]) ?_
        refine j_goto (pc := 137) (tgt := 6) C dX5_halvesMade_137 (by decide) ?_
        first
          | exact j_weak (by simp [lw1]) (ih ((E j).length - (i + 1)) (by omega) (i + 1) (t + 1) rfl (by omega) (prt_s hi hn0 c45 c34 (by rw [← ht]; exact mat_0 ho c128)).1 (by rw [ht0, ← (prt_s hi hn0 c45 c34 (by rw [← ht]; exact mat_0 ho c128)).2, ← ht, ← tst_lo ho hnv c90]))
          | exact j_weak (by simp [lw1]) (ih ((E j).length - (i + 1)) (by omega) (i + 1) (t + halT (mk (10 * j + i))) rfl (by omega) (prt_s hi hn0 c45 c34 (by rw [← ht]; exact mat_0 ho c128)).1 (by rw [ht0, ← (prt_s hi hn0 c45 c34 (by rw [← ht]; exact mat_0 ho c128)).2, ← ht, ← tst_hi ho c90]))
          | exact j_weak (by simp [lw1]) (ih ((E j).length - (i + 1)) (by omega) (i + 1) t rfl (by omega) (prt_h hn0 c45).1 (ht0.trans (prt_h hn0 c45).2))
          | exact j_weak (by simp [lw1]) (ih ((E j).length - (i + 1)) (by omega) (i + 1) t rfl (by omega) (prt_n hi hn0 c34).1 (ht0.trans (prt_n hi hn0 c34).2))
      · have c34 : ((E j)[i]).2.1 = x := by rw [← ht]; exact c34
        refine j_aload_n (pc := 37) C rfl dX5_halvesMade_37 rfl ?_
        refine j_iload_n (pc := 38) C rfl dX5_halvesMade_38 rfl ?_
        refine j_iload (pc := 39) C dX5_halvesMade_39 rfl ?_
        refine jV_i0 (pc := 41) (k2 := 0) (n2 := 0) (np := 2) (As := [.int (nI j), .int (nI i)]) C (ct_M_hiderOf hm hj hi) gX5_halvesMade_X5_hiderOf rfl (by decide +kernel) ⟨by decide, by decide⟩ h42 rfl rfl rfl (Nat.le_of_ble_eq_true rfl) dX5_halvesMade_41 (by decide) (by decide) ⟨by decide, by decide⟩ (fun v hv => ?_)
        subst hv
        refine j_iconst (pc := 44) (v := (-1)) C dX5_halvesMade_44 (by decide) ?_
        refine j_icmp_ne (pc := 45) (tgt := 134) C dX5_halvesMade_45 (by decide) (fun c45 => ?_) (fun c45 => ?_)
        · have c45 : hid (rul (E j)) i ≠ none := fun z => c45 (by rw [z]; rfl)
          refine j_iinc_8 (pc := 134) (d := 1) C dX5_halvesMade_134 (by decide) rfl rfl ?_
          refine j_lo (by rw [nI_1]) ?_
          refine j_goto (pc := 137) (tgt := 6) C dX5_halvesMade_137 (by decide) ?_
          first
            | exact j_weak (by simp [lw1]) (ih ((E j).length - (i + 1)) (by omega) (i + 1) (t + 1) rfl (by omega) (prt_s hi hn0 c45 c34 (by rw [← ht]; exact mat_0 ho c128)).1 (by rw [ht0, ← (prt_s hi hn0 c45 c34 (by rw [← ht]; exact mat_0 ho c128)).2, ← ht, ← tst_lo ho hnv c90]))
            | exact j_weak (by simp [lw1]) (ih ((E j).length - (i + 1)) (by omega) (i + 1) (t + halT (mk (10 * j + i))) rfl (by omega) (prt_s hi hn0 c45 c34 (by rw [← ht]; exact mat_0 ho c128)).1 (by rw [ht0, ← (prt_s hi hn0 c45 c34 (by rw [← ht]; exact mat_0 ho c128)).2, ← ht, ← tst_hi ho c90]))
            | exact j_weak (by simp [lw1]) (ih ((E j).length - (i + 1)) (by omega) (i + 1) t rfl (by omega) (prt_h hn0 c45).1 (ht0.trans (prt_h hn0 c45).2))
            | exact j_weak (by simp [lw1]) (ih ((E j).length - (i + 1)) (by omega) (i + 1) t rfl (by omega) (prt_n hi hn0 c34).1 (ht0.trans (prt_n hi hn0 c34).2))
        · have c45 := onI_m1 (fun j9 h9 => by have := hid_lt h9; omega) c45
          have hnv : nevB (rv ns ar ac mk vl (10 * j + i)) = false := by have h9 := hid_nv c45; rw [rul_get hi, ← ht] at h9; exact h9
          refine j_aload_n (pc := 48) C rfl dX5_halvesMade_48 rfl ?_
          refine j_get (pc := 49) C hin_X5 h42 rfl 2 (by decide) (by decide +kernel) rfl dX5_halvesMade_49 ?_
          refine j_iload (pc := 52) C dX5_halvesMade_52 rfl ?_
          refine j_iald (pc := 54) C h44 rfl (by omega) (by decide) dX5_halvesMade_54 ?_
          refine j_if_ne (pc := 55) (tgt := 62) C dX5_halvesMade_55 (by decide) (fun c55 => ?_) (fun c55 => ?_)
          · have ho : se = ownA (rv ns ar ac mk vl (10 * j + i)) fi se := (if_neg c55).symm
            refine j_lload (pc := 62) C dX5_halvesMade_62 rfl ?_
            refine j_aload_n (pc := 64) C rfl dX5_halvesMade_64 rfl ?_
            refine j_get (pc := 65) C hin_X5 h42 rfl 3 (by decide) (by decide +kernel) rfl dX5_halvesMade_65 ?_
            refine j_iload (pc := 68) C dX5_halvesMade_68 rfl ?_
            refine j_lald (pc := 70) C h45 rfl (by omega) (by decide) dX5_halvesMade_70 ?_
            refine j_land (pc := 71) C dX5_halvesMade_71 ?_
            refine j_aload_n (pc := 72) C rfl dX5_halvesMade_72 rfl ?_
            refine j_get (pc := 73) C hin_X5 h42 rfl 4 (by decide) (by decide +kernel) rfl dX5_halvesMade_73 ?_
            refine j_iload (pc := 76) C dX5_halvesMade_76 rfl ?_
            refine j_lald (pc := 78) C h46 rfl (by omega) (by decide) dX5_halvesMade_78 ?_
            refine j_lxor (pc := 79) C dX5_halvesMade_79 ?_
            refine j_lstore_10 (pc := 80) C dX5_halvesMade_80 (by decide) rfl ?_
            refine j_lload (pc := 82) C dX5_halvesMade_82 rfl ?_
            refine j_ldc2 (pc := 84) (v := 4294967295) C dX5_halvesMade_84 (by decide +kernel) ?_
            refine j_land (pc := 87) C dX5_halvesMade_87 ?_
            refine j_lconst (pc := 88) (v := 0) C dX5_halvesMade_88 (by decide) ?_
            refine j_lcmp (pc := 89) C dX5_halvesMade_89 ?_
            refine j_if_eq (pc := 90) (tgt := 97) C dX5_halvesMade_90 (by decide) (fun c90 => ?_) (fun c90 => ?_)
            · have c90 := ez_c c90
              refine j_iconst (pc := 97) (v := 0) C dX5_halvesMade_97 (by decide) ?_
              refine j_istore_12 (pc := 98) C dX5_halvesMade_98 (by decide) rfl ?_
              refine j_iload (pc := 100) C dX5_halvesMade_100 rfl ?_
              refine j_iload (pc := 102) C dX5_halvesMade_102 rfl ?_
              refine j_if_eq (pc := 104) (tgt := 111) C dX5_halvesMade_104 (by decide) (fun _ => ?_) (fun z9 => absurd rfl z9)
              refine j_aload_n (pc := 111) C rfl dX5_halvesMade_111 rfl ?_
              refine j_get (pc := 112) C hin_X5 h42 rfl 3 (by decide) (by decide +kernel) rfl dX5_halvesMade_112 ?_
              refine j_iload (pc := 115) C dX5_halvesMade_115 rfl ?_
              refine j_lald (pc := 117) C h45 rfl (by omega) (by decide) dX5_halvesMade_117 ?_
              refine jS_i0 (pc := 118) (k2 := 0) (n2 := 0) (np := 1) (As := [.long (mk (10 * j + i))]) C (ct_halvesOf (mk (10 * j + i))) gX5_halvesMade_X5_halvesOf rfl (by decide +kernel) ⟨by decide, by decide⟩ rfl rfl (Nat.le_of_ble_eq_true rfl) dX5_halvesMade_118 (by decide) (by decide) ⟨by decide, by decide⟩ (fun v9 hv9 => ?_)
              subst hv9
              refine j_iadd (pc := 121) C dX5_halvesMade_121 ?_
              refine j_istore_7 (pc := 122) C dX5_halvesMade_122 (by decide) rfl ?_
              refine j_lload (pc := 124) C dX5_halvesMade_124 rfl ?_
              refine j_lconst (pc := 126) (v := 0) C dX5_halvesMade_126 (by decide) ?_
              refine j_lcmp (pc := 127) C dX5_halvesMade_127 ?_
              refine j_if_ne (pc := 128) (tgt := 134) C dX5_halvesMade_128 (by decide) (fun c128 => ?_) (fun c128 => ?_)
              · have c128 := nz_c c128
                refine j_iinc_8 (pc := 134) (d := 1) C dX5_halvesMade_134 (by decide) rfl rfl ?_
                refine j_lo (by rw [nI_1]) ?_
                refine j_goto (pc := 137) (tgt := 6) C dX5_halvesMade_137 (by decide) ?_
                first
                  | exact j_weak (by simp [lw1]) (ih ((E j).length - (i + 1)) (by omega) (i + 1) (t + 1) rfl (by omega) (prt_s hi hn0 c45 c34 (by rw [← ht]; exact mat_0 ho c128)).1 (by rw [ht0, ← (prt_s hi hn0 c45 c34 (by rw [← ht]; exact mat_0 ho c128)).2, ← ht, ← tst_lo ho hnv c90]))
                  | exact j_weak (by simp [lw1]) (ih ((E j).length - (i + 1)) (by omega) (i + 1) (t + halT (mk (10 * j + i))) rfl (by omega) (prt_s hi hn0 c45 c34 (by rw [← ht]; exact mat_0 ho c128)).1 (by rw [ht0, ← (prt_s hi hn0 c45 c34 (by rw [← ht]; exact mat_0 ho c128)).2, ← ht, ← tst_hi ho c90]))
                  | exact j_weak (by simp [lw1]) (ih ((E j).length - (i + 1)) (by omega) (i + 1) t rfl (by omega) (prt_h hn0 c45).1 (ht0.trans (prt_h hn0 c45).2))
                  | exact j_weak (by simp [lw1]) (ih ((E j).length - (i + 1)) (by omega) (i + 1) t rfl (by omega) (prt_n hi hn0 c34).1 (ht0.trans (prt_n hi hn0 c34).2))
              · have c128 := ez_c c128
                refine j_iload (pc := 131) C dX5_halvesMade_131 rfl ?_
                first | exact ret_i C rfl hr hlk dX5_halvesMade_133 (hend _ (by rw [ht0, ← prt_e hi hn0 c45 c34 (by rw [← ht]; exact mat_1 ho c128), ← ht, ← tst_lo ho hnv c90])) (by decide) (by decide) | exact ret_i C rfl hr hlk dX5_halvesMade_133 (hend _ (by rw [ht0, ← prt_e hi hn0 c45 c34 (by rw [← ht]; exact mat_1 ho c128), ← ht, ← tst_hi ho c90])) (by decide) (by decide)
            · have c90 := nz_c c90
              refine j_iconst (pc := 93) (v := 1) C dX5_halvesMade_93 (by decide) ?_
              refine j_goto (pc := 94) (tgt := 98) C dX5_halvesMade_94 (by decide) ?_
              refine j_istore_12 (pc := 98) C dX5_halvesMade_98 (by decide) rfl ?_
              refine j_iload (pc := 100) C dX5_halvesMade_100 rfl ?_
              refine j_iload (pc := 102) C dX5_halvesMade_102 rfl ?_
              refine j_if_eq (pc := 104) (tgt := 111) C dX5_halvesMade_104 (by decide) (fun z9 => absurd z9 (by decide)) (fun _ => ?_)
              refine j_iconst (pc := 107) (v := 1) C dX5_halvesMade_107 (by decide) ?_
              refine j_goto (pc := 108) (tgt := 121) C dX5_halvesMade_108 (by decide) ?_
              refine j_iadd (pc := 121) C dX5_halvesMade_121 ?_
              refine j_istore_7 (pc := 122) C dX5_halvesMade_122 (by decide) rfl ?_
              refine j_lload (pc := 124) C dX5_halvesMade_124 rfl ?_
              refine j_lconst (pc := 126) (v := 0) C dX5_halvesMade_126 (by decide) ?_
              refine j_lcmp (pc := 127) C dX5_halvesMade_127 ?_
              refine j_if_ne (pc := 128) (tgt := 134) C dX5_halvesMade_128 (by decide) (fun c128 => ?_) (fun c128 => ?_)
              · have c128 := nz_c c128
                refine j_iinc_8 (pc := 134) (d := 1) C dX5_halvesMade_134 (by decide) rfl rfl ?_
                refine j_lo (by rw [nI_1]) ?_
                refine j_goto (pc := 137) (tgt := 6) C dX5_halvesMade_137 (by decide) ?_
                first
                  | exact j_weak (by simp [lw1]) (ih ((E j).length - (i + 1)) (by omega) (i + 1) (t + 1) rfl (by omega) (prt_s hi hn0 c45 c34 (by rw [← ht]; exact mat_0 ho c128)).1 (by rw [ht0, ← (prt_s hi hn0 c45 c34 (by rw [← ht]; exact mat_0 ho c128)).2, ← ht, ← tst_lo ho hnv c90]))
                  | exact j_weak (by simp [lw1]) (ih ((E j).length - (i + 1)) (by omega) (i + 1) (t + halT (mk (10 * j + i))) rfl (by omega) (prt_s hi hn0 c45 c34 (by rw [← ht]; exact mat_0 ho c128)).1 (by rw [ht0, ← (prt_s hi hn0 c45 c34 (by rw [← ht]; exact mat_0 ho c128)).2, ← ht, ← tst_hi ho c90]))
                  | exact j_weak (by simp [lw1]) (ih ((E j).length - (i + 1)) (by omega) (i + 1) t rfl (by omega) (prt_h hn0 c45).1 (ht0.trans (prt_h hn0 c45).2))
                  | exact j_weak (by simp [lw1]) (ih ((E j).length - (i + 1)) (by omega) (i + 1) t rfl (by omega) (prt_n hi hn0 c34).1 (ht0.trans (prt_n hi hn0 c34).2))
              · have c128 := ez_c c128
                refine j_iload (pc := 131) C dX5_halvesMade_131 rfl ?_
                first | exact ret_i C rfl hr hlk dX5_halvesMade_133 (hend _ (by rw [ht0, ← prt_e hi hn0 c45 c34 (by rw [← ht]; exact mat_1 ho c128), ← ht, ← tst_lo ho hnv c90])) (by decide) (by decide) | exact ret_i C rfl hr hlk dX5_halvesMade_133 (hend _ (by rw [ht0, ← prt_e hi hn0 c45 c34 (by rw [← ht]; exact mat_1 ho c128), ← ht, ← tst_hi ho c90])) (by decide) (by decide)
          · have ho : fi = ownA (rv ns ar ac mk vl (10 * j + i)) fi se := (if_pos c55).symm
            refine j_lload_n (pc := 58) C rfl dX5_halvesMade_58 rfl ?_
            refine j_goto (pc := 59) (tgt := 64) C dX5_halvesMade_59 (by decide) ?_
            refine j_aload_n (pc := 64) C rfl dX5_halvesMade_64 rfl ?_
            refine j_get (pc := 65) C hin_X5 h42 rfl 3 (by decide) (by decide +kernel) rfl dX5_halvesMade_65 ?_
            refine j_iload (pc := 68) C dX5_halvesMade_68 rfl ?_
            refine j_lald (pc := 70) C h45 rfl (by omega) (by decide) dX5_halvesMade_70 ?_
            refine j_land (pc := 71) C dX5_halvesMade_71 ?_
            refine j_aload_n (pc := 72) C rfl dX5_halvesMade_72 rfl ?_
            refine j_get (pc := 73) C hin_X5 h42 rfl 4 (by decide) (by decide +kernel) rfl dX5_halvesMade_73 ?_
            refine j_iload (pc := 76) C dX5_halvesMade_76 rfl ?_
            refine j_lald (pc := 78) C h46 rfl (by omega) (by decide) dX5_halvesMade_78 ?_
            refine j_lxor (pc := 79) C dX5_halvesMade_79 ?_
            refine j_lstore_10 (pc := 80) C dX5_halvesMade_80 (by decide) rfl ?_
            refine j_lload (pc := 82) C dX5_halvesMade_82 rfl ?_
            refine j_ldc2 (pc := 84) (v := 4294967295) C dX5_halvesMade_84 (by decide +kernel) ?_
            refine j_land (pc := 87) C dX5_halvesMade_87 ?_
            refine j_lconst (pc := 88) (v := 0) C dX5_halvesMade_88 (by decide) ?_
            refine j_lcmp (pc := 89) C dX5_halvesMade_89 ?_
            refine j_if_eq (pc := 90) (tgt := 97) C dX5_halvesMade_90 (by decide) (fun c90 => ?_) (fun c90 => ?_)
            · have c90 := ez_c c90
              refine j_iconst (pc := 97) (v := 0) C dX5_halvesMade_97 (by decide) ?_
              refine j_istore_12 (pc := 98) C dX5_halvesMade_98 (by decide) rfl ?_
              refine j_iload (pc := 100) C dX5_halvesMade_100 rfl ?_
              refine j_iload (pc := 102) C dX5_halvesMade_102 rfl ?_
              refine j_if_eq (pc := 104) (tgt := 111) C dX5_halvesMade_104 (by decide) (fun _ => ?_) (fun z9 => absurd rfl z9)
              refine j_aload_n (pc := 111) C rfl dX5_halvesMade_111 rfl ?_
              refine j_get (pc := 112) C hin_X5 h42 rfl 3 (by decide) (by decide +kernel) rfl dX5_halvesMade_112 ?_
              refine j_iload (pc := 115) C dX5_halvesMade_115 rfl ?_
              refine j_lald (pc := 117) C h45 rfl (by omega) (by decide) dX5_halvesMade_117 ?_
              refine jS_i0 (pc := 118) (k2 := 0) (n2 := 0) (np := 1) (As := [.long (mk (10 * j + i))]) C (ct_halvesOf (mk (10 * j + i))) gX5_halvesMade_X5_halvesOf rfl (by decide +kernel) ⟨by decide, by decide⟩ rfl rfl (Nat.le_of_ble_eq_true rfl) dX5_halvesMade_118 (by decide) (by decide) ⟨by decide, by decide⟩ (fun v9 hv9 => ?_)
              subst hv9
              refine j_iadd (pc := 121) C dX5_halvesMade_121 ?_
              refine j_istore_7 (pc := 122) C dX5_halvesMade_122 (by decide) rfl ?_
              refine j_lload (pc := 124) C dX5_halvesMade_124 rfl ?_
              refine j_lconst (pc := 126) (v := 0) C dX5_halvesMade_126 (by decide) ?_
              refine j_lcmp (pc := 127) C dX5_halvesMade_127 ?_
              refine j_if_ne (pc := 128) (tgt := 134) C dX5_halvesMade_128 (by decide) (fun c128 => ?_) (fun c128 => ?_)
              · have c128 := nz_c c128
                refine j_iinc_8 (pc := 134) (d := 1) C dX5_halvesMade_134 (by decide) rfl rfl ?_
                refine j_lo (by rw [nI_1]) ?_
                refine j_goto (pc := 137) (tgt := 6) C dX5_halvesMade_137 (by decide) ?_
                first
                  | exact j_weak (by simp [lw1]) (ih ((E j).length - (i + 1)) (by omega) (i + 1) (t + 1) rfl (by omega) (prt_s hi hn0 c45 c34 (by rw [← ht]; exact mat_0 ho c128)).1 (by rw [ht0, ← (prt_s hi hn0 c45 c34 (by rw [← ht]; exact mat_0 ho c128)).2, ← ht, ← tst_lo ho hnv c90]))
                  | exact j_weak (by simp [lw1]) (ih ((E j).length - (i + 1)) (by omega) (i + 1) (t + halT (mk (10 * j + i))) rfl (by omega) (prt_s hi hn0 c45 c34 (by rw [← ht]; exact mat_0 ho c128)).1 (by rw [ht0, ← (prt_s hi hn0 c45 c34 (by rw [← ht]; exact mat_0 ho c128)).2, ← ht, ← tst_hi ho c90]))
                  | exact j_weak (by simp [lw1]) (ih ((E j).length - (i + 1)) (by omega) (i + 1) t rfl (by omega) (prt_h hn0 c45).1 (ht0.trans (prt_h hn0 c45).2))
                  | exact j_weak (by simp [lw1]) (ih ((E j).length - (i + 1)) (by omega) (i + 1) t rfl (by omega) (prt_n hi hn0 c34).1 (ht0.trans (prt_n hi hn0 c34).2))
              · have c128 := ez_c c128
                refine j_iload (pc := 131) C dX5_halvesMade_131 rfl ?_
                first | exact ret_i C rfl hr hlk dX5_halvesMade_133 (hend _ (by rw [ht0, ← prt_e hi hn0 c45 c34 (by rw [← ht]; exact mat_1 ho c128), ← ht, ← tst_lo ho hnv c90])) (by decide) (by decide) | exact ret_i C rfl hr hlk dX5_halvesMade_133 (hend _ (by rw [ht0, ← prt_e hi hn0 c45 c34 (by rw [← ht]; exact mat_1 ho c128), ← ht, ← tst_hi ho c90])) (by decide) (by decide)
            · have c90 := nz_c c90
              refine j_iconst (pc := 93) (v := 1) C dX5_halvesMade_93 (by decide) ?_
              refine j_goto (pc := 94) (tgt := 98) C dX5_halvesMade_94 (by decide) ?_
              refine j_istore_12 (pc := 98) C dX5_halvesMade_98 (by decide) rfl ?_
              refine j_iload (pc := 100) C dX5_halvesMade_100 rfl ?_
              refine j_iload (pc := 102) C dX5_halvesMade_102 rfl ?_
              refine j_if_eq (pc := 104) (tgt := 111) C dX5_halvesMade_104 (by decide) (fun z9 => absurd z9 (by decide)) (fun _ => ?_)
              refine j_iconst (pc := 107) (v := 1) C dX5_halvesMade_107 (by decide) ?_
              refine j_goto (pc := 108) (tgt := 121) C dX5_halvesMade_108 (by decide) ?_
              refine j_iadd (pc := 121) C dX5_halvesMade_121 ?_
              refine j_istore_7 (pc := 122) C dX5_halvesMade_122 (by decide) rfl ?_
              refine j_lload (pc := 124) C dX5_halvesMade_124 rfl ?_
              refine j_lconst (pc := 126) (v := 0) C dX5_halvesMade_126 (by decide) ?_
              refine j_lcmp (pc := 127) C dX5_halvesMade_127 ?_
              refine j_if_ne (pc := 128) (tgt := 134) C dX5_halvesMade_128 (by decide) (fun c128 => ?_) (fun c128 => ?_)
              · have c128 := nz_c c128
                refine j_iinc_8 (pc := 134) (d := 1) C dX5_halvesMade_134 (by decide) rfl rfl ?_
                refine j_lo (by rw [nI_1]) ?_
                refine j_goto (pc := 137) (tgt := 6) C dX5_halvesMade_137 (by decide) ?_
                first
                  | exact j_weak (by simp [lw1]) (ih ((E j).length - (i + 1)) (by omega) (i + 1) (t + 1) rfl (by omega) (prt_s hi hn0 c45 c34 (by rw [← ht]; exact mat_0 ho c128)).1 (by rw [ht0, ← (prt_s hi hn0 c45 c34 (by rw [← ht]; exact mat_0 ho c128)).2, ← ht, ← tst_lo ho hnv c90]))
                  | exact j_weak (by simp [lw1]) (ih ((E j).length - (i + 1)) (by omega) (i + 1) (t + halT (mk (10 * j + i))) rfl (by omega) (prt_s hi hn0 c45 c34 (by rw [← ht]; exact mat_0 ho c128)).1 (by rw [ht0, ← (prt_s hi hn0 c45 c34 (by rw [← ht]; exact mat_0 ho c128)).2, ← ht, ← tst_hi ho c90]))
                  | exact j_weak (by simp [lw1]) (ih ((E j).length - (i + 1)) (by omega) (i + 1) t rfl (by omega) (prt_h hn0 c45).1 (ht0.trans (prt_h hn0 c45).2))
                  | exact j_weak (by simp [lw1]) (ih ((E j).length - (i + 1)) (by omega) (i + 1) t rfl (by omega) (prt_n hi hn0 c34).1 (ht0.trans (prt_n hi hn0 c34).2))
              · have c128 := ez_c c128
                refine j_iload (pc := 131) C dX5_halvesMade_131 rfl ?_
                first | exact ret_i C rfl hr hlk dX5_halvesMade_133 (hend _ (by rw [ht0, ← prt_e hi hn0 c45 c34 (by rw [← ht]; exact mat_1 ho c128), ← ht, ← tst_lo ho hnv c90])) (by decide) (by decide) | exact ret_i C rfl hr hlk dX5_halvesMade_133 (hend _ (by rw [ht0, ← prt_e hi hn0 c45 c34 (by rw [← ht]; exact mat_1 ho c128), ← ht, ← tst_hi ho c90])) (by decide) (by decide)

set_option maxRecDepth 100000 in
set_option maxHeartbeats 4000000 in
theorem ct_halvesMade {l : Launch} {G : Gp} {L : List Nat} {w : Wn} {am : Nat → Nat} {th cp : Int32} {df : Nat → Int32} {fq : Nat → Nat} {E : Nat → EL} {ns ar ac : Nat → Int32} {mk vl : Nat → Int64} {ks : Nat → Int32} {sz : Nat} {co ro : Nat → Int32} (hm : MB G am L w th cp df fq E ns ar ac mk vl ks sz co ro) {j : Nat} (hj : j < 4) (x : Int32) (fi se : Int64) : CI l yX5_halvesMade wsX5_halvesMade (rmD 3 0 0) G L w [.ref (am 42), .int (nI j), .int x, .long fi, .long se] (fun r u => r = pRT x fi se (rch (E j)) ∧ u = (L, w)) := by
  refine mk_i (cc := cX5_halvesMade) (maxL := 13) [some (.ref (am 42)), some (.int (nI j)), some (.int x), some (.long fi), none, some (.long se), none, none, none, none, none, none, none] (by decide) rfl (Nat.le_of_ble_eq_true rfl) rfl ?_
  intro p e s m args below meth c A C hr hlk hnm
  refine j_iconst (pc := 0) (v := 0) C dX5_halvesMade_0 (by decide) ?_
  refine j_istore_7 (pc := 1) C dX5_halvesMade_1 (by decide) rfl ?_
  refine j_iconst (pc := 3) (v := 0) C dX5_halvesMade_3 (by decide) ?_
  refine j_istore_8 (pc := 4) C dX5_halvesMade_4 (by decide) rfl ?_
  exact mhm_loop hm hj (post := fun r u => r = pRT x fi se (rch (E j)) ∧ u = (L, w)) (fun r h => ⟨h, rfl⟩) C hr hlk (E j).length 0 0 rfl (Nat.zero_le _) (fun e9 h9 => by cases h9) rfl

