/-! THE MODEL MADE; a tree judges as the rules do -/
theorem bcov (a b v w o : BitVec 64) (h1 : a &&& (b ^^^ BitVec.allOnes 64) = 0#64) (h2 : w &&& a = v) (h3 : o &&& b = w) : o &&& a = v := by
  rw [BitVec.xor_allOnes] at h1
  subst h2
  subst h3
  apply BitVec.eq_of_getLsbD_eq
  intro i hi
  have a1 := congrArg (fun z => z.getLsbD i) h1
  simp only [BitVec.getLsbD_and, BitVec.getLsbD_not, BitVec.getLsbD_zero, hi, decide_true, Bool.true_and] at a1 ⊢
  generalize o.getLsbD i = x1 at *
  generalize a.getLsbD i = x2 at *
  generalize b.getLsbD i = x3 at *
  revert a1
  cases x1 <;> cases x2 <;> cases x3 <;> decide
theorem cov64 {a b v w o : Int64} (h1 : a &&& (b ^^^ (-1)) = 0) (h2 : w &&& a = v) (h3 : o &&& b = w) : o &&& a = v := by
  rw [i64_z] at h1
  rw [← Int64.toBitVec_inj] at h2 h3 ⊢
  exact bcov a.toBitVec b.toBitVec v.toBitVec w.toBitVec o.toBitVec h1 h2 h3
theorem bnev (m w o : BitVec 64) (h3 : o &&& m = w) : w &&& (m ^^^ BitVec.allOnes 64) = 0#64 := by
  rw [BitVec.xor_allOnes]
  subst h3
  apply BitVec.eq_of_getLsbD_eq
  intro i hi
  simp only [BitVec.getLsbD_and, BitVec.getLsbD_not, BitVec.getLsbD_zero, hi, decide_true, Bool.true_and]
  generalize o.getLsbD i = x1 at *
  generalize m.getLsbD i = x2 at *
  cases x1 <;> cases x2 <;> decide
theorem mat_nev {r : RV} {f s : Int64} (h : matB r f s = true) : nevB r = false := by
  have h1 := of_decide_eq_true h
  unfold nevB
  refine decide_eq_false (fun z => z ?_)
  rw [i64_z]
  rw [← Int64.toBitVec_inj] at h1
  exact bnev r.2.2.1.toBitVec r.2.2.2.1.toBitVec (ownA r f s).toBitVec h1
theorem cov_mat {a b : RV} {f s : Int64} (hc : covB a b = true) (hm : matB b f s = true) : a.1 = b.1 ∧ matB a f s = true := by
  unfold covB at hc
  by_cases h1 : a.1 = b.1
  · rw [if_pos h1] at hc
    refine ⟨h1, ?_⟩
    by_cases h2 : a.2.2.1 = 0 ∧ a.2.2.2.1 = 0
    · unfold matB
      rw [h2.1, h2.2]
      exact decide_eq_true (by simp)
    · rw [if_neg h2] at hc
      by_cases h3 : a.2.1 = b.2.1 ∧ (a.2.2.1 &&& (b.2.2.1 ^^^ (-1))) = 0 ∧ (b.2.2.2.1 &&& a.2.2.1) = a.2.2.2.1
      · have h4 := of_decide_eq_true hm
        unfold matB
        have e : ownA a f s = ownA b f s := by unfold ownA; rw [h3.1]
        rw [e]
        exact decide_eq_true (cov64 h3.2.1 h3.2.2 h4)
      · rw [if_neg h3] at hc; cases hc
  · rw [if_neg h1] at hc; cases hc
/-- one of these is met -/
def mch (x : Int32) (f s : Int64) : EL → Bool
  | [] => false
  | e9 :: t => (decide (e9.2.1 = x) && matB e9.2 f s) || mch x f s t
theorem mch_app {x : Int32} {f s : Int64} {e9 : Nat × RV} : ∀ {l : EL}, mch x f s (l ++ [e9]) = (mch x f s l || (decide (e9.2.1 = x) && matB e9.2 f s))
  | [] => by simp [mch]
  | a :: t => by
    show mch x f s (a :: (t ++ [e9])) = _
    unfold mch
    rw [mch_app, Bool.or_assoc]
theorem fAct_n {x : Int32} {f s : Int64} {d : Int32} : ∀ {l : EL}, mch x f s l = false → fAct x f s d l = d
  | [], _ => rfl
  | a :: t, h => by
    unfold mch at h
    rw [Bool.or_eq_false_iff] at h
    unfold fAct
    by_cases h1 : a.2.1 = x
    · have h2 : matB a.2 f s = false := by have := h.1; rw [decide_eq_true h1, Bool.true_and] at this; exact this
      rw [if_pos h1, h2, fAct_n h.2]
      rfl
    · rw [if_neg h1, fAct_n h.2]
theorem fAct_y {x : Int32} {f s : Int64} {d : Int32} {e9 : Nat × RV} : ∀ {l : EL}, mch x f s l = true → fAct x f s d (l ++ [e9]) = fAct x f s d l
  | [], h => by cases h
  | a :: t, h => by
    show fAct x f s d (a :: (t ++ [e9])) = _
    unfold fAct
    unfold mch at h
    by_cases h1 : a.2.1 = x
    · by_cases h2 : matB a.2 f s = true
      · rw [if_pos h1, if_pos h2, if_pos h1, if_pos h2]
      · have h2f := Bool.eq_false_iff.mpr h2
        rw [if_pos h1, if_neg h2, if_pos h1, if_neg h2]
        rw [h2f, Bool.and_false, Bool.false_or] at h
        exact fAct_y h
    · rw [if_neg h1, if_neg h1]
      rw [decide_eq_false h1, Bool.false_and, Bool.false_or] at h
      exact fAct_y h
theorem fAct_z {x : Int32} {f s : Int64} {d : Int32} {e9 : Nat × RV} : ∀ {l : EL}, mch x f s l = false → fAct x f s d (l ++ [e9]) = fAct x f s d [e9]
  | [], _ => rfl
  | a :: t, h => by
    show fAct x f s d (a :: (t ++ [e9])) = _
    unfold mch at h
    rw [Bool.or_eq_false_iff] at h
    rw [fAct]
    by_cases h1 : a.2.1 = x
    · have h2 : matB a.2 f s = false := by have := h.1; rw [decide_eq_true h1, Bool.true_and] at this; exact this
      rw [if_pos h1, h2, fAct_z h.2]
      rfl
    · rw [if_neg h1, fAct_z h.2]
theorem mch_of {x : Int32} {f s : Int64} {l : EL} {i : Nat} (hi : i < l.length) (h1 : (l[i]).2.1 = x) (h2 : matB (l[i]).2 f s = true) : mch x f s l = true := by
  induction l generalizing i with
  | nil => exact absurd hi (Nat.not_lt_zero i)
  | cons a t ih =>
    unfold mch
    cases i with
    | zero =>
      have h1' : a.2.1 = x := h1
      have h2' : matB a.2 f s = true := h2
      rw [decide_eq_true h1', h2']
      rfl
    | succ i =>
      rw [ih (i := i) (by simpa using hi) h1 h2, Bool.or_true]
theorem rch_same {el : EL} {x : Int32} {f s : Int64} {d : Int32} : ∀ k, k ≤ el.length → mch x f s (rchN el k) = mch x f s (el.take k) ∧ fAct x f s d (rchN el k) = fAct x f s d (el.take k)
  | 0, _ => by simp [rchN]
  | k + 1, hk => by
    obtain ⟨ih1, ih2⟩ := rch_same (x := x) (f := f) (s := s) (d := d) (el := el) k (by omega)
    have hk' : k < el.length := by omega
    have et : el.take (k + 1) = el.take k ++ [el[k]] := by rw [List.take_succ, List.getElem?_eq_getElem hk']; rfl
    rw [et]
    by_cases h : hid (rul el) k = none
    · rw [rchN_s hk' h, mch_app, mch_app, ih1]
      refine ⟨rfl, ?_⟩
      by_cases hm : mch x f s (el.take k) = true
      · rw [fAct_y (by rw [ih1]; exact hm), fAct_y hm, ih2]
      · have hf := Bool.eq_false_iff.mpr hm
        rw [fAct_z (by rw [ih1]; exact hf), fAct_z hf]
    · rw [rchN_n h, mch_app]
      by_cases hm : (decide ((el[k]).2.1 = x) && matB (el[k]).2 f s) = true
      · rw [Bool.and_eq_true] at hm
        have hx := of_decide_eq_true hm.1
        have key : mch x f s (el.take k) = true := by
          unfold hid at h
          rw [rul_get hk', mat_nev hm.2] at h
          cases hq : fstF (fun j => covB ((rul el).getD j d0) (el[k]).2) k with
          | none => exact absurd hq h
          | some j =>
            obtain ⟨g1, g2, -⟩ := fstF_some _ _ hq
            rw [rul_get (show j < el.length by omega)] at g2
            obtain ⟨g3, g4⟩ := cov_mat g2 hm.2
            have hj : j < (el.take k).length := by rw [List.length_take]; omega
            exact mch_of hj (by rw [List.getElem_take]; exact g3.trans hx) (by rw [List.getElem_take]; exact g4)
        rw [ih1, key, fAct_y key, ih2]
        exact ⟨rfl, rfl⟩
      · have hf := Bool.eq_false_iff.mpr hm
        rw [hf, Bool.or_false]
        refine ⟨ih1, ?_⟩
        by_cases hm2 : mch x f s (el.take k) = true
        · rw [fAct_y hm2, ih2]
        · have hf2 := Bool.eq_false_iff.mpr hm2
          rw [fAct_z hf2, ih2, fAct_n hf2, fAct_n]
          simp [mch, hf]
theorem fAct_rch {el : EL} {x : Int32} {f s : Int64} {d : Int32} : fAct x f s d (rch el) = fAct x f s d el := by
  have := (rch_same (x := x) (f := f) (s := s) (d := d) (el := el) el.length (Nat.le_refl _)).2
  rw [List.take_length] at this
  exact this
theorem fnd_ok {ky : Nat → Int32} {wt : Nat → Nat} {n : Nat} {x : Int32} (hs : ∀ a b, a < b → b < n → ky a < ky b) : ∀ f i l, l ≤ f → i + l ≤ n → (∃ r, i ≤ r ∧ r < i + l ∧ x = ky r) → fndT ky wt x f i l = true
  | 0, i, l, h1, _, ⟨r, h3, h4, _⟩ => by omega
  | f + 1, i, l, h1, h2, ⟨r, h3, h4, h5⟩ => by
    have hl : l ≠ 0 := by omega
    have hrt := rt_in wt i (l := l) (by omega)
    rw [fndT, if_neg hl]
    rcases Nat.lt_trichotomy r (rt wt i l) with h | h | h
    · have hlt := hs r (rt wt i l) h (by omega)
      rw [← h5] at hlt
      rw [if_neg (fun z => Int32.lt_irrefl (show x < x by rw [← z] at hlt; exact hlt)), if_pos hlt]
      exact fnd_ok hs f i _ (by omega) (by omega) ⟨r, h3, by omega, h5⟩
    · rw [if_pos (by rw [h5, h])]
    · have hlt := hs (rt wt i l) r h (by omega)
      rw [← h5] at hlt
      rw [if_neg (fun z => Int32.lt_irrefl (show x < x by rw [← z] at hlt; exact hlt)), if_neg (Int32.not_lt.mpr (Int32.le_of_lt hlt))]
      exact fnd_ok hs f _ _ (by omega) (by omega) ⟨r, by omega, by omega, h5⟩
theorem kys_mono (cl : EL) : ∀ k a b, a < b → b < (kys cl k).length → (kys cl k).getD a 0 < (kys cl k).getD b 0
  | 0, a, b, _, h => absurd h (by simp [kys])
  | k + 1, a, b, hab, h => by
    by_cases hn : hasN (nI k) cl = true
    · rw [show kys cl (k + 1) = kys cl k ++ [k] from if_pos hn] at h ⊢
      rw [List.length_append] at h
      by_cases e : b = (kys cl k).length
      · subst e
        rw [getD_app, getD_app_lt hab]
        exact kys_get hab
      · have hb : b < (kys cl k).length := by simp at h; omega
        rw [getD_app_lt (by omega), getD_app_lt hb]
        exact kys_mono cl k a b hab hb
    · rw [show kys cl (k + 1) = kys cl k from if_neg hn] at h ⊢
      exact kys_mono cl k a b hab h
theorem kys_has (cl : EL) {q : Nat} (hq : hasN (nI q) cl = true) : ∀ k, q < k → ∃ r, r < (kys cl k).length ∧ (kys cl k).getD r 0 = q
  | 0, h => absurd h (Nat.not_lt_zero q)
  | k + 1, h => by
    by_cases e : q = k
    · subst e
      rw [show kys cl (q + 1) = kys cl q ++ [q] from if_pos hq]
      exact ⟨(kys cl q).length, by rw [List.length_append]; simp, getD_app⟩
    · obtain ⟨r, h1, h2⟩ := kys_has cl hq k (by omega)
      by_cases hn : hasN (nI k) cl = true
      · rw [show kys cl (k + 1) = kys cl k ++ [k] from if_pos hn]
        exact ⟨r, by rw [List.length_append]; omega, by rw [getD_app_lt h1]; exact h2⟩
      · rw [show kys cl (k + 1) = kys cl k from if_neg hn]
        exact ⟨r, h1, h2⟩
theorem mch_has {x : Int32} {f s : Int64} : ∀ {l : EL}, hasN x l = false → mch x f s l = false
  | [], _ => rfl
  | a :: t, h => by
    unfold hasN at h
    by_cases h1 : a.2.1 = x
    · rw [if_pos h1] at h; cases h
    · rw [if_neg h1] at h
      unfold mch
      rw [decide_eq_false h1, Bool.false_and, Bool.false_or]
      exact mch_has h
theorem actT_eq {fq : Nat → Nat} {el : EL} {d x : Int32} {fi se : Int64} (hel : el.length ≤ 10) (hx : vld x 32) : actT fq el d x fi se = fAct x fi se d el := by
  obtain ⟨q, hq, rfl⟩ := hx
  unfold actT
  have hc := rch_le hel
  by_cases h : hasN (nI q) (rch el) = true
  · obtain ⟨r, h1, h2⟩ := kys_has (rch el) h 32 hq
    have hk := kys_le (rch el) 32 (Nat.le_refl _)
    have := fnd_ok (ky := kyF (rch el)) (wt := wtF fq (rch el)) (n := ksz (rch el)) (x := nI q) (fun a b h1 h2 => by
      have g1 := kys_mono (rch el) 32 a b h1 h2
      have g2 := kys_get (cl := rch el) (k := 32) h2
      exact nI_lt g1 (by omega)) 10 0 (ksz (rch el)) (by unfold ksz; omega) (by omega) ⟨r, Nat.zero_le _, by unfold ksz; omega, by unfold kyF; rw [h2]⟩
    rw [if_pos this, fAct_rch]
  · have hf := Bool.eq_false_iff.mpr h
    have h3 : fAct (nI q) fi se d (rch el) = d := fAct_n (mch_has hf)
    rw [fAct_rch] at h3
    rw [fAct_rch, h3]
    split <;> rfl
def mad (a a43 a44 a45 a46 a47 a48 a49 a50 a51 a52 a53 : Nat) : Nat → Nat := fun m => if m = 43 then a43 else if m = 44 then a44 else if m = 45 then a45 else if m = 46 then a46 else if m = 47 then a47 else if m = 48 then a48 else if m = 49 then a49 else if m = 50 then a50 else if m = 51 then a51 else if m = 52 then a52 else if m = 53 then a53 else a
theorem md_made {G : Gp} {L0 L : List Nat} {w0 w : Wn} {a a43 a44 a45 a46 a47 a48 a49 a50 a51 a52 a53 : Nat} (h : Hs L w 42 a (.inr (6, [.int 0, .ref a43, .ref a44, .ref a45, .ref a46, .ref a47, .ref a48, .ref a49, .ref a50, .int 0, .ref a51, .int 0, .ref a52, .ref a53]))) (h43 : Hs L w 43 a43 (iarE G 40 (fun _ => 0))) (h44 : Hs L w 44 a44 (iarE G 40 (fun _ => 0))) (h45 : Hs L w 45 a45 (jarE G 40 (fun _ => 0))) (h46 : Hs L w 46 a46 (jarE G 40 (fun _ => 0))) (h47 : Hs L w 47 a47 (iarE G 40 (fun _ => 0))) (h48 : Hs L w 48 a48 (iarE G 4 (fun _ => 0))) (h49 : Hs L w 49 a49 (iarE G 4 (fun _ => 0))) (h50 : Hs L w 50 a50 (iarE G 32 (fun _ => 0))) (h51 : Hs L w 51 a51 (iarE G 10 (fun _ => 0))) (h52 : Hs L w 52 a52 (iarE G 100 (fun _ => 0))) (h53 : Hs L w 53 a53 (iarE G 100 (fun _ => 0))) (hfr : Fr (fun m => m = 42) (fun m => 42 < m ∧ m < 54) L0 w0 L w) : ∃ am, am 42 = a ∧ MD G am L w 0 0 (fun _ => 0) (fun _ => 0) (fun _ => []) ∧ Fr (fun m => m = 42) (fun m => 42 < m ∧ m < 54) L0 w0 L w :=
  ⟨mad a a43 a44 a45 a46 a47 a48 a49 a50 a51 a52 a53, rfl, ⟨_, _, _, _, _, fun _ => 0, 0, _, _, h, h43, h44, h45, h46, h47, h48, h49, h50, h51, h52, h53, fun j _ i h => absurd h (Nat.not_lt_zero i), fun _ _ => Nat.zero_le _, fun _ => Nat.zero_le _, Nat.zero_le _⟩, hfr⟩
set_option maxRecDepth 100000 in
set_option maxHeartbeats 4000000 in
theorem ct_X5_init {l : Launch} {G : Gp} {L : List Nat} {w : Wn} {a : Nat} (h : Hs L w 42 a (.inr (6, [.int 0, .null, .null, .null, .null, .null, .null, .null, .null, .int 0, .null, .int 0, .null, .null]))) (hno : ∀ m, 42 < m → m < 54 → m ∉ L) : CV l yX5_init wsX5_init (rmD 2 11 450) G L w [.ref a] (fun u => ∃ am, am 42 = a ∧ MD G am u.1 u.2 0 0 (fun _ => 0) (fun _ => 0) (fun _ => []) ∧ Fr (fun m => m = 42) (fun m => 42 < m ∧ m < 54) L w u.1 u.2) := by
  refine mk_v (cc := cX5_init) (maxL := 1) [some (.ref a)] (by decide) rfl (Nat.le_of_ble_eq_true rfl) rfl ?_
  intro p e s m args below meth c A C hr hlk hnm
  have hin_X5 : ∀ x ∈ u_ws RX5 TX5 14, x ∈ wsX5_init := by decide +kernel
  have hfr : Fr (fun m => m = 42) (fun m => 42 < m ∧ m < 54) L w L w := Fr.rf
  refine j_aload_n (pc := 0) C rfl dX5_init_0 rfl ?_
  refine j_objInit (pc := 1) C (by decide +kernel) (by decide +kernel) (by decide +kernel) (Nat.le_of_ble_eq_true rfl) (by decide) (by decide) (by decide) (by decide) dX5_init_1 ?_
  refine j_aload_n (pc := 4) C rfl dX5_init_4 rfl ?_
  refine j_bipush (pc := 5) (v := 40) C dX5_init_5 (by decide) ?_
  refine j_newaI (pc := 7) (N := 40) (k2 := 1) (n2 := 40) C 43 (hno 43 (by decide) (by decide)) (by decide +kernel) (by decide) (by decide) (by decide) (by omega) (by omega) (by decide) (by decide) dX5_init_7 (fun a43 => ?_)
  refine j_nm (fun w7 ew7 => ?_)
  have hf7 : Fr (fun _ => False) (fun m => m = 43) L w (L ++ [43]) w7 := Fr.push ew7 (hno 43 (by decide) (by decide))
  have hfr := hfr.tr (hf7.mono (fun _ z => z.elim) (fun m z => by omega))
  have h := hf7.hs h (fun z => z)
  have hno := fun m (z1 : 43 < m) (z2 : m < 54) => hf7.no (hno m (by omega) z2) (by omega)
  have h43 : Hs (L ++ [43]) w7 43 a43 (iarE G 40 (fun _ => 0)) := by rw [ew7]; exact Hs.nw
  generalize L ++ [43] = L7 at hf7 hfr hno h43 h ⊢
  refine j_putF (pc := 9) (fs2 := [.int 0, .ref a43, .null, .null, .null, .null, .null, .null, .null, .int 0, .null, .int 0, .null, .null]) C hin_X5 h rfl 1 (by decide) tyX5 tyX5_ok nmX5 (by decide +kernel) rfl hnm.symm rfl (tyX5_ok 1 (by decide)) rfl rfl (Nat.le_of_ble_eq_true rfl) rfl dX5_init_9 ?_
  refine j_nm (fun w9 ew9 => ?_)
  have h : Hs L7 w9 42 a (.inr (6, [.int 0, .ref a43, .null, .null, .null, .null, .null, .null, .null, .int 0, .null, .int 0, .null, .null])) := by rw [ew9]; exact h.me
  have hfr := hfr.tr (Fr.up ew9)
  have h43 := hs_up1 h43 ew9 (by decide)
  refine j_aload_n (pc := 12) C rfl dX5_init_12 rfl ?_
  refine j_bipush (pc := 13) (v := 40) C dX5_init_13 (by decide) ?_
  refine j_newaI (pc := 15) (N := 40) (k2 := 2) (n2 := 80) C 44 (hno 44 (by decide) (by decide)) (by decide +kernel) (by decide) (by decide) (by decide) (by omega) (by omega) (by decide) (by decide) dX5_init_15 (fun a44 => ?_)
  refine j_nm (fun w15 ew15 => ?_)
  have hf15 : Fr (fun _ => False) (fun m => m = 44) L7 w9 (L7 ++ [44]) w15 := Fr.push ew15 (hno 44 (by decide) (by decide))
  have hfr := hfr.tr (hf15.mono (fun _ z => z.elim) (fun m z => by omega))
  have h := hf15.hs h (fun z => z)
  have h43 := hf15.hs h43 (fun z => z)
  have hno := fun m (z1 : 44 < m) (z2 : m < 54) => hf15.no (hno m (by omega) z2) (by omega)
  have h44 : Hs (L7 ++ [44]) w15 44 a44 (iarE G 40 (fun _ => 0)) := by rw [ew15]; exact Hs.nw
  generalize L7 ++ [44] = L15 at hf15 hfr hno h44 h h43 ⊢
  refine j_putF (pc := 17) (fs2 := [.int 0, .ref a43, .ref a44, .null, .null, .null, .null, .null, .null, .int 0, .null, .int 0, .null, .null]) C hin_X5 h rfl 2 (by decide) tyX5 tyX5_ok nmX5 (by decide +kernel) rfl hnm.symm rfl (tyX5_ok 2 (by decide)) rfl rfl (Nat.le_of_ble_eq_true rfl) rfl dX5_init_17 ?_
  refine j_nm (fun w17 ew17 => ?_)
  have h : Hs L15 w17 42 a (.inr (6, [.int 0, .ref a43, .ref a44, .null, .null, .null, .null, .null, .null, .int 0, .null, .int 0, .null, .null])) := by rw [ew17]; exact h.me
  have hfr := hfr.tr (Fr.up ew17)
  have h43 := hs_up1 h43 ew17 (by decide)
  have h44 := hs_up1 h44 ew17 (by decide)
  refine j_aload_n (pc := 20) C rfl dX5_init_20 rfl ?_
  refine j_bipush (pc := 21) (v := 40) C dX5_init_21 (by decide) ?_
  refine j_newaJ (pc := 23) (N := 40) (k2 := 3) (n2 := 120) C 45 (hno 45 (by decide) (by decide)) (by decide +kernel) (by decide) (by decide) (by decide) (by omega) (by omega) (by decide) (by decide) dX5_init_23 (fun a45 => ?_)
  refine j_nm (fun w23 ew23 => ?_)
  have hf23 : Fr (fun _ => False) (fun m => m = 45) L15 w17 (L15 ++ [45]) w23 := Fr.push ew23 (hno 45 (by decide) (by decide))
  have hfr := hfr.tr (hf23.mono (fun _ z => z.elim) (fun m z => by omega))
  have h := hf23.hs h (fun z => z)
  have h43 := hf23.hs h43 (fun z => z)
  have h44 := hf23.hs h44 (fun z => z)
  have hno := fun m (z1 : 45 < m) (z2 : m < 54) => hf23.no (hno m (by omega) z2) (by omega)
  have h45 : Hs (L15 ++ [45]) w23 45 a45 (jarE G 40 (fun _ => 0)) := by rw [ew23]; exact Hs.nw
  generalize L15 ++ [45] = L23 at hf23 hfr hno h45 h h43 h44 ⊢
  refine j_putF (pc := 25) (fs2 := [.int 0, .ref a43, .ref a44, .ref a45, .null, .null, .null, .null, .null, .int 0, .null, .int 0, .null, .null]) C hin_X5 h rfl 3 (by decide) tyX5 tyX5_ok nmX5 (by decide +kernel) rfl hnm.symm rfl (tyX5_ok 3 (by decide)) rfl rfl (Nat.le_of_ble_eq_true rfl) rfl dX5_init_25 ?_
  refine j_nm (fun w25 ew25 => ?_)
  have h : Hs L23 w25 42 a (.inr (6, [.int 0, .ref a43, .ref a44, .ref a45, .null, .null, .null, .null, .null, .int 0, .null, .int 0, .null, .null])) := by rw [ew25]; exact h.me
  have hfr := hfr.tr (Fr.up ew25)
  have h43 := hs_up1 h43 ew25 (by decide)
  have h44 := hs_up1 h44 ew25 (by decide)
  have h45 := hs_up1 h45 ew25 (by decide)
  refine j_aload_n (pc := 28) C rfl dX5_init_28 rfl ?_
  refine j_bipush (pc := 29) (v := 40) C dX5_init_29 (by decide) ?_
  refine j_newaJ (pc := 31) (N := 40) (k2 := 4) (n2 := 160) C 46 (hno 46 (by decide) (by decide)) (by decide +kernel) (by decide) (by decide) (by decide) (by omega) (by omega) (by decide) (by decide) dX5_init_31 (fun a46 => ?_)
  refine j_nm (fun w31 ew31 => ?_)
  have hf31 : Fr (fun _ => False) (fun m => m = 46) L23 w25 (L23 ++ [46]) w31 := Fr.push ew31 (hno 46 (by decide) (by decide))
  have hfr := hfr.tr (hf31.mono (fun _ z => z.elim) (fun m z => by omega))
  have h := hf31.hs h (fun z => z)
  have h43 := hf31.hs h43 (fun z => z)
  have h44 := hf31.hs h44 (fun z => z)
  have h45 := hf31.hs h45 (fun z => z)
  have hno := fun m (z1 : 46 < m) (z2 : m < 54) => hf31.no (hno m (by omega) z2) (by omega)
  have h46 : Hs (L23 ++ [46]) w31 46 a46 (jarE G 40 (fun _ => 0)) := by rw [ew31]; exact Hs.nw
  generalize L23 ++ [46] = L31 at hf31 hfr hno h46 h h43 h44 h45 ⊢
  refine j_putF (pc := 33) (fs2 := [.int 0, .ref a43, .ref a44, .ref a45, .ref a46, .null, .null, .null, .null, .int 0, .null, .int 0, .null, .null]) C hin_X5 h rfl 4 (by decide) tyX5 tyX5_ok nmX5 (by decide +kernel) rfl hnm.symm rfl (tyX5_ok 4 (by decide)) rfl rfl (Nat.le_of_ble_eq_true rfl) rfl dX5_init_33 ?_
  refine j_nm (fun w33 ew33 => ?_)
  have h : Hs L31 w33 42 a (.inr (6, [.int 0, .ref a43, .ref a44, .ref a45, .ref a46, .null, .null, .null, .null, .int 0, .null, .int 0, .null, .null])) := by rw [ew33]; exact h.me
  have hfr := hfr.tr (Fr.up ew33)
  have h43 := hs_up1 h43 ew33 (by decide)
  have h44 := hs_up1 h44 ew33 (by decide)
  have h45 := hs_up1 h45 ew33 (by decide)
  have h46 := hs_up1 h46 ew33 (by decide)
  refine j_aload_n (pc := 36) C rfl dX5_init_36 rfl ?_
  refine j_bipush (pc := 37) (v := 40) C dX5_init_37 (by decide) ?_
  refine j_newaI (pc := 39) (N := 40) (k2 := 5) (n2 := 200) C 47 (hno 47 (by decide) (by decide)) (by decide +kernel) (by decide) (by decide) (by decide) (by omega) (by omega) (by decide) (by decide) dX5_init_39 (fun a47 => ?_)
  refine j_nm (fun w39 ew39 => ?_)
  have hf39 : Fr (fun _ => False) (fun m => m = 47) L31 w33 (L31 ++ [47]) w39 := Fr.push ew39 (hno 47 (by decide) (by decide))
  have hfr := hfr.tr (hf39.mono (fun _ z => z.elim) (fun m z => by omega))
  have h := hf39.hs h (fun z => z)
  have h43 := hf39.hs h43 (fun z => z)
  have h44 := hf39.hs h44 (fun z => z)
  have h45 := hf39.hs h45 (fun z => z)
  have h46 := hf39.hs h46 (fun z => z)
  have hno := fun m (z1 : 47 < m) (z2 : m < 54) => hf39.no (hno m (by omega) z2) (by omega)
  have h47 : Hs (L31 ++ [47]) w39 47 a47 (iarE G 40 (fun _ => 0)) := by rw [ew39]; exact Hs.nw
  generalize L31 ++ [47] = L39 at hf39 hfr hno h47 h h43 h44 h45 h46 ⊢
  refine j_putF (pc := 41) (fs2 := [.int 0, .ref a43, .ref a44, .ref a45, .ref a46, .ref a47, .null, .null, .null, .int 0, .null, .int 0, .null, .null]) C hin_X5 h rfl 5 (by decide) tyX5 tyX5_ok nmX5 (by decide +kernel) rfl hnm.symm rfl (tyX5_ok 5 (by decide)) rfl rfl (Nat.le_of_ble_eq_true rfl) rfl dX5_init_41 ?_
  refine j_nm (fun w41 ew41 => ?_)
  have h : Hs L39 w41 42 a (.inr (6, [.int 0, .ref a43, .ref a44, .ref a45, .ref a46, .ref a47, .null, .null, .null, .int 0, .null, .int 0, .null, .null])) := by rw [ew41]; exact h.me
  have hfr := hfr.tr (Fr.up ew41)
  have h43 := hs_up1 h43 ew41 (by decide)
  have h44 := hs_up1 h44 ew41 (by decide)
  have h45 := hs_up1 h45 ew41 (by decide)
  have h46 := hs_up1 h46 ew41 (by decide)
  have h47 := hs_up1 h47 ew41 (by decide)
  refine j_aload_n (pc := 44) C rfl dX5_init_44 rfl ?_
  refine j_iconst (pc := 45) (v := 4) C dX5_init_45 (by decide) ?_
  refine j_newaI (pc := 46) (N := 4) (k2 := 6) (n2 := 204) C 48 (hno 48 (by decide) (by decide)) (by decide +kernel) (by decide) (by decide) (by decide) (by omega) (by omega) (by decide) (by decide) dX5_init_46 (fun a48 => ?_)
  refine j_nm (fun w46 ew46 => ?_)
  have hf46 : Fr (fun _ => False) (fun m => m = 48) L39 w41 (L39 ++ [48]) w46 := Fr.push ew46 (hno 48 (by decide) (by decide))
  have hfr := hfr.tr (hf46.mono (fun _ z => z.elim) (fun m z => by omega))
  have h := hf46.hs h (fun z => z)
  have h43 := hf46.hs h43 (fun z => z)
  have h44 := hf46.hs h44 (fun z => z)
  have h45 := hf46.hs h45 (fun z => z)
  have h46 := hf46.hs h46 (fun z => z)
  have h47 := hf46.hs h47 (fun z => z)
  have hno := fun m (z1 : 48 < m) (z2 : m < 54) => hf46.no (hno m (by omega) z2) (by omega)
  have h48 : Hs (L39 ++ [48]) w46 48 a48 (iarE G 4 (fun _ => 0)) := by rw [ew46]; exact Hs.nw
  generalize L39 ++ [48] = L46 at hf46 hfr hno h48 h h43 h44 h45 h46 h47 ⊢
  refine j_putF (pc := 48) (fs2 := [.int 0, .ref a43, .ref a44, .ref a45, .ref a46, .ref a47, .ref a48, .null, .null, .int 0, .null, .int 0, .null, .null]) C hin_X5 h rfl 6 (by decide) tyX5 tyX5_ok nmX5 (by decide +kernel) rfl hnm.symm rfl (tyX5_ok 6 (by decide)) rfl rfl (Nat.le_of_ble_eq_true rfl) rfl dX5_init_48 ?_
  refine j_nm (fun w48 ew48 => ?_)
  have h : Hs L46 w48 42 a (.inr (6, [.int 0, .ref a43, .ref a44, .ref a45, .ref a46, .ref a47, .ref a48, .null, .null, .int 0, .null, .int 0, .null, .null])) := by rw [ew48]; exact h.me
  have hfr := hfr.tr (Fr.up ew48)
  have h43 := hs_up1 h43 ew48 (by decide)
  have h44 := hs_up1 h44 ew48 (by decide)
  have h45 := hs_up1 h45 ew48 (by decide)
  have h46 := hs_up1 h46 ew48 (by decide)
  have h47 := hs_up1 h47 ew48 (by decide)
  have h48 := hs_up1 h48 ew48 (by decide)
  refine j_aload_n (pc := 51) C rfl dX5_init_51 rfl ?_
  refine j_iconst (pc := 52) (v := 4) C dX5_init_52 (by decide) ?_
  refine j_newaI (pc := 53) (N := 4) (k2 := 7) (n2 := 208) C 49 (hno 49 (by decide) (by decide)) (by decide +kernel) (by decide) (by decide) (by decide) (by omega) (by omega) (by decide) (by decide) dX5_init_53 (fun a49 => ?_)
  refine j_nm (fun w53 ew53 => ?_)
  have hf53 : Fr (fun _ => False) (fun m => m = 49) L46 w48 (L46 ++ [49]) w53 := Fr.push ew53 (hno 49 (by decide) (by decide))
  have hfr := hfr.tr (hf53.mono (fun _ z => z.elim) (fun m z => by omega))
  have h := hf53.hs h (fun z => z)
  have h43 := hf53.hs h43 (fun z => z)
  have h44 := hf53.hs h44 (fun z => z)
  have h45 := hf53.hs h45 (fun z => z)
  have h46 := hf53.hs h46 (fun z => z)
  have h47 := hf53.hs h47 (fun z => z)
  have h48 := hf53.hs h48 (fun z => z)
  have hno := fun m (z1 : 49 < m) (z2 : m < 54) => hf53.no (hno m (by omega) z2) (by omega)
  have h49 : Hs (L46 ++ [49]) w53 49 a49 (iarE G 4 (fun _ => 0)) := by rw [ew53]; exact Hs.nw
  generalize L46 ++ [49] = L53 at hf53 hfr hno h49 h h43 h44 h45 h46 h47 h48 ⊢
  refine j_putF (pc := 55) (fs2 := [.int 0, .ref a43, .ref a44, .ref a45, .ref a46, .ref a47, .ref a48, .ref a49, .null, .int 0, .null, .int 0, .null, .null]) C hin_X5 h rfl 7 (by decide) tyX5 tyX5_ok nmX5 (by decide +kernel) rfl hnm.symm rfl (tyX5_ok 7 (by decide)) rfl rfl (Nat.le_of_ble_eq_true rfl) rfl dX5_init_55 ?_
  refine j_nm (fun w55 ew55 => ?_)
  have h : Hs L53 w55 42 a (.inr (6, [.int 0, .ref a43, .ref a44, .ref a45, .ref a46, .ref a47, .ref a48, .ref a49, .null, .int 0, .null, .int 0, .null, .null])) := by rw [ew55]; exact h.me
  have hfr := hfr.tr (Fr.up ew55)
  have h43 := hs_up1 h43 ew55 (by decide)
  have h44 := hs_up1 h44 ew55 (by decide)
  have h45 := hs_up1 h45 ew55 (by decide)
  have h46 := hs_up1 h46 ew55 (by decide)
  have h47 := hs_up1 h47 ew55 (by decide)
  have h48 := hs_up1 h48 ew55 (by decide)
  have h49 := hs_up1 h49 ew55 (by decide)
  refine j_aload_n (pc := 58) C rfl dX5_init_58 rfl ?_
  refine j_bipush (pc := 59) (v := 32) C dX5_init_59 (by decide) ?_
  refine j_newaI (pc := 61) (N := 32) (k2 := 8) (n2 := 240) C 50 (hno 50 (by decide) (by decide)) (by decide +kernel) (by decide) (by decide) (by decide) (by omega) (by omega) (by decide) (by decide) dX5_init_61 (fun a50 => ?_)
  refine j_nm (fun w61 ew61 => ?_)
  have hf61 : Fr (fun _ => False) (fun m => m = 50) L53 w55 (L53 ++ [50]) w61 := Fr.push ew61 (hno 50 (by decide) (by decide))
  have hfr := hfr.tr (hf61.mono (fun _ z => z.elim) (fun m z => by omega))
  have h := hf61.hs h (fun z => z)
  have h43 := hf61.hs h43 (fun z => z)
  have h44 := hf61.hs h44 (fun z => z)
  have h45 := hf61.hs h45 (fun z => z)
  have h46 := hf61.hs h46 (fun z => z)
  have h47 := hf61.hs h47 (fun z => z)
  have h48 := hf61.hs h48 (fun z => z)
  have h49 := hf61.hs h49 (fun z => z)
  have hno := fun m (z1 : 50 < m) (z2 : m < 54) => hf61.no (hno m (by omega) z2) (by omega)
  have h50 : Hs (L53 ++ [50]) w61 50 a50 (iarE G 32 (fun _ => 0)) := by rw [ew61]; exact Hs.nw
  generalize L53 ++ [50] = L61 at hf61 hfr hno h50 h h43 h44 h45 h46 h47 h48 h49 ⊢
  refine j_putF (pc := 63) (fs2 := [.int 0, .ref a43, .ref a44, .ref a45, .ref a46, .ref a47, .ref a48, .ref a49, .ref a50, .int 0, .null, .int 0, .null, .null]) C hin_X5 h rfl 8 (by decide) tyX5 tyX5_ok nmX5 (by decide +kernel) rfl hnm.symm rfl (tyX5_ok 8 (by decide)) rfl rfl (Nat.le_of_ble_eq_true rfl) rfl dX5_init_63 ?_
  refine j_nm (fun w63 ew63 => ?_)
  have h : Hs L61 w63 42 a (.inr (6, [.int 0, .ref a43, .ref a44, .ref a45, .ref a46, .ref a47, .ref a48, .ref a49, .ref a50, .int 0, .null, .int 0, .null, .null])) := by rw [ew63]; exact h.me
  have hfr := hfr.tr (Fr.up ew63)
  have h43 := hs_up1 h43 ew63 (by decide)
  have h44 := hs_up1 h44 ew63 (by decide)
  have h45 := hs_up1 h45 ew63 (by decide)
  have h46 := hs_up1 h46 ew63 (by decide)
  have h47 := hs_up1 h47 ew63 (by decide)
  have h48 := hs_up1 h48 ew63 (by decide)
  have h49 := hs_up1 h49 ew63 (by decide)
  have h50 := hs_up1 h50 ew63 (by decide)
  refine j_aload_n (pc := 66) C rfl dX5_init_66 rfl ?_
  refine j_bipush (pc := 67) (v := 10) C dX5_init_67 (by decide) ?_
  refine j_newaI (pc := 69) (N := 10) (k2 := 9) (n2 := 250) C 51 (hno 51 (by decide) (by decide)) (by decide +kernel) (by decide) (by decide) (by decide) (by omega) (by omega) (by decide) (by decide) dX5_init_69 (fun a51 => ?_)
  refine j_nm (fun w69 ew69 => ?_)
  have hf69 : Fr (fun _ => False) (fun m => m = 51) L61 w63 (L61 ++ [51]) w69 := Fr.push ew69 (hno 51 (by decide) (by decide))
  have hfr := hfr.tr (hf69.mono (fun _ z => z.elim) (fun m z => by omega))
  have h := hf69.hs h (fun z => z)
  have h43 := hf69.hs h43 (fun z => z)
  have h44 := hf69.hs h44 (fun z => z)
  have h45 := hf69.hs h45 (fun z => z)
  have h46 := hf69.hs h46 (fun z => z)
  have h47 := hf69.hs h47 (fun z => z)
  have h48 := hf69.hs h48 (fun z => z)
  have h49 := hf69.hs h49 (fun z => z)
  have h50 := hf69.hs h50 (fun z => z)
  have hno := fun m (z1 : 51 < m) (z2 : m < 54) => hf69.no (hno m (by omega) z2) (by omega)
  have h51 : Hs (L61 ++ [51]) w69 51 a51 (iarE G 10 (fun _ => 0)) := by rw [ew69]; exact Hs.nw
  generalize L61 ++ [51] = L69 at hf69 hfr hno h51 h h43 h44 h45 h46 h47 h48 h49 h50 ⊢
  refine j_putF (pc := 71) (fs2 := [.int 0, .ref a43, .ref a44, .ref a45, .ref a46, .ref a47, .ref a48, .ref a49, .ref a50, .int 0, .ref a51, .int 0, .null, .null]) C hin_X5 h rfl 10 (by decide) tyX5 tyX5_ok nmX5 (by decide +kernel) rfl hnm.symm rfl (tyX5_ok 10 (by decide)) rfl rfl (Nat.le_of_ble_eq_true rfl) rfl dX5_init_71 ?_
  refine j_nm (fun w71 ew71 => ?_)
  have h : Hs L69 w71 42 a (.inr (6, [.int 0, .ref a43, .ref a44, .ref a45, .ref a46, .ref a47, .ref a48, .ref a49, .ref a50, .int 0, .ref a51, .int 0, .null, .null])) := by rw [ew71]; exact h.me
  have hfr := hfr.tr (Fr.up ew71)
  have h43 := hs_up1 h43 ew71 (by decide)
  have h44 := hs_up1 h44 ew71 (by decide)
  have h45 := hs_up1 h45 ew71 (by decide)
  have h46 := hs_up1 h46 ew71 (by decide)
  have h47 := hs_up1 h47 ew71 (by decide)
  have h48 := hs_up1 h48 ew71 (by decide)
  have h49 := hs_up1 h49 ew71 (by decide)
  have h50 := hs_up1 h50 ew71 (by decide)
  have h51 := hs_up1 h51 ew71 (by decide)
  refine j_aload_n (pc := 74) C rfl dX5_init_74 rfl ?_
  refine j_bipush (pc := 75) (v := 100) C dX5_init_75 (by decide) ?_
  refine j_newaI (pc := 77) (N := 100) (k2 := 10) (n2 := 350) C 52 (hno 52 (by decide) (by decide)) (by decide +kernel) (by decide) (by decide) (by decide) (by omega) (by omega) (by decide) (by decide) dX5_init_77 (fun a52 => ?_)
  refine j_nm (fun w77 ew77 => ?_)
  have hf77 : Fr (fun _ => False) (fun m => m = 52) L69 w71 (L69 ++ [52]) w77 := Fr.push ew77 (hno 52 (by decide) (by decide))
  have hfr := hfr.tr (hf77.mono (fun _ z => z.elim) (fun m z => by omega))
  have h := hf77.hs h (fun z => z)
  have h43 := hf77.hs h43 (fun z => z)
  have h44 := hf77.hs h44 (fun z => z)
  have h45 := hf77.hs h45 (fun z => z)
  have h46 := hf77.hs h46 (fun z => z)
  have h47 := hf77.hs h47 (fun z => z)
  have h48 := hf77.hs h48 (fun z => z)
  have h49 := hf77.hs h49 (fun z => z)
  have h50 := hf77.hs h50 (fun z => z)
  have h51 := hf77.hs h51 (fun z => z)
  have hno := fun m (z1 : 52 < m) (z2 : m < 54) => hf77.no (hno m (by omega) z2) (by omega)
  have h52 : Hs (L69 ++ [52]) w77 52 a52 (iarE G 100 (fun _ => 0)) := by rw [ew77]; exact Hs.nw
  generalize L69 ++ [52] = L77 at hf77 hfr hno h52 h h43 h44 h45 h46 h47 h48 h49 h50 h51 ⊢
  refine j_putF (pc := 79) (fs2 := [.int 0, .ref a43, .ref a44, .ref a45, .ref a46, .ref a47, .ref a48, .ref a49, .ref a50, .int 0, .ref a51, .int 0, .ref a52, .null]) C hin_X5 h rfl 12 (by decide) tyX5 tyX5_ok nmX5 (by decide +kernel) rfl hnm.symm rfl (tyX5_ok 12 (by decide)) rfl rfl (Nat.le_of_ble_eq_true rfl) rfl dX5_init_79 ?_
  refine j_nm (fun w79 ew79 => ?_)
  have h : Hs L77 w79 42 a (.inr (6, [.int 0, .ref a43, .ref a44, .ref a45, .ref a46, .ref a47, .ref a48, .ref a49, .ref a50, .int 0, .ref a51, .int 0, .ref a52, .null])) := by rw [ew79]; exact h.me
  have hfr := hfr.tr (Fr.up ew79)
  have h43 := hs_up1 h43 ew79 (by decide)
  have h44 := hs_up1 h44 ew79 (by decide)
  have h45 := hs_up1 h45 ew79 (by decide)
  have h46 := hs_up1 h46 ew79 (by decide)
  have h47 := hs_up1 h47 ew79 (by decide)
  have h48 := hs_up1 h48 ew79 (by decide)
  have h49 := hs_up1 h49 ew79 (by decide)
  have h50 := hs_up1 h50 ew79 (by decide)
  have h51 := hs_up1 h51 ew79 (by decide)
  have h52 := hs_up1 h52 ew79 (by decide)
  refine j_aload_n (pc := 82) C rfl dX5_init_82 rfl ?_
  refine j_bipush (pc := 83) (v := 100) C dX5_init_83 (by decide) ?_
  refine j_newaI (pc := 85) (N := 100) (k2 := 11) (n2 := 450) C 53 (hno 53 (by decide) (by decide)) (by decide +kernel) (by decide) (by decide) (by decide) (by omega) (by omega) (by decide) (by decide) dX5_init_85 (fun a53 => ?_)
  refine j_nm (fun w85 ew85 => ?_)
  have hf85 : Fr (fun _ => False) (fun m => m = 53) L77 w79 (L77 ++ [53]) w85 := Fr.push ew85 (hno 53 (by decide) (by decide))
  have hfr := hfr.tr (hf85.mono (fun _ z => z.elim) (fun m z => by omega))
  have h := hf85.hs h (fun z => z)
  have h43 := hf85.hs h43 (fun z => z)
  have h44 := hf85.hs h44 (fun z => z)
  have h45 := hf85.hs h45 (fun z => z)
  have h46 := hf85.hs h46 (fun z => z)
  have h47 := hf85.hs h47 (fun z => z)
  have h48 := hf85.hs h48 (fun z => z)
  have h49 := hf85.hs h49 (fun z => z)
  have h50 := hf85.hs h50 (fun z => z)
  have h51 := hf85.hs h51 (fun z => z)
  have h52 := hf85.hs h52 (fun z => z)
  have hno := fun m (z1 : 53 < m) (z2 : m < 54) => hf85.no (hno m (by omega) z2) (by omega)
  have h53 : Hs (L77 ++ [53]) w85 53 a53 (iarE G 100 (fun _ => 0)) := by rw [ew85]; exact Hs.nw
  generalize L77 ++ [53] = L85 at hf85 hfr hno h53 h h43 h44 h45 h46 h47 h48 h49 h50 h51 h52 ⊢
  refine j_putF (pc := 87) (fs2 := [.int 0, .ref a43, .ref a44, .ref a45, .ref a46, .ref a47, .ref a48, .ref a49, .ref a50, .int 0, .ref a51, .int 0, .ref a52, .ref a53]) C hin_X5 h rfl 13 (by decide) tyX5 tyX5_ok nmX5 (by decide +kernel) rfl hnm.symm rfl (tyX5_ok 13 (by decide)) rfl rfl (Nat.le_of_ble_eq_true rfl) rfl dX5_init_87 ?_
  refine j_nm (fun w87 ew87 => ?_)
  have h : Hs L85 w87 42 a (.inr (6, [.int 0, .ref a43, .ref a44, .ref a45, .ref a46, .ref a47, .ref a48, .ref a49, .ref a50, .int 0, .ref a51, .int 0, .ref a52, .ref a53])) := by rw [ew87]; exact h.me
  have hfr := hfr.tr (Fr.up ew87)
  have h43 := hs_up1 h43 ew87 (by decide)
  have h44 := hs_up1 h44 ew87 (by decide)
  have h45 := hs_up1 h45 ew87 (by decide)
  have h46 := hs_up1 h46 ew87 (by decide)
  have h47 := hs_up1 h47 ew87 (by decide)
  have h48 := hs_up1 h48 ew87 (by decide)
  have h49 := hs_up1 h49 ew87 (by decide)
  have h50 := hs_up1 h50 ew87 (by decide)
  have h51 := hs_up1 h51 ew87 (by decide)
  have h52 := hs_up1 h52 ew87 (by decide)
  have h53 := hs_up1 h53 ew87 (by decide)
  exact ret_v C rfl hr hlk dX5_init_90 (md_made h h43 h44 h45 h46 h47 h48 h49 h50 h51 h52 h53 hfr) (by decide) (by decide)

