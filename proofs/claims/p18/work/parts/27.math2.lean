/-! THE MODEL MADE; a tree judges as the rules do -/
theorem kys_lt (cl : EL) : ∀ k, ∀ x ∈ kys cl k, x < k
  | 0 => fun x h => by cases h
  | k + 1 => fun x h => by
    unfold kys at h
    split at h
    · rcases List.mem_append.mp h with h | h
      · have := kys_lt cl k x h; omega
      · have := List.mem_singleton.mp h; omega
    · have := kys_lt cl k x h; omega
theorem i64_z {a : Int64} : a = 0 ↔ a.toBitVec = 0#64 := by
  constructor
  · intro h; rw [h]; rfl
  · intro h; exact Int64.toBitVec_inj.mp h
theorem rchN_n {el : EL} {i : Nat} (h : hid (rul el) i ≠ none) : rchN el (i + 1) = rchN el i := by
  rw [rchN, if_neg h]
theorem rchN_s {el : EL} {i : Nat} (hi : i < el.length) (h : hid (rul el) i = none) : rchN el (i + 1) = rchN el i ++ [el[i]] := by
  rw [rchN, if_pos h]
  simp [List.getD, hi]
theorem kys_get {cl : EL} {k r : Nat} (h : r < (kys cl k).length) : (kys cl k).getD r 0 < k := by
  have e : (kys cl k).getD r 0 = (kys cl k)[r] := by simp [List.getD, h]
  rw [e]
  exact kys_lt cl k _ (List.getElem_mem h)
theorem rch_le {el : EL} (h : el.length ≤ 10) : (rch el).length ≤ 10 := Nat.le_trans (rchN_le el el.length) h
theorem bcov (a b v w o : BitVec 64) (h1 : a &&& (b ^^^ BitVec.allOnes 64) = 0#64) (h2 : w &&& a = v) (h3 : o &&& b = w) : o &&& a = v := by
  rw [BitVec.xor_allOnes] at h1
  subst h2
  subst h3
  apply BitVec.eq_of_getLsbD_eq
  intro i hi
  have a1 := congrArg (fun z => z.getLsbD i) h1
  simp only [BitVec.getLsbD_and, BitVec.getLsbD_not, BitVec.getLsbD_zero, hi, decide_true, Bool.true_and] at a1 ⊢
  generalize o.getLsbD i = x1 at *
  generalize a.getLsbD i = x2 at *
  generalize b.getLsbD i = x3 at *
  revert a1
  cases x1 <;> cases x2 <;> cases x3 <;> decide
theorem cov64 {a b v w o : Int64} (h1 : a &&& (b ^^^ (-1)) = 0) (h2 : w &&& a = v) (h3 : o &&& b = w) : o &&& a = v := by
  rw [i64_z] at h1
  rw [← Int64.toBitVec_inj] at h2 h3 ⊢
  exact bcov a.toBitVec b.toBitVec v.toBitVec w.toBitVec o.toBitVec h1 h2 h3
theorem bnev (m w o : BitVec 64) (h3 : o &&& m = w) : w &&& (m ^^^ BitVec.allOnes 64) = 0#64 := by
  rw [BitVec.xor_allOnes]
  subst h3
  apply BitVec.eq_of_getLsbD_eq
  intro i hi
  simp only [BitVec.getLsbD_and, BitVec.getLsbD_not, BitVec.getLsbD_zero, hi, decide_true, Bool.true_and]
  generalize o.getLsbD i = x1 at *
  generalize m.getLsbD i = x2 at *
  cases x1 <;> cases x2 <;> decide
theorem mat_nev {r : RV} {f s : Int64} (h : matB r f s = true) : nevB r = false := by
  have h1 := of_decide_eq_true h
  unfold nevB
  refine decide_eq_false (fun z => z ?_)
  rw [i64_z]
  rw [← Int64.toBitVec_inj] at h1
  exact bnev r.2.2.1.toBitVec r.2.2.2.1.toBitVec (ownA r f s).toBitVec h1
theorem cov_mat {a b : RV} {f s : Int64} (hc : covB a b = true) (hm : matB b f s = true) : a.1 = b.1 ∧ matB a f s = true := by
  unfold covB at hc
  by_cases h1 : a.1 = b.1
  · rw [if_pos h1] at hc
    refine ⟨h1, ?_⟩
    by_cases h2 : a.2.2.1 = 0 ∧ a.2.2.2.1 = 0
    · unfold matB
      rw [h2.1, h2.2]
      exact decide_eq_true (by simp)
    · rw [if_neg h2] at hc
      by_cases h3 : a.2.1 = b.2.1 ∧ (a.2.2.1 &&& (b.2.2.1 ^^^ (-1))) = 0 ∧ (b.2.2.2.1 &&& a.2.2.1) = a.2.2.2.1
      · have h4 := of_decide_eq_true hm
        unfold matB
        have e : ownA a f s = ownA b f s := by unfold ownA; rw [h3.1]
        rw [e]
        exact decide_eq_true (cov64 h3.2.1 h3.2.2 h4)
      · rw [if_neg h3] at hc; cases hc
  · rw [if_neg h1] at hc; cases hc
/-- one of these is met -/
def mch (x : Int32) (f s : Int64) : EL → Bool
  | [] => false
  | e9 :: t => (decide (e9.2.1 = x) && matB e9.2 f s) || mch x f s t
theorem mch_app {x : Int32} {f s : Int64} {e9 : Nat × RV} : ∀ {l : EL}, mch x f s (l ++ [e9]) = (mch x f s l || (decide (e9.2.1 = x) && matB e9.2 f s))
  | [] => by simp [mch]
  | a :: t => by
    show mch x f s (a :: (t ++ [e9])) = _
    unfold mch
    rw [mch_app, Bool.or_assoc]
theorem fAct_n {x : Int32} {f s : Int64} {d : Int32} : ∀ {l : EL}, mch x f s l = false → fAct x f s d l = d
  | [], _ => rfl
  | a :: t, h => by
    unfold mch at h
    rw [Bool.or_eq_false_iff] at h
    unfold fAct
    by_cases h1 : a.2.1 = x
    · have h2 : matB a.2 f s = false := by have := h.1; rw [decide_eq_true h1, Bool.true_and] at this; exact this
      rw [if_pos h1, h2, fAct_n h.2]
      rfl
    · rw [if_neg h1, fAct_n h.2]
theorem fAct_y {x : Int32} {f s : Int64} {d : Int32} {e9 : Nat × RV} : ∀ {l : EL}, mch x f s l = true → fAct x f s d (l ++ [e9]) = fAct x f s d l
  | [], h => by cases h
  | a :: t, h => by
    show fAct x f s d (a :: (t ++ [e9])) = _
    unfold fAct
    unfold mch at h
    by_cases h1 : a.2.1 = x
    · by_cases h2 : matB a.2 f s = true
      · rw [if_pos h1, if_pos h2, if_pos h1, if_pos h2]
      · have h2f := Bool.eq_false_iff.mpr h2
        rw [if_pos h1, if_neg h2, if_pos h1, if_neg h2]
        rw [h2f, Bool.and_false, Bool.false_or] at h
        exact fAct_y h
    · rw [if_neg h1, if_neg h1]
      rw [decide_eq_false h1, Bool.false_and, Bool.false_or] at h
      exact fAct_y h
theorem fAct_z {x : Int32} {f s : Int64} {d : Int32} {e9 : Nat × RV} : ∀ {l : EL}, mch x f s l = false → fAct x f s d (l ++ [e9]) = fAct x f s d [e9]
  | [], _ => rfl
  | a :: t, h => by
    show fAct x f s d (a :: (t ++ [e9])) = _
    unfold mch at h
    rw [Bool.or_eq_false_iff] at h
    rw [fAct]
    by_cases h1 : a.2.1 = x
    · have h2 : matB a.2 f s = false := by have := h.1; rw [decide_eq_true h1, Bool.true_and] at this; exact this
      rw [if_pos h1, h2, fAct_z h.2]
      rfl
    · rw [if_neg h1, fAct_z h.2]
theorem mch_of {x : Int32} {f s : Int64} {l : EL} {i : Nat} (hi : i < l.length) (h1 : (l[i]).2.1 = x) (h2 : matB (l[i]).2 f s = true) : mch x f s l = true := by
  induction l generalizing i with
  | nil => exact absurd hi (Nat.not_lt_zero i)
  | cons a t ih =>
    unfold mch
    cases i with
    | zero =>
      have h1' : a.2.1 = x := h1
      have h2' : matB a.2 f s = true := h2
      rw [decide_eq_true h1', h2']
      rfl
    | succ i =>
      rw [ih (i := i) (by simpa using hi) h1 h2, Bool.or_true]
theorem rch_same {el : EL} {x : Int32} {f s : Int64} {d : Int32} : ∀ k, k ≤ el.length → mch x f s (rchN el k) = mch x f s (el.take k) ∧ fAct x f s d (rchN el k) = fAct x f s d (el.take k)
  | 0, _ => by simp [rchN]
  | k + 1, hk => by
    obtain ⟨ih1, ih2⟩ := rch_same (x := x) (f := f) (s := s) (d := d) (el := el) k (by omega)
    have hk' : k < el.length := by omega
    have et : el.take (k + 1) = el.take k ++ [el[k]] := by rw [List.take_succ, List.getElem?_eq_getElem hk']; rfl
    rw [et]
    by_cases h : hid (rul el) k = none
    · rw [rchN_s hk' h, mch_app, mch_app, ih1]
      refine ⟨rfl, ?_⟩
      by_cases hm : mch x f s (el.take k) = true
      · rw [fAct_y (by rw [ih1]; exact hm), fAct_y hm, ih2]
      · have hf := Bool.eq_false_iff.mpr hm
        rw [fAct_z (by rw [ih1]; exact hf), fAct_z hf]
    · rw [rchN_n h, mch_app]
      by_cases hm : (decide ((el[k]).2.1 = x) && matB (el[k]).2 f s) = true
      · rw [Bool.and_eq_true] at hm
        have hx := of_decide_eq_true hm.1
        have key : mch x f s (el.take k) = true := by
          unfold hid at h
          rw [rul_get hk', mat_nev hm.2] at h
          cases hq : fstF (fun j => covB ((rul el).getD j d0) (el[k]).2) k with
          | none => exact absurd hq h
          | some j =>
            obtain ⟨g1, g2, -⟩ := fstF_some _ _ hq
            rw [rul_get (show j < el.length by omega)] at g2
            obtain ⟨g3, g4⟩ := cov_mat g2 hm.2
            have hj : j < (el.take k).length := by rw [List.length_take]; omega
            exact mch_of hj (by rw [List.getElem_take]; exact g3.trans hx) (by rw [List.getElem_take]; exact g4)
        rw [ih1, key, fAct_y key, ih2]
        exact ⟨rfl, rfl⟩
      · have hf := Bool.eq_false_iff.mpr hm
        rw [hf, Bool.or_false]
        refine ⟨ih1, ?_⟩
        by_cases hm2 : mch x f s (el.take k) = true
        · rw [fAct_y hm2, ih2]
        · have hf2 := Bool.eq_false_iff.mpr hm2
          rw [fAct_z hf2, ih2, fAct_n hf2, fAct_n]
          simp [mch, hf]
theorem fAct_rch {el : EL} {x : Int32} {f s : Int64} {d : Int32} : fAct x f s d (rch el) = fAct x f s d el := by
  have := (rch_same (x := x) (f := f) (s := s) (d := d) (el := el) el.length (Nat.le_refl _)).2
  rw [List.take_length] at this
  exact this
theorem fnd_ok {ky : Nat → Int32} {wt : Nat → Nat} {n : Nat} {x : Int32} (hs : ∀ a b, a < b → b < n → ky a < ky b) : ∀ f i l, l ≤ f → i + l ≤ n → (∃ r, i ≤ r ∧ r < i + l ∧ x = ky r) → fndT ky wt x f i l = true
  | 0, i, l, h1, _, ⟨r, h3, h4, _⟩ => by omega
  | f + 1, i, l, h1, h2, ⟨r, h3, h4, h5⟩ => by
    have hl : l ≠ 0 := by omega
    have hrt := rt_in wt i (l := l) (by omega)
    rw [fndT, if_neg hl]
    rcases Nat.lt_trichotomy r (rt wt i l) with h | h | h
    · have hlt := hs r (rt wt i l) h (by omega)
      rw [← h5] at hlt
      rw [if_neg (fun z => Int32.lt_irrefl (show x < x by rw [← z] at hlt; exact hlt)), if_pos hlt]
      exact fnd_ok hs f i _ (by omega) (by omega) ⟨r, h3, by omega, h5⟩
    · rw [if_pos (by rw [h5, h])]
    · have hlt := hs (rt wt i l) r h (by omega)
      rw [← h5] at hlt
      rw [if_neg (fun z => Int32.lt_irrefl (show x < x by rw [← z] at hlt; exact hlt)), if_neg (Int32.not_lt.mpr (Int32.le_of_lt hlt))]
      exact fnd_ok hs f _ _ (by omega) (by omega) ⟨r, by omega, by omega, h5⟩
theorem kys_mono (cl : EL) : ∀ k a b, a < b → b < (kys cl k).length → (kys cl k).getD a 0 < (kys cl k).getD b 0
  | 0, a, b, _, h => absurd h (by simp [kys])
  | k + 1, a, b, hab, h => by
    by_cases hn : hasN (nI k) cl = true
    · rw [show kys cl (k + 1) = kys cl k ++ [k] from if_pos hn] at h ⊢
      rw [List.length_append] at h
      by_cases e : b = (kys cl k).length
      · subst e
        rw [getD_app, getD_app_lt hab]
        exact kys_get hab
      · have hb : b < (kys cl k).length := by simp at h; omega
        rw [getD_app_lt (by omega), getD_app_lt hb]
        exact kys_mono cl k a b hab hb
    · rw [show kys cl (k + 1) = kys cl k from if_neg hn] at h ⊢
      exact kys_mono cl k a b hab h
theorem kys_has (cl : EL) {q : Nat} (hq : hasN (nI q) cl = true) : ∀ k, q < k → ∃ r, r < (kys cl k).length ∧ (kys cl k).getD r 0 = q
  | 0, h => absurd h (Nat.not_lt_zero q)
  | k + 1, h => by
    by_cases e : q = k
    · subst e
      rw [show kys cl (q + 1) = kys cl q ++ [q] from if_pos hq]
      exact ⟨(kys cl q).length, by rw [List.length_append]; simp, getD_app⟩
    · obtain ⟨r, h1, h2⟩ := kys_has cl hq k (by omega)
      by_cases hn : hasN (nI k) cl = true
      · rw [show kys cl (k + 1) = kys cl k ++ [k] from if_pos hn]
        exact ⟨r, by rw [List.length_append]; omega, by rw [getD_app_lt h1]; exact h2⟩
      · rw [show kys cl (k + 1) = kys cl k from if_neg hn]
        exact ⟨r, h1, h2⟩
theorem mch_has {x : Int32} {f s : Int64} : ∀ {l : EL}, hasN x l = false → mch x f s l = false
  | [], _ => rfl
  | a :: t, h => by
    unfold hasN at h
    by_cases h1 : a.2.1 = x
    · rw [if_pos h1] at h; cases h
    · rw [if_neg h1] at h
      unfold mch
      rw [decide_eq_false h1, Bool.false_and, Bool.false_or]
      exact mch_has h
theorem actT_eq {fq : Nat → Nat} {el : EL} {d x : Int32} {fi se : Int64} (hel : el.length ≤ 10) (hx : vld x 32) : actT fq el d x fi se = fAct x fi se d el := by
  obtain ⟨q, hq, rfl⟩ := hx
  unfold actT
  have hc := rch_le hel
  by_cases h : hasN (nI q) (rch el) = true
  · obtain ⟨r, h1, h2⟩ := kys_has (rch el) h 32 hq
    have hk := kys_le (rch el) 32 (Nat.le_refl _)
    have := fnd_ok (ky := kyF (rch el)) (wt := wtF fq (rch el)) (n := ksz (rch el)) (x := nI q) (fun a b h1 h2 => by
      have g1 := kys_mono (rch el) 32 a b h1 h2
      have g2 := kys_get (cl := rch el) (k := 32) h2
      exact nI_lt g1 (by omega)) 10 0 (ksz (rch el)) (by unfold ksz; omega) (by omega) ⟨r, Nat.zero_le _, by unfold ksz; omega, by unfold kyF; rw [h2]⟩
    rw [if_pos this, fAct_rch]
  · have hf := Bool.eq_false_iff.mpr h
    have h3 : fAct (nI q) fi se d (rch el) = d := fAct_n (mch_has hf)
    rw [fAct_rch] at h3
    rw [fAct_rch, h3]
    split <;> rfl
/-! PATHS AND WORST PATHS, as small numbers -/
def low1 (m : Int64) : Nat := if (m &&& 4294967295) = 0 then 0 else 1
def upp1 (m : Int64) : Nat := if (m &&& (-4294967296)) = 0 then 0 else 1
def hTn (m : Int64) : Nat := low1 m + upp1 m
theorem low1_le (m : Int64) : low1 m ≤ 1 := by unfold low1; split <;> omega
theorem upp1_le (m : Int64) : upp1 m ≤ 1 := by unfold upp1; split <;> omega
theorem lowT_n (m : Int64) : lowT m = nI (low1 m) := by
  unfold lowT low1
  split <;> rfl
theorem uppT_n (m : Int64) : uppT m = nI (upp1 m) := by
  unfold uppT upp1
  split <;> rfl
theorem halT_n (m : Int64) : halT m = nI (hTn m) := by
  unfold halT hTn
  rw [lowT_n, uppT_n, nI_add]
def tTn (r : RV) (f s : Int64) : Nat := if (((ownA r f s &&& r.2.2.1) ^^^ r.2.2.2.1) &&& 4294967295) = 0 then hTn r.2.2.1 else low1 r.2.2.1
theorem tst_n (r : RV) (f s : Int64) : tstT r f s = nI (tTn r f s) := by
  unfold tstT tTn
  split
  · exact halT_n _
  · exact lowT_n _
theorem tTn_le (r : RV) (f s : Int64) : tTn r f s ≤ hTn r.2.2.1 := by
  unfold tTn hTn
  split <;> omega
def mRn (N : Int32) : EL → Nat
  | [] => 0
  | e :: t => if e.2.1 = N then hTn e.2.2.2.1 + mRn N t else mRn N t
def pRn (N : Int32) (f s : Int64) : EL → Nat
  | [] => 0
  | e :: t => if e.2.1 = N then (if matB e.2 f s = true then tTn e.2 f s else tTn e.2 f s + pRn N f s t) else pRn N f s t
theorem mRT_n (N : Int32) : ∀ el : EL, mRT N el = nI (mRn N el)
  | [] => rfl
  | e :: t => by
    unfold mRT mRn
    rw [mRT_n N t, halT_n]
    split
    · rw [nI_add]
    · rfl
theorem mRn_le (N : Int32) : ∀ el : EL, mRn N el ≤ 2 * el.length
  | [] => Nat.zero_le _
  | e :: t => by
    have h1 := mRn_le N t
    have h2 := low1_le e.2.2.2.1
    have h3 := upp1_le e.2.2.2.1
    unfold mRn hTn
    rw [List.length_cons]
    split <;> omega
theorem pRT_n (N : Int32) (f s : Int64) : ∀ el : EL, pRT N f s el = nI (pRn N f s el)
  | [] => rfl
  | e :: t => by
    unfold pRT pRn
    rw [pRT_n N f s t, tst_n]
    split
    · split
      · rfl
      · rw [nI_add]
    · rfl
theorem pRn_le (N : Int32) (f s : Int64) : ∀ el : EL, pRn N f s el ≤ mRn N el
  | [] => Nat.le_refl _
  | e :: t => by
    have h1 := pRn_le N f s t
    have h2 := tTn_le e.2 f s
    unfold pRn mRn
    split
    · split <;> omega
    · exact h1
theorem walk_le (ky : Nat → Int32) (wt : Nat → Nat) (x : Int32) : ∀ f i l t, walk ky wt x f i l t ≤ t + f
  | 0, i, l, t => Nat.le_refl _
  | f + 1, i, l, t => by
    have h1 := walk_le ky wt x f i (rt wt i l - i) (t + 1)
    have h2 := walk_le ky wt x f (rt wt i l + 1) (i + l - rt wt i l - 1) (t + 1)
    unfold walk
    split
    · omega
    · split
      · omega
      · split <;> omega
def mxn (g : Nat → Nat) : Nat → Nat
  | 0 => 0
  | n + 1 => if mxn g n < g n then g n else mxn g n
theorem mxn_le {g : Nat → Nat} {B : Nat} : ∀ n, (∀ k, k < n → g k ≤ B) → mxn g n ≤ B
  | 0, _ => Nat.zero_le _
  | n + 1, h => by
    have h1 := mxn_le n (fun k hk => h k (by omega))
    have h2 := h n (by omega)
    unfold mxn
    split <;> omega
theorem mxn_ge {g : Nat → Nat} : ∀ n k, k < n → g k ≤ mxn g n
  | 0, k, h => absurd h (Nat.not_lt_zero k)
  | n + 1, k, h => by
    unfold mxn
    by_cases e : k = n
    · subst e
      split <;> omega
    · have := mxn_ge (g := g) n k (by omega)
      split <;> omega
theorem mxN_n {g : Nat → Nat} : ∀ n, (∀ k, k < n → g k ≤ 1000000) → mxN (fun k => nI (g k)) n = nI (mxn g n)
  | 0, _ => rfl
  | n + 1, h => by
    have h1 := mxN_n n (fun k hk => h k (by omega))
    have h2 := h n (by omega)
    have h3 := mxn_le (g := g) (B := 1000000) n (fun k hk => h k (by omega))
    unfold mxN mxn
    rw [h1]
    by_cases c : mxn g n < g n
    · rw [if_pos c, if_pos ((nI_ltI (by omega) (by omega)).mpr c)]
    · rw [if_neg c, if_neg (fun q => c ((nI_ltI (by omega) (by omega)).mp q))]
def wFn (fq : Nat → Nat) (el : EL) : Nat := mxn (fun k => walk (kyF (rch el)) (wtF fq (rch el)) (nI k) 10 0 (ksz (rch el)) 0 + mRn (nI k) (rch el)) 32
theorem wk_le {fq : Nat → Nat} {el : EL} (hel : el.length ≤ 10) (k : Nat) : walk (kyF (rch el)) (wtF fq (rch el)) (nI k) 10 0 (ksz (rch el)) 0 + mRn (nI k) (rch el) ≤ 30 := by
  have h1 := walk_le (kyF (rch el)) (wtF fq (rch el)) (nI k) 10 0 (ksz (rch el)) 0
  have h2 := mRn_le (nI k) (rch el)
  have h3 := rch_le hel
  omega
theorem wF_n {fq : Nat → Nat} {el : EL} (hel : el.length ≤ 10) : wF fq el = nI (wFn fq el) := by
  unfold wF wstT wFn
  rw [← mxN_n 32 (fun k _ => Nat.le_trans (wk_le (fq := fq) hel k) (by decide))]
  congr 1
  funext k
  rw [mRT_n, nI_add]
theorem wFn_le {fq : Nat → Nat} {el : EL} (hel : el.length ≤ 10) : wFn fq el ≤ 30 := mxn_le 32 (fun k _ => wk_le hel k)
def pTn (fq : Nat → Nat) (el : EL) (x : Int32) (f s : Int64) : Nat := walk (kyF (rch el)) (wtF fq (rch el)) x 10 0 (ksz (rch el)) 0 + pRn x f s (rch el)
theorem pth_n (fq : Nat → Nat) (el : EL) (x : Int32) (f s : Int64) : pthT fq el x f s = nI (pTn fq el x f s) := by
  unfold pthT pTn
  rw [pRT_n, nI_add]
theorem pTn_le {fq : Nat → Nat} {el : EL} {x : Int32} {f s : Int64} (hx : vld x 32) : pTn fq el x f s ≤ wFn fq el := by
  obtain ⟨k, hk, rfl⟩ := hx
  have h1 := mxn_ge (g := fun k => walk (kyF (rch el)) (wtF fq (rch el)) (nI k) 10 0 (ksz (rch el)) 0 + mRn (nI k) (rch el)) 32 k hk
  have h2 := pRn_le (nI k) f s (rch el)
  unfold pTn wFn
  exact Nat.le_trans (Nat.add_le_add_left h2 _) h1
def smn (a : Nat → Nat) : Nat → Nat
  | 0 => 0
  | n + 1 => smn a n + a n
theorem smN_n {g : Nat → Int32} {a : Nat → Nat} : ∀ n, (∀ i, i < n → g i = nI (a i)) → smN g n = nI (smn a n)
  | 0, _ => rfl
  | n + 1, h => by
    unfold smN smn
    rw [smN_n n (fun i hi => h i (by omega)), h n (by omega), nI_add]
theorem smn_le {a b : Nat → Nat} : ∀ n, (∀ i, i < n → a i ≤ b i) → smn a n ≤ smn b n
  | 0, _ => Nat.le_refl _
  | n + 1, h => by
    have h1 := smn_le n (fun i hi => h i (by omega))
    have h2 := h n (by omega)
    unfold smn
    omega
theorem smn_bd {a : Nat → Nat} {B : Nat} : ∀ n, (∀ i, i < n → a i ≤ B) → smn a n ≤ n * B
  | 0, _ => by simp [smn]
  | n + 1, h => by
    have h1 := smn_bd n (fun i hi => h i (by omega))
    have h2 := h n (by omega)
    unfold smn
    rw [Nat.succ_mul]
    omega
