/-! THE NUMBERS BEHIND: hidden rules, least trees -/
abbrev EL : Type := List (Nat × RV)
def d0 : RV := (0, 0, 0, 0, 0)
def e0 : Nat × RV := (0, d0)
/-- the first of n that has p -/
def fstF (p : Nat → Bool) : Nat → Option Nat
  | 0 => none
  | n + 1 => match fstF p n with
    | some j => some j
    | none => if p n then some n else none
theorem fstF_no (p : Nat → Bool) : ∀ n, fstF p n = none ↔ ∀ j, j < n → p j = false
  | 0 => ⟨fun _ j h => absurd h (Nat.not_lt_zero j), fun _ => rfl⟩
  | n + 1 => by
    have ih := fstF_no p n
    unfold fstF
    cases h : fstF p n with
    | some j =>
      simp only [reduceCtorEq, false_iff]
      intro q
      have := ih.mpr (fun j hj => q j (by omega))
      rw [h] at this; cases this
    | none =>
      have h2 := ih.mp h
      constructor
      · intro q j hj
        by_cases e : j = n
        · subst e
          cases hp : p j with
          | false => rfl
          | true => rw [hp] at q; cases q
        · exact h2 j (by omega)
      · intro q
        have : p n = false := q n (by omega)
        rw [this]; rfl
theorem fstF_at (p : Nat → Bool) {e : Nat} (h0 : ∀ j, j < e → p j = false) (h1 : p e = true) : ∀ n, e < n → fstF p n = some e
  | 0, h => absurd h (Nat.not_lt_zero e)
  | n + 1, h => by
    unfold fstF
    by_cases q : e < n
    · rw [fstF_at p h0 h1 n q]
    · have e1 : e = n := by omega
      subst e1
      rw [(fstF_no p e).mpr h0]
      simp [h1]
theorem fstF_some (p : Nat → Bool) {e : Nat} : ∀ n, fstF p n = some e → e < n ∧ p e = true ∧ ∀ j, j < e → p j = false
  | 0, h => by cases h
  | n + 1, h => by
    unfold fstF at h
    cases h1 : fstF p n with
    | some j =>
      rw [h1] at h
      cases h
      obtain ⟨a, b, c⟩ := fstF_some p n h1
      exact ⟨by omega, b, c⟩
    | none =>
      rw [h1] at h
      by_cases hp : p n = true
      · simp [hp] at h
        subst h
        exact ⟨by omega, hp, (fstF_no p n).mp h1⟩
      · simp [hp] at h
def onI : Option Nat → Int32
  | none => -1
  | some j => nI j
def hid (rs : List RV) (i : Nat) : Option Nat := if nevB (rs.getD i d0) then some i else fstF (fun j => covB (rs.getD j d0) (rs.getD i d0)) i
def rul (el : EL) : List RV := el.map Prod.snd
theorem rul_get {el : EL} {i : Nat} (h : i < el.length) : (rul el).getD i d0 = (el[i]).2 := by
  unfold rul
  simp [List.getD, h]
/-- what is not out of reach, of the first k -/
def rchN (el : EL) : Nat → EL
  | 0 => []
  | k + 1 => if hid (rul el) k = none then rchN el k ++ [el.getD k e0] else rchN el k
def rch (el : EL) : EL := rchN el el.length
theorem rchN_le (el : EL) : ∀ k, (rchN el k).length ≤ k
  | 0 => Nat.le_refl _
  | k + 1 => by
    have := rchN_le el k
    unfold rchN
    split
    · rw [List.length_append]; simp; omega
    · omega
def fAct (N : Int32) (f s : Int64) (d : Int32) : EL → Int32
  | [] => d
  | e :: t => if e.2.1 = N then (if matB e.2 f s = true then e.2.2.2.2.2 else fAct N f s d t) else fAct N f s d t
def mRT (N : Int32) : EL → Int32
  | [] => 0
  | e :: t => if e.2.1 = N then halT e.2.2.2.1 + mRT N t else mRT N t
def pRT (N : Int32) (f s : Int64) : EL → Int32
  | [] => 0
  | e :: t => if e.2.1 = N then (if matB e.2 f s = true then tstT e.2 f s else tstT e.2 f s + pRT N f s t) else pRT N f s t
def hasN (N : Int32) : EL → Bool
  | [] => false
  | e :: t => if e.2.1 = N then true else hasN N t
def mxN (g : Nat → Int32) : Nat → Int32
  | 0 => 0
  | n + 1 => if mxN g n < g n then g n else mxN g n
theorem drop_at {el : EL} {i : Nat} (h : i < el.length) : el.drop i = el[i] :: el.drop (i + 1) := List.drop_eq_getElem_cons h
/-! least trees -/
def amin (f : Nat → Nat) (i : Nat) : Nat → Nat
  | 0 => i
  | k + 1 => if f (i + k + 1) < f (amin f i k) then i + k + 1 else amin f i k
theorem amin_in (f : Nat → Nat) (i : Nat) : ∀ k, i ≤ amin f i k ∧ amin f i k ≤ i + k
  | 0 => ⟨Nat.le_refl _, Nat.le_refl _⟩
  | k + 1 => by
    have := amin_in f i k
    unfold amin
    split <;> omega
theorem amin_le (f : Nat → Nat) (i : Nat) : ∀ k j, i ≤ j → j ≤ i + k → f (amin f i k) ≤ f j
  | 0, j, h1, h2 => by
    have : j = i := by omega
    subst this
    exact Nat.le_refl _
  | k + 1, j, h1, h2 => by
    unfold amin
    by_cases e : j = i + k + 1
    · subst e
      split <;> omega
    · have := amin_le f i k j h1 (by omega)
      split <;> omega
def wsum (wt : Nat → Nat) (i : Nat) : Nat → Nat
  | 0 => 0
  | k + 1 => wsum wt i k + wt (i + k)
theorem wsum_le {wt : Nat → Nat} {B : Nat} (i : Nat) : ∀ k, (∀ j, i ≤ j → j < i + k → wt j ≤ B) → wsum wt i k ≤ k * B
  | 0, _ => by simp [wsum]
  | k + 1, h => by
    have h1 := wsum_le i k (fun j a b => h j a (by omega))
    have h2 := h (i + k) (by omega) (by omega)
    unfold wsum
    rw [Nat.succ_mul]
    omega
def tb (wt : Nat → Nat) : Nat → Nat → Nat → Nat × Nat
  | 0 => fun _ _ => (0, 0)
  | n + 1 => fun i l => if l = n + 1 then
      ((tb wt n i (amin (fun r => (tb wt n i (r - i)).1 + (tb wt n (r + 1) (i + n - r)).1) i n - i)).1 + (tb wt n (amin (fun r => (tb wt n i (r - i)).1 + (tb wt n (r + 1) (i + n - r)).1) i n + 1) (i + n - amin (fun r => (tb wt n i (r - i)).1 + (tb wt n (r + 1) (i + n - r)).1) i n)).1 + wsum wt i (n + 1),
       amin (fun r => (tb wt n i (r - i)).1 + (tb wt n (r + 1) (i + n - r)).1) i n) else tb wt n i l
def cs (wt : Nat → Nat) (i l : Nat) : Nat := (tb wt l i l).1
def rt (wt : Nat → Nat) (i l : Nat) : Nat := (tb wt l i l).2
theorem tb_st (wt : Nat → Nat) (i l : Nat) : ∀ n, l ≤ n → tb wt n i l = tb wt l i l
  | 0, h => by
    have : l = 0 := by omega
    subst this; rfl
  | n + 1, h => by
    by_cases e : l = n + 1
    · subst e; rfl
    · have := tb_st wt i l n (by omega)
      rw [← this]
      show (if l = n + 1 then _ else tb wt n i l) = _
      rw [if_neg e]
/-- the costs below a first test r of the run (i, n + 1) -/
def bel (wt : Nat → Nat) (i n r : Nat) : Nat := cs wt i (r - i) + cs wt (r + 1) (i + n - r)
theorem bel_eq (wt : Nat → Nat) (i n r : Nat) (h1 : i ≤ r) (h2 : r ≤ i + n) : (tb wt n i (r - i)).1 + (tb wt n (r + 1) (i + n - r)).1 = bel wt i n r := by
  unfold bel cs
  rw [tb_st wt i (r - i) n (by omega), tb_st wt (r + 1) (i + n - r) n (by omega)]
theorem amin_cg {f g : Nat → Nat} (i : Nat) : ∀ k, (∀ r, i ≤ r → r ≤ i + k → f r = g r) → amin f i k = amin g i k
  | 0, _ => rfl
  | k + 1, h => by
    have ih := amin_cg i k (fun r a b => h r a (by omega))
    unfold amin
    rw [ih, h (i + k + 1) (by omega) (by omega), h (amin g i k) (amin_in g i k).1 (by have := (amin_in g i k).2; omega)]
theorem rt_eq (wt : Nat → Nat) (i n : Nat) : rt wt i (n + 1) = amin (bel wt i n) i n := by
  unfold rt tb
  rw [if_pos rfl]
  exact amin_cg i n (fun r a b => bel_eq wt i n r a b)
theorem cs_eq (wt : Nat → Nat) (i n : Nat) : cs wt i (n + 1) = bel wt i n (amin (bel wt i n) i n) + wsum wt i (n + 1) := by
  unfold cs tb
  rw [if_pos rfl]
  have e := amin_cg (f := fun r => (tb wt n i (r - i)).1 + (tb wt n (r + 1) (i + n - r)).1) (g := bel wt i n) i n (fun r a b => bel_eq wt i n r a b)
  show (tb wt n i (amin (fun r => (tb wt n i (r - i)).1 + (tb wt n (r + 1) (i + n - r)).1) i n - i)).1 + _ + _ = _
  rw [e]
  have := bel_eq wt i n (amin (bel wt i n) i n) (amin_in _ i n).1 (amin_in _ i n).2
  omega
theorem cs_0 (wt : Nat → Nat) (i : Nat) : cs wt i 0 = 0 := rfl
theorem rt_in (wt : Nat → Nat) (i : Nat) {l : Nat} (h : 0 < l) : i ≤ rt wt i l ∧ rt wt i l < i + l := by
  obtain ⟨n, rfl⟩ : ∃ n, l = n + 1 := ⟨l - 1, by omega⟩
  rw [rt_eq]
  have := amin_in (bel wt i n) i n
  omega
theorem cs_le {wt : Nat → Nat} {B : Nat} (hB : ∀ j, wt j ≤ B) : ∀ (l i : Nat), cs wt i l ≤ l * l * B
  | 0, i => by rw [cs_0]; exact Nat.zero_le _
  | n + 1, i => by
    rw [cs_eq]
    have h1 := amin_le (bel wt i n) i n i (Nat.le_refl i) (by omega)
    have h2 : bel wt i n i = cs wt (i + 1) n := by
      unfold bel
      rw [Nat.sub_self, cs_0, Nat.zero_add, show i + n - i = n by omega]
    have h3 := cs_le hB n (i + 1)
    have h4 := wsum_le (wt := wt) (B := B) i (n + 1) (fun j _ _ => hB j)
    have h5 : (n + 1) * (n + 1) * B = n * n * B + n * B + (n + 1) * B := by
      rw [← Nat.add_mul, ← Nat.add_mul]
      congr 1
      rw [Nat.succ_mul, Nat.mul_succ]
    rw [h5]
    omega
theorem cs_small {wt : Nat → Nat} (hB : ∀ j, wt j ≤ 1001) {l i : Nat} (h : l ≤ 10) : cs wt i l ≤ 100100 := by
  have h1 := cs_le hB l i
  have h2 : l * l * 1001 ≤ 10 * 10 * 1001 := Nat.mul_le_mul_right _ (Nat.mul_le_mul h h)
  omega
theorem bel_small {wt : Nat → Nat} (hB : ∀ j, wt j ≤ 1001) {i n r : Nat} (h : n ≤ 10) (h1 : i ≤ r) (h2 : r ≤ i + n) : bel wt i n r ≤ 200200 := by
  unfold bel
  have a := cs_small hB (l := r - i) (i := i) (by omega)
  have b := cs_small hB (l := i + n - r) (i := r + 1) (by omega)
  omega
/-- how many numbers are tested until x is found, or is not: t were before -/
def walk (ky : Nat → Int32) (wt : Nat → Nat) (x : Int32) : Nat → Nat → Nat → Nat → Nat
  | 0, _, _, t => t
  | f + 1, i, l, t => if l = 0 then t else if x = ky (rt wt i l) then t + 1 else if x < ky (rt wt i l) then walk ky wt x f i (rt wt i l - i) (t + 1) else walk ky wt x f (rt wt i l + 1) (i + l - rt wt i l - 1) (t + 1)
/-- the number at a way down -/
def down (ky : Nat → Int32) (wt : Nat → Nat) : Nat → Nat → Nat → Nat → Int32
  | 0, _, _, _ => -1
  | f + 1, i, l, p => if l = 0 then -1 else if p ≤ 1 then ky (rt wt i l) else if p % 2 = 0 then down ky wt f i (rt wt i l - i) (p / 2) else down ky wt f (rt wt i l + 1) (i + l - rt wt i l - 1) (p / 2)
