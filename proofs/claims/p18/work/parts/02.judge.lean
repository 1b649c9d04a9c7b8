/-! THE NAMED WORLD: cells by names (numbers), an order of names L, what each name holds: w n = (address, contents) -/
abbrev Wn : Type := Nat → Nat × va_E
abbrev Sw : Type := List Nat × Wn
def Hs (L : List Nat) (w : Wn) (n a : Nat) (e : va_E) : Prop := n ∈ L ∧ w n = (a, e)
theorem Hs.up {L : List Nat} {w : Wn} {n a : Nat} {e : va_E} (h : Hs L w n a e) {m : Nat} {x : Nat × va_E} (hm : n ≠ m) : Hs L (va_up w m x) n a e := ⟨h.1, by rw [va_up_ne _ _ hm]; exact h.2⟩
theorem Hs.me {L : List Nat} {w : Wn} {n a b : Nat} {e e' : va_E} (h : Hs L w n a e) : Hs L (va_up w n (b, e')) n b e' := ⟨h.1, by simp [va_up]⟩
theorem Hs.to {L L' : List Nat} {w w' : Wn} {n a : Nat} {e : va_E} (h : Hs L w n a e) (hL : ∀ m, m ∈ L → m ∈ L') (hw : w' n = w n) : Hs L' w' n a e := ⟨hL _ h.1, by rw [hw]; exact h.2⟩
theorem Hs.nx {L : List Nat} {w : Wn} {n a : Nat} {e : va_E} (h : Hs L w n a e) {m : Nat} {x : Nat × va_E} (hm : m ∉ L) : Hs (L ++ [m]) (va_up w m x) n a e := ⟨List.mem_append_left _ h.1, by rw [va_up_ne _ _ (fun q => hm (by rw [← q]; exact h.1))]; exact h.2⟩
theorem Hs.nw {L : List Nat} {w : Wn} {m a : Nat} {e : va_E} : Hs (L ++ [m]) (va_up w m (a, e)) m a e := ⟨List.mem_append_right _ (List.mem_singleton.mpr rfl), by simp [va_up]⟩
theorem hs_at {L : List Nat} {w : Wn} {n a : Nat} {e : va_E} (h : Hs L w n a e) : ∃ k : Nat, L[k]? = some n ∧ (L.map w)[k]? = some (a, e) := by
  obtain ⟨i, hi⟩ := List.getElem?_of_mem h.1
  exact ⟨i, hi, by rw [List.getElem?_map, hi]; exact congrArg some h.2⟩
theorem hs_set {A : Nat → Prop} {L : List Nat} {w : Wn} {n k : Nat} {x : Nat × va_E} (hD : va_D A (L.map w)) (hk : L[k]? = some n) : (L.map w).set k x = L.map (va_up w n x) := by
  apply List.ext_getElem?
  intro i
  have hkl : k < L.length := (List.getElem?_eq_some_iff.mp hk).1
  by_cases e : k = i
  · subst e
    rw [List.getElem?_set_self (by rw [List.length_map]; exact hkl), List.getElem?_map, hk]
    simp [va_up]
  · rw [List.getElem?_set_ne e, List.getElem?_map, List.getElem?_map]
    cases hi : L[i]? with
    | none => rfl
    | some m =>
      have hne : m ≠ n := fun q => by
        subst q
        exact e (hD.1 k i (w m) (w m) (by rw [List.getElem?_map, hk]; rfl) (by rw [List.getElem?_map, hi]; rfl) rfl)
      show some (w m) = some (va_up w n x m)
      rw [va_up_ne _ _ hne]
theorem hs_push {L : List Nat} {w : Wn} {n : Nat} {x : Nat × va_E} (hn : n ∉ L) : L.map w ++ [x] = (L ++ [n]).map (va_up w n x) := by
  rw [List.map_append]
  congr 1
  · apply List.map_congr_left
    intro a ha
    rw [va_up_ne _ _ (fun q => hn (by rw [← q]; exact ha))]
  · simp [va_up]
theorem hs_lt {D : va_G} {cl : List vw_C} {L : List Nat} {w : Wn} {H : Heap} {n a : Nat} {e : va_E} (hP : va_P D cl (L.map w) H) (h : Hs L w n a e) : a < H.size := by
  obtain ⟨k, -, hk⟩ := hs_at h
  exact (hP k _ hk).lt
theorem hs_inj {A : Nat → Prop} {L : List Nat} {w : Wn} {n m a : Nat} {e f : va_E} (hD : va_D A (L.map w)) (h : Hs L w n a e) (g : Hs L w m a f) : n = m := by
  obtain ⟨k, hk, hk2⟩ := hs_at h
  obtain ⟨j, hj, hj2⟩ := hs_at g
  have := hD.1 k j _ _ hk2 hj2 rfl
  subst this
  exact Option.some.inj (hk.symm.trans hj)
/-- a name that is not there yet -/
theorem fresh_at (L : List Nat) (b : Nat) : ∃ n, b ≤ n ∧ n ∉ L := by
  refine ⟨b + L.sum + 1, by omega, fun h => ?_⟩
  have : ∀ (l : List Nat) (x : Nat), x ∈ l → x ≤ l.sum := fun l => by
    induction l with
    | nil => intro x hx; cases hx
    | cons y t ih =>
      intro x hx
      rw [List.sum_cons]
      rcases List.mem_cons.mp hx with rfl | h
      · omega
      · have := ih x h; omega
  have := this L _ h
  omega
/-! LOCALS BY THEIR PLACE -/
def lq : Nat → List (Option Value) → List (Nat × Value)
  | _, [] => []
  | k, none :: t => lq (k + 1) t
  | k, some v :: t => (k, v) :: lq (k + 1) t
theorem lq_mem : ∀ (l : List (Option Value)) (k i : Nat) (v : Value), l[i]? = some (some v) → (k + i, v) ∈ lq k l
  | [], _, i, _, h => by cases i <;> cases h
  | none :: t, k, 0, v, h => by cases h
  | some x :: t, k, 0, v, h => by cases h; exact List.mem_cons_self
  | none :: t, k, i + 1, v, h => by
    have := lq_mem t (k + 1) i v h
    rw [show k + (i + 1) = k + 1 + i by omega]
    exact this
  | some x :: t, k, i + 1, v, h => by
    have := lq_mem t (k + 1) i v h
    rw [show k + (i + 1) = k + 1 + i by omega]
    exact List.mem_cons_of_mem _ this
theorem lq_inv : ∀ (l : List (Option Value)) (k : Nat) (q : Nat × Value), q ∈ lq k l → ∃ i, q.1 = k + i ∧ l[i]? = some (some q.2)
  | [], _, q, h => by cases h
  | none :: t, k, q, h => by
    obtain ⟨i, h1, h2⟩ := lq_inv t (k + 1) q h
    exact ⟨i + 1, by omega, h2⟩
  | some x :: t, k, q, h => by
    rcases List.mem_cons.mp h with rfl | h
    · exact ⟨0, rfl, rfl⟩
    · obtain ⟨i, h1, h2⟩ := lq_inv t (k + 1) q h
      exact ⟨i + 1, by omega, h2⟩
theorem lh_mono {ls : Array Slot} {n : Nat} {l l' : List (Nat × Value)} (h : lv_has ls n l) (hs : ∀ q ∈ l', q ∈ l) : lv_has ls n l' := ⟨h.1, h.2.1, fun q hq => h.2.2 q (hs q hq)⟩
theorem lh_at {ls : Array Slot} {n : Nat} {lo : List (Option Value)} (h : lv_has ls n (lq 0 lo)) {i : Nat} {v : Value} (hi : lo[i]? = some (some v)) : ls[i]? = some (.val v) := by
  have h1 := lq_mem lo 0 i v hi
  rw [Nat.zero_add] at h1
  exact h.2.2 (i, v) h1
/-- weaker locals -/
def lw1 : List (Option Value) → List (Option Value) → Prop
  | _, [] => True
  | [], none :: t => lw1 [] t
  | [], some _ :: _ => False
  | _ :: s, none :: t => lw1 s t
  | a :: s, some v :: t => a = some v ∧ lw1 s t
theorem lw1_at : ∀ (l l' : List (Option Value)), lw1 l l' → ∀ (i : Nat) (v : Value), l'[i]? = some (some v) → l[i]? = some (some v)
  | _, [], _, i, v, h => by cases i <;> cases h
  | [], none :: t, h0, i, v, h => by
    cases i with
    | zero => cases h
    | succ i => exact absurd (lw1_at [] t h0 i v h) (by simp)
  | [], some _ :: _, h0, _, _, _ => h0.elim
  | a :: s, none :: t, h0, i, v, h => by
    cases i with
    | zero => cases h
    | succ i => exact lw1_at s t h0 i v h
  | a :: s, some x :: t, h0, i, v, h => by
    cases i with
    | zero => cases h; rw [h0.1]; rfl
    | succ i => exact lw1_at s t h0.2 i v h
theorem lh_weak {ls : Array Slot} {n : Nat} {lo lo' : List (Option Value)} (h : lv_has ls n (lq 0 lo)) (hw : lw1 lo lo') : lv_has ls n (lq 0 lo') := lh_mono h (fun q hq => by
  obtain ⟨i, h1, h2⟩ := lq_inv lo' 0 q hq
  have := lq_mem lo 0 i q.2 (lw1_at lo lo' hw i q.2 h2)
  rw [← h1] at this
  exact this)
def okc : Option Value → Bool
  | none => true
  | some v => v.category != 2
/-- the places i of one word (two: the next is none then) take v -/
theorem lh_store {ls : Array Slot} {n i : Nat} {v : Value} {lo lo' : List (Option Value)} {b2 : Bool}
    (h : lv_has ls n ((i, v) :: (lq 0 lo).filter (fun q => !(q.1 == i) && !(q.1 + 1 == i && q.2.category == 2))))
    (hi : ∀ (j : Nat) (y : Value), lo'[j]? = some (some y) → (j = i ∧ y = v) ∨ (j ≠ i ∧ lo[j]? = some (some y)))
    (hp : ∀ (j : Nat) (y : Value), j + 1 = i → lo[j]? = some (some y) → y.category ≠ 2) : lv_has ls n (lq 0 lo') := lh_mono h (fun q hq => by
  obtain ⟨j, h1, h2⟩ := lq_inv lo' 0 q hq
  rw [Nat.zero_add] at h1
  rcases hi j q.2 h2 with ⟨e1, e2⟩ | ⟨e1, e2⟩
  · rw [show q = (i, v) from Prod.ext (h1.trans e1) e2]
    exact List.mem_cons_self
  · refine List.mem_cons_of_mem _ (List.mem_filter.mpr ⟨?_, ?_⟩)
    · have := lq_mem lo 0 j q.2 e2
      rw [Nat.zero_add, ← h1] at this
      exact this
    · rw [Bool.and_eq_true]
      refine ⟨?_, ?_⟩
      · simp [h1, e1]
      · by_cases e : j + 1 = i
        · have := hp j q.2 e e2
          simp [this]
        · simp [h1, e])
