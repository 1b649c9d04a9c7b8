/-! THE LIST OF RULES -/
def RulAt (L : List Nat) (w : Wn) (b : Nat) (r : RV) : Prop := ∃ qb, 1000 ≤ qb ∧ Hs L w qb b (ruleE r)
def Lst (G : Gp) (L : List Nat) (w : Wn) (q a : Nat) (el : EL) : Prop := ∃ mc ed, Hs L w q a (listE mc ed (nI el.length)) ∧ el.length ≤ 10 ∧ ((el = [] ∧ ed = G.2.2.1 ∧ (q + 100) ∉ L) ∨ ∃ row, Hs L w (q + 100) ed (arrE G 10 row) ∧ ∀ i (h : i < el.length), row i = some (el[i]).1) ∧ ∀ x ∈ el, RulAt L w x.1 x.2
theorem RulAt.fr {M N : Nat → Prop} {L L2 : List Nat} {w w2 : Wn} {b : Nat} {r : RV} (h : RulAt L w b r) (hf : Fr M N L w L2 w2) (hM : ∀ m, 1000 ≤ m → m ∈ L → ¬ M m) : RulAt L2 w2 b r := by
  obtain ⟨qb, h1, h2⟩ := h
  exact ⟨qb, h1, hf.hs h2 (hM qb h1 h2.1)⟩
theorem Lst.fr {M N : Nat → Prop} {G : Gp} {L L2 : List Nat} {w w2 : Wn} {q a : Nat} {el : EL} (h : Lst G L w q a el) (hf : Fr M N L w L2 w2) (h1 : ¬ M q) (h2 : ¬ M (q + 100)) (h3 : ¬ N (q + 100)) (hM : ∀ m, 1000 ≤ m → m ∈ L → ¬ M m) : Lst G L2 w2 q a el := by
  obtain ⟨mc, ed, g1, g2, g3, g4⟩ := h
  refine ⟨mc, ed, hf.hs g1 h1, g2, ?_, fun x hx => (g4 x hx).fr hf hM⟩
  rcases g3 with ⟨e1, e2, e3⟩ | ⟨row, e1, e2⟩
  · exact Or.inl ⟨e1, e2, hf.no e3 h3⟩
  · exact Or.inr ⟨row, hf.hs e1 h2, e2⟩
theorem Lst.le {G : Gp} {L : List Nat} {w : Wn} {q a : Nat} {el : EL} (h : Lst G L w q a el) : el.length ≤ 10 := by
  obtain ⟨mc, ed, g1, g2, g3, g4⟩ := h
  exact g2
theorem Lst.ru {G : Gp} {L : List Nat} {w : Wn} {q a : Nat} {el : EL} (h : Lst G L w q a el) {i : Nat} (hi : i < el.length) : RulAt L w (el[i]).1 (el[i]).2 := by
  obtain ⟨mc, ed, g1, g2, g3, g4⟩ := h
  exact g4 _ (List.getElem_mem hi)
abbrev FrL (q : Nat) (L : List Nat) (w : Wn) (L2 : List Nat) (w2 : Wn) : Prop := Fr (fun m => m = q ∨ m = q + 100) (fun m => m = q + 100) L w L2 w2
section JLST
variable {l : Launch} {G : Gp} {L : List Nat} {w : Wn} {q a : Nat} {el : EL}
theorem ct_lsize {mc : Int32} {ed : Nat} (h : Hs L w q a (listE mc ed (nI el.length))) : CI l yJx4a65c_size_8abf5 wsJx4a65c_size_8abf5 (rmD 1 0 0) G L w [.ref a] (fun r u => r = nI el.length ∧ u = (L, w)) := ct_size h
theorem ct_lget (h : Lst G L w q a el) {i : Nat} (hi : i < el.length) : CQ l yJx4a65c_get_915e3 wsJx4a65c_get_915e3 (rmD 3 0 0) G L w [.ref a, .int (nI i)] (fun r u => r = some (el[i]).1 ∧ u = (L, w)) := by
  obtain ⟨mc, ed, g1, g2, g3, g4⟩ := h
  rcases g3 with ⟨e1, e2, e3⟩ | ⟨row, e1, e2⟩
  · subst e1; exact absurd hi (Nat.not_lt_zero i)
  · exact ct_get g1 e1 (by omega) (by decide) (e2 i hi) hi (by omega)
theorem Met.imp9 {y : MethodName} {ws : List Cond} {rm : Room} {Pc : Array Value → State → Prop} {Qc Qd : Array Value → State → Outcome → State → Prop} {mc ms : Nat} {free : Addr → Prop} (h : Met l y ws rm Pc Qc mc ms free) (hq : ∀ a st o t, Qc a st o t → Qd a st o t) : Met l y ws rm Pc Qd mc ms free := fun p e ha hc hk s m args below hf hap hP hK => by
  obtain ⟨n, o, h1, h2, h3, h4, h5⟩ := h p e ha hc hk s m args below hf hap hP hK
  exact ⟨n, o, h1, h2, h3, hq _ _ _ _ h4, h5⟩
theorem CI.mono {y : MethodName} {ws : List Cond} {rm : Room} {av : List Value} {post post2 : Int32 → Sw → Prop} (h : CI l y ws rm G L w av post) (hp : ∀ r u, post r u → post2 r u) : CI l y ws rm G L w av post2 := fun sz => Met.imp9 (h sz) (fun a st o t hq => by
  obtain ⟨⟨r, u, h1, h2, h3⟩, h4⟩ := hq
  exact ⟨⟨r, u, h1, hp r u h2, h3⟩, h4⟩)
theorem CQ.mono {y : MethodName} {ws : List Cond} {rm : Room} {av : List Value} {post post2 : Option Nat → Sw → Prop} (h : CQ l y ws rm G L w av post) (hp : ∀ r u, post r u → post2 r u) : CQ l y ws rm G L w av post2 := fun sz => Met.imp9 (h sz) (fun a st o t hq => by
  obtain ⟨⟨r, u, h1, h2, h3⟩, h4⟩ := hq
  exact ⟨⟨r, u, h1, hp r u h2, h3⟩, h4⟩)
theorem CV.mono {y : MethodName} {ws : List Cond} {rm : Room} {av : List Value} {post post2 : Sw → Prop} (h : CV l y ws rm G L w av post) (hp : ∀ u, post u → post2 u) : CV l y ws rm G L w av post2 := fun sz => Met.imp9 (h sz) (fun a st o t hq => by
  obtain ⟨⟨u, h1, h2, h3⟩, h4⟩ := hq
  exact ⟨⟨u, h1, hp u h2, h3⟩, h4⟩)
theorem getElem_app {el : EL} {x : Nat × RV} {i : Nat} (h : i < (el ++ [x]).length) : (el ++ [x])[i] = if hi : i < el.length then el[i] else x := by
  rw [List.getElem_append]
  split
  · rfl
  · simp
theorem ladd_of {el : EL} {b : Nat} {r : RV} {row : Nat → Option Nat} (hrow : ∀ i (h : i < el.length), row i = some (el[i]).1) (hl : el.length < 10) (hru : ∀ x ∈ el, RulAt L w x.1 x.2) (hb : RulAt L w b r) (hq : q < 100) {u : Sw} (hp : AddP G q a el.length row b L w u) : Lst G u.1 u.2 q a (el ++ [(b, r)]) ∧ FrL q L w u.1 u.2 := by
  obtain ⟨mc, ed, row2, h1, h2, h3, h4, h5⟩ := hp
  have hM : ∀ m, 1000 ≤ m → m ∈ L → ¬ (m = q ∨ m = q + 100) := fun m h _ z => by omega
  refine ⟨⟨mc, ed, by rw [List.length_append]; exact h1, by rw [List.length_append]; simp; omega, Or.inr ⟨row2, h2, fun i hi => ?_⟩, fun x hx => ?_⟩, h5⟩
  · rw [getElem_app hi]
    split
    · rename_i z
      rw [h3 i z, hrow i z]
    · rename_i z
      have : i = el.length := by rw [List.length_append] at hi; simp at hi; omega
      rw [this, h4]
  · rcases List.mem_append.mp hx with z | z
    · exact (hru x z).fr h5 hM
    · rw [List.mem_singleton.mp z]
      exact hb.fr h5 hM
theorem ct_ladd (h : Lst G L w q a el) (hl : el.length < 10) {b : Nat} {r : RV} (hb : RulAt L w b r) (hq : q < 100) : CI l yJx4a65c_add_9ea2d wsJx4a65c_add_9ea2d (rmD 5 1 10) G L w [.ref a, .ref b] (fun x u => x = 1 ∧ Lst G u.1 u.2 q a (el ++ [(b, r)]) ∧ FrL q L w u.1 u.2) := by
  obtain ⟨mc, ed, g1, g2, g3, g4⟩ := h
  obtain ⟨qb, hb1, hb2⟩ := id hb
  rcases g3 with ⟨e1, e2, e3⟩ | ⟨row, e1, e2⟩
  · subst e1
    subst e2
    exact (ct_add1A g1 e3 hb2 hb1 hq).mono (fun x u hx => ⟨hx.1, ladd_of (el := []) (fun i hi => absurd hi (Nat.not_lt_zero i)) hl g4 hb hq hx.2⟩)
  · exact (ct_add1B g1 e1 hl hb2 hb1 hq).mono (fun x u hx => ⟨hx.1, ladd_of e2 hl g4 hb hq hx.2⟩)
theorem ct_lclear (h : Lst G L w q a el) (hq : q < 100) : CV l yJx4a65c_clear_da8c8 wsJx4a65c_clear_da8c8 (rmD 1 0 0) G L w [.ref a] (fun u => Lst G u.1 u.2 q a [] ∧ FrL q L w u.1 u.2) := by
  obtain ⟨mc, ed, g1, g2, g3, g4⟩ := h
  rcases g3 with ⟨e1, e2, e3⟩ | ⟨row, e1, e2⟩
  · subst e1
    refine (ct_clearA g1).mono (fun u hu => ?_)
    subst hu
    have hf : FrL q L w L (va_up w q (a, listE (mc + 1) ed 0)) := (Fr.up rfl).mono (fun m h => Or.inl h) (fun m h => h)
    exact ⟨⟨mc + 1, ed, g1.me, by simp, Or.inl ⟨rfl, e2, e3⟩, fun x hx => by cases hx⟩, hf⟩
  · refine (ct_clearB g1 e1 g2).mono (fun u hu => ?_)
    obtain ⟨mc2, row2, h1, h2, h3, h4⟩ := hu
    exact ⟨⟨mc2, ed, h1, by simp, Or.inr ⟨row2, h2, fun i hi => absurd hi (Nat.not_lt_zero i)⟩, fun x hx => by cases hx⟩, h3.mono (fun m h => h) (fun m h => h.elim)⟩
theorem ct_lremove (h : Lst G L w q a el) {i : Nat} (hi : i < el.length) (hq : q < 100) : CQ l yJx4a65c_remove_915e3 wsJx4a65c_remove_915e3 (rmD 3 0 0) G L w [.ref a, .int (nI i)] (fun x u => x = some (el[i]).1 ∧ Lst G u.1 u.2 q a (el.eraseIdx i) ∧ FrL q L w u.1 u.2) := by
  obtain ⟨mc, ed, g1, g2, g3, g4⟩ := h
  rcases g3 with ⟨e1, e2, e3⟩ | ⟨row, e1, e2⟩
  · subst e1; exact absurd hi (Nat.not_lt_zero i)
  · refine (ct_remove g1 e1 g2 hi hq (fun x hx y hy => ?_) (e2 i hi)).mono (fun x u hx => ?_)
    · rw [e2 x hx] at hy
      cases hy
      obtain ⟨qy, h1, h2⟩ := g4 _ (List.getElem_mem hx)
      exact ⟨qy, _, h1, h2⟩
    · obtain ⟨h0, mc2, row2, h1, h2, h3, h4, h5⟩ := hx
      have hM : ∀ m, 1000 ≤ m → m ∈ L → ¬ (m = q ∨ m = q + 100) := fun m h _ z => by omega
      have hlen : (el.eraseIdx i).length = el.length - 1 := List.length_eraseIdx_of_lt hi
      refine ⟨h0, ⟨mc2, ed, by rw [hlen]; exact h1, by rw [hlen]; omega, Or.inr ⟨row2, h2, fun k hk => ?_⟩, fun x hx => (g4 x (List.mem_of_mem_eraseIdx hx)).fr h4 hM⟩, h4.mono (fun m h => h) (fun m h => h.elim)⟩
      rw [hlen] at hk
      rw [h3 k hk, List.getElem_eraseIdx]
      unfold shf
      split
      · rename_i z
        exact e2 k (by omega)
      · rename_i z
        exact e2 (k + 1) (by omega)
end JLST
