/-! THE LAW FROM ITS ENTRY -/
theorem eq_spec0 {args : Array Value} {s : State} {t : Term} (h : (Cond.eq t (.int 0)).before args s = true) : t.eval args s none [] s = some (.int 0) := by
  simp only [Cond.before, Cond.holds, Cond.value] at h
  cases ht : t.eval args s none [] s with
  | none => simp [ht] at h
  | some v => cases v <;> simp_all [Term.eval]
theorem arr_prim {args : Array Value} {s : State} {ty : FieldType} (h : (Cond.arrayClass ty).before args s = true) : ∃ cA, ArrOfT s cA ty ∧ s.vm.findClass ("[" ++ ty.toString) = some cA := by
  obtain ⟨cA, kA, comp, h1, h2, h3⟩ := Cond.arrayClass_spec h
  exact ⟨cA, fun n z => ⟨fun k h => (by cases h), kA, h2, comp, h3⟩, h1⟩
theorem arr_obj {args : Array Value} {s : State} {C : String} (h : (Cond.arrayOver (.object C)).before args s = true) : ∃ cA, ArrOfT s cA (.object C) ∧ va_RA s cA (.object C) := by
  obtain ⟨comp, cA, kA, f0, _, f2, f3, f1⟩ := Cond.arrayOver_spec h
  exact ⟨cA, fun N z => ⟨(fun k h => by cases h), kA, f2, comp, f3⟩, kA, comp, f2, f3, f0, f1⟩
theorem arr_arr {args : Array Value} {s : State} {ty : FieldType} (h : (Cond.arrayOver (.array ty)).before args s = true) : ∃ cA, ArrOfT s cA (.array ty) ∧ va_RA s cA (.array ty) := by
  obtain ⟨comp, cA, kA, f0, _, f2, f3, f1⟩ := arrayOverA_spec h
  exact ⟨cA, fun N z => ⟨(fun k h => by cases h), kA, f2, comp, f3⟩, f1⟩
theorem xw_in : ∀ w ∈ xwords, w ∈ lw_tbl := by decide +kernel
theorem xs_in : ∀ q ∈ xstrs, Cond.stringRef q.1 q.2.1 q.2.2 ∈ lw_tbl := by decide +kernel
theorem xs_ex : ∀ q ∈ xstrs, Cond.exactly (.string q.1 q.2.1) "java/lang/String" ∈ flatC (Jvm.Cond.and given_1 narrow_1) := by decide +kernel
theorem xn_in : ∀ q ∈ xncs, Cond.not (.castable q.1 q.2) ∈ flatC (Jvm.Cond.and given_1 narrow_1) := by decide +kernel
theorem xs_own : ∀ q ∈ xstrs, q.1 = RX4 := by decide
theorem ext_in {s : State} {b : Nat} (hts : ∀ w ∈ lw_tbl, w.before #[Value.ref b] s = true) (hgv : (Jvm.Cond.and given_1 narrow_1).before #[Value.ref b] s = true) (D9 : va_G) (tc : Nat → ClassId) : ∃ (a : Nat) (f : Nat → Nat), Ext (D9, tc, a, f) (fun q => s.heap.size ≤ q) s s.heap := by
  have hA : ∀ a : Nat, a < s.heap.size → ¬ (fun q => s.heap.size ≤ q) a := fun a h => Nat.not_le.mpr h
  have hs := flat_of_before _ hgv
  obtain ⟨a, ha, hT⟩ := va_Tof (tm := .static RJx4a65c "DEFAULTCAPACITY_EMPTY_ELEMENTDATA" "[Ljava/lang/Object;") (ty := .object "java/lang/Object") (N := 0) (f := fun _ => .null) (A := fun q => s.heap.size ≤ q) (by decide) (hs _ (by decide +kernel)) (eq_spec0 (hs _ (by decide +kernel))) (fun j h => absurd h (Nat.not_lt_zero j)) hA
  have hf : ∃ f : Nat → Nat, ∀ q ∈ xstrs, (Term.string q.1 q.2.1).eval #[Value.ref b] s none [] s = some (.ref (f q.2.1)) := by
    have h1 : ∀ k : Nat, ∃ a9 : Nat, ∀ q ∈ xstrs, q.2.1 = k → (Term.string q.1 q.2.1).eval #[Value.ref b] s none [] s = some (.ref a9) := by
      intro k
      by_cases hk : ∃ q ∈ xstrs, q.2.1 = k
      · obtain ⟨q, hq, rfl⟩ := hk
        obtain ⟨a9, c9, cell9, k9, h9, -⟩ := Cond.exactly_spec (hs _ (xs_ex q hq))
        refine ⟨a9, fun q2 hq2 e2 => ?_⟩
        rw [xs_own q2 hq2, e2, ← xs_own q hq]
        exact h9
      · exact ⟨0, fun q hq e => absurd ⟨q, hq, e⟩ hk⟩
    exact ⟨fun k => (h1 k).choose, fun q hq => (h1 q.2.1).choose_spec q hq rfl⟩
  obtain ⟨f, hf⟩ := hf
  refine ⟨a, f, va_Zof (hts _ (by decide +kernel)) (hts _ (by decide +kernel)) ha hA, hT, vx_Zqof (hts _ (by decide +kernel)) (hts _ (by decide +kernel)) (hs _ (by decide +kernel)) hA, vx_Zqof (hts _ (by decide +kernel)) (hts _ (by decide +kernel)) (hs _ (by decide +kernel)) hA, fun w hw => va_Nw.of (xk_all w hw).2 (hts w (xw_in w hw)), fun q hq => ?_, va_AO.of (hts _ (by decide +kernel)), va_AO.of (hts _ (by decide +kernel)), ?_, fun q hq => va_Nc.of (hs _ (xn_in q hq))⟩
  · exact vk_R.of (hts _ (xs_in q hq)) (hf q hq)
  · have h9 : (Cond.arrayOver (.array .int)).before #[Value.ref b] s = true := hts _ (by decide +kernel)
    exact h9
theorem known_in {s : State} {b : Nat} (hts : ∀ w ∈ lw_tbl, w.before #[Value.ref b] s = true) : ∃ (D9 : va_G) (tc : Nat → ClassId), ∀ (a : Nat) (f : Nat → Nat), va_K D9 vwCl (tysG (D9, tc, a, f)) s := by
  obtain ⟨c0, i0, hK0⟩ := u_known (C := RJx4a65c) (T := TJx4a65c) (N := 3) (n := 3) hts inJx4a65c (hts _ (wsL_law_in (.instantiable RJx4a65c 3) (by decide +kernel)))
  obtain ⟨c1, i1, hK1⟩ := u_known (C := RX0) (T := TX0) (N := 5) (n := 5) hts inX0 (hts _ (wsL_law_in (.instantiable RX0 5) (by decide +kernel)))
  obtain ⟨c2, i2, hK2⟩ := u_known (C := RX1) (T := TX1) (N := 4) (n := 4) hts inX1 (hts _ (wsL_law_in (.instantiable RX1 4) (by decide +kernel)))
  obtain ⟨c3, i3, hK3⟩ := u_known (C := RX2) (T := TX2) (N := 5) (n := 5) hts inX2 (hts _ (wsL_law_in (.instantiable RX2 5) (by decide +kernel)))
  obtain ⟨c4, i4, hK4⟩ := u_known (C := RX3) (T := TX3) (N := 5) (n := 5) hts inX3 (hts _ (wsL_law_in (.instantiable RX3 5) (by decide +kernel)))
  obtain ⟨c5, i5, hK5⟩ := u_known (C := RX4) (T := TX4) (N := 4) (n := 4) hts inX4 (hts _ (wsL_law_in (.instantiable RX4 4) (by decide +kernel)))
  obtain ⟨t0, ht0, hn0⟩ := arr_prim (ty := .int) (hts (.arrayClass .int) (by decide +kernel))
  obtain ⟨t2, ht2, hn2⟩ := arr_obj (C := RX0) (hts _ (by decide +kernel))
  obtain ⟨t3, ht3, hn3⟩ := arr_obj (C := "java/lang/Object") (hts _ (by decide +kernel))
  obtain ⟨t4, ht4, hn4⟩ := arr_arr (ty := .int) (hts _ (by decide +kernel))
  refine ⟨(fun k => if k = 0 then c0 else if k = 1 then c1 else if k = 2 then c2 else if k = 3 then c3 else if k = 4 then c4 else c5, fun k => if k = 0 then i0 else if k = 1 then i1 else if k = 2 then i2 else if k = 3 then i3 else if k = 4 then i4 else i5), fun k => if k = 0 then t0 else if k = 1 then t0 else if k = 2 then t2 else if k = 3 then t3 else t4, fun a f => ⟨fun k q hq => ?_, fun k q hq => ?_⟩⟩
  · match k, hq with
    | 0, hq => cases hq; exact hK0
    | 1, hq => cases hq; exact hK1
    | 2, hq => cases hq; exact hK2
    | 3, hq => cases hq; exact hK3
    | 4, hq => cases hq; exact hK4
    | 5, hq => cases hq; exact hK5
    | k + 6, hq => simp [vwCl] at hq
  · match k, hq with
    | 0, hq => cases hq; exact ⟨ht0, hn0⟩
    | 1, hq => cases hq; exact ⟨ht0, hn0⟩
    | 2, hq => cases hq; exact ⟨ht2, hn2⟩
    | 3, hq => cases hq; exact ⟨ht3, hn3⟩
    | 4, hq => cases hq; exact ⟨ht4, hn4⟩
    | k + 5, hq => simp [tysG] at hq
theorem noTrace {l : Launch} (h : l.flags = flags0) : l.stackTraces = false := by
  unfold Launch.stackTraces
  rw [h]
  decide +kernel
theorem sg_0 : sg 0 = 200 := by decide
theorem MC_sw {m : Nat} (h : 0 < sg m ∧ sg m < 42) : 200 < m ∧ m < 242 := by
  by_cases h1 : m < 200
  · rw [sg_lo h1] at h; omega
  · by_cases h2 : m < 400
    · rw [sg_mi (by omega) h2] at h; omega
    · rw [sg_hi (by omega)] at h; omega
theorem OS.new {G : Gp} {ad : Nat → Nat} {L : List Nat} {w : Wn} (h : CS G ad L w 0 False (fun _ => 0) (fun _ => 0) (fun _ => [])) : OS G ad L w (0, fun _ => 0, fun _ => 0, fun _ => []) := ⟨fun _ => [], h.weak (fun z => absurd z (by decide)), fun _ => ⟨0, by decide, rfl⟩, rfl⟩
set_option maxRecDepth 100000 in
set_option maxHeartbeats 8000000 in
theorem law_start {p : Program} {l : Launch} {e : Env} {s : State} {m : MethodId} {below : List Frame} {meth : Method} {c : Code} {G : Gp} {b LL : Nat} {xs : Nat → Int32} (hlt : l.stackTraces = false) (hLL : LL ≤ 260) (C : Cx p s m #[Value.ref b] c cL_law RL 8 wsL_law G (fun q => s.heap.size ≤ q) s.heap) (hX : va_X b LL xs s s.heap) (hbl : b < s.heap.size) (hr : meth.sig.returnType = ret) (hlk : meth.locks = false) {w : Wn} : J p l e room_1 s m #[Value.ref b] below meth c G (fun q => s.heap.size ≤ q) s.heap 8 (lw_Z below #[Value.ref b] s) [] w (0) (0) 0 [some (.ref b), none, none, none, none, none, none, none] [] := by
  have hin_X4 : ∀ x ∈ u_ws RX4 TX4 4, x ∈ wsL_law := inlX4
  have hq0 : (0 : Nat) ∉ ([] : List Nat) := by simp
  refine j_new (pc := 0) (ci := 5) (k2 := 1) (n2 := 4) (fs := [.null, .null, .null, .int 0]) C 0 hq0 hin_X4 tyX4 tyX4_ok (by decide +kernel) (by decide +kernel) (by decide +kernel) rfl (fun j hj => by rcases (show j = 0 ∨ j = 1 ∨ j = 2 ∨ j = 3 by omega) with rfl | rfl | rfl | rfl <;> rfl) rfl rfl (Nat.le_of_ble_eq_true rfl) (Nat.le_of_ble_eq_true rfl) dL_law_0 (fun a0 => ?_)
  refine j_nm (fun w0 ew0 => ?_)
  have h0 : Hs ([] ++ [0]) w0 0 a0 (.inr (5, [.null, .null, .null, .int 0])) := by rw [ew0]; exact Hs.nw
  have hL0 : ∀ m, m ∈ ([] ++ [0] : List Nat) → m = 0 := fun m h => by simpa using h
  generalize ([] ++ [0] : List Nat) = L0 at h0 hL0 ⊢
  refine j_dup (pc := 3) C dL_law_3 rfl ?_
  refine jI_v (pc := 4) (k2 := 42) (n2 := 373) (np := 0) (As := []) C (ct_X4_init h0 (fun m z1 z2 h => by have := hL0 m h; omega) (fun m z1 z2 h => by have := hL0 m h; omega)) gL_law_X4_init rfl (by decide +kernel) (by decide +kernel) (by decide +kernel) rfl (by decide +kernel) ⟨by decide, by decide⟩ rfl rfl (Nat.le_of_ble_eq_true rfl) dL_law_4 (by decide) (by decide) ⟨Nat.le_of_ble_eq_true rfl, Nat.le_of_ble_eq_true rfl⟩ (fun L1 w1 hu => ?_)
  obtain ⟨ad, had, hcs, hf1⟩ := hu
  subst had
  have hS := OS.new hcs
  have hL1 : ∀ m, m ∈ L1 → m < 42 := fun m h => by
    rcases hf1.2.2 m h with h | h
    · have := hL0 m h; omega
    · omega
  refine j_astore_1 (pc := 7) C dL_law_7 (by decide) rfl ?_
  have hq2 : (200 : Nat) ∉ L1 := fun h => by have := hL1 200 h; omega
  refine j_new (pc := 8) (ci := 5) (k2 := 43) (n2 := 377) (fs := [.null, .null, .null, .int 0]) C 200 hq2 hin_X4 tyX4 tyX4_ok (by decide +kernel) (by decide +kernel) (by decide +kernel) rfl (fun j hj => by rcases (show j = 0 ∨ j = 1 ∨ j = 2 ∨ j = 3 by omega) with rfl | rfl | rfl | rfl <;> rfl) rfl rfl (Nat.le_of_ble_eq_true rfl) (Nat.le_of_ble_eq_true rfl) dL_law_8 (fun a2 => ?_)
  refine j_nm (fun w2 ew2 => ?_)
  have hf2 : Fr (fun _ => False) (fun m => m = 200) L1 w1 (L1 ++ [200]) w2 := Fr.push ew2 hq2
  have hS := hS.fr hf2 (fun m z => z.elim) (fun m z => by omega)
  have h2 : Hs (L1 ++ [200]) w2 200 a2 (.inr (5, [.null, .null, .null, .int 0])) := by rw [ew2]; exact Hs.nw
  have hL2 : ∀ m, m ∈ L1 ++ [200] → m < 42 ∨ m = 200 := fun m h => (List.mem_append.mp h).elim (fun h => Or.inl (hL1 m h)) (fun h => Or.inr (List.mem_singleton.mp h))
  generalize L1 ++ [200] = L2 at hS h2 hL2 hf2 ⊢
  have h2s : Hs (sL L2) (sW w2) 0 a2 (.inr (5, [.null, .null, .null, .int 0])) := h2.ws
  refine j_dup (pc := 11) C dL_law_11 rfl ?_
  refine jI_v (pc := 12) (k2 := 84) (n2 := 746) (np := 0) (As := []) C (ct_X4_init h2s (fun m z1 z2 h => by
    have h9 := hL2 _ (sL_mem.mp h)
    rw [sg_lo (by omega)] at h9
    omega) (fun m z1 z2 h => by
    have h9 := hL2 _ (sL_mem.mp h)
    rw [sg_lo (by omega)] at h9
    omega)).sw gL_law_X4_init rfl (by decide +kernel) (by decide +kernel) (by decide +kernel) rfl (by decide +kernel) ⟨by decide, by decide⟩ rfl rfl (Nat.le_of_ble_eq_true rfl) dL_law_12 (by decide) (by decide) ⟨Nat.le_of_ble_eq_true rfl, Nat.le_of_ble_eq_true rfl⟩ (fun L3 w3 hu => ?_)
  obtain ⟨ap, hap, hcp, hf3⟩ := hu
  subst hap
  have hp := OS.new hcp
  have hf3 : Fr (fun m => MC (sg m)) (fun m => 0 < sg m ∧ sg m < 42) L2 w2 L3 w3 := hf3.sw
  have hS := hS.fr hf3 (fun m z => by
    by_cases h1 : m < 200
    · rw [sg_lo h1] at z; unfold MC at z; omega
    · by_cases h2 : m < 400
      · omega
      · rw [sg_hi (by omega)] at z; unfold MC at z; omega) (fun m z => by have := MC_sw z; omega)
  refine j_astore_2 (pc := 15) C dL_law_15 (by decide) rfl ?_
  refine j_iconst (pc := 16) (v := 0) C dL_law_16 (by decide) ?_
  refine j_istore_3 (pc := 17) C dL_law_17 (by decide) rfl ?_
  exact law_loop hlt C hLL hX hbl hr hlk 61 0 L3 w3 _ rfl (by decide) hS hp
set_option maxRecDepth 100000 in
set_option maxHeartbeats 8000000 in
/-- from the entry, for every script of at most 260 ints, the law comes to its end with true -/
theorem whole_start {p : Program} {e : Env} {s : State} {m : MethodId} {below : List Frame} {meth : Method} {c : Code} (l : Launch) (hflags : l.flags = flags0) {b L : Nat} {xs : Nat → Int32} (hL : L ≤ 260) (C0 : lw_At p s m meth c b L xs) : W p l e room_1 s m #[Value.ref b] below meth c s.heap [] 0 0 (lw_Z below #[Value.ref b] s) (entryFrame m ([Value.ref b] : List Value).toArray 8) := by
  obtain ⟨hx, hb, hr, hml, hown, hts, hX, hbl, hlocks, hgv⟩ := id C0
  obtain ⟨D9, tc, hK⟩ := known_in hts
  obtain ⟨a, f, hE⟩ := ext_in hts hgv D9 tc
  have hl := lv_entry ([.ref b]) (n := 8) (Nat.le_of_ble_eq_true rfl)
  rw [lg_entry_eq]
  generalize (lg_sl ([.ref b]) ++ List.replicate (8 - (lg_sl ([.ref b])).length) Slot.unset).toArray = ls at hl ⊢
  have C : Cx p s m #[Value.ref b] c cL_law RL 8 wsL_law (D9, tc, a, f) (fun q => s.heap.size ≤ q) s.heap := ⟨hx, hb, hml, hown, fun w hw => hts w (wsL_law_in w hw), hK a f, fun q h => h, hE⟩
  exact law_start (noTrace hflags) hL C hX hbl hr hlocks (w := fun _ => (0, .inr (0, []))) s.heap [] ls (fun k q h => by simp at h) ⟨fun i j p q h => by simp at h, fun k q h => by simp at h⟩ va_S.rf hl
