/-! THE LIST, its changes -/
set_option maxRecDepth 100000 in
set_option maxHeartbeats 4000000 in
theorem ct_grow1 {l : Launch} {G : Gp} {L : List Nat} {w : Wn} {q a : Nat} {mc : Int32} (h : Hs L w q a (listE mc G.2.2.1 0)) (hq : (q + 100) ∉ L) : CQ l yJx4a65c_grow_92f84 wsJx4a65c_grow_92f84 (rmD 2 1 10) G L w [.ref a, .int 1] (fun r u => ∃ e2, r = some e2 ∧ u = (L ++ [q + 100], va_up (va_up w (q + 100) (e2, arrE G 10 (fun _ => none))) q (a, listE mc e2 0))) := by
  refine mk_q (cc := cJx4a65c_grow_92f84) (maxL := 4) [some (.ref a), some (.int 1), none, none] (by decide) rfl (Nat.le_of_ble_eq_true rfl) rfl ?_
  intro p e s m args below meth c A C hr hlk hnm
  have hin_Jx4a65c : ∀ x ∈ u_ws RJx4a65c TJx4a65c 3, x ∈ wsJx4a65c_grow_92f84 := by decide +kernel
  refine j_aload_n (pc := 0) C rfl dJx4a65c_grow_92f84_0 rfl ?_
  refine j_get (pc := 1) C hin_Jx4a65c h rfl 1 (by decide) (by decide +kernel) rfl dJx4a65c_grow_92f84_1 ?_
  refine j_elen (pc := 4) C rfl dJx4a65c_grow_92f84_4 ?_
  refine j_istore_2 (pc := 5) C dJx4a65c_grow_92f84_5 (by decide) rfl ?_
  refine j_iload_n (pc := 6) C rfl dJx4a65c_grow_92f84_6 rfl ?_
  refine j_if_gt (pc := 7) (tgt := 20) C dJx4a65c_grow_92f84_7 (by decide) (fun z9 => absurd z9 (by decide)) (fun _ => ?_)
  refine j_aload_n (pc := 10) C rfl dJx4a65c_grow_92f84_10 rfl ?_
  refine j_get (pc := 11) C hin_Jx4a65c h rfl 1 (by decide) (by decide +kernel) rfl dJx4a65c_grow_92f84_11 ?_
  refine j_gets (pc := 14) C rfl (by decide +kernel) dJx4a65c_grow_92f84_14 ?_
  refine j_acmp_eq (pc := 17) (tgt := 45) C dJx4a65c_grow_92f84_17 (by decide) (fun _ => ?_) (fun z9 => absurd rfl z9)
  refine j_aload_n (pc := 45) C rfl dJx4a65c_grow_92f84_45 rfl ?_
  refine j_bipush (pc := 46) (v := 10) C dJx4a65c_grow_92f84_46 (by decide) ?_
  refine j_iload_n (pc := 48) C rfl dJx4a65c_grow_92f84_48 rfl ?_
  refine j_max (pc := 49) C (by decide +kernel) (by decide +kernel) (by decide +kernel) (by decide +kernel) (by decide) (by decide) (Nat.le_of_ble_eq_true rfl) (by decide) (by decide) dJx4a65c_grow_92f84_49 ?_
  refine j_newqO (pc := 52) (N := 10) (k2 := 1) (n2 := 10) C (q + 100) hq (by decide +kernel) (by decide) (by decide) (by decide) rfl rfl (by decide) (by decide) dJx4a65c_grow_92f84_52 (fun e2 => ?_)
  refine j_nm (fun w52 ew52 => ?_)
  have h : Hs (L ++ [q + 100]) w52 q a (listE mc G.2.2.1 0) := by rw [ew52]; exact h.nx hq
  refine j_dup_x1 (pc := 55) C dJx4a65c_grow_92f84_55 rfl rfl ?_
  refine j_put (pc := 56) (fs2 := [.int mc, .ref e2, .int 0]) C hin_Jx4a65c h rfl 1 (by decide) tyJx4a65c tyJx4a65c_ok nmJx4a65c (by decide +kernel) rfl (tyJx4a65c_ok 1 (by decide)) rfl rfl (Nat.le_of_ble_eq_true rfl) rfl dJx4a65c_grow_92f84_56 ?_
  refine j_nm (fun w56 ew56 => ?_)
  have h : Hs (L ++ [q + 100]) w56 q a (.inr (0, [.int mc, .ref e2, .int 0])) := by rw [ew56]; exact h.me
  exact ret_a (r := some e2) C rfl rfl hr (Or.inr ⟨_, rfl⟩) hlk dJx4a65c_grow_92f84_59 ⟨e2, rfl, by show (_, w56) = _; rw [ew56, ew52]⟩ (by decide) (by decide)

set_option maxRecDepth 100000 in
set_option maxHeartbeats 4000000 in
theorem ct_grow0 {l : Launch} {G : Gp} {L : List Nat} {w : Wn} {q a : Nat} {mc : Int32} (h : Hs L w q a (listE mc G.2.2.1 0)) (hq : (q + 100) ∉ L) : CQ l yJx4a65c_grow_d5877 wsJx4a65c_grow_d5877 (rmD 3 1 10) G L w [.ref a] (fun r u => ∃ e2, r = some e2 ∧ u = (L ++ [q + 100], va_up (va_up w (q + 100) (e2, arrE G 10 (fun _ => none))) q (a, listE mc e2 0))) := by
  refine mk_q (cc := cJx4a65c_grow_d5877) (maxL := 1) [some (.ref a)] (by decide) rfl (Nat.le_of_ble_eq_true rfl) rfl ?_
  intro p e s m args below meth c A C hr hlk hnm
  have hin_Jx4a65c : ∀ x ∈ u_ws RJx4a65c TJx4a65c 3, x ∈ wsJx4a65c_grow_d5877 := by decide +kernel
  refine j_aload_n (pc := 0) C rfl dJx4a65c_grow_d5877_0 rfl ?_
  refine j_aload_n (pc := 1) C rfl dJx4a65c_grow_d5877_1 rfl ?_
  refine j_get (pc := 2) C hin_Jx4a65c h rfl 2 (by decide) (by decide +kernel) rfl dJx4a65c_grow_d5877_2 ?_
  refine j_iconst (pc := 5) (v := 1) C dJx4a65c_grow_d5877_5 (by decide) ?_
  refine j_iadd (pc := 6) C dJx4a65c_grow_d5877_6 ?_
  refine jV_q (pc := 7) (k2 := 1) (n2 := 10) (np := 1) (As := [.int 1]) C (ct_grow1 h hq) gJx4a65c_grow_d5877_Jx4a65c_grow_92f84 rfl (by decide +kernel) ⟨by decide, by decide⟩ h rfl rfl rfl (Nat.le_of_ble_eq_true rfl) dJx4a65c_grow_d5877_7 (by decide) (by decide) ⟨by decide, by decide⟩ (fun v L2 w2 hv => ?_)
  obtain ⟨e2, rfl, hu⟩ := hv
  exact ret_a (r := some e2) C rfl rfl hr (Or.inr ⟨_, rfl⟩) hlk dJx4a65c_grow_d5877_10 ⟨e2, rfl, hu⟩ (by decide) (by decide)

set_option maxRecDepth 100000 in
set_option maxHeartbeats 4000000 in
theorem ct_add3B {l : Launch} {G : Gp} {L : List Nat} {w : Wn} {q a ed : Nat} {mc : Int32} {n : Nat} (h : Hs L w q a (listE mc ed (nI n))) {row : Nat → Option Nat} (he : Hs L w (q + 100) ed (arrE G 10 row)) (hn : n < 10) {qb b : Nat} {r : RV} (hb : Hs L w qb b (ruleE r)) (hqb : 1000 ≤ qb) (hqs : q < 100) : CV l yJx4a65c_add_72be8 wsJx4a65c_add_72be8 (rmD 4 1 10) G L w [.ref a, .ref b, .ref ed, .int (nI n)] (fun u => u = (L, va_up (va_up w (q + 100) (ed, arrE G 10 (va_up row n (some b)))) q (a, listE mc ed (nI (n + 1))))) := by
  refine mk_v (cc := cJx4a65c_add_72be8) (maxL := 4) [some (.ref a), some (.ref b), some (.ref ed), some (.int (nI n))] (by decide) rfl (Nat.le_of_ble_eq_true rfl) rfl ?_
  intro p e s m args below meth c A C hr hlk hnm
  have hin_Jx4a65c : ∀ x ∈ u_ws RJx4a65c TJx4a65c 3, x ∈ wsJx4a65c_add_72be8 := by decide +kernel
  refine j_iload_n (pc := 0) C rfl dJx4a65c_add_72be8_0 rfl ?_
  refine j_aload_n (pc := 1) C rfl dJx4a65c_add_72be8_1 rfl ?_
  refine j_alenO (pc := 2) C he dJx4a65c_add_72be8_2 ?_
  refine j_icmp_ne (pc := 3) (tgt := 11) C dJx4a65c_add_72be8_3 (by decide) (fun _ => ?_) (fun z9 => absurd ((nI_eq (by omega) (by decide)).mp z9) (by omega))
  refine j_aload_n (pc := 11) C rfl dJx4a65c_add_72be8_11 rfl ?_
  refine j_iload_n (pc := 12) C rfl dJx4a65c_add_72be8_12 rfl ?_
  refine j_aload_n (pc := 13) C rfl dJx4a65c_add_72be8_13 rfl ?_
  refine j_astO (pc := 14) C he hb rfl (Or.inl (by decide +kernel)) rfl hn (by decide) dJx4a65c_add_72be8_14 ?_
  refine j_nm (fun w14 ew14 => ?_)
  have h := hs_up1 h ew14 (by omega)
  have he : Hs L w14 (q + 100) ed (arrE G 10 (va_up row n (some b))) := by rw [ew14]; exact he.me
  have hb := hs_up1 hb ew14 (by omega)
  refine j_aload_n (pc := 15) C rfl dJx4a65c_add_72be8_15 rfl ?_
  refine j_iload_n (pc := 16) C rfl dJx4a65c_add_72be8_16 rfl ?_
  refine j_iconst (pc := 17) (v := 1) C dJx4a65c_add_72be8_17 (by decide) ?_
  refine j_iadd (pc := 18) C dJx4a65c_add_72be8_18 ?_
  refine j_st (by rw [show (1 : Int32) = nI 1 from rfl, nI_add]) ?_
  refine j_put (pc := 19) (fs2 := [.int mc, .ref ed, .int (nI (n + 1))]) C hin_Jx4a65c h rfl 2 (by decide) tyJx4a65c tyJx4a65c_ok nmJx4a65c (by decide +kernel) rfl (tyJx4a65c_ok 2 (by decide)) rfl rfl (Nat.le_of_ble_eq_true rfl) rfl dJx4a65c_add_72be8_19 ?_
  refine j_nm (fun w19 ew19 => ?_)
  have h : Hs L w19 q a (.inr (0, [.int mc, .ref ed, .int (nI (n + 1))])) := by rw [ew19]; exact h.me
  have he := hs_up1 he ew19 (by omega)
  have hb := hs_up1 hb ew19 (by omega)
  exact ret_v C rfl hr hlk dJx4a65c_add_72be8_22 (by show (L, w19) = _; rw [ew19, ew14]) (by decide) (by decide)

theorem up_sw {w : Wn} {q p : Nat} {x y z : Nat × va_E} (h : q ≠ p) : va_up (va_up (va_up (va_up w p x) q y) p z) q y = va_up (va_up w p z) q y := by
  funext m
  by_cases e : m = q
  · subst e; simp [va_up]
  · by_cases e2 : m = p
    · subst e2; simp [va_up, e]
    · simp [va_up, e, e2]
theorem up_sw2 {w : Wn} {q p : Nat} {x y z t : Nat × va_E} (h : q ≠ p) : va_up (va_up (va_up (va_up w p x) q y) p z) q t = va_up (va_up w p z) q t := by
  funext m
  by_cases e : m = q
  · subst e; simp [va_up]
  · by_cases e2 : m = p
    · subst e2; simp [va_up, e]
    · simp [va_up, e, e2]
set_option maxRecDepth 100000 in
set_option maxHeartbeats 4000000 in
theorem ct_add3A {l : Launch} {G : Gp} {L : List Nat} {w : Wn} {q a : Nat} {mc : Int32} (h : Hs L w q a (listE mc G.2.2.1 0)) (hq : (q + 100) ∉ L) {qb b : Nat} {r : RV} (hb : Hs L w qb b (ruleE r)) (hqb : 1000 ≤ qb) (hqs : q < 100) : CV l yJx4a65c_add_72be8 wsJx4a65c_add_72be8 (rmD 4 1 10) G L w [.ref a, .ref b, .ref G.2.2.1, .int 0] (fun u => ∃ e2, u = (L ++ [q + 100], va_up (va_up w (q + 100) (e2, arrE G 10 (va_up (fun _ => none) 0 (some b)))) q (a, listE mc e2 1))) := by
  refine mk_v (cc := cJx4a65c_add_72be8) (maxL := 4) [some (.ref a), some (.ref b), some (.ref G.2.2.1), some (.int 0)] (by decide) rfl (Nat.le_of_ble_eq_true rfl) rfl ?_
  intro p e s m args below meth c A C hr hlk hnm
  have hin_Jx4a65c : ∀ x ∈ u_ws RJx4a65c TJx4a65c 3, x ∈ wsJx4a65c_add_72be8 := by decide +kernel
  refine j_iload_n (pc := 0) C rfl dJx4a65c_add_72be8_0 rfl ?_
  refine j_aload_n (pc := 1) C rfl dJx4a65c_add_72be8_1 rfl ?_
  refine j_elen (pc := 2) C rfl dJx4a65c_add_72be8_2 ?_
  refine j_icmp_ne (pc := 3) (tgt := 11) C dJx4a65c_add_72be8_3 (by decide) (fun z9 => absurd rfl z9) (fun _ => ?_)
  refine j_aload_n (pc := 6) C rfl dJx4a65c_add_72be8_6 rfl ?_
  refine jV_q (pc := 7) (k2 := 1) (n2 := 10) (np := 0) (As := []) C (ct_grow0 h hq) gJx4a65c_add_72be8_Jx4a65c_grow_d5877 rfl (by decide +kernel) ⟨by decide, by decide⟩ h rfl rfl rfl (Nat.le_of_ble_eq_true rfl) dJx4a65c_add_72be8_7 (by decide) (by decide) ⟨by decide, by decide⟩ (fun v L2 w2 hv => ?_)
  obtain ⟨e2, rfl, hu⟩ := hv
  cases hu
  refine j_nm (fun w2 ew2 => ?_)
  have he : Hs (L ++ [q + 100]) w2 (q + 100) e2 (arrE G 10 (fun _ => none)) := by rw [ew2]; exact Hs.up Hs.nw (by omega)
  have hb : Hs (L ++ [q + 100]) w2 qb b (ruleE r) := by rw [ew2]; exact (hb.nx hq).up (by omega)
  have h : Hs (L ++ [q + 100]) w2 q a (listE mc e2 0) := by rw [ew2]; exact (h.nx hq).me
  refine j_astore_2 (pc := 10) C dJx4a65c_add_72be8_10 (by decide) rfl ?_
  refine j_aload_n (pc := 11) C rfl dJx4a65c_add_72be8_11 rfl ?_
  refine j_iload_n (pc := 12) C rfl dJx4a65c_add_72be8_12 rfl ?_
  refine j_aload_n (pc := 13) C rfl dJx4a65c_add_72be8_13 rfl ?_
  refine j_astO (pc := 14) C he hb rfl (Or.inl (by decide +kernel)) rfl (show 0 < 10 by decide) (by decide) dJx4a65c_add_72be8_14 ?_
  refine j_nm (fun w14 ew14 => ?_)
  have h := hs_up1 h ew14 (by omega)
  have hb := hs_up1 hb ew14 (by omega)
  have he : Hs (L ++ [q + 100]) w14 (q + 100) e2 (arrE G 10 (va_up (fun _ => none) 0 (some b))) := by rw [ew14]; exact he.me
  refine j_aload_n (pc := 15) C rfl dJx4a65c_add_72be8_15 rfl ?_
  refine j_iload_n (pc := 16) C rfl dJx4a65c_add_72be8_16 rfl ?_
  refine j_iconst (pc := 17) (v := 1) C dJx4a65c_add_72be8_17 (by decide) ?_
  refine j_iadd (pc := 18) C dJx4a65c_add_72be8_18 ?_
  refine j_put (pc := 19) (fs2 := [.int mc, .ref e2, .int 1]) C hin_Jx4a65c h rfl 2 (by decide) tyJx4a65c tyJx4a65c_ok nmJx4a65c (by decide +kernel) rfl (tyJx4a65c_ok 2 (by decide)) rfl rfl (Nat.le_of_ble_eq_true rfl) rfl dJx4a65c_add_72be8_19 ?_
  refine j_nm (fun w19 ew19 => ?_)
  have h : Hs (L ++ [q + 100]) w19 q a (.inr (0, [.int mc, .ref e2, .int 1])) := by rw [ew19]; exact h.me
  have hb := hs_up1 hb ew19 (by omega)
  have he := hs_up1 he ew19 (by omega)
  exact ret_v C rfl hr hlk dJx4a65c_add_72be8_22 ⟨e2, by show (_, w19) = _; rw [ew19, ew14, ew2, up_sw2 (by omega)]⟩ (by decide) (by decide)

