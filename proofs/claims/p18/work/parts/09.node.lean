/-! OBJECTS MADE: rules, nodes; and a step in a tree -/
set_option maxRecDepth 100000 in
set_option maxHeartbeats 4000000 in
theorem ct_X3_init {l : Launch} {G : Gp} {L : List Nat} {w : Wn} {q a : Nat} (h : Hs L w q a (.inr (4, [.int 0, .int 0, .long 0, .long 0, .int 0]))) (r : RV) : CV l yX3_init wsX3_init (rmD 2 0 0) G L w [.ref a, .int r.1, .int r.2.1, .long r.2.2.1, .long r.2.2.2.1, .int r.2.2.2.2] (fun u => u = (L, va_up w q (a, ruleE r))) := by
  refine mk_v (cc := cX3_init) (maxL := 8) [some (.ref a), some (.int r.1), some (.int r.2.1), some (.long r.2.2.1), none, some (.long r.2.2.2.1), none, some (.int r.2.2.2.2)] (by decide) rfl (Nat.le_of_ble_eq_true rfl) rfl ?_
  intro p e s m args below meth c A C hr hlk hnm
  have hin_X3 : ∀ x ∈ u_ws RX3 TX3 5, x ∈ wsX3_init := by decide +kernel
  refine j_aload_n (pc := 0) C rfl dX3_init_0 rfl ?_
  refine j_objInit (pc := 1) C (by decide +kernel) (by decide +kernel) (by decide +kernel) (Nat.le_of_ble_eq_true rfl) (by decide) (by decide) (by decide) (by decide) dX3_init_1 ?_
  refine j_aload_n (pc := 4) C rfl dX3_init_4 rfl ?_
  refine j_iload_n (pc := 5) C rfl dX3_init_5 rfl ?_
  refine j_putF (pc := 6) (fs2 := [.int r.1, .int 0, .long 0, .long 0, .int 0]) C hin_X3 h rfl 0 (by decide) tyX3 tyX3_ok nmX3 (by decide +kernel) rfl hnm.symm rfl (tyX3_ok 0 (by decide)) rfl rfl (Nat.le_of_ble_eq_true rfl) rfl dX3_init_6 ?_
  refine j_nm (fun w6 ew6 => ?_)
  have h : Hs L w6 q a (.inr (4, [.int r.1, .int 0, .long 0, .long 0, .int 0])) := by rw [ew6]; exact h.me
  refine j_aload_n (pc := 9) C rfl dX3_init_9 rfl ?_
  refine j_iload_n (pc := 10) C rfl dX3_init_10 rfl ?_
  refine j_putF (pc := 11) (fs2 := [.int r.1, .int r.2.1, .long 0, .long 0, .int 0]) C hin_X3 h rfl 1 (by decide) tyX3 tyX3_ok nmX3 (by decide +kernel) rfl hnm.symm rfl (tyX3_ok 1 (by decide)) rfl rfl (Nat.le_of_ble_eq_true rfl) rfl dX3_init_11 ?_
  refine j_nm (fun w11 ew11 => ?_)
  have h : Hs L w11 q a (.inr (4, [.int r.1, .int r.2.1, .long 0, .long 0, .int 0])) := by rw [ew11]; exact h.me
  refine j_aload_n (pc := 14) C rfl dX3_init_14 rfl ?_
  refine j_lload_n (pc := 15) C rfl dX3_init_15 rfl ?_
  refine j_putF (pc := 16) (fs2 := [.int r.1, .int r.2.1, .long r.2.2.1, .long 0, .int 0]) C hin_X3 h rfl 2 (by decide) tyX3 tyX3_ok nmX3 (by decide +kernel) rfl hnm.symm rfl (tyX3_ok 2 (by decide)) rfl rfl (Nat.le_of_ble_eq_true rfl) rfl dX3_init_16 ?_
  refine j_nm (fun w16 ew16 => ?_)
  have h : Hs L w16 q a (.inr (4, [.int r.1, .int r.2.1, .long r.2.2.1, .long 0, .int 0])) := by rw [ew16]; exact h.me
  refine j_aload_n (pc := 19) C rfl dX3_init_19 rfl ?_
  refine j_lload (pc := 20) C dX3_init_20 rfl ?_
  refine j_putF (pc := 22) (fs2 := [.int r.1, .int r.2.1, .long r.2.2.1, .long r.2.2.2.1, .int 0]) C hin_X3 h rfl 3 (by decide) tyX3 tyX3_ok nmX3 (by decide +kernel) rfl hnm.symm rfl (tyX3_ok 3 (by decide)) rfl rfl (Nat.le_of_ble_eq_true rfl) rfl dX3_init_22 ?_
  refine j_nm (fun w22 ew22 => ?_)
  have h : Hs L w22 q a (.inr (4, [.int r.1, .int r.2.1, .long r.2.2.1, .long r.2.2.2.1, .int 0])) := by rw [ew22]; exact h.me
  refine j_aload_n (pc := 25) C rfl dX3_init_25 rfl ?_
  refine j_iload (pc := 26) C dX3_init_26 rfl ?_
  refine j_putF (pc := 28) (fs2 := [.int r.1, .int r.2.1, .long r.2.2.1, .long r.2.2.2.1, .int r.2.2.2.2]) C hin_X3 h rfl 4 (by decide) tyX3 tyX3_ok nmX3 (by decide +kernel) rfl hnm.symm rfl (tyX3_ok 4 (by decide)) rfl rfl (Nat.le_of_ble_eq_true rfl) rfl dX3_init_28 ?_
  refine j_nm (fun w28 ew28 => ?_)
  have h : Hs L w28 q a (.inr (4, [.int r.1, .int r.2.1, .long r.2.2.1, .long r.2.2.2.1, .int r.2.2.2.2])) := by rw [ew28]; exact h.me
  exact ret_v C rfl hr hlk dX3_init_31 (by show (L, w28) = _; rw [ew28, ew22, ew16, ew11, ew6]; simp only [bx_uu]) (by decide) (by decide)

abbrev nodeE (nu te : Int32) (le gr : Option Nat) : va_E := .inr (2, [.int nu, .int te, va_rf le, va_rf gr])
set_option maxRecDepth 100000 in
set_option maxHeartbeats 4000000 in
theorem ct_X1_init0 {l : Launch} {G : Gp} {L : List Nat} {w : Wn} {q a : Nat} (h : Hs L w q a (.inr (2, [.int 0, .int 0, .null, .null]))) (nu te : Int32) : CV l yX1_init wsX1_init (rmD 2 0 0) G L w [.ref a, .int nu, .int te, .null, .null] (fun u => u = (L, va_up w q (a, nodeE nu te none none))) := by
  refine mk_v (cc := cX1_init) (maxL := 5) [some (.ref a), some (.int nu), some (.int te), some (.null), some (.null)] (by decide) rfl (Nat.le_of_ble_eq_true rfl) rfl ?_
  intro p e s m args below meth c A C hr hlk hnm
  have hin_X1 : ∀ x ∈ u_ws RX1 TX1 4, x ∈ wsX1_init := by decide +kernel
  refine j_aload_n (pc := 0) C rfl dX1_init_0 rfl ?_
  refine j_objInit (pc := 1) C (by decide +kernel) (by decide +kernel) (by decide +kernel) (Nat.le_of_ble_eq_true rfl) (by decide) (by decide) (by decide) (by decide) dX1_init_1 ?_
  refine j_aload_n (pc := 4) C rfl dX1_init_4 rfl ?_
  refine j_iload_n (pc := 5) C rfl dX1_init_5 rfl ?_
  refine j_putF (pc := 6) (fs2 := [.int nu, .int 0, .null, .null]) C hin_X1 h rfl 0 (by decide) tyX1 tyX1_ok nmX1 (by decide +kernel) rfl hnm.symm rfl (tyX1_ok 0 (by decide)) rfl rfl (Nat.le_of_ble_eq_true rfl) rfl dX1_init_6 ?_
  refine j_nm (fun w6 ew6 => ?_)
  have h : Hs L w6 q a (.inr (2, [.int nu, .int 0, .null, .null])) := by rw [ew6]; exact h.me
  refine j_aload_n (pc := 9) C rfl dX1_init_9 rfl ?_
  refine j_iload_n (pc := 10) C rfl dX1_init_10 rfl ?_
  refine j_putF (pc := 11) (fs2 := [.int nu, .int te, .null, .null]) C hin_X1 h rfl 1 (by decide) tyX1 tyX1_ok nmX1 (by decide +kernel) rfl hnm.symm rfl (tyX1_ok 1 (by decide)) rfl rfl (Nat.le_of_ble_eq_true rfl) rfl dX1_init_11 ?_
  refine j_nm (fun w11 ew11 => ?_)
  have h : Hs L w11 q a (.inr (2, [.int nu, .int te, .null, .null])) := by rw [ew11]; exact h.me
  refine j_aload_n (pc := 14) C rfl dX1_init_14 rfl ?_
  refine j_aload_nN (pc := 15) C rfl dX1_init_15 rfl ?_
  refine j_putF (pc := 16) (fs2 := [.int nu, .int te, .null, .null]) C hin_X1 h rfl 2 (by decide) tyX1 tyX1_ok nmX1 (by decide +kernel) rfl hnm.symm rfl (tyX1_ok 2 (by decide)) rfl rfl (Nat.le_of_ble_eq_true rfl) rfl dX1_init_16 ?_
  refine j_nm (fun w16 ew16 => ?_)
  have h : Hs L w16 q a (.inr (2, [.int nu, .int te, .null, .null])) := by rw [ew16]; exact h.me
  refine j_aload_n (pc := 19) C rfl dX1_init_19 rfl ?_
  refine j_aloadN (pc := 20) C dX1_init_20 rfl ?_
  refine j_putF (pc := 22) (fs2 := [.int nu, .int te, .null, .null]) C hin_X1 h rfl 3 (by decide) tyX1 tyX1_ok nmX1 (by decide +kernel) rfl hnm.symm rfl (tyX1_ok 3 (by decide)) rfl rfl (Nat.le_of_ble_eq_true rfl) rfl dX1_init_22 ?_
  refine j_nm (fun w22 ew22 => ?_)
  have h : Hs L w22 q a (.inr (2, [.int nu, .int te, .null, .null])) := by rw [ew22]; exact h.me
  exact ret_v C rfl hr hlk dX1_init_25 (by show (L, w22) = _; rw [ew22, ew16, ew11, ew6]; simp only [bx_uu]; rfl) (by decide) (by decide)

set_option maxRecDepth 100000 in
set_option maxHeartbeats 4000000 in
theorem ct_X1_init1 {l : Launch} {G : Gp} {L : List Nat} {w : Wn} {q a : Nat} (h : Hs L w q a (.inr (2, [.int 0, .int 0, .null, .null]))) (nu te : Int32) (gr : Nat) : CV l yX1_init wsX1_init (rmD 2 0 0) G L w [.ref a, .int nu, .int te, .null, .ref gr] (fun u => u = (L, va_up w q (a, nodeE nu te none (some gr)))) := by
  refine mk_v (cc := cX1_init) (maxL := 5) [some (.ref a), some (.int nu), some (.int te), some (.null), some (.ref gr)] (by decide) rfl (Nat.le_of_ble_eq_true rfl) rfl ?_
  intro p e s m args below meth c A C hr hlk hnm
  have hin_X1 : ∀ x ∈ u_ws RX1 TX1 4, x ∈ wsX1_init := by decide +kernel
  refine j_aload_n (pc := 0) C rfl dX1_init_0 rfl ?_
  refine j_objInit (pc := 1) C (by decide +kernel) (by decide +kernel) (by decide +kernel) (Nat.le_of_ble_eq_true rfl) (by decide) (by decide) (by decide) (by decide) dX1_init_1 ?_
  refine j_aload_n (pc := 4) C rfl dX1_init_4 rfl ?_
  refine j_iload_n (pc := 5) C rfl dX1_init_5 rfl ?_
  refine j_putF (pc := 6) (fs2 := [.int nu, .int 0, .null, .null]) C hin_X1 h rfl 0 (by decide) tyX1 tyX1_ok nmX1 (by decide +kernel) rfl hnm.symm rfl (tyX1_ok 0 (by decide)) rfl rfl (Nat.le_of_ble_eq_true rfl) rfl dX1_init_6 ?_
  refine j_nm (fun w6 ew6 => ?_)
  have h : Hs L w6 q a (.inr (2, [.int nu, .int 0, .null, .null])) := by rw [ew6]; exact h.me
  refine j_aload_n (pc := 9) C rfl dX1_init_9 rfl ?_
  refine j_iload_n (pc := 10) C rfl dX1_init_10 rfl ?_
  refine j_putF (pc := 11) (fs2 := [.int nu, .int te, .null, .null]) C hin_X1 h rfl 1 (by decide) tyX1 tyX1_ok nmX1 (by decide +kernel) rfl hnm.symm rfl (tyX1_ok 1 (by decide)) rfl rfl (Nat.le_of_ble_eq_true rfl) rfl dX1_init_11 ?_
  refine j_nm (fun w11 ew11 => ?_)
  have h : Hs L w11 q a (.inr (2, [.int nu, .int te, .null, .null])) := by rw [ew11]; exact h.me
  refine j_aload_n (pc := 14) C rfl dX1_init_14 rfl ?_
  refine j_aload_nN (pc := 15) C rfl dX1_init_15 rfl ?_
  refine j_putF (pc := 16) (fs2 := [.int nu, .int te, .null, .null]) C hin_X1 h rfl 2 (by decide) tyX1 tyX1_ok nmX1 (by decide +kernel) rfl hnm.symm rfl (tyX1_ok 2 (by decide)) rfl rfl (Nat.le_of_ble_eq_true rfl) rfl dX1_init_16 ?_
  refine j_nm (fun w16 ew16 => ?_)
  have h : Hs L w16 q a (.inr (2, [.int nu, .int te, .null, .null])) := by rw [ew16]; exact h.me
  refine j_aload_n (pc := 19) C rfl dX1_init_19 rfl ?_
  refine j_aload (pc := 20) C dX1_init_20 rfl ?_
  refine j_putF (pc := 22) (fs2 := [.int nu, .int te, .null, .ref gr]) C hin_X1 h rfl 3 (by decide) tyX1 tyX1_ok nmX1 (by decide +kernel) rfl hnm.symm rfl (tyX1_ok 3 (by decide)) rfl rfl (Nat.le_of_ble_eq_true rfl) rfl dX1_init_22 ?_
  refine j_nm (fun w22 ew22 => ?_)
  have h : Hs L w22 q a (.inr (2, [.int nu, .int te, .null, .ref gr])) := by rw [ew22]; exact h.me
  exact ret_v C rfl hr hlk dX1_init_25 (by show (L, w22) = _; rw [ew22, ew16, ew11, ew6]; simp only [bx_uu]; rfl) (by decide) (by decide)

set_option maxRecDepth 100000 in
set_option maxHeartbeats 4000000 in
theorem ct_X1_init2 {l : Launch} {G : Gp} {L : List Nat} {w : Wn} {q a : Nat} (h : Hs L w q a (.inr (2, [.int 0, .int 0, .null, .null]))) (nu te : Int32) (le : Nat) : CV l yX1_init wsX1_init (rmD 2 0 0) G L w [.ref a, .int nu, .int te, .ref le, .null] (fun u => u = (L, va_up w q (a, nodeE nu te (some le) none))) := by
  refine mk_v (cc := cX1_init) (maxL := 5) [some (.ref a), some (.int nu), some (.int te), some (.ref le), some (.null)] (by decide) rfl (Nat.le_of_ble_eq_true rfl) rfl ?_
  intro p e s m args below meth c A C hr hlk hnm
  have hin_X1 : ∀ x ∈ u_ws RX1 TX1 4, x ∈ wsX1_init := by decide +kernel
  refine j_aload_n (pc := 0) C rfl dX1_init_0 rfl ?_
  refine j_objInit (pc := 1) C (by decide +kernel) (by decide +kernel) (by decide +kernel) (Nat.le_of_ble_eq_true rfl) (by decide) (by decide) (by decide) (by decide) dX1_init_1 ?_
  refine j_aload_n (pc := 4) C rfl dX1_init_4 rfl ?_
  refine j_iload_n (pc := 5) C rfl dX1_init_5 rfl ?_
  refine j_putF (pc := 6) (fs2 := [.int nu, .int 0, .null, .null]) C hin_X1 h rfl 0 (by decide) tyX1 tyX1_ok nmX1 (by decide +kernel) rfl hnm.symm rfl (tyX1_ok 0 (by decide)) rfl rfl (Nat.le_of_ble_eq_true rfl) rfl dX1_init_6 ?_
  refine j_nm (fun w6 ew6 => ?_)
  have h : Hs L w6 q a (.inr (2, [.int nu, .int 0, .null, .null])) := by rw [ew6]; exact h.me
  refine j_aload_n (pc := 9) C rfl dX1_init_9 rfl ?_
  refine j_iload_n (pc := 10) C rfl dX1_init_10 rfl ?_
  refine j_putF (pc := 11) (fs2 := [.int nu, .int te, .null, .null]) C hin_X1 h rfl 1 (by decide) tyX1 tyX1_ok nmX1 (by decide +kernel) rfl hnm.symm rfl (tyX1_ok 1 (by decide)) rfl rfl (Nat.le_of_ble_eq_true rfl) rfl dX1_init_11 ?_
  refine j_nm (fun w11 ew11 => ?_)
  have h : Hs L w11 q a (.inr (2, [.int nu, .int te, .null, .null])) := by rw [ew11]; exact h.me
  refine j_aload_n (pc := 14) C rfl dX1_init_14 rfl ?_
  refine j_aload_n (pc := 15) C rfl dX1_init_15 rfl ?_
  refine j_putF (pc := 16) (fs2 := [.int nu, .int te, .ref le, .null]) C hin_X1 h rfl 2 (by decide) tyX1 tyX1_ok nmX1 (by decide +kernel) rfl hnm.symm rfl (tyX1_ok 2 (by decide)) rfl rfl (Nat.le_of_ble_eq_true rfl) rfl dX1_init_16 ?_
  refine j_nm (fun w16 ew16 => ?_)
  have h : Hs L w16 q a (.inr (2, [.int nu, .int te, .ref le, .null])) := by rw [ew16]; exact h.me
  refine j_aload_n (pc := 19) C rfl dX1_init_19 rfl ?_
  refine j_aloadN (pc := 20) C dX1_init_20 rfl ?_
  refine j_putF (pc := 22) (fs2 := [.int nu, .int te, .ref le, .null]) C hin_X1 h rfl 3 (by decide) tyX1 tyX1_ok nmX1 (by decide +kernel) rfl hnm.symm rfl (tyX1_ok 3 (by decide)) rfl rfl (Nat.le_of_ble_eq_true rfl) rfl dX1_init_22 ?_
  refine j_nm (fun w22 ew22 => ?_)
  have h : Hs L w22 q a (.inr (2, [.int nu, .int te, .ref le, .null])) := by rw [ew22]; exact h.me
  exact ret_v C rfl hr hlk dX1_init_25 (by show (L, w22) = _; rw [ew22, ew16, ew11, ew6]; simp only [bx_uu]; rfl) (by decide) (by decide)

set_option maxRecDepth 100000 in
set_option maxHeartbeats 4000000 in
theorem ct_X1_init3 {l : Launch} {G : Gp} {L : List Nat} {w : Wn} {q a : Nat} (h : Hs L w q a (.inr (2, [.int 0, .int 0, .null, .null]))) (nu te : Int32) (le : Nat) (gr : Nat) : CV l yX1_init wsX1_init (rmD 2 0 0) G L w [.ref a, .int nu, .int te, .ref le, .ref gr] (fun u => u = (L, va_up w q (a, nodeE nu te (some le) (some gr)))) := by
  refine mk_v (cc := cX1_init) (maxL := 5) [some (.ref a), some (.int nu), some (.int te), some (.ref le), some (.ref gr)] (by decide) rfl (Nat.le_of_ble_eq_true rfl) rfl ?_
  intro p e s m args below meth c A C hr hlk hnm
  have hin_X1 : ∀ x ∈ u_ws RX1 TX1 4, x ∈ wsX1_init := by decide +kernel
  refine j_aload_n (pc := 0) C rfl dX1_init_0 rfl ?_
  refine j_objInit (pc := 1) C (by decide +kernel) (by decide +kernel) (by decide +kernel) (Nat.le_of_ble_eq_true rfl) (by decide) (by decide) (by decide) (by decide) dX1_init_1 ?_
  refine j_aload_n (pc := 4) C rfl dX1_init_4 rfl ?_
  refine j_iload_n (pc := 5) C rfl dX1_init_5 rfl ?_
  refine j_putF (pc := 6) (fs2 := [.int nu, .int 0, .null, .null]) C hin_X1 h rfl 0 (by decide) tyX1 tyX1_ok nmX1 (by decide +kernel) rfl hnm.symm rfl (tyX1_ok 0 (by decide)) rfl rfl (Nat.le_of_ble_eq_true rfl) rfl dX1_init_6 ?_
  refine j_nm (fun w6 ew6 => ?_)
  have h : Hs L w6 q a (.inr (2, [.int nu, .int 0, .null, .null])) := by rw [ew6]; exact h.me
  refine j_aload_n (pc := 9) C rfl dX1_init_9 rfl ?_
  refine j_iload_n (pc := 10) C rfl dX1_init_10 rfl ?_
  refine j_putF (pc := 11) (fs2 := [.int nu, .int te, .null, .null]) C hin_X1 h rfl 1 (by decide) tyX1 tyX1_ok nmX1 (by decide +kernel) rfl hnm.symm rfl (tyX1_ok 1 (by decide)) rfl rfl (Nat.le_of_ble_eq_true rfl) rfl dX1_init_11 ?_
  refine j_nm (fun w11 ew11 => ?_)
  have h : Hs L w11 q a (.inr (2, [.int nu, .int te, .null, .null])) := by rw [ew11]; exact h.me
  refine j_aload_n (pc := 14) C rfl dX1_init_14 rfl ?_
  refine j_aload_n (pc := 15) C rfl dX1_init_15 rfl ?_
  refine j_putF (pc := 16) (fs2 := [.int nu, .int te, .ref le, .null]) C hin_X1 h rfl 2 (by decide) tyX1 tyX1_ok nmX1 (by decide +kernel) rfl hnm.symm rfl (tyX1_ok 2 (by decide)) rfl rfl (Nat.le_of_ble_eq_true rfl) rfl dX1_init_16 ?_
  refine j_nm (fun w16 ew16 => ?_)
  have h : Hs L w16 q a (.inr (2, [.int nu, .int te, .ref le, .null])) := by rw [ew16]; exact h.me
  refine j_aload_n (pc := 19) C rfl dX1_init_19 rfl ?_
  refine j_aload (pc := 20) C dX1_init_20 rfl ?_
  refine j_putF (pc := 22) (fs2 := [.int nu, .int te, .ref le, .ref gr]) C hin_X1 h rfl 3 (by decide) tyX1 tyX1_ok nmX1 (by decide +kernel) rfl hnm.symm rfl (tyX1_ok 3 (by decide)) rfl rfl (Nat.le_of_ble_eq_true rfl) rfl dX1_init_22 ?_
  refine j_nm (fun w22 ew22 => ?_)
  have h : Hs L w22 q a (.inr (2, [.int nu, .int te, .ref le, .ref gr])) := by rw [ew22]; exact h.me
  exact ret_v C rfl hr hlk dX1_init_25 (by show (L, w22) = _; rw [ew22, ew16, ew11, ew6]; simp only [bx_uu]; rfl) (by decide) (by decide)

theorem ct_X1_init {l : Launch} {G : Gp} {L : List Nat} {w : Wn} {q a : Nat} (h : Hs L w q a (.inr (2, [.int 0, .int 0, .null, .null]))) (nu te : Int32) : ∀ (le gr : Option Nat), CV l yX1_init wsX1_init (rmD 2 0 0) G L w [.ref a, .int nu, .int te, va_rf le, va_rf gr] (fun u => u = (L, va_up w q (a, nodeE nu te le gr)))
  | none, none => ct_X1_init0 h nu te
  | none, some gr => ct_X1_init1 h nu te gr
  | some le, none => ct_X1_init2 h nu te le
  | some le, some gr => ct_X1_init3 h nu te le gr
def tow (nu : Int32) (le gr : Option Nat) (x : Int32) : Option Nat := if x = nu then none else if x < nu then le else gr
set_option maxRecDepth 100000 in
set_option maxHeartbeats 4000000 in
theorem ct_X1_towards {l : Launch} {G : Gp} {L : List Nat} {w : Wn} {q a : Nat} {nu te : Int32} {le gr : Option Nat} (h : Hs L w q a (nodeE nu te le gr)) (x : Int32) : CQ l yX1_towards wsX1_towards (rmD 1 0 0) G L w [.ref a, .int x] (fun v u => v = tow nu le gr x ∧ u = (L, w)) := by
  refine mk_q (cc := cX1_towards) (maxL := 2) [some (.ref a), some (.int x)] (by decide) rfl (Nat.le_of_ble_eq_true rfl) rfl ?_
  intro p e s m args below meth c A C hr hlk hnm
  have hin_X1 : ∀ x ∈ u_ws RX1 TX1 4, x ∈ wsX1_towards := by decide +kernel
  refine j_iload_n (pc := 0) C rfl dX1_towards_0 rfl ?_
  refine j_aload_n (pc := 1) C rfl dX1_towards_1 rfl ?_
  refine j_get (pc := 2) C hin_X1 h rfl 0 (by decide) (by decide +kernel) rfl dX1_towards_2 ?_
  refine j_icmp_ne (pc := 5) (tgt := 10) C dX1_towards_5 (by decide) (fun c5 => ?_) (fun c5 => ?_)
  · refine j_iload_n (pc := 10) C rfl dX1_towards_10 rfl ?_
    refine j_aload_n (pc := 11) C rfl dX1_towards_11 rfl ?_
    refine j_get (pc := 12) C hin_X1 h rfl 0 (by decide) (by decide +kernel) rfl dX1_towards_12 ?_
    refine j_icmp_ge (pc := 15) (tgt := 25) C dX1_towards_15 (by decide) (fun c15 => ?_) (fun c15 => ?_)
    · refine j_aload_n (pc := 25) C rfl dX1_towards_25 rfl ?_
      refine j_get (pc := 26) C hin_X1 h rfl 3 (by decide) (by decide +kernel) rfl dX1_towards_26 ?_
      exact ret_a (r := gr) C rfl rfl hr (Or.inl ⟨_, rfl⟩) hlk dX1_towards_29 ⟨by unfold tow; rw [if_neg c5, if_neg (Int32.not_lt.mpr c15)], rfl⟩ (by decide) (by decide)
    · refine j_aload_n (pc := 18) C rfl dX1_towards_18 rfl ?_
      refine j_get (pc := 19) C hin_X1 h rfl 2 (by decide) (by decide +kernel) rfl dX1_towards_19 ?_
      refine j_goto (pc := 22) (tgt := 29) C dX1_towards_22 (by decide) ?_
      exact ret_a (r := le) C rfl rfl hr (Or.inl ⟨_, rfl⟩) hlk dX1_towards_29 ⟨by unfold tow; rw [if_neg c5, if_pos (Int32.not_le.mp c15)], rfl⟩ (by decide) (by decide)
  · refine j_null (pc := 8) C dX1_towards_8 ?_
    exact ret_a (r := none) C rfl rfl hr (Or.inl ⟨_, rfl⟩) hlk dX1_towards_9 ⟨by unfold tow; rw [if_pos c5], rfl⟩ (by decide) (by decide)

