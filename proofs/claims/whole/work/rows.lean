section
-- ===== PART A: goes FIRST, ahead of the names: the tables' words, and 'selects' of the private methods out of them =====
/-- a private method of a class that the tables say can be made, by its rows of tables_1 -/
def lw_okq (q : MethodName × Nat) : Prop := (q.1.cls ≠ "java/lang/invoke/MethodHandle" ∧ q.1.cls ≠ "java/lang/invoke/VarHandle") ∧ Cond.instantiable q.1.cls q.2 ∈ tables_1 ∧ Cond.privateMethod q.1 ∈ tables_1 ∧ Cond.instanceMethod q.1 ∈ tables_1
theorem lw_p0 : lw_okq (⟨"java/lang/Throwable", "fillInStackTrace", "(I)Ljava/lang/Throwable;"⟩, 6) := ⟨⟨by decide +kernel, by decide +kernel⟩, List.mem_of_getElem? (i := 175) (by decide +kernel), List.mem_of_getElem? (i := 173) (by decide +kernel), List.mem_of_getElem? (i := 174) (by decide +kernel)⟩
theorem lw_p1 : lw_okq (⟨"java/util/ArrayList", "add", "(Ljava/lang/Object;[Ljava/lang/Object;I)V"⟩, 3) := ⟨⟨by decide +kernel, by decide +kernel⟩, List.mem_of_getElem? (i := 63) (by decide +kernel), List.mem_of_getElem? (i := 270) (by decide +kernel), List.mem_of_getElem? (i := 271) (by decide +kernel)⟩
theorem lw_p2 : lw_okq (⟨"java/util/ArrayList", "grow", "()[Ljava/lang/Object;"⟩, 3) := ⟨⟨by decide +kernel, by decide +kernel⟩, List.mem_of_getElem? (i := 63) (by decide +kernel), List.mem_of_getElem? (i := 274) (by decide +kernel), List.mem_of_getElem? (i := 275) (by decide +kernel)⟩
theorem lw_p3 : lw_okq (⟨"java/util/ArrayList", "grow", "(I)[Ljava/lang/Object;"⟩, 3) := ⟨⟨by decide +kernel, by decide +kernel⟩, List.mem_of_getElem? (i := 63) (by decide +kernel), List.mem_of_getElem? (i := 278) (by decide +kernel), List.mem_of_getElem? (i := 279) (by decide +kernel)⟩
theorem lw_p4 : lw_okq (⟨"SyscallFilter", "requireRule", "(II)V"⟩, 4) := ⟨⟨by decide +kernel, by decide +kernel⟩, List.mem_of_getElem? (i := 23) (by decide +kernel), List.mem_of_getElem? (i := 331) (by decide +kernel), List.mem_of_getElem? (i := 332) (by decide +kernel)⟩
theorem lw_p5 : lw_okq (⟨"java/util/ArrayList", "fastRemove", "([Ljava/lang/Object;I)V"⟩, 3) := ⟨⟨by decide +kernel, by decide +kernel⟩, List.mem_of_getElem? (i := 63) (by decide +kernel), List.mem_of_getElem? (i := 366) (by decide +kernel), List.mem_of_getElem? (i := 367) (by decide +kernel)⟩
theorem lw_p6 : lw_okq (⟨"SyscallFilter", "planTrees", "()V"⟩, 4) := ⟨⟨by decide +kernel, by decide +kernel⟩, List.mem_of_getElem? (i := 23) (by decide +kernel), List.mem_of_getElem? (i := 430) (by decide +kernel), List.mem_of_getElem? (i := 431) (by decide +kernel)⟩
theorem lw_p7 : lw_okq (⟨"SyscallFilter$Filter", "gatherReached", "()V"⟩, 5) := ⟨⟨by decide +kernel, by decide +kernel⟩, List.mem_of_getElem? (i := 57) (by decide +kernel), List.mem_of_getElem? (i := 438) (by decide +kernel), List.mem_of_getElem? (i := 439) (by decide +kernel)⟩
theorem lw_p8 : lw_okq (⟨"SyscallFilter$Filter", "isReached", "(I)Z"⟩, 5) := ⟨⟨by decide +kernel, by decide +kernel⟩, List.mem_of_getElem? (i := 57) (by decide +kernel), List.mem_of_getElem? (i := 451) (by decide +kernel), List.mem_of_getElem? (i := 452) (by decide +kernel)⟩
theorem lw_p9 : lw_okq (⟨"SyscallFilter$Planner", "weighTrees", "(II)V"⟩, 5) := ⟨⟨by decide +kernel, by decide +kernel⟩, List.mem_of_getElem? (i := 33) (by decide +kernel), List.mem_of_getElem? (i := 463) (by decide +kernel), List.mem_of_getElem? (i := 464) (by decide +kernel)⟩
theorem lw_p10 : lw_okq (⟨"SyscallFilter$Planner", "costBelow", "(III)I"⟩, 5) := ⟨⟨by decide +kernel, by decide +kernel⟩, List.mem_of_getElem? (i := 33) (by decide +kernel), List.mem_of_getElem? (i := 467) (by decide +kernel), List.mem_of_getElem? (i := 468) (by decide +kernel)⟩
theorem lw_p11 : lw_okq (⟨"SyscallFilter$Planner", "weightOf", "(II)I"⟩, 5) := ⟨⟨by decide +kernel, by decide +kernel⟩, List.mem_of_getElem? (i := 33) (by decide +kernel), List.mem_of_getElem? (i := 471) (by decide +kernel), List.mem_of_getElem? (i := 472) (by decide +kernel)⟩
theorem lw_p12 : lw_okq (⟨"SyscallFilter", "worstPathOfAll", "()I"⟩, 4) := ⟨⟨by decide +kernel, by decide +kernel⟩, List.mem_of_getElem? (i := 23) (by decide +kernel), List.mem_of_getElem? (i := 509) (by decide +kernel), List.mem_of_getElem? (i := 510) (by decide +kernel)⟩
theorem lw_p13 : lw_okq (⟨"SyscallFilter$Filter", "numberTests", "(I)I"⟩, 5) := ⟨⟨by decide +kernel, by decide +kernel⟩, List.mem_of_getElem? (i := 57) (by decide +kernel), List.mem_of_getElem? (i := 517) (by decide +kernel), List.mem_of_getElem? (i := 518) (by decide +kernel)⟩
theorem lw_p14 : lw_okq (⟨"SyscallFilter$Filter", "lastTest", "(I)LSyscallFilter$Node;"⟩, 5) := ⟨⟨by decide +kernel, by decide +kernel⟩, List.mem_of_getElem? (i := 57) (by decide +kernel), List.mem_of_getElem? (i := 521) (by decide +kernel), List.mem_of_getElem? (i := 522) (by decide +kernel)⟩
theorem lw_p15 : lw_okq (⟨"SyscallFilter$Filter", "mostRuleTests", "(I)I"⟩, 5) := ⟨⟨by decide +kernel, by decide +kernel⟩, List.mem_of_getElem? (i := 57) (by decide +kernel), List.mem_of_getElem? (i := 529) (by decide +kernel), List.mem_of_getElem? (i := 530) (by decide +kernel)⟩
def lw_privs_1 : List (MethodName × Nat) := [(⟨"java/lang/Throwable", "fillInStackTrace", "(I)Ljava/lang/Throwable;"⟩, 6), (⟨"java/util/ArrayList", "add", "(Ljava/lang/Object;[Ljava/lang/Object;I)V"⟩, 3), (⟨"java/util/ArrayList", "grow", "()[Ljava/lang/Object;"⟩, 3), (⟨"java/util/ArrayList", "grow", "(I)[Ljava/lang/Object;"⟩, 3), (⟨"SyscallFilter", "requireRule", "(II)V"⟩, 4), (⟨"java/util/ArrayList", "fastRemove", "([Ljava/lang/Object;I)V"⟩, 3), (⟨"SyscallFilter", "planTrees", "()V"⟩, 4), (⟨"SyscallFilter$Filter", "gatherReached", "()V"⟩, 5), (⟨"SyscallFilter$Filter", "isReached", "(I)Z"⟩, 5), (⟨"SyscallFilter$Planner", "weighTrees", "(II)V"⟩, 5), (⟨"SyscallFilter$Planner", "costBelow", "(III)I"⟩, 5), (⟨"SyscallFilter$Planner", "weightOf", "(II)I"⟩, 5), (⟨"SyscallFilter", "worstPathOfAll", "()I"⟩, 4), (⟨"SyscallFilter$Filter", "numberTests", "(I)I"⟩, 5), (⟨"SyscallFilter$Filter", "lastTest", "(I)LSyscallFilter$Node;"⟩, 5), (⟨"SyscallFilter$Filter", "mostRuleTests", "(I)I"⟩, 5)]
theorem lw_r1 : ∀ q ∈ lw_privs_1, lw_okq q := List.forall_mem_cons.mpr ⟨lw_p0, List.forall_mem_cons.mpr ⟨lw_p1, List.forall_mem_cons.mpr ⟨lw_p2, List.forall_mem_cons.mpr ⟨lw_p3, List.forall_mem_cons.mpr ⟨lw_p4, List.forall_mem_cons.mpr ⟨lw_p5, List.forall_mem_cons.mpr ⟨lw_p6, List.forall_mem_cons.mpr ⟨lw_p7, List.forall_mem_cons.mpr ⟨lw_p8, List.forall_mem_cons.mpr ⟨lw_p9, List.forall_mem_cons.mpr ⟨lw_p10, List.forall_mem_cons.mpr ⟨lw_p11, List.forall_mem_cons.mpr ⟨lw_p12, List.forall_mem_cons.mpr ⟨lw_p13, List.forall_mem_cons.mpr ⟨lw_p14, List.forall_mem_cons.mpr ⟨lw_p15, fun _ h => absurd h List.not_mem_nil⟩⟩⟩⟩⟩⟩⟩⟩⟩⟩⟩⟩⟩⟩⟩⟩
theorem lw_p16 : lw_okq (⟨"SyscallFilter$Rule", "lowerTests", "()I"⟩, 5) := ⟨⟨by decide +kernel, by decide +kernel⟩, List.mem_of_getElem? (i := 238) (by decide +kernel), List.mem_of_getElem? (i := 537) (by decide +kernel), List.mem_of_getElem? (i := 538) (by decide +kernel)⟩
theorem lw_p17 : lw_okq (⟨"SyscallFilter$Rule", "upperTests", "()I"⟩, 5) := ⟨⟨by decide +kernel, by decide +kernel⟩, List.mem_of_getElem? (i := 238) (by decide +kernel), List.mem_of_getElem? (i := 542) (by decide +kernel), List.mem_of_getElem? (i := 543) (by decide +kernel)⟩
theorem lw_p18 : lw_okq (⟨"SyscallFilter", "requireCompiled", "()V"⟩, 4) := ⟨⟨by decide +kernel, by decide +kernel⟩, List.mem_of_getElem? (i := 23) (by decide +kernel), List.mem_of_getElem? (i := 556) (by decide +kernel), List.mem_of_getElem? (i := 557) (by decide +kernel)⟩
theorem lw_p19 : lw_okq (⟨"SyscallFilter$Filter", "actionOfFirstMatch", "(Ljava/util/ArrayList;IJJ)I"⟩, 5) := ⟨⟨by decide +kernel, by decide +kernel⟩, List.mem_of_getElem? (i := 57) (by decide +kernel), List.mem_of_getElem? (i := 590) (by decide +kernel), List.mem_of_getElem? (i := 591) (by decide +kernel)⟩
theorem lw_p20 : lw_okq (⟨"SyscallFilter$Rule", "argumentOf", "(JJ)J"⟩, 5) := ⟨⟨by decide +kernel, by decide +kernel⟩, List.mem_of_getElem? (i := 238) (by decide +kernel), List.mem_of_getElem? (i := 598) (by decide +kernel), List.mem_of_getElem? (i := 599) (by decide +kernel)⟩
theorem lw_p21 : lw_okq (⟨"SyscallFilterModel", "goesWell", "(I)Z"⟩, 14) := ⟨⟨by decide +kernel, by decide +kernel⟩, List.mem_of_getElem? (i := 637) (by decide +kernel), List.mem_of_getElem? (i := 704) (by decide +kernel), List.mem_of_getElem? (i := 705) (by decide +kernel)⟩
theorem lw_p22 : lw_okq (⟨"SyscallFilterModel", "isRule", "(II)Z"⟩, 14) := ⟨⟨by decide +kernel, by decide +kernel⟩, List.mem_of_getElem? (i := 637) (by decide +kernel), List.mem_of_getElem? (i := 712) (by decide +kernel), List.mem_of_getElem? (i := 713) (by decide +kernel)⟩
theorem lw_p23 : lw_okq (⟨"SyscallFilterModel", "hiderOf", "(II)I"⟩, 14) := ⟨⟨by decide +kernel, by decide +kernel⟩, List.mem_of_getElem? (i := 637) (by decide +kernel), List.mem_of_getElem? (i := 732) (by decide +kernel), List.mem_of_getElem? (i := 733) (by decide +kernel)⟩
theorem lw_p24 : lw_okq (⟨"SyscallFilterModel", "hides", "(II)Z"⟩, 14) := ⟨⟨by decide +kernel, by decide +kernel⟩, List.mem_of_getElem? (i := 637) (by decide +kernel), List.mem_of_getElem? (i := 737) (by decide +kernel), List.mem_of_getElem? (i := 738) (by decide +kernel)⟩
theorem lw_p25 : lw_okq (⟨"SyscallFilterModel", "worstOf", "(I)I"⟩, 14) := ⟨⟨by decide +kernel, by decide +kernel⟩, List.mem_of_getElem? (i := 637) (by decide +kernel), List.mem_of_getElem? (i := 745) (by decide +kernel), List.mem_of_getElem? (i := 746) (by decide +kernel)⟩
theorem lw_p26 : lw_okq (⟨"SyscallFilterModel", "lay", "(I)V"⟩, 14) := ⟨⟨by decide +kernel, by decide +kernel⟩, List.mem_of_getElem? (i := 637) (by decide +kernel), List.mem_of_getElem? (i := 749) (by decide +kernel), List.mem_of_getElem? (i := 750) (by decide +kernel)⟩
theorem lw_p27 : lw_okq (⟨"SyscallFilterModel", "hasNumber", "(II)Z"⟩, 14) := ⟨⟨by decide +kernel, by decide +kernel⟩, List.mem_of_getElem? (i := 637) (by decide +kernel), List.mem_of_getElem? (i := 753) (by decide +kernel), List.mem_of_getElem? (i := 754) (by decide +kernel)⟩
theorem lw_p28 : lw_okq (⟨"SyscallFilterModel", "layPart", "(II)V"⟩, 14) := ⟨⟨by decide +kernel, by decide +kernel⟩, List.mem_of_getElem? (i := 637) (by decide +kernel), List.mem_of_getElem? (i := 757) (by decide +kernel), List.mem_of_getElem? (i := 758) (by decide +kernel)⟩
theorem lw_p29 : lw_okq (⟨"SyscallFilterModel", "costOf", "(II)I"⟩, 14) := ⟨⟨by decide +kernel, by decide +kernel⟩, List.mem_of_getElem? (i := 637) (by decide +kernel), List.mem_of_getElem? (i := 761) (by decide +kernel), List.mem_of_getElem? (i := 762) (by decide +kernel)⟩
theorem lw_p30 : lw_okq (⟨"SyscallFilterModel", "testsOf", "(I)I"⟩, 14) := ⟨⟨by decide +kernel, by decide +kernel⟩, List.mem_of_getElem? (i := 637) (by decide +kernel), List.mem_of_getElem? (i := 765) (by decide +kernel), List.mem_of_getElem? (i := 766) (by decide +kernel)⟩
theorem lw_p31 : lw_okq (⟨"SyscallFilterModel", "halves", "(II)I"⟩, 14) := ⟨⟨by decide +kernel, by decide +kernel⟩, List.mem_of_getElem? (i := 637) (by decide +kernel), List.mem_of_getElem? (i := 769) (by decide +kernel), List.mem_of_getElem? (i := 770) (by decide +kernel)⟩
def lw_privs_2 : List (MethodName × Nat) := [(⟨"SyscallFilter$Rule", "lowerTests", "()I"⟩, 5), (⟨"SyscallFilter$Rule", "upperTests", "()I"⟩, 5), (⟨"SyscallFilter", "requireCompiled", "()V"⟩, 4), (⟨"SyscallFilter$Filter", "actionOfFirstMatch", "(Ljava/util/ArrayList;IJJ)I"⟩, 5), (⟨"SyscallFilter$Rule", "argumentOf", "(JJ)J"⟩, 5), (⟨"SyscallFilterModel", "goesWell", "(I)Z"⟩, 14), (⟨"SyscallFilterModel", "isRule", "(II)Z"⟩, 14), (⟨"SyscallFilterModel", "hiderOf", "(II)I"⟩, 14), (⟨"SyscallFilterModel", "hides", "(II)Z"⟩, 14), (⟨"SyscallFilterModel", "worstOf", "(I)I"⟩, 14), (⟨"SyscallFilterModel", "lay", "(I)V"⟩, 14), (⟨"SyscallFilterModel", "hasNumber", "(II)Z"⟩, 14), (⟨"SyscallFilterModel", "layPart", "(II)V"⟩, 14), (⟨"SyscallFilterModel", "costOf", "(II)I"⟩, 14), (⟨"SyscallFilterModel", "testsOf", "(I)I"⟩, 14), (⟨"SyscallFilterModel", "halves", "(II)I"⟩, 14)]
theorem lw_r2 : ∀ q ∈ lw_privs_2, lw_okq q := List.forall_mem_cons.mpr ⟨lw_p16, List.forall_mem_cons.mpr ⟨lw_p17, List.forall_mem_cons.mpr ⟨lw_p18, List.forall_mem_cons.mpr ⟨lw_p19, List.forall_mem_cons.mpr ⟨lw_p20, List.forall_mem_cons.mpr ⟨lw_p21, List.forall_mem_cons.mpr ⟨lw_p22, List.forall_mem_cons.mpr ⟨lw_p23, List.forall_mem_cons.mpr ⟨lw_p24, List.forall_mem_cons.mpr ⟨lw_p25, List.forall_mem_cons.mpr ⟨lw_p26, List.forall_mem_cons.mpr ⟨lw_p27, List.forall_mem_cons.mpr ⟨lw_p28, List.forall_mem_cons.mpr ⟨lw_p29, List.forall_mem_cons.mpr ⟨lw_p30, List.forall_mem_cons.mpr ⟨lw_p31, fun _ h => absurd h List.not_mem_nil⟩⟩⟩⟩⟩⟩⟩⟩⟩⟩⟩⟩⟩⟩⟩⟩
theorem lw_p32 : lw_okq (⟨"SyscallFilterModel", "strictest", "(IJJ)I"⟩, 14) := ⟨⟨by decide +kernel, by decide +kernel⟩, List.mem_of_getElem? (i := 637) (by decide +kernel), List.mem_of_getElem? (i := 797) (by decide +kernel), List.mem_of_getElem? (i := 798) (by decide +kernel)⟩
theorem lw_p33 : lw_okq (⟨"SyscallFilterModel", "judgeBy", "(IIJJ)I"⟩, 14) := ⟨⟨by decide +kernel, by decide +kernel⟩, List.mem_of_getElem? (i := 637) (by decide +kernel), List.mem_of_getElem? (i := 801) (by decide +kernel), List.mem_of_getElem? (i := 802) (by decide +kernel)⟩
theorem lw_p34 : lw_okq (⟨"SyscallFilterModel", "matches", "(IIJJ)Z"⟩, 14) := ⟨⟨by decide +kernel, by decide +kernel⟩, List.mem_of_getElem? (i := 637) (by decide +kernel), List.mem_of_getElem? (i := 805) (by decide +kernel), List.mem_of_getElem? (i := 806) (by decide +kernel)⟩
theorem lw_p35 : lw_okq (⟨"SyscallFilterModel", "halvesMade", "(IIJJ)I"⟩, 14) := ⟨⟨by decide +kernel, by decide +kernel⟩, List.mem_of_getElem? (i := 637) (by decide +kernel), List.mem_of_getElem? (i := 817) (by decide +kernel), List.mem_of_getElem? (i := 818) (by decide +kernel)⟩
def lw_privs_3 : List (MethodName × Nat) := [(⟨"SyscallFilterModel", "strictest", "(IJJ)I"⟩, 14), (⟨"SyscallFilterModel", "judgeBy", "(IIJJ)I"⟩, 14), (⟨"SyscallFilterModel", "matches", "(IIJJ)Z"⟩, 14), (⟨"SyscallFilterModel", "halvesMade", "(IIJJ)I"⟩, 14)]
theorem lw_r3 : ∀ q ∈ lw_privs_3, lw_okq q := List.forall_mem_cons.mpr ⟨lw_p32, List.forall_mem_cons.mpr ⟨lw_p33, List.forall_mem_cons.mpr ⟨lw_p34, List.forall_mem_cons.mpr ⟨lw_p35, fun _ h => absurd h List.not_mem_nil⟩⟩⟩⟩
def lw_privs : List (MethodName × Nat) := lw_privs_1 ++ (lw_privs_2 ++ (lw_privs_3))
def lw_tbl : List Cond := k2_sels lw_privs ++ tables_1
theorem lw_privs_ok : ∀ q ∈ lw_privs, lw_okq q := by
  show ∀ q ∈ lw_privs_1 ++ (lw_privs_2 ++ (lw_privs_3)), lw_okq q
  exact List.forall_mem_append.mpr ⟨lw_r1, List.forall_mem_append.mpr ⟨lw_r2, lw_r3⟩⟩
-- ===== end of PART A; then your names; then what follows =====
/-! ===== BEGIN words of one list among another's, by their places ===== -/
theorem goodIn_r {big : List Cond} (ws : List Cond) (ps : List Nat) (hp : ws = ps.filterMap (fun i => big[i]?)) (h : ws.all goodWord = true) : GoodIn big ws := by
  intro w hw
  have h1 := List.all_eq_true.mp h w hw
  rw [hp] at hw
  obtain ⟨i, -, hi⟩ := List.mem_filterMap.mp hw
  have hm : w ∈ big := by first | exact List.mem_of_getElem? hi | exact List.getElem?_mem hi
  exact ⟨hm, good_of_word h1⟩
theorem goodIn_app {big a b : List Cond} (ha : GoodIn big a) (hb : GoodIn big b) : GoodIn big (a ++ b) := fun w h => (List.mem_append.mp h).elim (ha w) (hb w)
theorem goodIn_ca {big a b : List Cond} {c : Cond} (ha : GoodIn big (c :: a)) (hb : GoodIn big b) : GoodIn big (c :: (a ++ b)) := fun w h => (List.mem_cons.mp h).elim (fun e => ha w (List.mem_cons.mpr (Or.inl e))) (fun h => (List.mem_append.mp h).elim (fun h => ha w (List.mem_cons.mpr (Or.inr h))) (hb w))
theorem goodIn_sub {big ws : List Cond} (hm : ∀ w ∈ ws, w ∈ big) (h : ws.all goodWord = true) : GoodIn big ws := fun w hw => ⟨hm w hw, good_of_word (List.all_eq_true.mp h w hw)⟩
/-! ===== END ===== -/

/-! ===== BEGIN new T[n][m]: the outer array a place, the inner ones among the pooled ===== -/
/-- f, but v at every address of l -/
def vr_up {α : Type} (f : Nat → α) (l : List Nat) (v : α) : Nat → α := fun a => if a ∈ l then v else f a
theorem vr_up_in {α : Type} {f : Nat → α} {l : List Nat} {v : α} {a : Nat} (h : a ∈ l) : vr_up f l v a = v := if_pos h
theorem vr_up_ne {α : Type} {f : Nat → α} {l : List Nat} {v : α} {a : Nat} (h : a ∉ l) : vr_up f l v a = f a := if_neg h
theorem vr_rows {L l : List Nat} {f : Nat → va_E} {e : va_E} (h : ∀ a, a ∈ l → a ∉ L) : va_pl L f ++ l.map (fun a => (a, e)) = va_pl (L ++ l) (vr_up f l e) := by
  unfold va_pl
  rw [List.map_append]
  congr 1
  · apply List.map_congr_left
    intro a ha
    rw [vr_up_ne (fun q => h a q ha)]
  · apply List.map_congr_left
    intro a ha
    rw [vr_up_in ha]
theorem vr_lay {X rows : va_W} {x : Nat × va_E} {pl : va_W} {D : va_G} {cl : List vw_C} {H : Heap} (hP : va_P D cl (((X ++ pl) ++ [x]) ++ rows) H) : va_P D cl ((X ++ [x]) ++ (pl ++ rows)) H := by
  rw [List.append_assoc (X ++ pl)] at hP
  have h := va_P.swap hP
  rw [← List.append_assoc X] at h
  have h2 := va_P.swap h
  rw [List.append_assoc (X ++ [x])] at h2
  exact h2
theorem vr_layD {X rows : va_W} {x : Nat × va_E} {pl : va_W} {A : Nat → Prop} (hD : va_D A (((X ++ pl) ++ [x]) ++ rows)) : va_D A ((X ++ [x]) ++ (pl ++ rows)) := by
  rw [List.append_assoc (X ++ pl)] at hD
  have h := va_D.swap hD
  rw [← List.append_assoc X] at h
  have h2 := va_D.swap h
  rw [List.append_assoc (X ++ [x])] at h2
  exact h2
theorem vr_outer (c : ClassId) (N h0 : Nat) : ∀ i : Nat, Jvm.Free.Multi.outerC c N h0 i = arrV c N (fun j => va_rf (if j < i then some (h0 + 1 + j) else none))
  | 0 => by
    show ({ cls := c, slots := Array.replicate N .null, vm := .none } : Cell) = _
    rw [arrV_new]
    refine congrArg (arrV c N) (funext fun j => ?_)
    simp [va_rf]
  | i + 1 => by
    show (Jvm.Free.Multi.outerC c N h0 i).setSlot i (.ref (h0 + 1 + i)) = _
    rw [vr_outer c N h0 i, arrV_store]
    refine congrArg (arrV c N) (funext fun j => ?_)
    by_cases e : j = i
    · subst e
      simp [updV, va_rf]
    · by_cases h : j < i
      · simp [updV, e, h, Nat.lt_succ_of_lt h]
      · simp [updV, e, h, show ¬ j < i + 1 by omega]
/-- (not in this kit: as va_AO, of arrays of arrays) -/
def va_AOA (ty : FieldType) (U : State) : Prop := (Cond.arrayOver (.array ty)).before #[] U = true
theorem va_AOA.use {ty : FieldType} {A : Array Value} {U : State} (h : va_AOA ty U) : (Cond.arrayOver (.array ty)).before A U = true := h
section VGM
variable {p : Program} {l : Launch} {e : Env} {R : Room} {s : State} {m : MethodId} {args : Array Value} {below : List Frame} {meth : Method} {c : Code} {H : Heap} {locs : List Loc} {cells slots : Nat} {Q : State → Prop}
variable {cc : ByteArray} {pc : Nat} {ls : Array Slot} {rest : List Value} {D : va_G} {cl : List vw_C} {A : Nat → Prop} {a : Nat} {tys : List (ClassId × FieldType)} {ws : va_W} {H0 : Heap}
theorem va_mna {X : va_W} {L : List Nat} {f : Nat → va_E} {cc : ByteArray} (hexec : p.tables.exec = Jvm.exec) (hb : c.code = cc) {own : String} {index : Nat} {ty : FieldType} {cy : ClassId} (hown : s.vm.findClass own = some m.cls) (hclink : (Cond.classLink own index ("[" ++ (FieldType.array ty).toString)).before args s = true) (hover : va_AOA ty s) (harr : (Cond.arrayClass ty).before args s = true) (hcy : s.vm.findClass (FieldType.array ty).toString = some cy)
    (hK : va_K D cl tys s) (hP : va_P D cl (X ++ va_pl L f) H) (hD : va_D A (X ++ va_pl L f)) (hS : va_S A H0 H locs) (hA : ∀ q, H0.size ≤ q → A q) {n k : Int32} {N' K' : Nat} {z : vp_A} (hn : ¬ n < 0) (hk : ¬ k < 0) (hN : n.toNatClampNeg = N') (hM : k.toNatClampNeg = K')
    (hb1 : N' * 4 ≤ 536870912) (hb2 : K' * componentBytes ty ≤ 536870912) (hb3 : K' ≤ 536870912) (hdf : fits ty (defaultValue ty) = true) (hdd : (defaultValue ty).isDefault = true) (hcells : cells + (1 + N') ≤ R.cells) (hslots : slots + (N' + N' * K') ≤ R.slots) (hz : ∀ c : ClassId, Jvm.Free.Multi.innerC c K' (defaultValue ty) = vp_cell c z) (hdg : decode cc pc = .ok (.multianewarray index 2, 4))
    (kk : ∀ (q : Nat) (r : Nat → Nat) (cA : ClassId) (H1 : Heap), (∀ i j : Nat, i < N' → j < N' → r i = r j → i = j) → (∀ i : Nat, i < N' → r i ∉ L) → va_K D cl (tys ++ [(cA, .array ty)]) s →
      va_P D cl ((X ++ [(q, .inl (cA, N', .inr (.inr (.inr (.inr (fun i => if i < N' then some (r i) else none))))))]) ++ va_pl (L ++ (List.range N').map r) (vr_up f ((List.range N').map r) (.inl (cy, z)))) H1 → va_D A ((X ++ [(q, .inl (cA, N', .inr (.inr (.inr (.inr (fun i => if i < N' then some (r i) else none))))))]) ++ va_pl (L ++ (List.range N').map r) (vr_up f ((List.range N').map r) (.inl (cy, z)))) → va_S A H0 H1 locs →
      W p l e R s m args below meth c H1 locs (cells + 1 + N') (slots + N' + N' * K') Q (F0 m (pc + 4) ls (.ref q :: rest))) : W p l e R s m args below meth c H locs cells slots Q (F0 m pc ls (.int k :: .int n :: rest)) := by
  subst hN
  subst hM
  intro T hT Xs
  obtain ⟨vm₁, cA, comp, -, fA, fC, hO, -, X', step⟩ := Xs.multianewarray2F hexec hown hclink (va_AOA.use hover) harr (g := F0 m pc ls (.int k :: .int n :: rest)) rfl (by rw [hb]; exact hdg) rfl hn hk hb1 hb2 hb3 hdf hdd hcells hslots
  have ec : some cy = some comp := hcy.symm.trans fC
  cases ec
  generalize hF : Jvm.Free.Multi.fill (T.setVm vm₁) cA cy n.toNatClampNeg k.toNatClampNeg (defaultValue ty) n.toNatClampNeg = F at X' step
  have hTh : (T.setVm vm₁).heap = H := hT
  obtain ⟨f1, f2, -, -⟩ := Jvm.Free.Multi.fill_facts (T.setVm vm₁) cA cy n.toNatClampNeg k.toNatClampNeg (defaultValue ty) n.toNatClampNeg
  rw [hF, hTh] at f1 f2
  have hold : ∀ x : Nat, x < H.size → F.heap[x]? = H[x]? := fun x hx => by
    have := Jvm.Free.Multi.fill_old (T.setVm vm₁) cA cy n.toNatClampNeg k.toNatClampNeg (defaultValue ty) (a := x) (by rw [hTh]; exact hx) n.toNatClampNeg
    rw [hF, hTh] at this
    exact this
  have hrow : ∀ j : Nat, j < n.toNatClampNeg → F.heap[H.size + 1 + j]? = some (vp_cell cy z) := fun j hj => by
    have := Jvm.Free.Multi.fill_inner (T.setVm vm₁) cA cy n.toNatClampNeg k.toNatClampNeg (defaultValue ty) n.toNatClampNeg j hj
    rw [hF, hTh, hz] at this
    exact this
  have hout : Jvm.Free.Multi.outerC cA n.toNatClampNeg H.size n.toNatClampNeg = vp_cell cA (n.toNatClampNeg, .inr (.inr (.inr (.inr (fun i => if i < n.toNatClampNeg then some (H.size + 1 + i) else none))))) := by
    rw [vp_cell_q]
    exact vr_outer cA n.toNatClampNeg H.size n.toNatClampNeg
  rw [hout] at f2
  have hlt : ∀ a, a ∈ L → a < H.size := fun a ha => by
    obtain ⟨k9, hk9⟩ := va_pl_get (X := X) (f := f) ha
    exact (hP k9 _ hk9).lt
  have hnl : ∀ i : Nat, i < n.toNatClampNeg → H.size + 1 + i ∉ L := fun i _ h => by
    have := hlt _ h
    omega
  have hnm : ∀ a, a ∈ (List.range n.toNatClampNeg).map (fun i => H.size + 1 + i) → a ∉ L := fun a ha h => by
    obtain ⟨i, -, rfl⟩ := List.mem_map.mp ha
    have := hlt _ h
    omega
  have hP0 : va_P D cl (X ++ va_pl L f) F.heap := hP.kept (fun k9 x hx => hold x.1 ((hP k9 x hx).lt))
  have hP1 : va_P D cl ((X ++ va_pl L f) ++ [(H.size, .inl (cA, n.toNatClampNeg, .inr (.inr (.inr (.inr (fun i => if i < n.toNatClampNeg then some (H.size + 1 + i) else none))))))]) F.heap := hP0.app (fun k9 x hx => by
    have h0 : k9 < 1 := (List.getElem?_eq_some_iff.mp hx).1
    rw [show k9 = 0 by omega] at hx
    cases hx
    exact f2)
  have hP2 : va_P D cl (((X ++ va_pl L f) ++ [(H.size, .inl (cA, n.toNatClampNeg, .inr (.inr (.inr (.inr (fun i => if i < n.toNatClampNeg then some (H.size + 1 + i) else none))))))]) ++ ((List.range n.toNatClampNeg).map (fun i => H.size + 1 + i)).map (fun a => (a, .inl (cy, z)))) F.heap := hP1.app (fun k9 x hx => by
    obtain ⟨a, ha, rfl⟩ := List.mem_map.mp (List.mem_of_getElem? hx)
    obtain ⟨i, hi, rfl⟩ := List.mem_map.mp ha
    exact hrow i (List.mem_range.mp hi))
  have hD2 : va_D A (((X ++ va_pl L f) ++ [(H.size, .inl (cA, n.toNatClampNeg, .inr (.inr (.inr (.inr (fun i => if i < n.toNatClampNeg then some (H.size + 1 + i) else none))))))]) ++ ((List.range n.toNatClampNeg).map (fun i => H.size + 1 + i)).map (fun a => (a, .inl (cy, z)))) := by
    have hD1 := hD.push (e := .inl (cA, n.toNatClampNeg, .inr (.inr (.inr (.inr (fun i => if i < n.toNatClampNeg then some (H.size + 1 + i) else none)))))) hP rfl (hA _ hS.1)
    generalize hW1 : (X ++ va_pl L f) ++ [(H.size, .inl (cA, n.toNatClampNeg, .inr (.inr (.inr (.inr (fun i => if i < n.toNatClampNeg then some (H.size + 1 + i) else none))))))] = W1 at hD1 hP1 ⊢
    have hle : ∀ (k9 : Nat) (x : Nat × va_E), W1[k9]? = some x → x.1 ≤ H.size := fun k9 x hx => by
      rw [← hW1] at hx
      by_cases hl : k9 < (X ++ va_pl L f).length
      · rw [List.getElem?_append_left hl] at hx
        exact Nat.le_of_lt ((hP k9 x hx).lt)
      · rw [List.getElem?_append_right (by omega)] at hx
        have h0 : k9 - (X ++ va_pl L f).length < 1 := (List.getElem?_eq_some_iff.mp hx).1
        rw [show k9 - (X ++ va_pl L f).length = 0 by omega] at hx
        cases hx
        exact Nat.le_refl _
    have hr : ∀ (k9 : Nat) (x : Nat × va_E), (((List.range n.toNatClampNeg).map (fun i => H.size + 1 + i)).map (fun a => ((a, .inl (cy, z)) : Nat × va_E)))[k9]? = some x → x.1 = H.size + 1 + k9 := fun k9 x hx => by
      rw [List.getElem?_map, List.getElem?_map] at hx
      by_cases h9 : k9 < n.toNatClampNeg
      · rw [List.getElem?_range h9] at hx
        cases hx
        rfl
      · have hn0 : (List.range n.toNatClampNeg)[k9]? = none := List.getElem?_eq_none (by rw [List.length_range]; omega)
        rw [hn0] at hx
        cases hx
    refine ⟨fun i j x y hi hj hxy => ?_, fun k9 x hx => ?_⟩
    · by_cases h1 : i < W1.length <;> by_cases h2 : j < W1.length
      · rw [List.getElem?_append_left h1] at hi
        rw [List.getElem?_append_left h2] at hj
        exact hD1.1 i j x y hi hj hxy
      · rw [List.getElem?_append_left h1] at hi
        rw [List.getElem?_append_right (by omega)] at hj
        have := hle _ _ hi
        have := hr _ _ hj
        omega
      · rw [List.getElem?_append_right (by omega)] at hi
        rw [List.getElem?_append_left h2] at hj
        have := hle _ _ hj
        have := hr _ _ hi
        omega
      · rw [List.getElem?_append_right (by omega)] at hi hj
        have := hr _ _ hi
        have := hr _ _ hj
        omega
    · by_cases h1 : k9 < W1.length
      · rw [List.getElem?_append_left h1] at hx
        exact hD1.2 k9 x hx
      · rw [List.getElem?_append_right (by omega)] at hx
        have := hr _ _ hx
        exact hA _ (by have := hS.1; omega)
  have hAr : ArrOfT s cA (.array ty) := fun N9 z9 => by
    obtain ⟨-, k9, hk9, cm9, hkk9⟩ := (hO 0 0 0).1
    exact ⟨(fun q hq => by cases hq), k9, hk9, cm9, hkk9⟩
  have hK2 : va_K D cl (tys ++ [(cA, .array ty)]) s := ⟨hK.1, fun k9 x hx => by
    by_cases hl : k9 < tys.length
    · rw [List.getElem?_append_left hl] at hx
      exact hK.2 k9 x hx
    · rw [List.getElem?_append_right (by omega)] at hx
      have h0 : k9 - tys.length < 1 := (List.getElem?_eq_some_iff.mp hx).1
      rw [show k9 - tys.length = 0 by omega] at hx
      cases hx
      exact ⟨hAr, fA⟩⟩
  obtain ⟨t, a1, b1⟩ := kk H.size (fun i => H.size + 1 + i) cA F.heap (fun i j _ _ h => by have h9 : H.size + 1 + i = H.size + 1 + j := h; omega) hnl hK2 (by rw [← vr_rows hnm]; exact vr_lay hP2) (by rw [← vr_rows hnm]; exact vr_layD hD2) ⟨by rw [f1]; have := hS.1; omega, fun x h1 h2 => (hold x (Nat.lt_of_lt_of_le h1 hS.1)).trans (hS.2.1 x h1 h2), hS.2.2⟩ F rfl X'
  refine ⟨t, step t ?_, b1⟩
  have e : T.heap.size = H.size := by rw [hT]
  rw [e]
  exact a1
end VGM
/-! ===== END ===== -/

/-! ===== BEGIN exceptions that leave a method, and their catching by the caller (launches without stack traces) ===== -/
section VXA
/-! The laws vx_back, vx_callV, vx_callS, vx_callSW, vx_throw0, vx_throwS follow proofs of the library, with one case more: JvmDerived/Free/Laws.lean (Back.of_free), Shelf42/LK1.lean (callV, callS), Shelf/KitTraced.lean (throwNew0V, throwNewS). -/
/-- where a method has thrown q: the class by its name, the cell, what was written, the world -/
def vx_T (XC : String → State → State → Prop) (st : State) (q : Addr) (t : State) (mc ms : Nat) (free : Addr → Prop) : Prop :=
  ∃ (E : String) (ce : Cell) (L : List Loc), XC E st t ∧ t.heap[q]? = some ce ∧ ce.vm = .none ∧ st.vm.findClass E = some ce.cls ∧ st.WarmedH t.vm ∧ st.sameButNew ({ t with vm := st.vm } : State) L mc ms ∧ ∀ z ∈ L, free z.base
def vx_Q (Qc : Array Value → State → Outcome → State → Prop) (XC : String → State → State → Prop) (mc ms : Nat) (free : Addr → Prop) : Array Value → State → Outcome → State → Prop := fun a st o t =>
  (Qc a st o t ∧ ∃ L, FrameEnd st o t L mc ms ∧ ∀ q ∈ L, free q.base) ∨ ∃ q, o = .threw q ∧ vx_T XC st q t mc ms free
/-- a callee that returns or throws -/
def vx_Met (l : Launch) (y : MethodName) (ws : List Cond) (rm : Room) (Pc : Array Value → State → Prop) (Qc : Array Value → State → Outcome → State → Prop) (XC : String → State → State → Prop) (mc ms : Nat) (free : Addr → Prop) : Prop :=
  MetFree l y (headSpec ws rm) Pc (fun _ _ _ _ _ => True) (vx_Q Qc XC mc ms free)
def vx_Post (XC : String → State → State → Prop) (mc ms : Nat) (free : Addr → Prop) : Pt → Array Value → Addr → Pt → Prop := fun A a q B =>
  ∃ (g : JFrame) (mk : MethodId) (t : State) (L : List Loc) (E : String) (ce : Cell), B.U.heap = t.heap ∧ B.U.vm = t.vm ∧ XC E (A.U.calling g mk a) t ∧ t.heap[q]? = some ce ∧ ce.vm = .none ∧ A.U.vm.findClass E = some ce.cls ∧ B.locs = A.locs ++ L ∧ (∀ z ∈ L, free z.base) ∧ B.cells = A.cells + mc ∧ B.slots = A.slots + ms
def vx_Back (l : Launch) (R : Room) (p : Program) (e : Env) (below : List Frame) (s : State) (sargs : Array Value) (y : MethodName) (len W9 : Nat)
    (Pre : Pt → Array Value → Prop) (Post : Pt → Array Value → Option Value → Pt → Prop) (PostX : Pt → Array Value → Addr → Pt → Prop) : Prop :=
  ∀ (m : MethodId) (meth : Method) (c : Code) (A : Pt) (g : JFrame) (ig : Instr) (mk : MethodId) (a : Array Value),
    Stand p l e R s m sargs below meth c A.U A.locs A.cells A.slots → g.method = m → g.locals.size = c.maxLocals → decode c.code g.pc = .ok (ig, len) →
    2 * g.monitorRoom + (g.stack.map fun v => v.category).sum ≤ W9 → A.U.methodNamed? y = some mk → Pre A a →
    (∃ (v : Option Value) (B : Pt), Stand p l e R s m sargs below meth c B.U B.locs B.cells B.slots ∧ Post A a v B ∧
      Steps p.tables e below (doInvoke e (A.U.setTop g) [] mk a).1 (B.U.setTop { g with pc := g.pc + len, stack := v.toList ++ g.stack })) ∨
    (∃ (q : Addr) (B : Pt), Stand p l e R s m sargs below meth c B.U B.locs B.cells B.slots ∧ PostX A a q B ∧
      Steps p.tables e below (doInvoke e (A.U.setTop g) [] mk a).1 ((B.U.setTop g).pushFrame (.throwing q)))
section Payer
variable {l : Launch} {R : Room} {p : Program} {e : Env} {below : List Frame} {s : State} {sargs : Array Value} {y : MethodName} {len W9 : Nat}
theorem vx_back {ws : List Cond} {rm : Room} {Pc : Array Value → State → Prop} {Qc : Array Value → State → Outcome → State → Prop} {XC : String → State → State → Prop} {mc ms : Nat} {free : Addr → Prop} {bytes : ByteArray} {maxL : Nat} {ret : Option FieldType}
    (hM : vx_Met l y ws rm Pc Qc XC mc ms free) (hblind : FrameBlind Pc) (hrc : rm.cells = mc) (hrs : rm.slots = ms)
    (hframes : rm.frames + 1 ≤ R.frames) (hlocals : W9 + (maxL + 11) + rm.locals ≤ R.locals)
    (hws : ∀ w ∈ ws, ∀ a' U, s.WarmedH U.vm → w.before a' U = true) (hcode : Cond.code y bytes maxL ret ∈ ws) (hinit : ∀ a' U, s.WarmedH U.vm → (Cond.initialized y.cls).before a' U = true) :
    vx_Back l R p e below s sargs y len W9 (PreOf R mc ms Pc) (PostOf Qc mc ms free) (vx_Post XC mc ms free) := by
  intro m meth c A g ig mk a X hg hsize hdg hW hn hp
  have h1 : (headSpec ws rm).pre.before a A.U = true := atoms_intro fun w hw => hws w hw _ _ X.warmed
  have h2 : (Cond.code y bytes maxL ret).before a A.U = true := hws _ hcode _ _ X.warmed
  have h3 : (Cond.initialized y.cls).before a A.U = true := hinit _ _ X.warmed
  have h4 : A.cells + (headSpec ws rm).room.cells ≤ R.cells := by rw [show (headSpec ws rm).room.cells = mc from hrc]; exact hp.1
  have h5 : A.slots + (headSpec ws rm).room.slots ≤ R.slots := by rw [show (headSpec ws rm).room.slots = ms from hrs]; exact hp.2.1
  have hPc : Pc a (A.U.calling g mk a) := hblind _ _ _ _ hp.2.2
  obtain ⟨U, Ls, c0, s0⟩ := A
  dsimp only [Pt.U, Pt.locs, Pt.cells, Pt.slots] at h1 h2 h3 h4 h5 X hn hPc ⊢
  obtain ⟨methY, cY, hmY, hcY, -, hlY, -, -, -, -⟩ := Cond.code_spec hn h2
  obtain ⟨kY, hkY, -⟩ := className_of_methodNamed hn
  have hinitY : kY.init = .initialized := Cond.initialized_spec (findClass_of_methodNamed hn) hkY h3
  have h : At U g.method c below := by rw [hg]; exact X.here
  have hlocals9 : W9 + (maxL + 11) + (headSpec ws rm).room.locals ≤ R.locals := hlocals
  have happ : (headSpec ws rm).appliesLoose y e.platform (U.calling g mk a) = true :=
    Spec.appliesLoose_calling (g := g) h hdg hn hkY hinitY
      (X.room_calling (g := g) (R' := (headSpec ws rm).room) hsize hmY hcY hframes (by rw [hlY]; omega) h4 h5) h1
  obtain ⟨mid, hmid⟩ := h.above
  have hfr : (U.setTop g).frames = (.java g :: mid) ++ below := by rw [State.frames_setTop' g h.top, hmid]; rfl
  obtain ⟨o, s₂, hsteps, -, hend, hq⟩ := Steps.callFree hM p X.admits X.cas X.clock (acts := []) hfr happ hPc trivial
  have hq' : vx_Q Qc XC mc ms free a (U.calling g mk a) o s₂ := hq
  rw [State.frames_setTop' g h.top] at hend
  obtain ⟨g₀, hg0⟩ := Option.isSome_iff_exists.mp h.top
  obtain ⟨r, hr⟩ := State.topJava?_eq_some.mp hg0
  have hr' : (({ U with heap := s₂.heap, slotsUsed := s₂.slotsUsed } : State).setVm s₂.vm).frames = .java g₀ :: r := hr
  rcases hq' with ⟨hqc, L, hfe, hL⟩ | ⟨q, rfl, E, ce, L, hx, hce, hcv, hcl, hW₂, hsm, hL⟩
  · obtain ⟨⟨v, rfl⟩, hW₂, e2, q2, q3, q4, q5, q6⟩ := id hfe
    have e3 : s₂ = ({ (U.calling g mk a).setFrames s₂.frames with heap := s₂.heap, slotsUsed := s₂.slotsUsed } : State).setVm s₂.vm := by
      have : s₂ = ({ s₂ with vm := (U.calling g mk a).vm } : State).setVm s₂.vm := rfl
      rw [e2] at this
      exact this
    obtain ⟨c₂, i₂, len₂, hc₂, hd₂, hf₂⟩ := hend
    have hW' : U.WarmedH s₂.vm := hW₂
    have hcc : c₂ = c := by
      have h1 : s₂.code? g.method = U.code? g.method := by
        rw [State.code?_eq, State.code?_eq, hW'.alike.method?]
      exact Option.some.inj (hc₂.symm.trans (h1.trans h.code))
    subst hcc
    have hlen : len₂ = len := by rw [hdg] at hd₂; cases hd₂; rfl
    subst hlen
    have hs₂ : s₂ = (({ U with heap := s₂.heap, slotsUsed := s₂.slotsUsed } : State).setVm s₂.vm).setTop { g with pc := g.pc + len₂, stack := v.toList ++ g.stack } := by
      refine e3.trans ?_
      rw [hf₂, State.calling_eq h.top, State.setFrames_setFrames, State.setTop_of_frames _ hr', hr]
      rfl
    have hsame : U.sameButNew ({ U with heap := s₂.heap, slotsUsed := s₂.slotsUsed } : State) L mc ms := by
      refine ⟨?_, q2, q3, q4, q5, q6⟩
      obtain ⟨t, ht, -⟩ := State.frames_cons hr
      show ({ U with heap := s₂.heap, slotsUsed := s₂.slotsUsed } : State) = { U.setFrames U.frames with heap := s₂.heap, slotsUsed := s₂.slotsUsed }
      rw [State.setFrames_self ht]
    subst hg
    refine Or.inl ⟨v, ⟨(({ U with heap := s₂.heap, slotsUsed := s₂.slotsUsed } : State).setVm s₂.vm), Ls ++ L, c0 + mc, s0 + ms⟩,
      ⟨X.admits, X.cas, X.clock, X.frames, X.room, X.hears, X.method, X.code, (X.here.setHeapUsed s₂.heap s₂.slotsUsed).setVm hW'.alike, X.tail, State.WarmedH.trans X.warmed hW', X.limits, X.bytes, X.same.trans (hsame.setVm s.vm)⟩,
      ⟨g, mk, s₂, L, rfl, rfl, hqc, rfl, hL, rfl, rfl⟩, ?_⟩
    show Steps p.tables e below _ ((({ U with heap := s₂.heap, slotsUsed := s₂.slotsUsed } : State).setVm s₂.vm).setTop { g with pc := g.pc + len₂, stack := v.toList ++ g.stack })
    rw [← hs₂]
    exact hsteps
  · obtain ⟨e2, q2, q3, q4, q5, q6⟩ := id hsm
    have e3 : s₂ = ({ (U.calling g mk a).setFrames s₂.frames with heap := s₂.heap, slotsUsed := s₂.slotsUsed } : State).setVm s₂.vm := by
      have : s₂ = ({ s₂ with vm := (U.calling g mk a).vm } : State).setVm s₂.vm := rfl
      rw [e2] at this
      exact this
    have hf₂ : s₂.frames = .throwing q :: .java g :: U.frames.tail := hend
    have hW' : U.WarmedH s₂.vm := hW₂
    have hs₂ : s₂ = ((({ U with heap := s₂.heap, slotsUsed := s₂.slotsUsed } : State).setVm s₂.vm).setTop g).pushFrame (.throwing q) := by
      refine e3.trans ?_
      rw [hf₂, State.calling_eq h.top, State.setFrames_setFrames, State.pushFrame, State.frames_setTop _ hr', State.setTop_of_frames _ hr', State.setFrames_setFrames, hr]
      rfl
    have hsame : U.sameButNew ({ U with heap := s₂.heap, slotsUsed := s₂.slotsUsed } : State) L mc ms := by
      refine ⟨?_, q2, q3, q4, q5, q6⟩
      obtain ⟨t, ht, -⟩ := State.frames_cons hr
      show ({ U with heap := s₂.heap, slotsUsed := s₂.slotsUsed } : State) = { U.setFrames U.frames with heap := s₂.heap, slotsUsed := s₂.slotsUsed }
      rw [State.setFrames_self ht]
    subst hg
    refine Or.inr ⟨q, ⟨(({ U with heap := s₂.heap, slotsUsed := s₂.slotsUsed } : State).setVm s₂.vm), Ls ++ L, c0 + mc, s0 + ms⟩,
      ⟨X.admits, X.cas, X.clock, X.frames, X.room, X.hears, X.method, X.code, (X.here.setHeapUsed s₂.heap s₂.slotsUsed).setVm hW'.alike, X.tail, State.WarmedH.trans X.warmed hW', X.limits, X.bytes, X.same.trans (hsame.setVm s.vm)⟩,
      ⟨g, mk, s₂, L, E, ce, rfl, rfl, hx, hce, hcv, hcl, rfl, hL, rfl, rfl⟩, ?_⟩
    show Steps p.tables e below _ (((({ U with heap := s₂.heap, slotsUsed := s₂.slotsUsed } : State).setVm s₂.vm).setTop g).pushFrame (.throwing q))
    rw [← hs₂]
    exact hsteps
end Payer
section Calls
variable {p : Program} {l : Launch} {e : Env} {R : Room} {s : State} {m : MethodId} {args : Array Value} {below : List Frame} {meth : Method} {c : Code} {T : State} {locs : List Loc} {cells slots : Nat}
theorem vx_callV (X : Stand p l e R s m args below meth c T locs cells slots) (hexec : p.tables.exec = Jvm.exec) {own C : String} {index : Nat} {y : MethodName} {bytes : ByteArray} {maxL : Nat} {ret : Option FieldType}
    (hown : s.vm.findClass own = some m.cls) (hlink : (Cond.methodLink own index y).before args s = true) (hinst : (Cond.instanceMethod y).before args s = true) (hsel : (Cond.selects C y y).before args s = true)
    (hcode : (Cond.code y bytes maxL ret).before args s = true) (hy : y.cls ≠ "java/lang/invoke/MethodHandle" ∧ y.cls ≠ "java/lang/invoke/VarHandle")
    {W9 : Nat} {Pre : Pt → Array Value → Prop} {Post : Pt → Array Value → Option Value → Pt → Prop} {PostX : Pt → Array Value → Addr → Pt → Prop} (hK : vx_Back l R p e below s args y 3 W9 Pre Post PostX)
    {b : Addr} {cellB : Cell} (hcell : T.heap[b]? = some cellB) (hobj : cellB.vm.isStatics = false) (hcls : s.vm.findClass C = some cellB.cls)
    {g : JFrame} (hg : g.method = m) (hsize : g.locals.size = c.maxLocals) {argsL rest : List Value} (hlen : ∀ sig, parseMethodDescriptor y.desc = some sig → argsL.length = sig.parameters.length)
    (hstack : g.stack = argsL.reverse ++ .ref b :: rest) (hW : 2 * g.monitorRoom + (rest.map fun v => v.category).sum ≤ W9) (hdg : decode c.code g.pc = .ok (.invokevirtual index, 3))
    (hpre : ∀ vm₁, s.WarmedH vm₁ → Pre ⟨T.setVm vm₁, locs, cells, slots⟩ (Value.ref b :: argsL).toArray) :
    (∃ (v : Option Value) (vm₁ : Vm) (B : Pt), s.WarmedH vm₁ ∧ Stand p l e R s m args below meth c B.U B.locs B.cells B.slots ∧ Post ⟨T.setVm vm₁, locs, cells, slots⟩ (Value.ref b :: argsL).toArray v B ∧
      ∀ target, Steps p.tables e below (B.U.setTop { g with pc := g.pc + 3, stack := v.toList ++ rest }) target → Steps p.tables e below (T.setTop g) target) ∨
    (∃ (q : Addr) (vm₁ : Vm) (B : Pt), s.WarmedH vm₁ ∧ Stand p l e R s m args below meth c B.U B.locs B.cells B.slots ∧ PostX ⟨T.setVm vm₁, locs, cells, slots⟩ (Value.ref b :: argsL).toArray q B ∧
      Steps p.tables e below (T.setTop g) ((B.U.setTop { g with stack := rest }).pushFrame (.throwing q))) := by
  obtain ⟨mk, methM, hnamed, hmethM, hstM, habM⟩ := Cond.instanceMethod_spec hinst
  obtain ⟨methM', cM, hmethM', -, -, -, -, -, -, hsigM⟩ := Cond.code_spec hnamed hcode
  cases hmethM.symm.trans hmethM'
  obtain ⟨c2, r2, m2, q1, q2, q3, q4, kP, hkP, hkPi⟩ := Cond.selects_spec hsel
  cases hcls.symm.trans q1
  cases (State.methodFound?_of_named hnamed hy).symm.trans q2
  cases hnamed.symm.trans q3
  have hselP : selectMethod e.platform s.vm cellB.cls mk = .method mk := by rw [Launch.admits_selectMethod X.admits]; exact q4
  obtain ⟨vm₁, X₁, hstep₁⟩ := X.invokevirtual hexec hown hlink hnamed hmethM hstM hkP hkPi hy (a := b) (cell := cellB) hcell
    (fun z h => by rw [h] at hobj; cases hobj) hselP hmethM habM hkP hkPi (g := g) hg (argsL := argsL) (rest := rest) (hlen _ hsigM) hstack hdg
  rcases hK m meth c ⟨T.setVm vm₁, locs, cells, slots⟩ { g with stack := rest } (.invokevirtual index) mk (Value.ref b :: argsL).toArray X₁ hg hsize hdg hW (X₁.named hnamed) (hpre vm₁ X₁.warmed) with ⟨v, B, X', hpost, hsteps⟩ | ⟨q, B, X', hpost, hsteps⟩
  · exact Or.inl ⟨v, vm₁, B, X₁.warmed, X', hpost, fun target h => hstep₁ _ fun acts => by rw [doInvoke_state]; exact hsteps.trans h⟩
  · exact Or.inr ⟨q, vm₁, B, X₁.warmed, X', hpost, hstep₁ _ fun acts => by rw [doInvoke_state]; exact hsteps⟩
theorem vx_callS (X : Stand p l e R s m args below meth c T locs cells slots) (hexec : p.tables.exec = Jvm.exec) {own : String} {index : Nat} {y : MethodName} {bytes : ByteArray} {maxL : Nat} {ret : Option FieldType}
    (hown : s.vm.findClass own = some m.cls) (hlink : (Cond.methodLink own index y).before args s = true) (hstat : (Cond.static y).before args s = true) (hinit : (Cond.initialized y.cls).before args s = true)
    (hcode : (Cond.code y bytes maxL ret).before args s = true) (hy : y.cls ≠ "java/lang/invoke/MethodHandle" ∧ y.cls ≠ "java/lang/invoke/VarHandle")
    {W9 : Nat} {Pre : Pt → Array Value → Prop} {Post : Pt → Array Value → Option Value → Pt → Prop} {PostX : Pt → Array Value → Addr → Pt → Prop} (hK : vx_Back l R p e below s args y 3 W9 Pre Post PostX)
    {g : JFrame} (hg : g.method = m) (hsize : g.locals.size = c.maxLocals) {argsL rest : List Value} (hlen : ∀ sig, parseMethodDescriptor y.desc = some sig → argsL.length = sig.parameters.length)
    (hstack : g.stack = argsL.reverse ++ rest) (hW : 2 * g.monitorRoom + (rest.map fun v => v.category).sum ≤ W9) (hdg : decode c.code g.pc = .ok (.invokestatic index, 3))
    (hpre : ∀ vm₁, s.WarmedH vm₁ → Pre ⟨T.setVm vm₁, locs, cells, slots⟩ argsL.toArray) :
    (∃ (v : Option Value) (vm₁ : Vm) (B : Pt), s.WarmedH vm₁ ∧ Stand p l e R s m args below meth c B.U B.locs B.cells B.slots ∧ Post ⟨T.setVm vm₁, locs, cells, slots⟩ argsL.toArray v B ∧
      ∀ target, Steps p.tables e below (B.U.setTop { g with pc := g.pc + 3, stack := v.toList ++ rest }) target → Steps p.tables e below (T.setTop g) target) ∨
    (∃ (q : Addr) (vm₁ : Vm) (B : Pt), s.WarmedH vm₁ ∧ Stand p l e R s m args below meth c B.U B.locs B.cells B.slots ∧ PostX ⟨T.setVm vm₁, locs, cells, slots⟩ argsL.toArray q B ∧
      Steps p.tables e below (T.setTop g) ((B.U.setTop { g with stack := rest }).pushFrame (.throwing q))) := by
  obtain ⟨mk, hnamed⟩ := Cond.code_named hcode
  obtain ⟨methM, cM, hmethM, -, -, -, -, -, -, hsigM⟩ := Cond.code_spec hnamed hcode
  have hstatic : methM.isStatic = true := Cond.static_spec hnamed hmethM hstat
  obtain ⟨kP, hkP, -⟩ := className_of_methodNamed hnamed
  have hinitP : kP.init = .initialized := Cond.initialized_spec (findClass_of_methodNamed hnamed) hkP hinit
  obtain ⟨vm₁, X₁, hstep₁⟩ := X.invokestatic hexec hown hlink hnamed hmethM hstatic hkP hinitP hy (g := g) hg (argsL := argsL) (rest := rest) (hlen _ hsigM) hstack hdg
  rcases hK m meth c ⟨T.setVm vm₁, locs, cells, slots⟩ { g with stack := rest } (.invokestatic index) mk argsL.toArray X₁ hg hsize hdg hW (X₁.named hnamed) (hpre vm₁ X₁.warmed) with ⟨v, B, X', hpost, hsteps⟩ | ⟨q, B, X', hpost, hsteps⟩
  · exact Or.inl ⟨v, vm₁, B, X₁.warmed, X', hpost, fun target h => hstep₁ _ fun acts => by rw [doInvoke_state]; exact hsteps.trans h⟩
  · exact Or.inr ⟨q, vm₁, B, X₁.warmed, X', hpost, hstep₁ _ fun acts => by rw [doInvoke_state]; exact hsteps⟩
end Calls
theorem vx_cls {s : State} {T : State} {vm₁ : Vm} {E : String} {k : ClassId} (hW : s.WarmedH vm₁) (h : (T.setVm vm₁).vm.findClass E = some k) : s.vm.findClass E = some k := by
  have h1 : vm₁.findClass E = some k := h
  rw [hW.alike.findClass] at h1
  exact h1
/-- the method's frame g, with q thrown over it -/
def vx_W (p : Program) (l : Launch) (e : Env) (R : Room) (s : State) (m : MethodId) (args : Array Value) (below : List Frame) (meth : Method) (c : Code) (H : Heap) (locs : List Loc) (cells slots : Nat) (Q : State → Prop) (g : JFrame) (q : Addr) : Prop :=
  ∀ T : State, T.heap = H → Stand p l e R s m args below meth c T locs cells slots → ∃ t, Steps p.tables e below ((T.setTop g).pushFrame (.throwing q)) t ∧ Q t
def vx_Run (p : Program) (l : Launch) (e : Env) (R : Room) (s : State) (m : MethodId) (args : Array Value) (below : List Frame) (meth : Method) (c : Code) (H : Heap) (locs : List Loc) (cells slots mc ms : Nat) (g : JFrame) (rest : List Value) (Qa : State → Outcome → State → Prop) (XC : String → State → State → Prop) (free : Addr → Prop) : Prop :=
  ∀ T : State, T.heap = H → Stand p l e R s m args below meth c T locs cells slots →
    (∃ (v : Option Value) (st₀ t T' : State) (L : List Loc), st₀.heap = H ∧ Stand p l e R s m args below meth c T' (locs ++ L) (cells + mc) (slots + ms) ∧ (∀ q ∈ L, free q.base) ∧ T'.heap = t.heap ∧ T'.vm = t.vm ∧ Qa st₀ (.returned v) t ∧
      Goes p e below T g T' { g with pc := g.pc + 3, stack := v.toList ++ rest }) ∨
    (∃ (q : Addr) (st₀ t T' : State) (L : List Loc) (E : String) (ce : Cell), st₀.heap = H ∧ Stand p l e R s m args below meth c T' (locs ++ L) (cells + mc) (slots + ms) ∧ (∀ z ∈ L, free z.base) ∧ T'.heap = t.heap ∧ T'.vm = t.vm ∧ XC E st₀ t ∧ t.heap[q]? = some ce ∧ ce.vm = .none ∧ s.vm.findClass E = some ce.cls ∧
      Steps p.tables e below (T.setTop g) ((T'.setTop { g with stack := rest }).pushFrame (.throwing q)))
def vx_X {S : Type} (px : S → Prop) (B : String → S → State → Prop) (A : Nat → Prop) : String → State → State → Prop := fun E st t => ∃ u : S, px u ∧ B E u t ∧ va_F A st t
section Runs
variable {p : Program} {l : Launch} {e : Env} {R : Room} {s : State} {m : MethodId} {args : Array Value} {below : List Frame} {meth : Method} {c : Code} {H : Heap} {locs : List Loc} {cells slots : Nat}
variable {y : MethodName} {bytes cc : ByteArray} {maxL nL mc ms n index : Nat} {ret : Option FieldType} {ws : List Cond} {rm : Room} {Pc : Array Value → State → Prop} {Qc : Array Value → State → Outcome → State → Prop} {XC : String → State → State → Prop} {free : Addr → Prop} {Ts : List Cond} {own C : String} {b : Addr} {As rest : List Value} {g : JFrame}
theorem vx_callBack (cb : CallB R s args own index y bytes maxL ret ws rm mc ms n) (hM : vx_Met l y ws rm Pc Qc XC mc ms free) (hbl : FrameBlind Pc) : vx_Back l R p e below s args y 3 8 (PreOf R mc ms Pc) (PostOf Qc mc ms free) (vx_Post XC mc ms free) := by
  obtain ⟨hrc, hrs, hfr, hlo, hws, hcw, -, hini, -⟩ := cb
  exact vx_back (bytes := bytes) (maxL := maxL) (ret := ret) hM hbl hrc hrs hfr hlo hws hcw (fun a' U hW => word_at hW (Or.inl (by first | rfl | simp [Cond.onTables, Cond.keeps, Cond.steady])) hini)
theorem vx_runV (S : CallFix p m c cc nL s args Ts own) (hM : vx_Met l y ws rm Pc Qc XC mc ms free) (cw : CallW R s args own C index y bytes maxL ret ws rm mc ms n) (hp : PreV s H C b Pc As)
    (hg : g.method = m) (hn : As.length = n) (hsize : g.locals.size = nL) (hstack : g.stack = As.reverse ++ .ref b :: rest) (hW : 2 * g.monitorRoom + (rest.map fun v => v.category).sum ≤ 8) (hdg : decode cc g.pc = .ok (.invokevirtual index, 3)) (hf : cells + mc ≤ R.cells ∧ slots + ms ≤ R.slots) :
    vx_Run p l e R s m args below meth c H locs cells slots mc ms g rest (Qc (Value.ref b :: As).toArray) XC free := by
  have hK : vx_Back l R p e below s args y 3 8 (PreOf R mc ms Pc) (PostOf Qc mc ms free) (vx_Post XC mc ms free) := vx_callBack cw.1 hM hp.1
  obtain ⟨⟨-, -, -, -, -, -, hcode, -, hy, hlen, hl⟩, hin, hse⟩ := cw
  obtain ⟨hx, hb, hml, ho, -⟩ := S
  obtain ⟨-, ⟨cellB, hcB, hoB, hclB⟩, hPc⟩ := hp
  intro T hT X
  rcases vx_callV X hx (C := C) (bytes := bytes) (maxL := maxL) (ret := ret) ho hl hin hse hcode hy hK (by rw [hT]; exact hcB) hoB hclB hg (hsize.trans hml.symm) (argsL := As) (rest := rest) (fun sig h => hn.trans (hlen sig h)) hstack hW (by rw [hb]; exact hdg)
    (fun vm₁ hW₁ => ⟨hf.1, hf.2, hPc (T.setVm vm₁) hT hW₁⟩) with ⟨v, vm₁, ⟨U', l2, c2, s2⟩, hW₁, X', ⟨g', mk, t, L, e1, e2, hq, h1, hL, h2, h3⟩, st⟩ | ⟨q, vm₁, ⟨U', l2, c2, s2⟩, hW₁, X', ⟨g', mk, t, L, E, ce, e1, e2, hq, hce, hcv, hcl, h1, hL, h2, h3⟩, st⟩
  · dsimp only [Pt.U, Pt.locs, Pt.cells, Pt.slots] at X' e1 e2 h1 h2 h3 st
    subst h1; subst h2; subst h3
    exact Or.inl ⟨v, (T.setVm vm₁).calling g' mk (Value.ref b :: As).toArray, t, U', L, hT, X', hL, e1, e2, hq, st⟩
  · dsimp only [Pt.U, Pt.locs, Pt.cells, Pt.slots] at X' e1 e2 h1 h2 h3 st hcl
    subst h1; subst h2; subst h3
    exact Or.inr ⟨q, (T.setVm vm₁).calling g' mk (Value.ref b :: As).toArray, t, U', L, E, ce, hT, X', hL, e1, e2, hq, hce, hcv, vx_cls hW₁ hcl, st⟩
theorem vx_runS (S : CallFix p m c cc nL s args Ts own) (hM : vx_Met l y ws rm Pc Qc XC mc ms free) (cw : CallB R s args own index y bytes maxL ret ws rm mc ms n ∧ (Cond.static y).before args s = true) (hp : PreS s H Pc As)
    (hg : g.method = m) (hn : As.length = n) (hsize : g.locals.size = nL) (hstack : g.stack = As.reverse ++ rest) (hW : 2 * g.monitorRoom + (rest.map fun v => v.category).sum ≤ 8) (hdg : decode cc g.pc = .ok (.invokestatic index, 3)) (hf : cells + mc ≤ R.cells ∧ slots + ms ≤ R.slots) :
    vx_Run p l e R s m args below meth c H locs cells slots mc ms g rest (Qc As.toArray) XC free := by
  have hK : vx_Back l R p e below s args y 3 8 (PreOf R mc ms Pc) (PostOf Qc mc ms free) (vx_Post XC mc ms free) := vx_callBack cw.1 hM hp.1
  obtain ⟨⟨-, -, -, -, -, -, hcode, hini, hy, hlen, hl⟩, hstt⟩ := cw
  obtain ⟨hx, hb, hml, ho, -⟩ := S
  intro T hT X
  rcases vx_callS X hx (bytes := bytes) (maxL := maxL) (ret := ret) ho hl hstt hini hcode hy hK hg (hsize.trans hml.symm) (argsL := As) (rest := rest) (fun sig h => hn.trans (hlen sig h)) hstack hW (by rw [hb]; exact hdg)
    (fun vm₁ hW₁ => ⟨hf.1, hf.2, hp.2 (T.setVm vm₁) hT hW₁⟩) with ⟨v, vm₁, ⟨U', l2, c2, s2⟩, hW₁, X', ⟨g', mk, t, L, e1, e2, hq, h1, hL, h2, h3⟩, st⟩ | ⟨q, vm₁, ⟨U', l2, c2, s2⟩, hW₁, X', ⟨g', mk, t, L, E, ce, e1, e2, hq, hce, hcv, hcl, h1, hL, h2, h3⟩, st⟩
  · dsimp only [Pt.U, Pt.locs, Pt.cells, Pt.slots] at X' e1 e2 h1 h2 h3 st
    subst h1; subst h2; subst h3
    exact Or.inl ⟨v, (T.setVm vm₁).calling g' mk As.toArray, t, U', L, hT, X', hL, e1, e2, hq, st⟩
  · dsimp only [Pt.U, Pt.locs, Pt.cells, Pt.slots] at X' e1 e2 h1 h2 h3 st hcl
    subst h1; subst h2; subst h3
    exact Or.inr ⟨q, (T.setVm vm₁).calling g' mk As.toArray, t, U', L, E, ce, hT, X', hL, e1, e2, hq, hce, hcv, vx_cls hW₁ hcl, st⟩
end Runs
section Rows
variable {p : Program} {l : Launch} {e : Env} {R : Room} {s : State} {m : MethodId} {args : Array Value} {below : List Frame} {meth : Method} {c : Code} {H : Heap} {locs : List Loc} {cells slots : Nat} {Q : State → Prop}
variable {mc ms : Nat} {free : Addr → Prop} {A0 A1 : Nat → Prop} {H0 : Heap} {a : Array Value} {pc : Nat} {ls : Array Slot} {st0 rest : List Value}
theorem vx_keep {st₀ t T' : State} {L : List Loc} (h0 : st₀.heap = H) (e1 : T'.heap = t.heap) (hS : va_S A0 H0 H locs) (hA : ∀ q, q < H.size → A1 q → A0 q) (hf : ∀ q, free q → A0 q) (hL : ∀ q ∈ L, free q.base) (hF : va_F A1 st₀ t) :
    H.size ≤ T'.heap.size ∧ (∀ q : Nat, q < H.size → ¬ A1 q → T'.heap[q]? = H[q]?) ∧ va_S A0 H0 T'.heap (locs ++ L) := by
  obtain ⟨hz, hk⟩ := hF
  rw [h0] at hz hk
  exact ⟨by rw [e1]; exact hz, fun q h1 h2 => by rw [e1]; exact hk q h1 h2,
    ⟨Nat.le_trans hS.1 (by rw [e1]; exact hz), fun q h1 h2 => by rw [e1, hk q (Nat.lt_of_lt_of_le h1 hS.1) (fun z => h2 (hA q (Nat.lt_of_lt_of_le h1 hS.1) z))]; exact hS.2.1 q h1 h2, fun q hq => by
      rcases List.mem_append.mp hq with h | h
      · exact hS.2.2 q h
      · exact hf _ (hL q h)⟩⟩
theorem vx_calli {S SX : Type} {post : Int32 → S → Prop} {px : SX → Prop} {B : S → State → Prop} {BX : String → SX → State → Prop} {AX : Nat → Prop} (hr : vx_Run p l e R s m args below meth c H locs cells slots mc ms (F0 m pc ls st0) rest (va_Qi post B A1 a) (vx_X px BX AX) free) (hS : va_S A0 H0 H locs) (hA : ∀ q, q < H.size → A1 q → A0 q) (hf : ∀ q, free q → A0 q) (hAX : ∀ q, q < H.size → AX q → A0 q)
    (kx : ∀ (E : String) (ce : Cell) (q9 : Addr) (u : SX) (t : State) (H1 : Heap) (locs1 : List Loc), t.heap = H1 → s.vm.Alike t.vm → px u → BX E u t → H.size ≤ H1.size → (∀ q : Nat, q < H.size → ¬ AX q → H1[q]? = H[q]?) → va_S A0 H0 H1 locs1 → H1[q9]? = some ce → ce.vm = .none → s.vm.findClass E = some ce.cls → vx_W p l e R s m args below meth c H1 locs1 (cells + mc) (slots + ms) Q (F0 m pc ls rest) q9)
    (kk : ∀ (r : Int32) (u : S) (t : State) (H1 : Heap) (locs1 : List Loc), t.heap = H1 → s.vm.Alike t.vm → post r u → B u t → H.size ≤ H1.size → (∀ q : Nat, q < H.size → ¬ A1 q → H1[q]? = H[q]?) → va_S A0 H0 H1 locs1 → W p l e R s m args below meth c H1 locs1 (cells + mc) (slots + ms) Q (F0 m (pc + 3) ls (.int r :: rest))) : W p l e R s m args below meth c H locs cells slots Q (F0 m pc ls st0) := by
  intro T hT X
  rcases hr T hT X with ⟨v, st₀, t, T', L, h0, X', hL, e1, e2, ⟨⟨r, u, hv, hp, hb⟩, hF⟩, st⟩ | ⟨q, st₀, t, T', L, E, ce, h0, X', hL, e1, e2, ⟨u, hp, hb, hF⟩, hce, hcv, hcl, st⟩
  · cases hv
    obtain ⟨k1, k2, k3⟩ := vx_keep h0 e1 hS hA hf hL hF
    obtain ⟨t2, a1, b1⟩ := kk r u t T'.heap (locs ++ L) e1.symm (by rw [← e2]; exact X'.warmed.alike) hp hb k1 k2 k3 T' rfl X'
    exact ⟨t2, st t2 a1, b1⟩
  · obtain ⟨k1, k2, k3⟩ := vx_keep h0 e1 hS hAX hf hL hF
    obtain ⟨t2, a1, b1⟩ := kx E ce q u t T'.heap (locs ++ L) e1.symm (by rw [← e2]; exact X'.warmed.alike) hp hb k1 k2 k3 (by rw [e1]; exact hce) hcv hcl T' rfl X'
    exact ⟨t2, st.trans a1, b1⟩
theorem vx_calll {S SX : Type} {post : Int64 → S → Prop} {px : SX → Prop} {B : S → State → Prop} {BX : String → SX → State → Prop} {AX : Nat → Prop} (hr : vx_Run p l e R s m args below meth c H locs cells slots mc ms (F0 m pc ls st0) rest (va_Ql post B A1 a) (vx_X px BX AX) free) (hS : va_S A0 H0 H locs) (hA : ∀ q, q < H.size → A1 q → A0 q) (hf : ∀ q, free q → A0 q) (hAX : ∀ q, q < H.size → AX q → A0 q)
    (kx : ∀ (E : String) (ce : Cell) (q9 : Addr) (u : SX) (t : State) (H1 : Heap) (locs1 : List Loc), t.heap = H1 → s.vm.Alike t.vm → px u → BX E u t → H.size ≤ H1.size → (∀ q : Nat, q < H.size → ¬ AX q → H1[q]? = H[q]?) → va_S A0 H0 H1 locs1 → H1[q9]? = some ce → ce.vm = .none → s.vm.findClass E = some ce.cls → vx_W p l e R s m args below meth c H1 locs1 (cells + mc) (slots + ms) Q (F0 m pc ls rest) q9)
    (kk : ∀ (r : Int64) (u : S) (t : State) (H1 : Heap) (locs1 : List Loc), t.heap = H1 → s.vm.Alike t.vm → post r u → B u t → H.size ≤ H1.size → (∀ q : Nat, q < H.size → ¬ A1 q → H1[q]? = H[q]?) → va_S A0 H0 H1 locs1 → W p l e R s m args below meth c H1 locs1 (cells + mc) (slots + ms) Q (F0 m (pc + 3) ls (.long r :: rest))) : W p l e R s m args below meth c H locs cells slots Q (F0 m pc ls st0) := by
  intro T hT X
  rcases hr T hT X with ⟨v, st₀, t, T', L, h0, X', hL, e1, e2, ⟨⟨r, u, hv, hp, hb⟩, hF⟩, st⟩ | ⟨q, st₀, t, T', L, E, ce, h0, X', hL, e1, e2, ⟨u, hp, hb, hF⟩, hce, hcv, hcl, st⟩
  · cases hv
    obtain ⟨k1, k2, k3⟩ := vx_keep h0 e1 hS hA hf hL hF
    obtain ⟨t2, a1, b1⟩ := kk r u t T'.heap (locs ++ L) e1.symm (by rw [← e2]; exact X'.warmed.alike) hp hb k1 k2 k3 T' rfl X'
    exact ⟨t2, st t2 a1, b1⟩
  · obtain ⟨k1, k2, k3⟩ := vx_keep h0 e1 hS hAX hf hL hF
    obtain ⟨t2, a1, b1⟩ := kx E ce q u t T'.heap (locs ++ L) e1.symm (by rw [← e2]; exact X'.warmed.alike) hp hb k1 k2 k3 (by rw [e1]; exact hce) hcv hcl T' rfl X'
    exact ⟨t2, st.trans a1, b1⟩
theorem vx_callf {S SX : Type} {post : UInt32 → S → Prop} {px : SX → Prop} {B : S → State → Prop} {BX : String → SX → State → Prop} {AX : Nat → Prop} (hr : vx_Run p l e R s m args below meth c H locs cells slots mc ms (F0 m pc ls st0) rest (va_Qf post B A1 a) (vx_X px BX AX) free) (hS : va_S A0 H0 H locs) (hA : ∀ q, q < H.size → A1 q → A0 q) (hf : ∀ q, free q → A0 q) (hAX : ∀ q, q < H.size → AX q → A0 q)
    (kx : ∀ (E : String) (ce : Cell) (q9 : Addr) (u : SX) (t : State) (H1 : Heap) (locs1 : List Loc), t.heap = H1 → s.vm.Alike t.vm → px u → BX E u t → H.size ≤ H1.size → (∀ q : Nat, q < H.size → ¬ AX q → H1[q]? = H[q]?) → va_S A0 H0 H1 locs1 → H1[q9]? = some ce → ce.vm = .none → s.vm.findClass E = some ce.cls → vx_W p l e R s m args below meth c H1 locs1 (cells + mc) (slots + ms) Q (F0 m pc ls rest) q9)
    (kk : ∀ (r : UInt32) (u : S) (t : State) (H1 : Heap) (locs1 : List Loc), t.heap = H1 → s.vm.Alike t.vm → post r u → B u t → H.size ≤ H1.size → (∀ q : Nat, q < H.size → ¬ A1 q → H1[q]? = H[q]?) → va_S A0 H0 H1 locs1 → W p l e R s m args below meth c H1 locs1 (cells + mc) (slots + ms) Q (F0 m (pc + 3) ls (.float r :: rest))) : W p l e R s m args below meth c H locs cells slots Q (F0 m pc ls st0) := by
  intro T hT X
  rcases hr T hT X with ⟨v, st₀, t, T', L, h0, X', hL, e1, e2, ⟨⟨r, u, hv, hp, hb⟩, hF⟩, st⟩ | ⟨q, st₀, t, T', L, E, ce, h0, X', hL, e1, e2, ⟨u, hp, hb, hF⟩, hce, hcv, hcl, st⟩
  · cases hv
    obtain ⟨k1, k2, k3⟩ := vx_keep h0 e1 hS hA hf hL hF
    obtain ⟨t2, a1, b1⟩ := kk r u t T'.heap (locs ++ L) e1.symm (by rw [← e2]; exact X'.warmed.alike) hp hb k1 k2 k3 T' rfl X'
    exact ⟨t2, st t2 a1, b1⟩
  · obtain ⟨k1, k2, k3⟩ := vx_keep h0 e1 hS hAX hf hL hF
    obtain ⟨t2, a1, b1⟩ := kx E ce q u t T'.heap (locs ++ L) e1.symm (by rw [← e2]; exact X'.warmed.alike) hp hb k1 k2 k3 (by rw [e1]; exact hce) hcv hcl T' rfl X'
    exact ⟨t2, st.trans a1, b1⟩
theorem vx_calld {S SX : Type} {post : UInt64 → S → Prop} {px : SX → Prop} {B : S → State → Prop} {BX : String → SX → State → Prop} {AX : Nat → Prop} (hr : vx_Run p l e R s m args below meth c H locs cells slots mc ms (F0 m pc ls st0) rest (va_Qd post B A1 a) (vx_X px BX AX) free) (hS : va_S A0 H0 H locs) (hA : ∀ q, q < H.size → A1 q → A0 q) (hf : ∀ q, free q → A0 q) (hAX : ∀ q, q < H.size → AX q → A0 q)
    (kx : ∀ (E : String) (ce : Cell) (q9 : Addr) (u : SX) (t : State) (H1 : Heap) (locs1 : List Loc), t.heap = H1 → s.vm.Alike t.vm → px u → BX E u t → H.size ≤ H1.size → (∀ q : Nat, q < H.size → ¬ AX q → H1[q]? = H[q]?) → va_S A0 H0 H1 locs1 → H1[q9]? = some ce → ce.vm = .none → s.vm.findClass E = some ce.cls → vx_W p l e R s m args below meth c H1 locs1 (cells + mc) (slots + ms) Q (F0 m pc ls rest) q9)
    (kk : ∀ (r : UInt64) (u : S) (t : State) (H1 : Heap) (locs1 : List Loc), t.heap = H1 → s.vm.Alike t.vm → post r u → B u t → H.size ≤ H1.size → (∀ q : Nat, q < H.size → ¬ A1 q → H1[q]? = H[q]?) → va_S A0 H0 H1 locs1 → W p l e R s m args below meth c H1 locs1 (cells + mc) (slots + ms) Q (F0 m (pc + 3) ls (.double r :: rest))) : W p l e R s m args below meth c H locs cells slots Q (F0 m pc ls st0) := by
  intro T hT X
  rcases hr T hT X with ⟨v, st₀, t, T', L, h0, X', hL, e1, e2, ⟨⟨r, u, hv, hp, hb⟩, hF⟩, st⟩ | ⟨q, st₀, t, T', L, E, ce, h0, X', hL, e1, e2, ⟨u, hp, hb, hF⟩, hce, hcv, hcl, st⟩
  · cases hv
    obtain ⟨k1, k2, k3⟩ := vx_keep h0 e1 hS hA hf hL hF
    obtain ⟨t2, a1, b1⟩ := kk r u t T'.heap (locs ++ L) e1.symm (by rw [← e2]; exact X'.warmed.alike) hp hb k1 k2 k3 T' rfl X'
    exact ⟨t2, st t2 a1, b1⟩
  · obtain ⟨k1, k2, k3⟩ := vx_keep h0 e1 hS hAX hf hL hF
    obtain ⟨t2, a1, b1⟩ := kx E ce q u t T'.heap (locs ++ L) e1.symm (by rw [← e2]; exact X'.warmed.alike) hp hb k1 k2 k3 (by rw [e1]; exact hce) hcv hcl T' rfl X'
    exact ⟨t2, st.trans a1, b1⟩
theorem vx_callv {S SX : Type} {post : S → Prop} {px : SX → Prop} {B : S → State → Prop} {BX : String → SX → State → Prop} {AX : Nat → Prop} (hr : vx_Run p l e R s m args below meth c H locs cells slots mc ms (F0 m pc ls st0) rest (va_Qv post B A1 a) (vx_X px BX AX) free) (hS : va_S A0 H0 H locs) (hA : ∀ q, q < H.size → A1 q → A0 q) (hf : ∀ q, free q → A0 q) (hAX : ∀ q, q < H.size → AX q → A0 q)
    (kx : ∀ (E : String) (ce : Cell) (q9 : Addr) (u : SX) (t : State) (H1 : Heap) (locs1 : List Loc), t.heap = H1 → s.vm.Alike t.vm → px u → BX E u t → H.size ≤ H1.size → (∀ q : Nat, q < H.size → ¬ AX q → H1[q]? = H[q]?) → va_S A0 H0 H1 locs1 → H1[q9]? = some ce → ce.vm = .none → s.vm.findClass E = some ce.cls → vx_W p l e R s m args below meth c H1 locs1 (cells + mc) (slots + ms) Q (F0 m pc ls rest) q9)
    (kk : ∀ (u : S) (t : State) (H1 : Heap) (locs1 : List Loc), t.heap = H1 → s.vm.Alike t.vm → post u → B u t → H.size ≤ H1.size → (∀ q : Nat, q < H.size → ¬ A1 q → H1[q]? = H[q]?) → va_S A0 H0 H1 locs1 → W p l e R s m args below meth c H1 locs1 (cells + mc) (slots + ms) Q (F0 m (pc + 3) ls (rest))) : W p l e R s m args below meth c H locs cells slots Q (F0 m pc ls st0) := by
  intro T hT X
  rcases hr T hT X with ⟨v, st₀, t, T', L, h0, X', hL, e1, e2, ⟨⟨u, hv, hp, hb⟩, hF⟩, st⟩ | ⟨q, st₀, t, T', L, E, ce, h0, X', hL, e1, e2, ⟨u, hp, hb, hF⟩, hce, hcv, hcl, st⟩
  · cases hv
    obtain ⟨k1, k2, k3⟩ := vx_keep h0 e1 hS hA hf hL hF
    obtain ⟨t2, a1, b1⟩ := kk u t T'.heap (locs ++ L) e1.symm (by rw [← e2]; exact X'.warmed.alike) hp hb k1 k2 k3 T' rfl X'
    exact ⟨t2, st t2 a1, b1⟩
  · obtain ⟨k1, k2, k3⟩ := vx_keep h0 e1 hS hAX hf hL hF
    obtain ⟨t2, a1, b1⟩ := kx E ce q u t T'.heap (locs ++ L) e1.symm (by rw [← e2]; exact X'.warmed.alike) hp hb k1 k2 k3 (by rw [e1]; exact hce) hcv hcl T' rfl X'
    exact ⟨t2, st.trans a1, b1⟩
/-- caught by the row x of this method's table; the rows ahead don't take it -/
theorem vx_catch {own name : String} {E : String} {ce : Cell} {q : Addr} (hown : s.vm.findClass own = some m.cls) (pre : List ExceptionTableEntry) (x : ExceptionTableEntry) (suf : List ExceptionTableEntry) (hsplit : c.exceptionTable.toList = pre ++ x :: suf)
    (hpass : ∀ z ∈ pre, covers z pc = false ∨ (z.catchType ≠ 0 ∧ ∃ nm : String, (Cond.classLink own z.catchType nm).before args s = true ∧ va_Nc E nm s)) (hx : covers x pc = true) (h0 : x.catchType ≠ 0)
    (hlink : (Cond.classLink own x.catchType name).before args s = true) (hcast : (Cond.castable E name).before args s = true) (hcell : H[q]? = some ce) (hv : ce.vm = .none) (hcl : s.vm.findClass E = some ce.cls)
    (kk : W p l e R s m args below meth c H locs cells slots Q (F0 m x.handlerPc ls [.ref q])) : vx_W p l e R s m args below meth c H locs cells slots Q (F0 m pc ls rest) q := by
  intro T hT X
  have hpl : e.platform.magicAccessors = ({} : Platform).magicAccessors := by rw [X.admits.platform]
  obtain ⟨c3, c4, hc3, hc4, hasg⟩ := Cond.castable_spec hcast
  cases Option.some.inj (hc3.symm.trans hcl)
  obtain ⟨c5, hc5, hcl5⟩ := Cond.classLink_spec hown hlink e.platform hpl
  cases Option.some.inj (hc4.symm.trans hc5)
  obtain ⟨vm', X', st⟩ := X.thenCaughtThrough q (g := F0 m pc ls rest) rfl (Steps.refl _) (by rw [hT]; exact hcell) (by rw [hv]; rfl) (by obtain ⟨k9, h9, -⟩ := Vm.findClass_spec hcl; exact ⟨k9, h9⟩) pre x suf hsplit
    (fun z hz => by
      rcases hpass z hz with h | ⟨hz0, nm, hl1, hn1⟩
      · exact Or.inl h
      · obtain ⟨c6, hc6, hcl6⟩ := Cond.classLink_spec hown hl1 e.platform hpl
        obtain ⟨a8, b8, h1, h2, h3⟩ := hn1
        cases Option.some.inj (h1.symm.trans hcl)
        cases Option.some.inj (h2.symm.trans hc6)
        exact Or.inr ⟨hz0, _, hcl6, h3⟩) hx (Or.inr ⟨h0, c4, hcl5, hasg⟩)
  obtain ⟨t, a1, b1⟩ := kk (T.setVm vm') hT X'
  exact ⟨t, st.trans a1, b1⟩
end Rows
section Ends
variable {p : Program} {l : Launch} {e : Env} {R : Room} {s : State} {m : MethodId} {args : Array Value} {below : List Frame} {meth : Method} {c : Code} {H : Heap} {locs : List Loc} {cells slots : Nat} {Q : State → Prop}
variable {mc ms : Nat} {free : Addr → Prop} {A0 A1 : Nat → Prop} {H0 : Heap} {a : Array Value} {ls : Array Slot} {st0 rest : List Value}
variable {Qc : Array Value → State → Outcome → State → Prop} {XC : String → State → State → Prop}
/-- what a body that may throw owes at its end -/
def vx_MQ (below : List Frame) (Qc : Array Value → State → Outcome → State → Prop) (XC : String → State → State → Prop) (a : Array Value) (s : State) (mc ms : Nat) (free : Addr → Prop) : State → Prop := fun t =>
  ∃ o, t.status = .running ∧ Ended t below o ∧ vx_Q Qc XC mc ms free a s o t
theorem vx_ret {g : JFrame} {mc ms : Nat} (k : W p l e R s m args below meth c H locs cells slots (MQ below Qc args s mc ms free) g) : W p l e R s m args below meth c H locs cells slots (vx_MQ below Qc XC args s mc ms free) g := by
  intro T hT X
  obtain ⟨t, a1, o, b1, b2, b3, b4⟩ := k T hT X
  exact ⟨t, a1, o, b1, b2, Or.inl ⟨b3, b4⟩⟩
/-- not caught here: it goes on to the caller -/
theorem vx_widen {g : JFrame} {q : Addr} {k n : Nat} (h1 : cells ≤ k) (h2 : slots ≤ n) (kk : vx_W p l e R s m args below meth c H locs k n Q g q) : vx_W p l e R s m args below meth c H locs cells slots Q g q := fun T hT X => kk T hT (stand_widen X h1 h2)
theorem vx_out {pc : Nat} {E : String} {ce : Cell} {q : Addr} {mc ms : Nat} (hout : ∀ x ∈ c.exceptionTable.toList, covers x pc = false) (hlocks : meth.locks = false) (hcell : H[q]? = some ce) (hv : ce.vm = .none) (hcl : s.vm.findClass E = some ce.cls)
    (hx : ∀ t : State, t.heap = H → s.vm.Alike t.vm → XC E s t) (hf : ∀ z ∈ locs, free z.base) (hc : cells ≤ mc) (hs : slots ≤ ms) :
    vx_W p l e R s m args below meth c H locs cells slots (vx_MQ below Qc XC args s mc ms free) (F0 m pc ls rest) q := by
  intro T hT X
  obtain ⟨st1, hrun, hend, hW, hsm⟩ := X.leaveThrown q (g := F0 m pc ls rest) rfl rfl rfl hout hlocks
  have hcell9 : (T.setFrames (.throwing q :: below)).heap[q]? = some ce := by
    show T.heap[q]? = some ce
    rw [hT]; exact hcell
  exact ⟨_, st1, .threw q, hrun, hend, Or.inr ⟨q, rfl, E, ce, locs, hx _ hT hW.alike, hcell9, hv, hcl, hW, hsm.mono hc hs, hf⟩⟩
theorem vx_frame {U : State} {k n : Nat} (h : s.sameButNew ({ U with vm := s.vm } : State) locs k n) : s.heap.size ≤ U.heap.size ∧ ∀ q : Nat, q < s.heap.size → (∀ z ∈ locs, z.base ≠ q) → U.heap[q]? = s.heap[q]? := by
  obtain ⟨-, h2, -, -, -, h6⟩ := h
  refine ⟨h2, fun q hq hz => ?_⟩
  obtain ⟨c9, e1, e2, e3, e4⟩ := h6 q _ (Array.getElem?_eq_getElem hq)
  have hs : c9.slots = (s.heap[q]).slots := Array.ext_getElem? fun i => e4 i fun hm => hz _ hm rfl
  have h9 : c9 = s.heap[q] := by
    rw [hs] at e2
    exact e2
  have e5 : U.heap[q]? = some c9 := e1
  rw [e5, h9, Array.getElem?_eq_getElem hq]
/-- the words of a throw but the four that speak of the heap -/
def vx_no (w : Cond) : Bool := decide (w ≠ .isRef (.static Bundle.tN "UNASSIGNED_STACK" Bundle.steD)) && decide (w ≠ .isRef (.static Bundle.tN "SUPPRESSED_SENTINEL" Bundle.listD)) && decide (w ≠ .laysStatic Bundle.tN "UNASSIGNED_STACK" Bundle.steD) && decide (w ≠ .laysStatic Bundle.tN "SUPPRESSED_SENTINEL" Bundle.listD)
def vx_at0 (own : String) (ic : Nat) (X : String) (names : List String) : List Cond := (Bundle.ownAtoms0 own ic X names).filter vx_no
def vx_atS (own : String) (ic : Nat) (X : String) (names : List String) : List Cond := (Bundle.ownAtoms own ic X names).filter vx_no
/-- a word that the tables alone decide, or a good one -/
def vx_ot (w : Cond) : Bool := w.onTables || goodWord w
theorem vx_ot_at {args a' : Array Value} {s U : State} {w : Cond} (hW : s.WarmedH U.vm) (hvm : s.vm = U.vm) (hg : vx_ot w = true) (h : w.before args s = true) : w.before a' U = true := by
  simp only [vx_ot, Bool.or_eq_true] at hg
  rcases hg with hg | hg
  · exact va_tabs hg hvm h
  · exact word_at hW (good_of_word hg) h
/-- a list's words: the good ones out of the method's own list, the others by premises of their own -/
theorem vx_hat {args : Array Value} {s : State} {L B : List Cond} (h1 : ∀ w ∈ L.filter goodWord, w.before args s = true) (h2 : ∀ w ∈ L.filter (fun w => !goodWord w), w ∈ B) (h3 : ∀ w ∈ B, w.before args s = true) : ∀ w ∈ L, w.before args s = true := by
  intro w hw
  by_cases g : goodWord w = true
  · exact h1 w (List.mem_filter.mpr ⟨hw, g⟩)
  · refine h3 w (h2 w (List.mem_filter.mpr ⟨hw, ?_⟩))
    show (!goodWord w) = true
    cases hgw : goodWord w
    · rfl
    · exact absurd hgw g
theorem vx_c {args : Array Value} {s : State} {w : Cond} {B : List Cond} (h : w.before args s = true) (t : ∀ w ∈ B, w.before args s = true) : ∀ w' ∈ w :: B, w'.before args s = true := fun w' h' => (List.mem_cons.mp h').elim (fun e => by rw [e]; exact h) (t w')
theorem vx_n {args : Array Value} {s : State} : ∀ w ∈ ([] : List Cond), w.before args s = true := fun _ h => nomatch h
theorem vx_own {args : Array Value} {s : State} {L : List Cond} (h1 : ∀ w ∈ L.filter vx_no, w.before args s = true)
    (hU : (Cond.isRef (.static Bundle.tN "UNASSIGNED_STACK" Bundle.steD)).before args s = true) (hN : (Cond.isRef (.static Bundle.tN "SUPPRESSED_SENTINEL" Bundle.listD)).before args s = true)
    (lU : (Cond.laysStatic Bundle.tN "UNASSIGNED_STACK" Bundle.steD).before args s = true) (lN : (Cond.laysStatic Bundle.tN "SUPPRESSED_SENTINEL" Bundle.listD).before args s = true) : ∀ w ∈ L, w.before args s = true := by
  intro w hw
  by_cases e1 : w = .isRef (.static Bundle.tN "UNASSIGNED_STACK" Bundle.steD)
  · rw [e1]; exact hU
  · by_cases e2 : w = .isRef (.static Bundle.tN "SUPPRESSED_SENTINEL" Bundle.listD)
    · rw [e2]; exact hN
    · by_cases e3 : w = .laysStatic Bundle.tN "UNASSIGNED_STACK" Bundle.steD
      · rw [e3]; exact lU
      · by_cases e4 : w = .laysStatic Bundle.tN "SUPPRESSED_SENTINEL" Bundle.listD
        · rw [e4]; exact lN
        · exact h1 w (List.mem_filter.mpr ⟨hw, by unfold vx_no; rw [decide_eq_true e1, decide_eq_true e2, decide_eq_true e3, decide_eq_true e4]; rfl⟩)
/-- where a static field lies, its class's statics cell in H -/
def vx_L (C n d : String) (A : Nat → Prop) (U : State) (H : Heap) : Prop := ∃ (c : ClassId) (k : Class) (i : Nat) (f : Field) (a : Nat) (cell : Cell), U.vm.findClass C = some c ∧ U.fieldFound? C n d = some (c, k, i, f) ∧ f.isStatic = true ∧ k.statics = some a ∧ H[a]? = some cell ∧ cell.vm.isStatics = true ∧ cell.cls = c ∧ f.slot < cell.slots.size ∧ k.staticTypes[f.slot]? = some f.type ∧ ¬ A a
theorem vx_L.moved {C n d : String} {A : Nat → Prop} {u U : State} {H : Heap} (hvm : u.vm.Alike U.vm) (h : vx_L C n d A u H) : vx_L C n d A U H := by
  obtain ⟨c, k, i, f, a, cell, h1, h2, h3, h4, h5, h6, h7, h8, h9, h10⟩ := h
  obtain ⟨k', hi', he⟩ := State.fieldFound?_setVm hvm h2
  exact ⟨c, k', i, f, a, cell, by rw [hvm.findClass]; exact h1, hi', h3, by rw [he]; exact h4, h5, h6, h7, h8, by rw [he]; exact h9, h10⟩
theorem vx_L.kept {C n d : String} {A : Nat → Prop} {U : State} {H H1 : Heap} (h : vx_L C n d A U H) (hq : ∀ a : Nat, a < H.size → ¬ A a → H1[a]? = H[a]?) : vx_L C n d A U H1 := by
  obtain ⟨c, k, i, f, a, cell, h1, h2, h3, h4, h5, h6, h7, h8, h9, h10⟩ := h
  exact ⟨c, k, i, f, a, cell, h1, h2, h3, h4, by rw [hq a (Array.getElem?_eq_some_iff.mp h5).1 h10]; exact h5, h6, h7, h8, h9, h10⟩
theorem vx_L.narrow {C n d : String} {A B : Nat → Prop} {U : State} {H : Heap} (h : vx_L C n d A U H) (hAB : ∀ q, B q → A q) : vx_L C n d B U H := by
  obtain ⟨c, k, i, f, a, cell, h1, h2, h3, h4, h5, h6, h7, h8, h9, h10⟩ := h
  exact ⟨c, k, i, f, a, cell, h1, h2, h3, h4, h5, h6, h7, h8, h9, fun z => h10 (hAB _ z)⟩
theorem vx_L.word {C n d : String} {A : Nat → Prop} {s : State} {args : Array Value} (h : vx_L C n d A s s.heap) : (Cond.laysStatic C n d).before args s = true := by
  obtain ⟨c, k, i, f, a, cell, h1, h2, h3, h4, h5, h6, h7, h8, h9, -⟩ := h
  show (Cond.laysStatic C n d).holds args s none s [] = true
  exact Cond.laysStatic_of h1 h2 h3 h4 h5 h6 h7 h8 h9
/-- .. and what it holds: null or some reference -/
def vx_Zq (C n d : String) (A : Nat → Prop) (U : State) (H : Heap) : Prop := va_Zq C n d A U H ∧ vx_L C n d A U H
theorem vx_Zq.moved {C n d : String} {A : Nat → Prop} {u U : State} {H : Heap} (hvm : u.vm.Alike U.vm) (h : vx_Zq C n d A u H) : vx_Zq C n d A U H := ⟨va_Zq.moved hvm h.1, vx_L.moved hvm h.2⟩
theorem vx_Zq.kept {C n d : String} {A : Nat → Prop} {U : State} {H H1 : Heap} (h : vx_Zq C n d A U H) (hq : ∀ a : Nat, a < H.size → ¬ A a → H1[a]? = H[a]?) : vx_Zq C n d A U H1 := ⟨va_Zq.kept h.1 hq, vx_L.kept h.2 hq⟩
theorem vx_Zq.narrow {C n d : String} {A B : Nat → Prop} {U : State} {H : Heap} (h : vx_Zq C n d A U H) (hAB : ∀ q, B q → A q) : vx_Zq C n d B U H := ⟨va_Zq.narrow h.1 hAB, vx_L.narrow h.2 hAB⟩
theorem vx_Zqof {args : Array Value} {s : State} {C n d : String} {A : Nat → Prop} (hl : (Cond.laysStatic C n d).before args s = true) (hini : (Cond.initialized C).before args s = true) (h : (Cond.isRef (.static C n d)).before args s = true) (hA : ∀ a : Nat, a < s.heap.size → ¬ A a) : vx_Zq C n d A s s.heap := by
  refine ⟨va_Zqof hl hini h hA, ?_⟩
  obtain ⟨c, k, i, f, a, cell, h1, h2, h3, h4, h5, h6, h7, h8, h9⟩ := Cond.laysStatic_spec hl
  exact ⟨c, k, i, f, a, cell, h1, h2, h3, h4, h5, h6, h7, h8, h9, hA a (Array.getElem?_eq_some_iff.mp h5).1⟩
theorem vx_isRef {C n d : String} {v : Value} {A : Nat → Prop} {s : State} {args : Array Value} (h : va_Z C n d v A s s.heap) (hv : v.isRef = true) : (Cond.isRef (.static C n d)).before args s = true := by
  obtain ⟨cf, kf, fi, f, a, cell, h1, h2, h3, h4, h5, h6, h7, -⟩ := h
  have he : (Term.static C n d).eval args s none [] s = some v := by
    simp [Term.eval, State.fieldNamed?, h1, h2, h4, h5, h6, h7]
  simp only [Cond.before, Cond.holds, Cond.value, he]
  cases v <;> simp_all [Value.isRef]
theorem vx_isRefq {C n d : String} {A : Nat → Prop} {s : State} {args : Array Value} (h : va_Zq C n d A s s.heap) : (Cond.isRef (.static C n d)).before args s = true := by
  rcases h with h | ⟨t, h⟩
  · exact vx_isRef h rfl
  · exact vx_isRef h rfl
/-- the same frame, seen from here: as if the method were called anew in this heap -/
theorem vx_rebase {T : State} (X : Stand p l e R s m args below meth c T locs cells slots) {R' : Room} (hf : R'.frames ≤ R.frames) (hl : R'.locals ≤ R.locals) (hc : cells + R'.cells ≤ R.cells) (hs : slots + R'.slots ≤ R.slots) :
    Stand p l e R' ((T.setVm s.vm).setFrames (.invoking m args :: below)) m args below meth c T [] 0 0 := by
  have htop : (T.setVm s.vm).topJava?.isSome := X.here.top
  have hF : ((T.setVm s.vm).setFrames (.invoking m args :: below)).frames = .invoking m args :: below := State.frames_setFrames _ (State.cur_lt_of_top htop)
  obtain ⟨g₀, hg0⟩ := Option.isSome_iff_exists.mp htop
  obtain ⟨r, hr⟩ := State.topJava?_eq_some.mp hg0
  have hl9 : e.platform.stackLimits (T.setVm s.vm).me = e.platform.stackLimits s.me := X.limits
  have hb9 : (T.setVm s.vm).me.stackBytes = s.me.stackBytes := X.bytes
  refine ⟨X.admits, X.cas, X.clock, hF, ?_, X.hears, X.method, X.code, X.here, X.tail, X.warmed, ?_, ?_, ?_⟩
  · have h := X.room
    have hU : ((T.setVm s.vm).setFrames (.invoking m args :: below)).localsInUse = s.localsInUse := by
      rw [State.localsInUse_invoking hF (meth := meth) (c := c) X.method X.code, State.localsInUse_invoking X.frames X.method X.code]
    simp only [State.hasRoom, Bool.and_eq_true, decide_eq_true_eq] at h ⊢
    obtain ⟨⟨⟨⟨h1, h2, h3, h4, h5, h6⟩, h7⟩, h8⟩, h9⟩ := h
    rw [X.frames, List.length_cons] at h2 h3
    have q1 := X.heapSize
    have q2 := X.used
    simp only [hF, hU, List.length_cons, State.stackLimits_setFrames, State.stackBytes_setFrames, hl9, hb9]
    refine ⟨⟨⟨⟨by omega, by omega, by omega, by omega, by omega, h6⟩, ?_⟩, ?_⟩, X.book⟩
    · show T.heap.size + R'.cells ≤ e.platform.maxCells
      omega
    · show T.slotsUsed + R'.slots ≤ e.platform.maxSlots
      omega
  · rw [State.stackLimits_setFrames]; rfl
  · rw [State.stackBytes_setFrames]; rfl
  · refine ⟨?_, Nat.le_refl _, Nat.le_refl _, ?_, ?_, fun a c9 h9 => ⟨c9, h9, rfl, rfl, fun _ _ => rfl⟩⟩
    · obtain ⟨t, ht, -⟩ := State.frames_cons hr
      show T.setVm s.vm = { ((T.setVm s.vm).setFrames (.invoking m args :: below)).setFrames (T.setVm s.vm).frames with heap := T.heap, slotsUsed := T.slotsUsed }
      rw [State.setFrames_setFrames, State.setFrames_self ht]
      rfl
    · show T.slotsUsed = T.slotsUsed + ((T.heap.toList.drop T.heap.size).map (·.slots.size)).sum
      rw [List.drop_eq_nil_of_le (Nat.le_of_eq Array.length_toList)]
      rfl
    · show ((T.heap.toList.drop T.heap.size).map (·.slots.size)).sum ≤ 0
      rw [List.drop_eq_nil_of_le (Nat.le_of_eq Array.length_toList)]
      exact Nat.le_refl _
/-- 'throw new E()': new; dup; invokespecial; athrow -/
theorem vx_throw0 {cc : ByteArray} {pc : Nat} (hexec : p.tables.exec = Jvm.exec) (hb : c.code = cc) (hl : l.stackTraces = false) {own cls : String} {names : List String} {ik ic mc ms : Nat} {A : Nat → Prop}
    (hown : s.vm.findClass own = some m.cls) (hcls : Bundle.fit cls = true) (hnames : ∀ n ∈ names, Bundle.fit n = true)
    (hk : (Cond.classLink own ik cls).before args s = true) (hini : (Cond.initialized cls).before args s = true) (hat : ∀ w ∈ vx_at0 own ic cls names, w.before args s = true)
    (hgood : ∀ w ∈ Cond.classLink own ik cls :: Cond.initialized cls :: vx_at0 own ic cls names, vx_ot w = true)
    (hU : vx_Zq Bundle.tN "UNASSIGNED_STACK" Bundle.steD A s s.heap) (hN : vx_Zq Bundle.tN "SUPPRESSED_SENTINEL" Bundle.listD A s s.heap) (hS : va_S A s.heap H locs) (hsize : ls.size = c.maxLocals)
    (d0 : decode cc pc = .ok (.new ik, 3)) (d3 : decode cc (pc + 3) = .ok (.dup, 1)) (d4 : decode cc (pc + 4) = .ok (.invokespecial ic, 3)) (d7 : decode cc (pc + 7) = .ok (.athrow, 1))
    (hout : ∀ x ∈ c.exceptionTable.toList, covers x (pc + 7) = false)
    (hRframes : names.length + 3 < R.frames) (hRlocals : (rest.map fun v => v.category).sum + (13 * (names.length + 1) + 42) ≤ R.locals) (hRcells : cells + 1 ≤ R.cells) (hRslots : slots + 6 ≤ R.slots) (hlocks : meth.locks = false)
    (hx : ∀ t : State, s.vm.Alike t.vm → H.size ≤ t.heap.size → (∀ q : Nat, q < H.size → t.heap[q]? = H[q]?) → XC cls s t)
    (hf : ∀ z ∈ locs, free z.base) (hc : cells + 1 ≤ mc) (hs : slots + 6 ≤ ms) :
    W p l e R s m args below meth c H locs cells slots (vx_MQ below Qc XC args s mc ms free) (F0 m pc ls rest) := by
  intro T hT X
  have htr : e.platform.stackTraces = false := (show e.platform.stackTraces = l.stackTraces by rw [X.admits.platform]).trans hl
  have Y := vx_rebase X (R' := { frames := R.frames, locals := R.locals, cells := 1, slots := 6 }) (Nat.le_refl _) (Nat.le_refl _) hRcells hRslots
  obtain ⟨s', hA⟩ : ∃ z, z = (T.setVm s.vm).setFrames (.invoking m args :: below) := ⟨_, rfl⟩
  rw [← hA] at Y
  have hvm : s'.vm = s.vm := by rw [hA]; rfl
  have hhp : s'.heap = H := by rw [hA]; exact hT
  have hW0 : s.WarmedH s'.vm := by rw [hvm]; exact State.WarmedH.refl s
  have hat' : ∀ w ∈ vx_at0 own ic cls names, w.before args s' = true := fun w hw => vx_ot_at hW0 hvm.symm (hgood w (List.mem_cons_of_mem _ (List.mem_cons_of_mem _ hw))) (hat w hw)
  have hk' : (Cond.classLink own ik cls).before args s' = true := vx_ot_at hW0 hvm.symm (hgood _ List.mem_cons_self) hk
  have hini' : (Cond.initialized cls).before args s' = true := vx_ot_at hW0 hvm.symm (hgood _ (List.mem_cons_of_mem _ List.mem_cons_self)) hini
  have hU' : vx_Zq Bundle.tN "UNASSIGNED_STACK" Bundle.steD A s' s'.heap := by rw [hhp]; exact vx_Zq.moved hW0.alike (hU.kept hS.2.1)
  have hN' : vx_Zq Bundle.tN "SUPPRESSED_SENTINEL" Bundle.listD A s' s'.heap := by rw [hhp]; exact vx_Zq.moved hW0.alike (hN.kept hS.2.1)
  have h : ∀ w ∈ Bundle.ownAtoms0 own ic cls names, w.before args s' = true := vx_own hat' (vx_isRefq hU'.1) (vx_isRefq hN'.1) hU'.2.word hN'.2.word
  have hown' : s'.vm.findClass own = some m.cls := by rw [hvm]; exact hown
  have hins : (Cond.instantiable cls 6).before args s' = true := h _ (by simp [Bundle.ownAtoms0])
  obtain ⟨vm₁, cX, kX, hfX, hkX, -, -, X₁, st1⟩ := Y.newCold hexec (own := own) (C := cls) (index := ik) (n := 6) hown' hk' hins hini'
    (g := F0 m pc ls rest) rfl (by rw [hb]; exact d0) (Nat.le_refl _) (Nat.le_refl _)
  generalize hT1 : (T.setVm vm₁).pushCell { cls := cX, slots := kX.instanceTypes.map defaultValue, vm := .none } = T1 at X₁ st1
  have hcat : (Value.ref T.heap.size).category = 1 := rfl
  have hcellA : T1.heap[T.heap.size]? = some (freshCell cX kX) := by rw [← hT1]; exact State.heap_pushCell_size _ _
  have d3' : decode c.code (pc + 3) = .ok (.dup, 1) := by rw [hb]; exact d3
  obtain ⟨U, hsteps, hrun, hend, hW, hsame, ce, hce, hO⟩ := X₁.ctorThrow0 hexec htr (own := own) (cls := cls) (names := names) (ic := ic) hown' hcls hnames h (fun x hx => nomatch hx) hfX hkX hcellA (by rw [hhp, hT]; exact Nat.le_refl _)
    (g := { method := m, pc := pc + 4, locals := ls, stack := .ref T.heap.size :: .ref T.heap.size :: rest, locked := none }) rfl hsize rfl rfl (rest := rest) rfl
    (by rw [hb]; exact d4) (by rw [hb]; exact d7) hout hRframes (by simp only [List.map_cons, List.sum_cons, hcat]; omega) hlocks
  obtain ⟨f1, f2⟩ := vx_frame hsame
  rw [hhp] at f1 f2
  have hWs : s.WarmedH U.vm := State.WarmedH.trans hW0 hW
  have hcl : s.vm.findClass cls = some ce.cls := by
    have h9 := hO.cls
    rw [hvm] at h9
    exact h9
  have hall : s.sameButNew ({ U with vm := s.vm } : State) locs mc ms := by
    subst hA
    obtain ⟨e1, e2⟩ := hsame
    rw [State.setFrames_setFrames] at e1
    have h2 : (T.setVm s.vm).sameButNew ({ U with vm := s.vm } : State) [] (0 + 1) (0 + 6) := ⟨e1, e2⟩
    have h3 := X.same.trans h2
    rw [List.append_nil] at h3
    exact h3.mono hc hs
  refine ⟨U, ?_, .threw T.heap.size, hrun, hend, Or.inr ⟨T.heap.size, rfl, cls, ce, locs, hx U hWs.alike f1 (fun q hq => f2 q hq (fun z hz => nomatch hz)), hce, hO.vm, hcl, hWs, hall, hf⟩⟩
  refine st1 _ ?_
  show Steps p.tables e below (T1.setTop { method := m, pc := pc + 3, locals := ls, stack := .ref T.heap.size :: rest, locked := none }) _
  jvm_step X₁.here [X₁.here.top, hexec, d3', Value.category]
  exact hsteps
/-- 'throw new E("text")': new; dup; ldc; invokespecial; athrow -/
theorem vx_throwS {cc : ByteArray} {pc : Nat} (hexec : p.tables.exec = Jvm.exec) (hb : c.code = cc) (hl : l.stackTraces = false) {own cls text : String} {names : List String} {ik is ic mc ms sa : Nat} {A : Nat → Prop}
    (hown : s.vm.findClass own = some m.cls) (hcls : Bundle.fit cls = true) (hnames : ∀ n ∈ names, Bundle.fit n = true)
    (hk : (Cond.classLink own ik cls).before args s = true) (hini : (Cond.initialized cls).before args s = true) (hstr : vk_R own is text sa s) (hat : ∀ w ∈ vx_atS own ic cls names, w.before args s = true)
    (hgood : ∀ w ∈ Cond.classLink own ik cls :: Cond.initialized cls :: vx_atS own ic cls names, vx_ot w = true)
    (hU : vx_Zq Bundle.tN "UNASSIGNED_STACK" Bundle.steD A s s.heap) (hN : vx_Zq Bundle.tN "SUPPRESSED_SENTINEL" Bundle.listD A s s.heap) (hS : va_S A s.heap H locs) (hsize : ls.size = c.maxLocals)
    (d0 : decode cc pc = .ok (.new ik, 3)) (d3 : decode cc (pc + 3) = .ok (.dup, 1)) (d4 : decode cc (pc + 4) = .ok (.ldc is, 2)) (d6 : decode cc (pc + 6) = .ok (.invokespecial ic, 3)) (d9 : decode cc (pc + 9) = .ok (.athrow, 1))
    (hout : ∀ x ∈ c.exceptionTable.toList, covers x (pc + 9) = false)
    (hRframes : names.length + 3 < R.frames) (hRlocals : (rest.map fun v => v.category).sum + (13 * (names.length + 1) + 43) ≤ R.locals) (hRcells : cells + 1 ≤ R.cells) (hRslots : slots + 6 ≤ R.slots) (hlocks : meth.locks = false)
    (hx : ∀ t : State, s.vm.Alike t.vm → H.size ≤ t.heap.size → (∀ q : Nat, q < H.size → t.heap[q]? = H[q]?) → XC cls s t)
    (hf : ∀ z ∈ locs, free z.base) (hc : cells + 1 ≤ mc) (hs : slots + 6 ≤ ms) :
    W p l e R s m args below meth c H locs cells slots (vx_MQ below Qc XC args s mc ms free) (F0 m pc ls rest) := by
  intro T hT X
  have htr : e.platform.stackTraces = false := (show e.platform.stackTraces = l.stackTraces by rw [X.admits.platform]).trans hl
  have Y := vx_rebase X (R' := { frames := R.frames, locals := R.locals, cells := 1, slots := 6 }) (Nat.le_refl _) (Nat.le_refl _) hRcells hRslots
  obtain ⟨s', hA⟩ : ∃ z, z = (T.setVm s.vm).setFrames (.invoking m args :: below) := ⟨_, rfl⟩
  rw [← hA] at Y
  have hvm : s'.vm = s.vm := by rw [hA]; rfl
  have hhp : s'.heap = H := by rw [hA]; exact hT
  have hW0 : s.WarmedH s'.vm := by rw [hvm]; exact State.WarmedH.refl s
  have hat' : ∀ w ∈ vx_atS own ic cls names, w.before args s' = true := fun w hw => vx_ot_at hW0 hvm.symm (hgood w (List.mem_cons_of_mem _ (List.mem_cons_of_mem _ hw))) (hat w hw)
  have hk' : (Cond.classLink own ik cls).before args s' = true := vx_ot_at hW0 hvm.symm (hgood _ List.mem_cons_self) hk
  have hini' : (Cond.initialized cls).before args s' = true := vx_ot_at hW0 hvm.symm (hgood _ (List.mem_cons_of_mem _ List.mem_cons_self)) hini
  have hU' : vx_Zq Bundle.tN "UNASSIGNED_STACK" Bundle.steD A s' s'.heap := by rw [hhp]; exact vx_Zq.moved hW0.alike (hU.kept hS.2.1)
  have hN' : vx_Zq Bundle.tN "SUPPRESSED_SENTINEL" Bundle.listD A s' s'.heap := by rw [hhp]; exact vx_Zq.moved hW0.alike (hN.kept hS.2.1)
  have h : ∀ w ∈ Bundle.ownAtoms own ic cls names, w.before args s' = true := vx_own hat' (vx_isRefq hU'.1) (vx_isRefq hN'.1) hU'.2.word hN'.2.word
  have hown' : s'.vm.findClass own = some m.cls := by rw [hvm]; exact hown
  have hins : (Cond.instantiable cls 6).before args s' = true := h _ (by simp [Bundle.ownAtoms])
  obtain ⟨vm₁, cX, kX, hfX, hkX, -, -, X₁, st1⟩ := Y.newCold hexec (own := own) (C := cls) (index := ik) (n := 6) hown' hk' hins hini'
    (g := F0 m pc ls rest) rfl (by rw [hb]; exact d0) (Nat.le_refl _) (Nat.le_refl _)
  generalize hT1 : (T.setVm vm₁).pushCell { cls := cX, slots := kX.instanceTypes.map defaultValue, vm := .none } = T1 at X₁ st1
  have hcat : (Value.ref T.heap.size).category = 1 := rfl
  have hcellA : T1.heap[T.heap.size]? = some (freshCell cX kX) := by rw [← hT1]; exact State.heap_pushCell_size _ _
  have d3' : decode c.code (pc + 3) = .ok (.dup, 1) := by rw [hb]; exact d3
  have d4' : decode c.code (pc + 4) = .ok (.ldc is, 2) := by rw [hb]; exact d4
  have hstr' : vk_R own is text sa s' := vk_R.warm hW0 hstr
  obtain ⟨U, hsteps, hrun, hend, hW, hsame, ce, hce, hO⟩ := X₁.ctorThrowS hexec htr (own := own) (cls := cls) (names := names) (ic := ic) hown' hcls hnames h (fun x hx => nomatch hx) hfX hkX hcellA (by rw [hhp, hT]; exact Nat.le_refl _) (msg := .ref sa) rfl
    (g := { method := m, pc := pc + 6, locals := ls, stack := .ref sa :: .ref T.heap.size :: .ref T.heap.size :: rest, locked := none }) rfl hsize rfl rfl (rest := rest) rfl
    (by rw [hb]; exact d6) (by rw [hb]; exact d9) hout hRframes (by simp only [List.map_cons, List.sum_cons, hcat]; omega) hlocks
  obtain ⟨f1, f2⟩ := vx_frame hsame
  rw [hhp] at f1 f2
  have hWs : s.WarmedH U.vm := State.WarmedH.trans hW0 hW
  have hcl : s.vm.findClass cls = some ce.cls := by
    have h9 := hO.cls
    rw [hvm] at h9
    exact h9
  have hall : s.sameButNew ({ U with vm := s.vm } : State) locs mc ms := by
    subst hA
    obtain ⟨e1, e2⟩ := hsame
    rw [State.setFrames_setFrames] at e1
    have h2 : (T.setVm s.vm).sameButNew ({ U with vm := s.vm } : State) [] (0 + 1) (0 + 6) := ⟨e1, e2⟩
    have h3 := X.same.trans h2
    rw [List.append_nil] at h3
    exact h3.mono hc hs
  refine ⟨U, ?_, .threw T.heap.size, hrun, hend, Or.inr ⟨T.heap.size, rfl, cls, ce, locs, hx U hWs.alike f1 (fun q hq => f2 q hq (fun z hz => nomatch hz)), hce, hO.vm, hcl, hWs, hall, hf⟩⟩
  refine st1 _ ?_
  show Steps p.tables e below (T1.setTop { method := m, pc := pc + 3, locals := ls, stack := .ref T.heap.size :: rest, locked := none }) _
  jvm_step X₁.here [X₁.here.top, hexec, d3', Value.category]
  exact X₁.ldcString hexec (own := own) (text := text) (index := is) (a := sa) hown' hstr'.1 hstr'.2
    (g := { method := m, pc := pc + 4, locals := ls, stack := .ref T.heap.size :: .ref T.heap.size :: rest, locked := none }) rfl d4' _ hsteps
/-- 'throw new E("text")', the text by a wide index -/
theorem vx_throwSW {cc : ByteArray} {pc : Nat} (hexec : p.tables.exec = Jvm.exec) (hb : c.code = cc) (hl : l.stackTraces = false) {own cls text : String} {names : List String} {ik is ic mc ms sa : Nat} {A : Nat → Prop}
    (hown : s.vm.findClass own = some m.cls) (hcls : Bundle.fit cls = true) (hnames : ∀ n ∈ names, Bundle.fit n = true)
    (hk : (Cond.classLink own ik cls).before args s = true) (hini : (Cond.initialized cls).before args s = true) (hstr : vk_R own is text sa s) (hat : ∀ w ∈ vx_atS own ic cls names, w.before args s = true)
    (hgood : ∀ w ∈ Cond.classLink own ik cls :: Cond.initialized cls :: vx_atS own ic cls names, vx_ot w = true)
    (hU : vx_Zq Bundle.tN "UNASSIGNED_STACK" Bundle.steD A s s.heap) (hN : vx_Zq Bundle.tN "SUPPRESSED_SENTINEL" Bundle.listD A s s.heap) (hS : va_S A s.heap H locs) (hsize : ls.size = c.maxLocals)
    (d0 : decode cc pc = .ok (.new ik, 3)) (d3 : decode cc (pc + 3) = .ok (.dup, 1)) (d4 : decode cc (pc + 4) = .ok (.ldc_w is, 3)) (d7 : decode cc (pc + 7) = .ok (.invokespecial ic, 3)) (d10 : decode cc (pc + 10) = .ok (.athrow, 1))
    (hout : ∀ x ∈ c.exceptionTable.toList, covers x (pc + 10) = false)
    (hRframes : names.length + 3 < R.frames) (hRlocals : (rest.map fun v => v.category).sum + (13 * (names.length + 1) + 43) ≤ R.locals) (hRcells : cells + 1 ≤ R.cells) (hRslots : slots + 6 ≤ R.slots) (hlocks : meth.locks = false)
    (hx : ∀ t : State, s.vm.Alike t.vm → H.size ≤ t.heap.size → (∀ q : Nat, q < H.size → t.heap[q]? = H[q]?) → XC cls s t)
    (hf : ∀ z ∈ locs, free z.base) (hc : cells + 1 ≤ mc) (hs : slots + 6 ≤ ms) :
    W p l e R s m args below meth c H locs cells slots (vx_MQ below Qc XC args s mc ms free) (F0 m pc ls rest) := by
  intro T hT X
  have htr : e.platform.stackTraces = false := (show e.platform.stackTraces = l.stackTraces by rw [X.admits.platform]).trans hl
  have Y := vx_rebase X (R' := { frames := R.frames, locals := R.locals, cells := 1, slots := 6 }) (Nat.le_refl _) (Nat.le_refl _) hRcells hRslots
  obtain ⟨s', hA⟩ : ∃ z, z = (T.setVm s.vm).setFrames (.invoking m args :: below) := ⟨_, rfl⟩
  rw [← hA] at Y
  have hvm : s'.vm = s.vm := by rw [hA]; rfl
  have hhp : s'.heap = H := by rw [hA]; exact hT
  have hW0 : s.WarmedH s'.vm := by rw [hvm]; exact State.WarmedH.refl s
  have hat' : ∀ w ∈ vx_atS own ic cls names, w.before args s' = true := fun w hw => vx_ot_at hW0 hvm.symm (hgood w (List.mem_cons_of_mem _ (List.mem_cons_of_mem _ hw))) (hat w hw)
  have hk' : (Cond.classLink own ik cls).before args s' = true := vx_ot_at hW0 hvm.symm (hgood _ List.mem_cons_self) hk
  have hini' : (Cond.initialized cls).before args s' = true := vx_ot_at hW0 hvm.symm (hgood _ (List.mem_cons_of_mem _ List.mem_cons_self)) hini
  have hU' : vx_Zq Bundle.tN "UNASSIGNED_STACK" Bundle.steD A s' s'.heap := by rw [hhp]; exact vx_Zq.moved hW0.alike (hU.kept hS.2.1)
  have hN' : vx_Zq Bundle.tN "SUPPRESSED_SENTINEL" Bundle.listD A s' s'.heap := by rw [hhp]; exact vx_Zq.moved hW0.alike (hN.kept hS.2.1)
  have h : ∀ w ∈ Bundle.ownAtoms own ic cls names, w.before args s' = true := vx_own hat' (vx_isRefq hU'.1) (vx_isRefq hN'.1) hU'.2.word hN'.2.word
  have hown' : s'.vm.findClass own = some m.cls := by rw [hvm]; exact hown
  have hins : (Cond.instantiable cls 6).before args s' = true := h _ (by simp [Bundle.ownAtoms])
  obtain ⟨vm₁, cX, kX, hfX, hkX, -, -, X₁, st1⟩ := Y.newCold hexec (own := own) (C := cls) (index := ik) (n := 6) hown' hk' hins hini'
    (g := F0 m pc ls rest) rfl (by rw [hb]; exact d0) (Nat.le_refl _) (Nat.le_refl _)
  generalize hT1 : (T.setVm vm₁).pushCell { cls := cX, slots := kX.instanceTypes.map defaultValue, vm := .none } = T1 at X₁ st1
  have hcat : (Value.ref T.heap.size).category = 1 := rfl
  have hcellA : T1.heap[T.heap.size]? = some (freshCell cX kX) := by rw [← hT1]; exact State.heap_pushCell_size _ _
  have d3' : decode c.code (pc + 3) = .ok (.dup, 1) := by rw [hb]; exact d3
  have d4' : decode c.code (pc + 4) = .ok (.ldc_w is, 3) := by rw [hb]; exact d4
  have hstr' : vk_R own is text sa s' := vk_R.warm hW0 hstr
  obtain ⟨U, hsteps, hrun, hend, hW, hsame, ce, hce, hO⟩ := X₁.ctorThrowS hexec htr (own := own) (cls := cls) (names := names) (ic := ic) hown' hcls hnames h (fun x hx => nomatch hx) hfX hkX hcellA (by rw [hhp, hT]; exact Nat.le_refl _) (msg := .ref sa) rfl
    (g := { method := m, pc := pc + 7, locals := ls, stack := .ref sa :: .ref T.heap.size :: .ref T.heap.size :: rest, locked := none }) rfl hsize rfl rfl (rest := rest) rfl
    (by rw [hb]; exact d7) (by rw [hb]; exact d10) hout hRframes (by simp only [List.map_cons, List.sum_cons, hcat]; omega) hlocks
  obtain ⟨f1, f2⟩ := vx_frame hsame
  rw [hhp] at f1 f2
  have hWs : s.WarmedH U.vm := State.WarmedH.trans hW0 hW
  have hcl : s.vm.findClass cls = some ce.cls := by
    have h9 := hO.cls
    rw [hvm] at h9
    exact h9
  have hall : s.sameButNew ({ U with vm := s.vm } : State) locs mc ms := by
    subst hA
    obtain ⟨e1, e2⟩ := hsame
    rw [State.setFrames_setFrames] at e1
    have h2 : (T.setVm s.vm).sameButNew ({ U with vm := s.vm } : State) [] (0 + 1) (0 + 6) := ⟨e1, e2⟩
    have h3 := X.same.trans h2
    rw [List.append_nil] at h3
    exact h3.mono hc hs
  refine ⟨U, ?_, .threw T.heap.size, hrun, hend, Or.inr ⟨T.heap.size, rfl, cls, ce, locs, hx U hWs.alike f1 (fun q hq => f2 q hq (fun z hz => nomatch hz)), hce, hO.vm, hcl, hWs, hall, hf⟩⟩
  refine st1 _ ?_
  show Steps p.tables e below (T1.setTop { method := m, pc := pc + 3, locals := ls, stack := .ref T.heap.size :: rest, locked := none }) _
  jvm_step X₁.here [X₁.here.top, hexec, d3', Value.category]
  exact X₁.ldcStringW hexec (own := own) (text := text) (index := is) (a := sa) hown' hstr'.1 hstr'.2
    (g := { method := m, pc := pc + 4, locals := ls, stack := .ref T.heap.size :: .ref T.heap.size :: rest, locked := none }) rfl d4' _ hsteps
end Ends
section Bodies
variable {l : Launch}
theorem vx_ofW {y : MethodName} {ws ws' : List Cond} {rm : Room} {Pc : Array Value → State → Prop} {Qc : Array Value → State → Outcome → State → Prop} {XC : String → State → State → Prop} {mc ms : Nat} {free : Addr → Prop} {cc : ByteArray} {maxL : Nat} {ret : Option FieldType}
    (hy : plainName y.cls = true) (hw : ws = Cond.code y cc maxL ret :: ws')
    (body : ∀ p e s m args below meth c s₁, BodyLoose p l y (headSpec ws rm) cc maxL ret e s m args below meth c s₁ → c.maxLocals = maxL → (∀ x ∈ c.exceptionTable.toList, False) → Pc args s →
      W p l e (headSpec ws rm).room s m args below meth c s.heap [] 0 0 (vx_MQ below Qc XC args s mc ms free) (entryFrame m args maxL)) : vx_Met l y ws rm Pc Qc XC mc ms free := by
  refine MetFree.of_bodyS (code := cc) (maxLocals := maxL) (ret := ret) hy ?_ ?_
  · intro args s m h hn
    obtain ⟨meth, c, h1, h2, h3, h4, h5, h6, -, -⟩ := Cond.code_spec hn (atoms_spec (ws := ws) h _ (by rw [hw]; exact List.mem_cons_self))
    exact ⟨meth, c, h1, h2, h3, h4, h5, h6⟩
  · intro p e s m args below meth c s₁ B hml hP _
    have hh0 : s₁.heap = s.heap := by rw [B.state]; rfl
    have ht : ∀ x ∈ c.exceptionTable.toList, False := by
      obtain ⟨meth9, c9, h1, h2, -, -, -, -, h7, -⟩ := Cond.code_spec B.named (atoms_spec (ws := ws) B.pre _ (by rw [hw]; exact List.mem_cons_self))
      cases Option.some.inj (h1.symm.trans B.method)
      cases Option.some.inj (h2.symm.trans (Stand.of_body B).code)
      intro x hx
      rw [Array.isEmpty_iff.mp h7] at hx
      cases hx
    obtain ⟨t, a1, o, b1, b2, b3⟩ := body p e s m args below meth c s₁ B hml ht hP s₁ hh0 (Stand.of_body B)
    exact ⟨t, o, a1, b1, b2, b3⟩
/-- the table of a body with handlers -/
theorem vx_table {p : Program} {x y : MethodName} {S : Spec} {cc bytes : ByteArray} {maxL maxL' : Nat} {ret ret' : Option FieldType} {e : Env} {s s₁ : State} {m : MethodId} {args : Array Value} {below : List Frame} {meth : Method} {c : Code} {hh : List (Nat × Nat × Nat × Nat)}
    (B : BodyLoose p l y S cc maxL ret e s m args below meth c s₁) (h : (Cond.codeWith y bytes maxL' ret' hh).before args s = true) : c.exceptionTable.toList = tableOf hh := by
  obtain ⟨m9, meth9, c9, hn9, h1, h2, -, -, h6, -⟩ := Cond.codeWith_spec h
  cases Option.some.inj (hn9.symm.trans B.named)
  cases Option.some.inj (h1.symm.trans B.method)
  cases Option.some.inj (h2.symm.trans (Stand.of_body B).code)
  rw [← h6, table_eq]
end Bodies
end VXA
/-! ===== END ===== -/
/-! ===== BEGIN a static call of a method with an exception table ===== -/
section VXS
variable {p : Program} {l : Launch} {e : Env} {R : Room} {s : State} {m : MethodId} {args : Array Value} {below : List Frame} {meth : Method} {c : Code} {T : State} {H : Heap} {locs : List Loc} {cells slots : Nat}
abbrev vx_CSW (R : Room) (s : State) (args : Array Value) (own : String) (index : Nat) (y : MethodName) (bytes : ByteArray) (maxL : Nat) (ret : Option FieldType) (hh : List (Nat × Nat × Nat × Nat)) (ws : List Cond) (rm : Room) (mc ms n : Nat) : Prop :=
  (rm.cells = mc ∧ rm.slots = ms ∧ rm.frames + 1 ≤ R.frames ∧ 8 + (maxL + 11) + rm.locals ≤ R.locals ∧ (∀ w ∈ ws, ∀ (a' : Array Value) (U : State), s.WarmedH U.vm → w.before a' U = true) ∧ Cond.codeWith y bytes maxL ret hh ∈ ws) ∧
  (Cond.codeWith y bytes maxL ret hh).before args s = true ∧ (Cond.initialized y.cls).before args s = true ∧ (y.cls ≠ "java/lang/invoke/MethodHandle" ∧ y.cls ≠ "java/lang/invoke/VarHandle") ∧
  (∀ sig, parseMethodDescriptor y.desc = some sig → n = sig.parameters.length) ∧ (Cond.methodLink own index y).before args s = true ∧ (Cond.static y).before args s = true
theorem vx_cwSW {own : String} {index maxL mc ms : Nat} {y : MethodName} {bytes : ByteArray} {ret : Option FieldType} {hh : List (Nat × Nat × Nat × Nat)} {Ts ws ws' : List Cond} {rm : Room} (n : Nat) (ht : ∀ w ∈ Ts, w.before args s = true) (hT : GoodIn Ts (va_wsS own index y ws)) (hw : ws = Cond.codeWith y bytes maxL ret hh :: ws') (hrc : rm.cells = mc) (hrs : rm.slots = ms)
    (hd : y.cls ≠ "java/lang/invoke/MethodHandle" ∧ y.cls ≠ "java/lang/invoke/VarHandle" ∧ (parseMethodDescriptor y.desc).map (fun d => d.parameters.length) = some n) (hR : rm.frames + 1 ≤ R.frames ∧ 8 + (maxL + 11) + rm.locals ≤ R.locals) :
    vx_CSW R s args own index y bytes maxL ret hh ws rm mc ms n := by
  have ok : ∀ w ∈ va_wsS own index y ws, w.before args s = true := fun w h => ht w (hT w h).1
  have hG : GoodIn Ts ws := fun w h => hT w (by unfold va_wsS; exact List.mem_append_right _ h)
  have hc : Cond.codeWith y bytes maxL ret hh ∈ ws := by rw [hw]; exact List.mem_cons_self
  refine ⟨⟨hrc, hrs, hR.1, hR.2, pay_in ht hG, hc⟩, ht _ (hG _ hc).1, ok _ (by simp [va_wsS]), ⟨hd.1, hd.2.1⟩, fun sig h => ?_, ok _ (by simp [va_wsS]), ok _ (by simp [va_wsS])⟩
  have h2 := hd.2.2
  rw [h] at h2
  exact (Option.some.inj h2).symm
theorem vx_callSW (X : Stand p l e R s m args below meth c T locs cells slots) (hexec : p.tables.exec = Jvm.exec) {own : String} {index : Nat} {y : MethodName} {bytes : ByteArray} {maxL : Nat} {ret : Option FieldType} {hh : List (Nat × Nat × Nat × Nat)}
    (hown : s.vm.findClass own = some m.cls) (hlink : (Cond.methodLink own index y).before args s = true) (hstat : (Cond.static y).before args s = true) (hinit : (Cond.initialized y.cls).before args s = true)
    (hcode : (Cond.codeWith y bytes maxL ret hh).before args s = true) (hy : y.cls ≠ "java/lang/invoke/MethodHandle" ∧ y.cls ≠ "java/lang/invoke/VarHandle")
    {W9 : Nat} {Pre : Pt → Array Value → Prop} {Post : Pt → Array Value → Option Value → Pt → Prop} (hK : Back l R p e below s args y 3 W9 Pre Post)
    {g : JFrame} (hg : g.method = m) (hsize : g.locals.size = c.maxLocals) {argsL rest : List Value} (hlen : ∀ sig, parseMethodDescriptor y.desc = some sig → argsL.length = sig.parameters.length)
    (hstack : g.stack = argsL.reverse ++ rest) (hW : 2 * g.monitorRoom + (rest.map fun v => v.category).sum ≤ W9) (hdg : decode c.code g.pc = .ok (.invokestatic index, 3))
    (hpre : ∀ vm₁, s.WarmedH vm₁ → Pre ⟨T.setVm vm₁, locs, cells, slots⟩ argsL.toArray) :
    ∃ (v : Option Value) (vm₁ : Vm) (B : Pt), s.WarmedH vm₁ ∧ Stand p l e R s m args below meth c B.U B.locs B.cells B.slots ∧ Post ⟨T.setVm vm₁, locs, cells, slots⟩ argsL.toArray v B ∧
      ∀ target, Steps p.tables e below (B.U.setTop { g with pc := g.pc + 3, stack := v.toList ++ rest }) target → Steps p.tables e below (T.setTop g) target := by
  obtain ⟨mk, methM, cM, hnamed, hmethM, -, -, -, -, -, -, hsigM⟩ := Cond.codeWith_spec hcode
  have hstatic : methM.isStatic = true := Cond.static_spec hnamed hmethM hstat
  obtain ⟨kP, hkP, -⟩ := className_of_methodNamed hnamed
  have hinitP : kP.init = .initialized := Cond.initialized_spec (findClass_of_methodNamed hnamed) hkP hinit
  obtain ⟨vm₁, X₁, hstep₁⟩ := X.invokestatic hexec hown hlink hnamed hmethM hstatic hkP hinitP hy (g := g) hg (argsL := argsL) (rest := rest) (hlen _ hsigM) hstack hdg
  obtain ⟨v, B, X', hpost, hsteps⟩ := hK m meth c ⟨T.setVm vm₁, locs, cells, slots⟩ { g with stack := rest } (.invokestatic index) mk argsL.toArray X₁ hg hsize hdg hW (X₁.named hnamed) (hpre vm₁ X₁.warmed)
  exact ⟨v, vm₁, B, X₁.warmed, X', hpost, fun target h => hstep₁ _ fun acts => by rw [doInvoke_state]; exact hsteps.trans h⟩
theorem vx_runSW {y : MethodName} {bytes cc : ByteArray} {maxL nL mc ms n index : Nat} {ret : Option FieldType} {hh : List (Nat × Nat × Nat × Nat)} {ws : List Cond} {rm : Room} {Pc : Array Value → State → Prop} {Qc : Array Value → State → Outcome → State → Prop} {free : Addr → Prop} {Ts : List Cond} {own : String} {As rest : List Value} {g : JFrame}
    (S : CallFix p m c cc nL s args Ts own) (hM : Met l y ws rm Pc Qc mc ms free) (cw : vx_CSW R s args own index y bytes maxL ret hh ws rm mc ms n) (hp : PreS s H Pc As)
    (hg : g.method = m) (hn : As.length = n) (hsize : g.locals.size = nL) (hstack : g.stack = As.reverse ++ rest) (hW : 2 * g.monitorRoom + (rest.map fun v => v.category).sum ≤ 8) (hdg : decode cc g.pc = .ok (.invokestatic index, 3)) (hf : cells + mc ≤ R.cells ∧ slots + ms ≤ R.slots) :
    va_Run p l e R s m args below meth c H locs cells slots mc ms g rest (Qc As.toArray) (free) := by
  obtain ⟨⟨hrc, hrs, hfr, hlo, hws, hcw⟩, hcode, hini, hy, hlen, hl, hstt⟩ := cw
  have hK : Back l R p e below s args y 3 8 (PreOf R mc ms Pc) (PostOf Qc mc ms free) := va_backW (hh := hh) (bytes := bytes) (maxL := maxL) (ret := ret) hM hp.1 hrc hrs hfr hlo hws hcw (fun a' U hW => word_at hW (Or.inl (by first | rfl | simp [Cond.onTables, Cond.keeps, Cond.steady])) hini)
  obtain ⟨hx, hb, hml, ho, -⟩ := S
  intro T hT X
  obtain ⟨v, vm₁, ⟨U', l2, c2, s2⟩, hW₁, X', ⟨g', mk, t, L, e1, e2, hq, h1, hL, h2, h3⟩, st⟩ := vx_callSW X hx (hh := hh) (bytes := bytes) (maxL := maxL) (ret := ret) ho hl hstt hini hcode hy hK hg (hsize.trans hml.symm) (argsL := As) (rest := rest) (fun sig h => hn.trans (hlen sig h)) hstack hW (by rw [hb]; exact hdg)
    (fun vm₁ hW₁ => ⟨hf.1, hf.2, hp.2 (T.setVm vm₁) hT hW₁⟩)
  dsimp only [Pt.U, Pt.locs, Pt.cells, Pt.slots] at X' e1 e2 h1 h2 h3 st
  subst h1; subst h2; subst h3
  exact ⟨v, (T.setVm vm₁).calling g' mk As.toArray, t, U', L, hT, X', hL, e1, e2, hq, st⟩
/-- not caught here, past rows that name other classes: it goes on to the caller -/
theorem vx_outP {p : Program} {l : Launch} {e : Env} {R : Room} {s : State} {m : MethodId} {args : Array Value} {below : List Frame} {meth : Method} {c : Code} {H : Heap} {locs : List Loc} {cells slots : Nat} {free : Addr → Prop} {ls : Array Slot} {rest : List Value} {Qc : Array Value → State → Outcome → State → Prop} {XC : String → State → State → Prop}
    {pc : Nat} {own E : String} {ce : Cell} {q : Addr} {mc ms : Nat} (hown : s.vm.findClass own = some m.cls) (hlocks : meth.locks = false)
    (hpass : ∀ z ∈ c.exceptionTable.toList, covers z pc = false ∨ (z.catchType ≠ 0 ∧ ∃ nm : String, (Cond.classLink own z.catchType nm).before args s = true ∧ va_Nc E nm s)) (hcell : H[q]? = some ce) (hv : ce.vm = .none) (hcl : s.vm.findClass E = some ce.cls)
    (hx : ∀ t : State, t.heap = H → s.vm.Alike t.vm → XC E s t) (hf : ∀ z ∈ locs, free z.base) (hc : cells ≤ mc) (hs : slots ≤ ms) :
    vx_W p l e R s m args below meth c H locs cells slots (vx_MQ below Qc XC args s mc ms free) (F0 m pc ls rest) q := by
  intro T hT X
  have hpl : e.platform.magicAccessors = ({} : Platform).magicAccessors := by rw [X.admits.platform]
  obtain ⟨vm', hW', X', st⟩ := X.outThrough hlocks q (g := F0 m pc ls rest) rfl rfl rfl (cell := ce) (by rw [hT]; exact hcell) (by rw [hv]; rfl)
    (by obtain ⟨k9, h9, -⟩ := Vm.findClass_spec hcl; exact ⟨k9, h9⟩) (fun z hz => by
      rcases hpass z hz with h | ⟨hz0, nm, hl1, hn1⟩
      · exact Or.inl h
      · obtain ⟨c6, hc6, hcl6⟩ := Cond.classLink_spec hown hl1 e.platform hpl
        obtain ⟨a8, b8, h1, h2, h3⟩ := hn1
        cases Option.some.inj (h1.symm.trans hcl)
        cases Option.some.inj (h2.symm.trans hc6)
        exact Or.inr ⟨hz0, _, hcl6, h3⟩)
  obtain ⟨g₀, hfr⟩ := X'.frames_eq
  have hcell9 : ((T.setVm vm').setFrames (.throwing q :: below)).heap[q]? = some ce := by
    show T.heap[q]? = some ce
    rw [hT]; exact hcell
  have hend : Ended ((T.setVm vm').setFrames (.throwing q :: below)) below (.threw q) := State.frames_setFrames _ (State.cur_lt_of_frames hfr)
  refine ⟨(T.setVm vm').setFrames (.throwing q :: below), ?_, .threw q, X'.here.running, hend, Or.inr ⟨q, rfl, E, ce, locs, hx _ hT (X'.ends _).1.alike, hcell9, hv, hcl, (X'.ends _).1, (X'.ends _).2.mono hc hs, hf⟩⟩
  rw [X.pushThrowing_eq]
  exact st
/-- a thing of a world lies in the heap -/
theorem vx_lt {D : va_G} {cl : List vw_C} {ws : va_W} {H1 : Heap} (h : va_P D cl ws H1) {k : Nat} {q : Nat × va_E} (hk : ws[k]? = some q) : q.1 < H1.size := (h k q hk).lt
end VXS
/-! ===== END ===== -/
/-! ===== BEGIN methods with a table of their own: called by a name, returning or throwing ===== -/
section VXH
/-! vx_backW, vx_callVX, vx_callSX, vx_callVW, vx_runVW, vx_runVX, vx_runSX, vx_ofWH follow the same proofs as their sisters above (Free/Laws.lean, Shelf42/LK1.lean); vx_outP calls Shelf42/NT130.lean (outThrough). -/
section
variable {l : Launch} {R : Room} {p : Program} {e : Env} {below : List Frame} {s : State} {sargs : Array Value} {y : MethodName} {len W9 : Nat}
theorem vx_backW {ws : List Cond} {rm : Room} {Pc : Array Value → State → Prop} {Qc : Array Value → State → Outcome → State → Prop} {XC : String → State → State → Prop} {mc ms : Nat} {free : Addr → Prop} {bytes : ByteArray} {maxL : Nat} {ret : Option FieldType} {hh : List (Nat × Nat × Nat × Nat)}
    (hM : vx_Met l y ws rm Pc Qc XC mc ms free) (hblind : FrameBlind Pc) (hrc : rm.cells = mc) (hrs : rm.slots = ms)
    (hframes : rm.frames + 1 ≤ R.frames) (hlocals : W9 + (maxL + 11) + rm.locals ≤ R.locals)
    (hws : ∀ w ∈ ws, ∀ a' U, s.WarmedH U.vm → w.before a' U = true) (hcode : Cond.codeWith y bytes maxL ret hh ∈ ws) (hinit : ∀ a' U, s.WarmedH U.vm → (Cond.initialized y.cls).before a' U = true) :
    vx_Back l R p e below s sargs y len W9 (PreOf R mc ms Pc) (PostOf Qc mc ms free) (vx_Post XC mc ms free) := by
  intro m meth c A g ig mk a X hg hsize hdg hW hn hp
  have h1 : (headSpec ws rm).pre.before a A.U = true := atoms_intro fun w hw => hws w hw _ _ X.warmed
  have h2 : (Cond.codeWith y bytes maxL ret hh).before a A.U = true := hws _ hcode _ _ X.warmed
  have h3 : (Cond.initialized y.cls).before a A.U = true := hinit _ _ X.warmed
  have h4 : A.cells + (headSpec ws rm).room.cells ≤ R.cells := by rw [show (headSpec ws rm).room.cells = mc from hrc]; exact hp.1
  have h5 : A.slots + (headSpec ws rm).room.slots ≤ R.slots := by rw [show (headSpec ws rm).room.slots = ms from hrs]; exact hp.2.1
  have hPc : Pc a (A.U.calling g mk a) := hblind _ _ _ _ hp.2.2
  obtain ⟨U, Ls, c0, s0⟩ := A
  dsimp only [Pt.U, Pt.locs, Pt.cells, Pt.slots] at h1 h2 h3 h4 h5 X hn hPc ⊢
  obtain ⟨m9, methY, cY, hn9, hmY, hcY, -, hlY, -⟩ := Cond.codeWith_spec h2
  cases Option.some.inj (hn9.symm.trans hn)
  obtain ⟨kY, hkY, -⟩ := className_of_methodNamed hn
  have hinitY : kY.init = .initialized := Cond.initialized_spec (findClass_of_methodNamed hn) hkY h3
  have h : At U g.method c below := by rw [hg]; exact X.here
  have hlocals9 : W9 + (maxL + 11) + (headSpec ws rm).room.locals ≤ R.locals := hlocals
  have happ : (headSpec ws rm).appliesLoose y e.platform (U.calling g mk a) = true :=
    Spec.appliesLoose_calling (g := g) h hdg hn hkY hinitY
      (X.room_calling (g := g) (R' := (headSpec ws rm).room) hsize hmY hcY hframes (by rw [hlY]; omega) h4 h5) h1
  obtain ⟨mid, hmid⟩ := h.above
  have hfr : (U.setTop g).frames = (.java g :: mid) ++ below := by rw [State.frames_setTop' g h.top, hmid]; rfl
  obtain ⟨o, s₂, hsteps, -, hend, hq⟩ := Steps.callFree hM p X.admits X.cas X.clock (acts := []) hfr happ hPc trivial
  have hq' : vx_Q Qc XC mc ms free a (U.calling g mk a) o s₂ := hq
  rw [State.frames_setTop' g h.top] at hend
  obtain ⟨g₀, hg0⟩ := Option.isSome_iff_exists.mp h.top
  obtain ⟨r, hr⟩ := State.topJava?_eq_some.mp hg0
  have hr' : (({ U with heap := s₂.heap, slotsUsed := s₂.slotsUsed } : State).setVm s₂.vm).frames = .java g₀ :: r := hr
  rcases hq' with ⟨hqc, L, hfe, hL⟩ | ⟨q, rfl, E, ce, L, hx, hce, hcv, hcl, hW₂, hsm, hL⟩
  · obtain ⟨⟨v, rfl⟩, hW₂, e2, q2, q3, q4, q5, q6⟩ := id hfe
    have e3 : s₂ = ({ (U.calling g mk a).setFrames s₂.frames with heap := s₂.heap, slotsUsed := s₂.slotsUsed } : State).setVm s₂.vm := by
      have : s₂ = ({ s₂ with vm := (U.calling g mk a).vm } : State).setVm s₂.vm := rfl
      rw [e2] at this
      exact this
    obtain ⟨c₂, i₂, len₂, hc₂, hd₂, hf₂⟩ := hend
    have hW' : U.WarmedH s₂.vm := hW₂
    have hcc : c₂ = c := by
      have h1 : s₂.code? g.method = U.code? g.method := by
        rw [State.code?_eq, State.code?_eq, hW'.alike.method?]
      exact Option.some.inj (hc₂.symm.trans (h1.trans h.code))
    subst hcc
    have hlen : len₂ = len := by rw [hdg] at hd₂; cases hd₂; rfl
    subst hlen
    have hs₂ : s₂ = (({ U with heap := s₂.heap, slotsUsed := s₂.slotsUsed } : State).setVm s₂.vm).setTop { g with pc := g.pc + len₂, stack := v.toList ++ g.stack } := by
      refine e3.trans ?_
      rw [hf₂, State.calling_eq h.top, State.setFrames_setFrames, State.setTop_of_frames _ hr', hr]
      rfl
    have hsame : U.sameButNew ({ U with heap := s₂.heap, slotsUsed := s₂.slotsUsed } : State) L mc ms := by
      refine ⟨?_, q2, q3, q4, q5, q6⟩
      obtain ⟨t, ht, -⟩ := State.frames_cons hr
      show ({ U with heap := s₂.heap, slotsUsed := s₂.slotsUsed } : State) = { U.setFrames U.frames with heap := s₂.heap, slotsUsed := s₂.slotsUsed }
      rw [State.setFrames_self ht]
    subst hg
    refine Or.inl ⟨v, ⟨(({ U with heap := s₂.heap, slotsUsed := s₂.slotsUsed } : State).setVm s₂.vm), Ls ++ L, c0 + mc, s0 + ms⟩,
      ⟨X.admits, X.cas, X.clock, X.frames, X.room, X.hears, X.method, X.code, (X.here.setHeapUsed s₂.heap s₂.slotsUsed).setVm hW'.alike, X.tail, State.WarmedH.trans X.warmed hW', X.limits, X.bytes, X.same.trans (hsame.setVm s.vm)⟩,
      ⟨g, mk, s₂, L, rfl, rfl, hqc, rfl, hL, rfl, rfl⟩, ?_⟩
    show Steps p.tables e below _ ((({ U with heap := s₂.heap, slotsUsed := s₂.slotsUsed } : State).setVm s₂.vm).setTop { g with pc := g.pc + len₂, stack := v.toList ++ g.stack })
    rw [← hs₂]
    exact hsteps
  · obtain ⟨e2, q2, q3, q4, q5, q6⟩ := id hsm
    have e3 : s₂ = ({ (U.calling g mk a).setFrames s₂.frames with heap := s₂.heap, slotsUsed := s₂.slotsUsed } : State).setVm s₂.vm := by
      have : s₂ = ({ s₂ with vm := (U.calling g mk a).vm } : State).setVm s₂.vm := rfl
      rw [e2] at this
      exact this
    have hf₂ : s₂.frames = .throwing q :: .java g :: U.frames.tail := hend
    have hW' : U.WarmedH s₂.vm := hW₂
    have hs₂ : s₂ = ((({ U with heap := s₂.heap, slotsUsed := s₂.slotsUsed } : State).setVm s₂.vm).setTop g).pushFrame (.throwing q) := by
      refine e3.trans ?_
      rw [hf₂, State.calling_eq h.top, State.setFrames_setFrames, State.pushFrame, State.frames_setTop _ hr', State.setTop_of_frames _ hr', State.setFrames_setFrames, hr]
      rfl
    have hsame : U.sameButNew ({ U with heap := s₂.heap, slotsUsed := s₂.slotsUsed } : State) L mc ms := by
      refine ⟨?_, q2, q3, q4, q5, q6⟩
      obtain ⟨t, ht, -⟩ := State.frames_cons hr
      show ({ U with heap := s₂.heap, slotsUsed := s₂.slotsUsed } : State) = { U.setFrames U.frames with heap := s₂.heap, slotsUsed := s₂.slotsUsed }
      rw [State.setFrames_self ht]
    subst hg
    refine Or.inr ⟨q, ⟨(({ U with heap := s₂.heap, slotsUsed := s₂.slotsUsed } : State).setVm s₂.vm), Ls ++ L, c0 + mc, s0 + ms⟩,
      ⟨X.admits, X.cas, X.clock, X.frames, X.room, X.hears, X.method, X.code, (X.here.setHeapUsed s₂.heap s₂.slotsUsed).setVm hW'.alike, X.tail, State.WarmedH.trans X.warmed hW', X.limits, X.bytes, X.same.trans (hsame.setVm s.vm)⟩,
      ⟨g, mk, s₂, L, E, ce, rfl, rfl, hx, hce, hcv, hcl, rfl, hL, rfl, rfl⟩, ?_⟩
    show Steps p.tables e below _ (((({ U with heap := s₂.heap, slotsUsed := s₂.slotsUsed } : State).setVm s₂.vm).setTop g).pushFrame (.throwing q))
    rw [← hs₂]
    exact hsteps
end
variable {p : Program} {l : Launch} {e : Env} {R : Room} {s : State} {m : MethodId} {args : Array Value} {below : List Frame} {meth : Method} {c : Code} {T : State} {H : Heap} {locs : List Loc} {cells slots : Nat}
theorem vx_callVX (X : Stand p l e R s m args below meth c T locs cells slots) (hexec : p.tables.exec = Jvm.exec) {own C : String} {index : Nat} {y : MethodName} {bytes : ByteArray} {maxL : Nat} {ret : Option FieldType} {hh : List (Nat × Nat × Nat × Nat)}
    (hown : s.vm.findClass own = some m.cls) (hlink : (Cond.methodLink own index y).before args s = true) (hinst : (Cond.instanceMethod y).before args s = true) (hsel : (Cond.selects C y y).before args s = true)
    (hcode : (Cond.codeWith y bytes maxL ret hh).before args s = true) (hy : y.cls ≠ "java/lang/invoke/MethodHandle" ∧ y.cls ≠ "java/lang/invoke/VarHandle")
    {W9 : Nat} {Pre : Pt → Array Value → Prop} {Post : Pt → Array Value → Option Value → Pt → Prop} {PostX : Pt → Array Value → Addr → Pt → Prop} (hK : vx_Back l R p e below s args y 3 W9 Pre Post PostX)
    {b : Addr} {cellB : Cell} (hcell : T.heap[b]? = some cellB) (hobj : cellB.vm.isStatics = false) (hcls : s.vm.findClass C = some cellB.cls)
    {g : JFrame} (hg : g.method = m) (hsize : g.locals.size = c.maxLocals) {argsL rest : List Value} (hlen : ∀ sig, parseMethodDescriptor y.desc = some sig → argsL.length = sig.parameters.length)
    (hstack : g.stack = argsL.reverse ++ .ref b :: rest) (hW : 2 * g.monitorRoom + (rest.map fun v => v.category).sum ≤ W9) (hdg : decode c.code g.pc = .ok (.invokevirtual index, 3))
    (hpre : ∀ vm₁, s.WarmedH vm₁ → Pre ⟨T.setVm vm₁, locs, cells, slots⟩ (Value.ref b :: argsL).toArray) :
    (∃ (v : Option Value) (vm₁ : Vm) (B : Pt), s.WarmedH vm₁ ∧ Stand p l e R s m args below meth c B.U B.locs B.cells B.slots ∧ Post ⟨T.setVm vm₁, locs, cells, slots⟩ (Value.ref b :: argsL).toArray v B ∧
      ∀ target, Steps p.tables e below (B.U.setTop { g with pc := g.pc + 3, stack := v.toList ++ rest }) target → Steps p.tables e below (T.setTop g) target) ∨
    (∃ (q : Addr) (vm₁ : Vm) (B : Pt), s.WarmedH vm₁ ∧ Stand p l e R s m args below meth c B.U B.locs B.cells B.slots ∧ PostX ⟨T.setVm vm₁, locs, cells, slots⟩ (Value.ref b :: argsL).toArray q B ∧
      Steps p.tables e below (T.setTop g) ((B.U.setTop { g with stack := rest }).pushFrame (.throwing q))) := by
  obtain ⟨mk, methM, hnamed, hmethM, hstM, habM⟩ := Cond.instanceMethod_spec hinst
  obtain ⟨m8, methM', cM, hn8, hmethM', -, -, -, -, -, -, hsigM⟩ := Cond.codeWith_spec hcode
  cases Option.some.inj (hn8.symm.trans hnamed)
  cases hmethM.symm.trans hmethM'
  obtain ⟨c2, r2, m2, q1, q2, q3, q4, kP, hkP, hkPi⟩ := Cond.selects_spec hsel
  cases hcls.symm.trans q1
  cases (State.methodFound?_of_named hnamed hy).symm.trans q2
  cases hnamed.symm.trans q3
  have hselP : selectMethod e.platform s.vm cellB.cls mk = .method mk := by rw [Launch.admits_selectMethod X.admits]; exact q4
  obtain ⟨vm₁, X₁, hstep₁⟩ := X.invokevirtual hexec hown hlink hnamed hmethM hstM hkP hkPi hy (a := b) (cell := cellB) hcell
    (fun z h => by rw [h] at hobj; cases hobj) hselP hmethM habM hkP hkPi (g := g) hg (argsL := argsL) (rest := rest) (hlen _ hsigM) hstack hdg
  rcases hK m meth c ⟨T.setVm vm₁, locs, cells, slots⟩ { g with stack := rest } (.invokevirtual index) mk (Value.ref b :: argsL).toArray X₁ hg hsize hdg hW (X₁.named hnamed) (hpre vm₁ X₁.warmed) with ⟨v, B, X', hpost, hsteps⟩ | ⟨q, B, X', hpost, hsteps⟩
  · exact Or.inl ⟨v, vm₁, B, X₁.warmed, X', hpost, fun target h => hstep₁ _ fun acts => by rw [doInvoke_state]; exact hsteps.trans h⟩
  · exact Or.inr ⟨q, vm₁, B, X₁.warmed, X', hpost, hstep₁ _ fun acts => by rw [doInvoke_state]; exact hsteps⟩
theorem vx_callSX (X : Stand p l e R s m args below meth c T locs cells slots) (hexec : p.tables.exec = Jvm.exec) {own : String} {index : Nat} {y : MethodName} {bytes : ByteArray} {maxL : Nat} {ret : Option FieldType} {hh : List (Nat × Nat × Nat × Nat)}
    (hown : s.vm.findClass own = some m.cls) (hlink : (Cond.methodLink own index y).before args s = true) (hstat : (Cond.static y).before args s = true) (hinit : (Cond.initialized y.cls).before args s = true)
    (hcode : (Cond.codeWith y bytes maxL ret hh).before args s = true) (hy : y.cls ≠ "java/lang/invoke/MethodHandle" ∧ y.cls ≠ "java/lang/invoke/VarHandle")
    {W9 : Nat} {Pre : Pt → Array Value → Prop} {Post : Pt → Array Value → Option Value → Pt → Prop} {PostX : Pt → Array Value → Addr → Pt → Prop} (hK : vx_Back l R p e below s args y 3 W9 Pre Post PostX)
    {g : JFrame} (hg : g.method = m) (hsize : g.locals.size = c.maxLocals) {argsL rest : List Value} (hlen : ∀ sig, parseMethodDescriptor y.desc = some sig → argsL.length = sig.parameters.length)
    (hstack : g.stack = argsL.reverse ++ rest) (hW : 2 * g.monitorRoom + (rest.map fun v => v.category).sum ≤ W9) (hdg : decode c.code g.pc = .ok (.invokestatic index, 3))
    (hpre : ∀ vm₁, s.WarmedH vm₁ → Pre ⟨T.setVm vm₁, locs, cells, slots⟩ argsL.toArray) :
    (∃ (v : Option Value) (vm₁ : Vm) (B : Pt), s.WarmedH vm₁ ∧ Stand p l e R s m args below meth c B.U B.locs B.cells B.slots ∧ Post ⟨T.setVm vm₁, locs, cells, slots⟩ argsL.toArray v B ∧
      ∀ target, Steps p.tables e below (B.U.setTop { g with pc := g.pc + 3, stack := v.toList ++ rest }) target → Steps p.tables e below (T.setTop g) target) ∨
    (∃ (q : Addr) (vm₁ : Vm) (B : Pt), s.WarmedH vm₁ ∧ Stand p l e R s m args below meth c B.U B.locs B.cells B.slots ∧ PostX ⟨T.setVm vm₁, locs, cells, slots⟩ argsL.toArray q B ∧
      Steps p.tables e below (T.setTop g) ((B.U.setTop { g with stack := rest }).pushFrame (.throwing q))) := by
  obtain ⟨mk, methM, cM, hnamed, hmethM, -, -, -, -, -, -, hsigM⟩ := Cond.codeWith_spec hcode
  have hstatic : methM.isStatic = true := Cond.static_spec hnamed hmethM hstat
  obtain ⟨kP, hkP, -⟩ := className_of_methodNamed hnamed
  have hinitP : kP.init = .initialized := Cond.initialized_spec (findClass_of_methodNamed hnamed) hkP hinit
  obtain ⟨vm₁, X₁, hstep₁⟩ := X.invokestatic hexec hown hlink hnamed hmethM hstatic hkP hinitP hy (g := g) hg (argsL := argsL) (rest := rest) (hlen _ hsigM) hstack hdg
  rcases hK m meth c ⟨T.setVm vm₁, locs, cells, slots⟩ { g with stack := rest } (.invokestatic index) mk argsL.toArray X₁ hg hsize hdg hW (X₁.named hnamed) (hpre vm₁ X₁.warmed) with ⟨v, B, X', hpost, hsteps⟩ | ⟨q, B, X', hpost, hsteps⟩
  · exact Or.inl ⟨v, vm₁, B, X₁.warmed, X', hpost, fun target h => hstep₁ _ fun acts => by rw [doInvoke_state]; exact hsteps.trans h⟩
  · exact Or.inr ⟨q, vm₁, B, X₁.warmed, X', hpost, hstep₁ _ fun acts => by rw [doInvoke_state]; exact hsteps⟩
theorem vx_callVW (X : Stand p l e R s m args below meth c T locs cells slots) (hexec : p.tables.exec = Jvm.exec) {own C : String} {index : Nat} {y : MethodName} {bytes : ByteArray} {maxL : Nat} {ret : Option FieldType} {hh : List (Nat × Nat × Nat × Nat)}
    (hown : s.vm.findClass own = some m.cls) (hlink : (Cond.methodLink own index y).before args s = true) (hinst : (Cond.instanceMethod y).before args s = true) (hsel : (Cond.selects C y y).before args s = true)
    (hcode : (Cond.codeWith y bytes maxL ret hh).before args s = true) (hy : y.cls ≠ "java/lang/invoke/MethodHandle" ∧ y.cls ≠ "java/lang/invoke/VarHandle")
    {W9 : Nat} {Pre : Pt → Array Value → Prop} {Post : Pt → Array Value → Option Value → Pt → Prop} (hK : Back l R p e below s args y 3 W9 Pre Post)
    {b : Addr} {cellB : Cell} (hcell : T.heap[b]? = some cellB) (hobj : cellB.vm.isStatics = false) (hcls : s.vm.findClass C = some cellB.cls)
    {g : JFrame} (hg : g.method = m) (hsize : g.locals.size = c.maxLocals) {argsL rest : List Value} (hlen : ∀ sig, parseMethodDescriptor y.desc = some sig → argsL.length = sig.parameters.length)
    (hstack : g.stack = argsL.reverse ++ .ref b :: rest) (hW : 2 * g.monitorRoom + (rest.map fun v => v.category).sum ≤ W9) (hdg : decode c.code g.pc = .ok (.invokevirtual index, 3))
    (hpre : ∀ vm₁, s.WarmedH vm₁ → Pre ⟨T.setVm vm₁, locs, cells, slots⟩ (Value.ref b :: argsL).toArray) :
    ∃ (v : Option Value) (vm₁ : Vm) (B : Pt), s.WarmedH vm₁ ∧ Stand p l e R s m args below meth c B.U B.locs B.cells B.slots ∧ Post ⟨T.setVm vm₁, locs, cells, slots⟩ (Value.ref b :: argsL).toArray v B ∧
      ∀ target, Steps p.tables e below (B.U.setTop { g with pc := g.pc + 3, stack := v.toList ++ rest }) target → Steps p.tables e below (T.setTop g) target := by
  obtain ⟨mk, methM, hnamed, hmethM, hstM, habM⟩ := Cond.instanceMethod_spec hinst
  obtain ⟨m8, methM', cM, hn8, hmethM', -, -, -, -, -, -, hsigM⟩ := Cond.codeWith_spec hcode
  cases Option.some.inj (hn8.symm.trans hnamed)
  cases hmethM.symm.trans hmethM'
  obtain ⟨c2, r2, m2, q1, q2, q3, q4, kP, hkP, hkPi⟩ := Cond.selects_spec hsel
  cases hcls.symm.trans q1
  cases (State.methodFound?_of_named hnamed hy).symm.trans q2
  cases hnamed.symm.trans q3
  have hselP : selectMethod e.platform s.vm cellB.cls mk = .method mk := by rw [Launch.admits_selectMethod X.admits]; exact q4
  obtain ⟨vm₁, X₁, hstep₁⟩ := X.invokevirtual hexec hown hlink hnamed hmethM hstM hkP hkPi hy (a := b) (cell := cellB) hcell
    (fun z h => by rw [h] at hobj; cases hobj) hselP hmethM habM hkP hkPi (g := g) hg (argsL := argsL) (rest := rest) (hlen _ hsigM) hstack hdg
  obtain ⟨v, B, X', hpost, hsteps⟩ := hK m meth c ⟨T.setVm vm₁, locs, cells, slots⟩ { g with stack := rest } (.invokevirtual index) mk (Value.ref b :: argsL).toArray X₁ hg hsize hdg hW (X₁.named hnamed) (hpre vm₁ X₁.warmed)
  exact ⟨v, vm₁, B, X₁.warmed, X', hpost, fun target h => hstep₁ _ fun acts => by rw [doInvoke_state]; exact hsteps.trans h⟩
abbrev vx_CVW (R : Room) (s : State) (args : Array Value) (own C : String) (index : Nat) (y : MethodName) (bytes : ByteArray) (maxL : Nat) (ret : Option FieldType) (hh : List (Nat × Nat × Nat × Nat)) (ws : List Cond) (rm : Room) (mc ms n : Nat) : Prop :=
  (rm.cells = mc ∧ rm.slots = ms ∧ rm.frames + 1 ≤ R.frames ∧ 8 + (maxL + 11) + rm.locals ≤ R.locals ∧ (∀ w ∈ ws, ∀ (a' : Array Value) (U : State), s.WarmedH U.vm → w.before a' U = true) ∧ Cond.codeWith y bytes maxL ret hh ∈ ws) ∧
  (Cond.codeWith y bytes maxL ret hh).before args s = true ∧ (Cond.initialized y.cls).before args s = true ∧ (y.cls ≠ "java/lang/invoke/MethodHandle" ∧ y.cls ≠ "java/lang/invoke/VarHandle") ∧
  (∀ sig, parseMethodDescriptor y.desc = some sig → n = sig.parameters.length) ∧ (Cond.methodLink own index y).before args s = true ∧ (Cond.instanceMethod y).before args s = true ∧ (Cond.selects C y y).before args s = true
theorem vx_cwVW {own C : String} {index maxL mc ms : Nat} {y : MethodName} {bytes : ByteArray} {ret : Option FieldType} {hh : List (Nat × Nat × Nat × Nat)} {Ts ws ws' : List Cond} {rm : Room} (n : Nat) (ht : ∀ w ∈ Ts, w.before args s = true) (hT : GoodIn Ts (wsV own index C y ws)) (hw : ws = Cond.codeWith y bytes maxL ret hh :: ws') (hrc : rm.cells = mc) (hrs : rm.slots = ms)
    (hd : y.cls = C ∧ y.cls ≠ "java/lang/invoke/MethodHandle" ∧ y.cls ≠ "java/lang/invoke/VarHandle" ∧ (parseMethodDescriptor y.desc).map (fun d => d.parameters.length) = some n) (hR : rm.frames + 1 ≤ R.frames ∧ 8 + (maxL + 11) + rm.locals ≤ R.locals) :
    vx_CVW R s args own C index y bytes maxL ret hh ws rm mc ms n := by
  obtain ⟨hC, hd⟩ := hd
  subst hC
  have ok : ∀ w ∈ wsV own index y.cls y ws, w.before args s = true := fun w h => ht w (hT w h).1
  have hG : GoodIn Ts ws := fun w h => hT w (by unfold wsV; exact List.mem_append_right _ h)
  have hc : Cond.codeWith y bytes maxL ret hh ∈ ws := by rw [hw]; exact List.mem_cons_self
  refine ⟨⟨hrc, hrs, hR.1, hR.2, pay_in ht hG, hc⟩, ht _ (hG _ hc).1, ok _ (by simp [wsV]), ⟨hd.1, hd.2.1⟩, fun sig h => ?_, ok _ (by simp [wsV]), ok _ (by simp [wsV]), ok _ (by simp [wsV])⟩
  have h2 := hd.2.2
  rw [h] at h2
  exact (Option.some.inj h2).symm
theorem vx_runVW {y : MethodName} {bytes cc : ByteArray} {maxL nL mc ms n index : Nat} {ret : Option FieldType} {hh : List (Nat × Nat × Nat × Nat)} {ws : List Cond} {rm : Room} {Pc : Array Value → State → Prop} {Qc : Array Value → State → Outcome → State → Prop} {free : Addr → Prop} {Ts : List Cond} {own C : String} {b : Addr} {As rest : List Value} {g : JFrame}
    (S : CallFix p m c cc nL s args Ts own) (hM : Met l y ws rm Pc Qc mc ms free) (cw : vx_CVW R s args own C index y bytes maxL ret hh ws rm mc ms n) (hp : PreV s H C b Pc As)
    (hg : g.method = m) (hn : As.length = n) (hsize : g.locals.size = nL) (hstack : g.stack = As.reverse ++ .ref b :: rest) (hW : 2 * g.monitorRoom + (rest.map fun v => v.category).sum ≤ 8) (hdg : decode cc g.pc = .ok (.invokevirtual index, 3)) (hf : cells + mc ≤ R.cells ∧ slots + ms ≤ R.slots) :
    va_Run p l e R s m args below meth c H locs cells slots mc ms g rest (Qc (Value.ref b :: As).toArray) free := by
  obtain ⟨⟨hrc, hrs, hfr, hlo, hws, hcw⟩, hcode, hini, hy, hlen, hl, hin, hse⟩ := cw
  have hK : Back l R p e below s args y 3 8 (PreOf R mc ms Pc) (PostOf Qc mc ms free) := va_backW (hh := hh) (bytes := bytes) (maxL := maxL) (ret := ret) hM hp.1 hrc hrs hfr hlo hws hcw (fun a' U hW => word_at hW (Or.inl (by first | rfl | simp [Cond.onTables, Cond.keeps, Cond.steady])) hini)
  obtain ⟨hx, hb, hml, ho, -⟩ := S
  obtain ⟨-, ⟨cellB, hcB, hoB, hclB⟩, hPc⟩ := hp
  intro T hT X
  obtain ⟨v, vm₁, ⟨U', l2, c2, s2⟩, hW₁, X', ⟨g', mk, t, L, e1, e2, hq, h1, hL, h2, h3⟩, st⟩ := vx_callVW X hx (C := C) (hh := hh) (bytes := bytes) (maxL := maxL) (ret := ret) ho hl hin hse hcode hy hK (by rw [hT]; exact hcB) hoB hclB hg (hsize.trans hml.symm) (argsL := As) (rest := rest) (fun sig h => hn.trans (hlen sig h)) hstack hW (by rw [hb]; exact hdg)
    (fun vm₁ hW₁ => ⟨hf.1, hf.2, hPc (T.setVm vm₁) hT hW₁⟩)
  dsimp only [Pt.U, Pt.locs, Pt.cells, Pt.slots] at X' e1 e2 h1 h2 h3 st
  subst h1; subst h2; subst h3
  exact ⟨v, (T.setVm vm₁).calling g' mk (Value.ref b :: As).toArray, t, U', L, hT, X', hL, e1, e2, hq, st⟩
section
variable {y : MethodName} {bytes cc : ByteArray} {maxL nL mc ms n index : Nat} {ret : Option FieldType} {ws : List Cond} {rm : Room} {Pc : Array Value → State → Prop} {Qc : Array Value → State → Outcome → State → Prop} {XC : String → State → State → Prop} {free : Addr → Prop} {Ts : List Cond} {own C : String} {b : Addr} {As rest : List Value} {g : JFrame}
theorem vx_runVX {hh : List (Nat × Nat × Nat × Nat)} (S : CallFix p m c cc nL s args Ts own) (hM : vx_Met l y ws rm Pc Qc XC mc ms free) (cw : vx_CVW R s args own C index y bytes maxL ret hh ws rm mc ms n) (hp : PreV s H C b Pc As)
    (hg : g.method = m) (hn : As.length = n) (hsize : g.locals.size = nL) (hstack : g.stack = As.reverse ++ .ref b :: rest) (hW : 2 * g.monitorRoom + (rest.map fun v => v.category).sum ≤ 8) (hdg : decode cc g.pc = .ok (.invokevirtual index, 3)) (hf : cells + mc ≤ R.cells ∧ slots + ms ≤ R.slots) :
    vx_Run p l e R s m args below meth c H locs cells slots mc ms g rest (Qc (Value.ref b :: As).toArray) XC free := by
  obtain ⟨⟨hrc, hrs, hfr, hlo, hws, hcw⟩, hcode, hini, hy, hlen, hl, hin, hse⟩ := cw
  have hK : vx_Back l R p e below s args y 3 8 (PreOf R mc ms Pc) (PostOf Qc mc ms free) (vx_Post XC mc ms free) := vx_backW (hh := hh) (bytes := bytes) (maxL := maxL) (ret := ret) hM hp.1 hrc hrs hfr hlo hws hcw (fun a' U hW => word_at hW (Or.inl (by first | rfl | simp [Cond.onTables, Cond.keeps, Cond.steady])) hini)
  obtain ⟨hx, hb, hml, ho, -⟩ := S
  obtain ⟨-, ⟨cellB, hcB, hoB, hclB⟩, hPc⟩ := hp
  intro T hT X
  rcases vx_callVX X hx (C := C) (hh := hh) (bytes := bytes) (maxL := maxL) (ret := ret) ho hl hin hse hcode hy hK (by rw [hT]; exact hcB) hoB hclB hg (hsize.trans hml.symm) (argsL := As) (rest := rest) (fun sig h => hn.trans (hlen sig h)) hstack hW (by rw [hb]; exact hdg)
    (fun vm₁ hW₁ => ⟨hf.1, hf.2, hPc (T.setVm vm₁) hT hW₁⟩) with ⟨v, vm₁, ⟨U', l2, c2, s2⟩, hW₁, X', ⟨g', mk, t, L, e1, e2, hq, h1, hL, h2, h3⟩, st⟩ | ⟨q, vm₁, ⟨U', l2, c2, s2⟩, hW₁, X', ⟨g', mk, t, L, E, ce, e1, e2, hq, hce, hcv, hcl, h1, hL, h2, h3⟩, st⟩
  · dsimp only [Pt.U, Pt.locs, Pt.cells, Pt.slots] at X' e1 e2 h1 h2 h3 st
    subst h1; subst h2; subst h3
    exact Or.inl ⟨v, (T.setVm vm₁).calling g' mk (Value.ref b :: As).toArray, t, U', L, hT, X', hL, e1, e2, hq, st⟩
  · dsimp only [Pt.U, Pt.locs, Pt.cells, Pt.slots] at X' e1 e2 h1 h2 h3 st hcl
    subst h1; subst h2; subst h3
    exact Or.inr ⟨q, (T.setVm vm₁).calling g' mk (Value.ref b :: As).toArray, t, U', L, E, ce, hT, X', hL, e1, e2, hq, hce, hcv, vx_cls hW₁ hcl, st⟩
theorem vx_runSX {hh : List (Nat × Nat × Nat × Nat)} (S : CallFix p m c cc nL s args Ts own) (hM : vx_Met l y ws rm Pc Qc XC mc ms free) (cw : vx_CSW R s args own index y bytes maxL ret hh ws rm mc ms n) (hp : PreS s H Pc As)
    (hg : g.method = m) (hn : As.length = n) (hsize : g.locals.size = nL) (hstack : g.stack = As.reverse ++ rest) (hW : 2 * g.monitorRoom + (rest.map fun v => v.category).sum ≤ 8) (hdg : decode cc g.pc = .ok (.invokestatic index, 3)) (hf : cells + mc ≤ R.cells ∧ slots + ms ≤ R.slots) :
    vx_Run p l e R s m args below meth c H locs cells slots mc ms g rest (Qc As.toArray) XC free := by
  obtain ⟨⟨hrc, hrs, hfr, hlo, hws, hcw⟩, hcode, hini, hy, hlen, hl, hstt⟩ := cw
  have hK : vx_Back l R p e below s args y 3 8 (PreOf R mc ms Pc) (PostOf Qc mc ms free) (vx_Post XC mc ms free) := vx_backW (hh := hh) (bytes := bytes) (maxL := maxL) (ret := ret) hM hp.1 hrc hrs hfr hlo hws hcw (fun a' U hW => word_at hW (Or.inl (by first | rfl | simp [Cond.onTables, Cond.keeps, Cond.steady])) hini)
  obtain ⟨hx, hb, hml, ho, -⟩ := S
  intro T hT X
  rcases vx_callSX X hx (hh := hh) (bytes := bytes) (maxL := maxL) (ret := ret) ho hl hstt hini hcode hy hK hg (hsize.trans hml.symm) (argsL := As) (rest := rest) (fun sig h => hn.trans (hlen sig h)) hstack hW (by rw [hb]; exact hdg)
    (fun vm₁ hW₁ => ⟨hf.1, hf.2, hp.2 (T.setVm vm₁) hT hW₁⟩) with ⟨v, vm₁, ⟨U', l2, c2, s2⟩, hW₁, X', ⟨g', mk, t, L, e1, e2, hq, h1, hL, h2, h3⟩, st⟩ | ⟨q, vm₁, ⟨U', l2, c2, s2⟩, hW₁, X', ⟨g', mk, t, L, E, ce, e1, e2, hq, hce, hcv, hcl, h1, hL, h2, h3⟩, st⟩
  · dsimp only [Pt.U, Pt.locs, Pt.cells, Pt.slots] at X' e1 e2 h1 h2 h3 st
    subst h1; subst h2; subst h3
    exact Or.inl ⟨v, (T.setVm vm₁).calling g' mk As.toArray, t, U', L, hT, X', hL, e1, e2, hq, st⟩
  · dsimp only [Pt.U, Pt.locs, Pt.cells, Pt.slots] at X' e1 e2 h1 h2 h3 st hcl
    subst h1; subst h2; subst h3
    exact Or.inr ⟨q, (T.setVm vm₁).calling g' mk As.toArray, t, U', L, E, ce, hT, X', hL, e1, e2, hq, hce, hcv, vx_cls hW₁ hcl, st⟩
end
end VXH
theorem vx_ofWH {l : Launch} {y : MethodName} {ws ws' : List Cond} {rm : Room} {Pc : Array Value → State → Prop} {Qc : Array Value → State → Outcome → State → Prop} {XC : String → State → State → Prop} {mc ms : Nat} {free : Addr → Prop} {cc : ByteArray} {maxL : Nat} {ret : Option FieldType} {hh : List (Nat × Nat × Nat × Nat)}
    (hy : plainName y.cls = true) (hw : ws = Cond.codeWith y cc maxL ret hh :: ws')
    (body : ∀ p e s m args below meth c s₁, BodyLoose p l y (headSpec ws rm) cc maxL ret e s m args below meth c s₁ → c.maxLocals = maxL → Pc args s →
      W p l e (headSpec ws rm).room s m args below meth c s.heap [] 0 0 (vx_MQ below Qc XC args s mc ms free) (entryFrame m args maxL)) : vx_Met l y ws rm Pc Qc XC mc ms free := by
  refine MetFree.of_bodyS (code := cc) (maxLocals := maxL) (ret := ret) hy ?_ ?_
  · intro args s m h hn
    obtain ⟨m9, meth, c, hn9, h1, h2, h3, h4, -, h5, h6, -⟩ := Cond.codeWith_spec (atoms_spec (ws := ws) h _ (by rw [hw]; exact List.mem_cons_self))
    cases hn.symm.trans hn9
    exact ⟨meth, c, h1, h2, h3, h4, h5, h6⟩
  · intro p e s m args below meth c s₁ B hml hP _
    have hh0 : s₁.heap = s.heap := by rw [B.state]; rfl
    obtain ⟨t, a1, o, b1, b2, b3⟩ := body p e s m args below meth c s₁ B hml hP s₁ hh0 (Stand.of_body B)
    exact ⟨t, o, a1, b1, b2, b3⟩
/-! ===== END ===== -/
end
section
/-! ===== BEGIN printed: names, fields, word lists, decode rows ===== -/
def RX0 : String := "SyscallFilter$Filter"
def TX0 : u_T := fun k => match k with
  | 0 => ("SyscallFilter$Filter", "rules", "Ljava/util/ArrayList;", true)
  | 1 => ("SyscallFilter$Filter", "reached", "Ljava/util/ArrayList;", true)
  | 2 => ("SyscallFilter$Filter", "defaultAction", "I", false)
  | 3 => ("SyscallFilter$Filter", "firstTest", "LSyscallFilter$Node;", false)
  | _ => ("SyscallFilter$Filter", "treeCost", "I", false)
def tyX0 : Nat → FieldType := fun k => match k with
  | 0 => .object "java/util/ArrayList"
  | 1 => .object "java/util/ArrayList"
  | 2 => .int
  | 3 => .object "SyscallFilter$Node"
  | _ => .int
abbrev wsX00 : List Cond := u_ws RX0 TX0 5
theorem nmX0 : ∀ a, a < 5 → ∀ b, b < 5 → a ≠ b → (TX0 a).2.1 ≠ (TX0 b).2.1 := by decide +kernel
theorem tyX0_ok : ∀ k, k < 5 → parseFieldDescriptor (TX0 k).2.2.1 = some (tyX0 k) := by decide +kernel
abbrev cX0_init : ByteArray := prog_2_method_1_code
def yX0_init : MethodName := ⟨RX0, "<init>", "()V"⟩
abbrev cX0_isFull : ByteArray := prog_2_method_2_code
def yX0_isFull : MethodName := ⟨RX0, "isFull", "()Z"⟩
abbrev cX0_append : ByteArray := prog_2_method_3_code
def yX0_append : MethodName := ⟨RX0, "append", "(LSyscallFilter$Rule;)I"⟩
abbrev cX0_drop : ByteArray := prog_2_method_4_code
def yX0_drop : MethodName := ⟨RX0, "drop", "(I)I"⟩
abbrev cX0_hiderOf : ByteArray := prog_2_method_5_code
def yX0_hiderOf : MethodName := ⟨RX0, "hiderOf", "(I)I"⟩
abbrev cX0_planTree : ByteArray := prog_2_method_6_code
def yX0_planTree : MethodName := ⟨RX0, "planTree", "(LSyscallFilter$Planner;[I)V"⟩
abbrev cX0_gatherReached : ByteArray := prog_2_method_7_code
def yX0_gatherReached : MethodName := ⟨RX0, "gatherReached", "()V"⟩
abbrev cX0_isReached : ByteArray := prog_2_method_8_code
def yX0_isReached : MethodName := ⟨RX0, "isReached", "(I)Z"⟩
abbrev cX0_numberAt : ByteArray := prog_2_method_9_code
def yX0_numberAt : MethodName := ⟨RX0, "numberAt", "(I)I"⟩
abbrev cX0_worstPath : ByteArray := prog_2_method_10_code
def yX0_worstPath : MethodName := ⟨RX0, "worstPath", "()I"⟩
abbrev cX0_pathOf : ByteArray := prog_2_method_11_code
def yX0_pathOf : MethodName := ⟨RX0, "pathOf", "(IJJ)I"⟩
abbrev cX0_actionByTree : ByteArray := prog_2_method_12_code
def yX0_actionByTree : MethodName := ⟨RX0, "actionByTree", "(IJJ)I"⟩
abbrev cX0_actionByRules : ByteArray := prog_2_method_13_code
def yX0_actionByRules : MethodName := ⟨RX0, "actionByRules", "(IJJ)I"⟩
abbrev cX0_actionOfFirstMatch : ByteArray := prog_2_method_14_code
def yX0_actionOfFirstMatch : MethodName := ⟨RX0, "actionOfFirstMatch", "(Ljava/util/ArrayList;IJJ)I"⟩
abbrev cX0_numberTests : ByteArray := prog_2_method_15_code
def yX0_numberTests : MethodName := ⟨RX0, "numberTests", "(I)I"⟩
abbrev cX0_mostRuleTests : ByteArray := prog_2_method_16_code
def yX0_mostRuleTests : MethodName := ⟨RX0, "mostRuleTests", "(I)I"⟩
abbrev cX0_lastTest : ByteArray := prog_2_method_17_code
def yX0_lastTest : MethodName := ⟨RX0, "lastTest", "(I)LSyscallFilter$Node;"⟩
def RX1 : String := "SyscallFilter$Node"
def TX1 : u_T := fun k => match k with
  | 0 => ("SyscallFilter$Node", "number", "I", true)
  | 1 => ("SyscallFilter$Node", "tests", "I", true)
  | 2 => ("SyscallFilter$Node", "lesser", "LSyscallFilter$Node;", true)
  | _ => ("SyscallFilter$Node", "greater", "LSyscallFilter$Node;", true)
def tyX1 : Nat → FieldType := fun k => match k with
  | 0 => .int
  | 1 => .int
  | 2 => .object "SyscallFilter$Node"
  | _ => .object "SyscallFilter$Node"
abbrev wsX10 : List Cond := u_ws RX1 TX1 4
theorem nmX1 : ∀ a, a < 4 → ∀ b, b < 4 → a ≠ b → (TX1 a).2.1 ≠ (TX1 b).2.1 := by decide +kernel
theorem tyX1_ok : ∀ k, k < 4 → parseFieldDescriptor (TX1 k).2.2.1 = some (tyX1 k) := by decide +kernel
abbrev cX1_init : ByteArray := prog_3_method_1_code
def yX1_init : MethodName := ⟨RX1, "<init>", "(IILSyscallFilter$Node;LSyscallFilter$Node;)V"⟩
abbrev cX1_towards : ByteArray := prog_3_method_2_code
def yX1_towards : MethodName := ⟨RX1, "towards", "(I)LSyscallFilter$Node;"⟩
def RX2 : String := "SyscallFilter$Planner"
def TX2 : u_T := fun k => match k with
  | 0 => ("SyscallFilter$Planner", "numbers", "[I", true)
  | 1 => ("SyscallFilter$Planner", "weights", "[I", true)
  | 2 => ("SyscallFilter$Planner", "costs", "[[I", true)
  | 3 => ("SyscallFilter$Planner", "firstPlaces", "[[I", true)
  | _ => ("SyscallFilter$Planner", "size", "I", false)
def tyX2 : Nat → FieldType := fun k => match k with
  | 0 => .array .int
  | 1 => .array .int
  | 2 => .array (.array .int)
  | 3 => .array (.array .int)
  | _ => .int
abbrev wsX20 : List Cond := u_ws RX2 TX2 5
theorem nmX2 : ∀ a, a < 5 → ∀ b, b < 5 → a ≠ b → (TX2 a).2.1 ≠ (TX2 b).2.1 := by decide +kernel
theorem tyX2_ok : ∀ k, k < 5 → parseFieldDescriptor (TX2 k).2.2.1 = some (tyX2 k) := by decide +kernel
abbrev cX2_init : ByteArray := prog_4_method_1_code
def yX2_init : MethodName := ⟨RX2, "<init>", "()V"⟩
abbrev cX2_startAnew : ByteArray := prog_4_method_2_code
def yX2_startAnew : MethodName := ⟨RX2, "startAnew", "()V"⟩
abbrev cX2_take : ByteArray := prog_4_method_3_code
def yX2_take : MethodName := ⟨RX2, "take", "(II)V"⟩
abbrev cX2_weighAllTrees : ByteArray := prog_4_method_4_code
def yX2_weighAllTrees : MethodName := ⟨RX2, "weighAllTrees", "()V"⟩
abbrev cX2_weighTrees : ByteArray := prog_4_method_5_code
def yX2_weighTrees : MethodName := ⟨RX2, "weighTrees", "(II)V"⟩
abbrev cX2_costBelow : ByteArray := prog_4_method_6_code
def yX2_costBelow : MethodName := ⟨RX2, "costBelow", "(III)I"⟩
abbrev cX2_weightOf : ByteArray := prog_4_method_7_code
def yX2_weightOf : MethodName := ⟨RX2, "weightOf", "(II)I"⟩
abbrev cX2_leastCost : ByteArray := prog_4_method_8_code
def yX2_leastCost : MethodName := ⟨RX2, "leastCost", "()I"⟩
abbrev cX2_bestTree : ByteArray := prog_4_method_9_code
def yX2_bestTree : MethodName := ⟨RX2, "bestTree", "()LSyscallFilter$Node;"⟩
abbrev cX2_grow : ByteArray := prog_4_method_10_code
def yX2_grow : MethodName := ⟨RX2, "grow", "(LSyscallFilter$Planner;III)LSyscallFilter$Node;"⟩
def RX3 : String := "SyscallFilter$Rule"
def TX3 : u_T := fun k => match k with
  | 0 => ("SyscallFilter$Rule", "number", "I", true)
  | 1 => ("SyscallFilter$Rule", "argument", "I", true)
  | 2 => ("SyscallFilter$Rule", "mask", "J", true)
  | 3 => ("SyscallFilter$Rule", "value", "J", true)
  | _ => ("SyscallFilter$Rule", "action", "I", true)
def tyX3 : Nat → FieldType := fun k => match k with
  | 0 => .int
  | 1 => .int
  | 2 => .long
  | 3 => .long
  | _ => .int
abbrev wsX30 : List Cond := u_ws RX3 TX3 5
theorem nmX3 : ∀ a, a < 5 → ∀ b, b < 5 → a ≠ b → (TX3 a).2.1 ≠ (TX3 b).2.1 := by decide +kernel
theorem tyX3_ok : ∀ k, k < 5 → parseFieldDescriptor (TX3 k).2.2.1 = some (tyX3 k) := by decide +kernel
abbrev cX3_init : ByteArray := prog_5_method_1_code
def yX3_init : MethodName := ⟨RX3, "<init>", "(IIJJI)V"⟩
abbrev cX3_matches : ByteArray := prog_5_method_2_code
def yX3_matches : MethodName := ⟨RX3, "matches", "(JJ)Z"⟩
abbrev cX3_canNeverMatch : ByteArray := prog_5_method_3_code
def yX3_canNeverMatch : MethodName := ⟨RX3, "canNeverMatch", "()Z"⟩
abbrev cX3_covers : ByteArray := prog_5_method_4_code
def yX3_covers : MethodName := ⟨RX3, "covers", "(LSyscallFilter$Rule;)Z"⟩
abbrev cX3_testsFor : ByteArray := prog_5_method_5_code
def yX3_testsFor : MethodName := ⟨RX3, "testsFor", "(JJ)I"⟩
abbrev cX3_mostTests : ByteArray := prog_5_method_6_code
def yX3_mostTests : MethodName := ⟨RX3, "mostTests", "()I"⟩
abbrev cX3_lowerTests : ByteArray := prog_5_method_7_code
def yX3_lowerTests : MethodName := ⟨RX3, "lowerTests", "()I"⟩
abbrev cX3_upperTests : ByteArray := prog_5_method_8_code
def yX3_upperTests : MethodName := ⟨RX3, "upperTests", "()I"⟩
abbrev cX3_argumentOf : ByteArray := prog_5_method_9_code
def yX3_argumentOf : MethodName := ⟨RX3, "argumentOf", "(JJ)J"⟩
def RX4 : String := "SyscallFilter"
def TX4 : u_T := fun k => match k with
  | 0 => ("SyscallFilter", "filters", "[LSyscallFilter$Filter;", true)
  | 1 => ("SyscallFilter", "frequencies", "[I", true)
  | 2 => ("SyscallFilter", "planner", "LSyscallFilter$Planner;", true)
  | _ => ("SyscallFilter", "compiled", "Z", false)
def tyX4 : Nat → FieldType := fun k => match k with
  | 0 => .array (.object "SyscallFilter$Filter")
  | 1 => .array .int
  | 2 => .object "SyscallFilter$Planner"
  | _ => .boolean
abbrev wsX40 : List Cond := u_ws RX4 TX4 4
theorem nmX4 : ∀ a, a < 4 → ∀ b, b < 4 → a ≠ b → (TX4 a).2.1 ≠ (TX4 b).2.1 := by decide +kernel
theorem tyX4_ok : ∀ k, k < 4 → parseFieldDescriptor (TX4 k).2.2.1 = some (tyX4 k) := by decide +kernel
abbrev cX4_init : ByteArray := prog_1_method_1_code
def yX4_init : MethodName := ⟨RX4, "<init>", "()V"⟩
abbrev cX4_add : ByteArray := prog_1_method_2_code
def yX4_add : MethodName := ⟨RX4, "add", "(IIIJJI)I"⟩
abbrev cX4_remove : ByteArray := prog_1_method_3_code
def yX4_remove : MethodName := ⟨RX4, "remove", "(II)I"⟩
abbrev cX4_setDefault : ByteArray := prog_1_method_4_code
def yX4_setDefault : MethodName := ⟨RX4, "setDefault", "(II)I"⟩
abbrev cX4_setFrequency : ByteArray := prog_1_method_5_code
def yX4_setFrequency : MethodName := ⟨RX4, "setFrequency", "(II)I"⟩
abbrev cX4_rules : ByteArray := prog_1_method_6_code
def yX4_rules : MethodName := ⟨RX4, "rules", "(I)I"⟩
abbrev cX4_hider : ByteArray := prog_1_method_7_code
def yX4_hider : MethodName := ⟨RX4, "hider", "(II)I"⟩
abbrev cX4_compile : ByteArray := prog_1_method_8_code
def yX4_compile : MethodName := ⟨RX4, "compile", "(I)I"⟩
abbrev cX4_isCompiled : ByteArray := prog_1_method_9_code
def yX4_isCompiled : MethodName := ⟨RX4, "isCompiled", "()Z"⟩
abbrev cX4_test : ByteArray := prog_1_method_10_code
def yX4_test : MethodName := ⟨RX4, "test", "(II)I"⟩
abbrev cX4_cost : ByteArray := prog_1_method_11_code
def yX4_cost : MethodName := ⟨RX4, "cost", "(I)I"⟩
abbrev cX4_worst : ByteArray := prog_1_method_12_code
def yX4_worst : MethodName := ⟨RX4, "worst", "(I)I"⟩
abbrev cX4_judge : ByteArray := prog_1_method_13_code
def yX4_judge : MethodName := ⟨RX4, "judge", "(IJJ)I"⟩
abbrev cX4_judgeByRules : ByteArray := prog_1_method_14_code
def yX4_judgeByRules : MethodName := ⟨RX4, "judgeByRules", "(IJJ)I"⟩
abbrev cX4_path : ByteArray := prog_1_method_15_code
def yX4_path : MethodName := ⟨RX4, "path", "(IJJ)I"⟩
abbrev cX4_actionOf : ByteArray := prog_1_method_16_code
def yX4_actionOf : MethodName := ⟨RX4, "actionOf", "(IIJJ)I"⟩
abbrev cX4_planTrees : ByteArray := prog_1_method_17_code
def yX4_planTrees : MethodName := ⟨RX4, "planTrees", "()V"⟩
abbrev cX4_worstPathOfAll : ByteArray := prog_1_method_18_code
def yX4_worstPathOfAll : MethodName := ⟨RX4, "worstPathOfAll", "()I"⟩
abbrev cX4_requireFilter : ByteArray := prog_1_method_19_code
def yX4_requireFilter : MethodName := ⟨RX4, "requireFilter", "(I)V"⟩
abbrev cX4_requireNumber : ByteArray := prog_1_method_20_code
def yX4_requireNumber : MethodName := ⟨RX4, "requireNumber", "(I)V"⟩
abbrev cX4_requireAction : ByteArray := prog_1_method_21_code
def yX4_requireAction : MethodName := ⟨RX4, "requireAction", "(I)V"⟩
abbrev cX4_requireRule : ByteArray := prog_1_method_22_code
def yX4_requireRule : MethodName := ⟨RX4, "requireRule", "(II)V"⟩
abbrev cX4_requireCompiled : ByteArray := prog_1_method_23_code
def yX4_requireCompiled : MethodName := ⟨RX4, "requireCompiled", "()V"⟩
def RX5 : String := "SyscallFilterModel"
def TX5 : u_T := fun k => match k with
  | 0 => ("SyscallFilterModel", "thrown", "I", false)
  | 1 => ("SyscallFilterModel", "numbers", "[I", true)
  | 2 => ("SyscallFilterModel", "arguments", "[I", true)
  | 3 => ("SyscallFilterModel", "masks", "[J", true)
  | 4 => ("SyscallFilterModel", "values", "[J", true)
  | 5 => ("SyscallFilterModel", "actions", "[I", true)
  | 6 => ("SyscallFilterModel", "many", "[I", true)
  | 7 => ("SyscallFilterModel", "defaults", "[I", true)
  | 8 => ("SyscallFilterModel", "frequencies", "[I", true)
  | 9 => ("SyscallFilterModel", "isCompiled", "Z", false)
  | 10 => ("SyscallFilterModel", "keys", "[I", true)
  | 11 => ("SyscallFilterModel", "size", "I", false)
  | 12 => ("SyscallFilterModel", "costs", "[I", true)
  | _ => ("SyscallFilterModel", "roots", "[I", true)
def tyX5 : Nat → FieldType := fun k => match k with
  | 0 => .int
  | 1 => .array .int
  | 2 => .array .int
  | 3 => .array .long
  | 4 => .array .long
  | 5 => .array .int
  | 6 => .array .int
  | 7 => .array .int
  | 8 => .array .int
  | 9 => .boolean
  | 10 => .array .int
  | 11 => .int
  | 12 => .array .int
  | _ => .array .int
abbrev wsX50 : List Cond := u_ws RX5 TX5 14
theorem nmX5 : ∀ a, a < 14 → ∀ b, b < 14 → a ≠ b → (TX5 a).2.1 ≠ (TX5 b).2.1 := by decide +kernel
theorem tyX5_ok : ∀ k, k < 14 → parseFieldDescriptor (TX5 k).2.2.1 = some (tyX5 k) := by decide +kernel
abbrev cX5_init : ByteArray := prog_7_method_1_code
def yX5_init : MethodName := ⟨RX5, "<init>", "()V"⟩
abbrev cX5_thrown : ByteArray := prog_7_method_2_code
def yX5_thrown : MethodName := ⟨RX5, "thrown", "()I"⟩
abbrev cX5_goesWell : ByteArray := prog_7_method_3_code
def yX5_goesWell : MethodName := ⟨RX5, "goesWell", "(I)Z"⟩
abbrev cX5_in : ByteArray := prog_7_method_4_code
def yX5_in : MethodName := ⟨RX5, "in", "(III)Z"⟩
abbrev cX5_isFilter : ByteArray := prog_7_method_5_code
def yX5_isFilter : MethodName := ⟨RX5, "isFilter", "(I)Z"⟩
abbrev cX5_isNumber : ByteArray := prog_7_method_6_code
def yX5_isNumber : MethodName := ⟨RX5, "isNumber", "(I)Z"⟩
abbrev cX5_isRule : ByteArray := prog_7_method_7_code
def yX5_isRule : MethodName := ⟨RX5, "isRule", "(II)Z"⟩
abbrev cX5_add : ByteArray := prog_7_method_8_code
def yX5_add : MethodName := ⟨RX5, "add", "(IIIJJI)I"⟩
abbrev cX5_remove : ByteArray := prog_7_method_9_code
def yX5_remove : MethodName := ⟨RX5, "remove", "(II)I"⟩
abbrev cX5_setDefault : ByteArray := prog_7_method_10_code
def yX5_setDefault : MethodName := ⟨RX5, "setDefault", "(II)I"⟩
abbrev cX5_setFrequency : ByteArray := prog_7_method_11_code
def yX5_setFrequency : MethodName := ⟨RX5, "setFrequency", "(II)I"⟩
abbrev cX5_rules : ByteArray := prog_7_method_12_code
def yX5_rules : MethodName := ⟨RX5, "rules", "(I)I"⟩
abbrev cX5_hides : ByteArray := prog_7_method_13_code
def yX5_hides : MethodName := ⟨RX5, "hides", "(II)Z"⟩
abbrev cX5_hiderOf : ByteArray := prog_7_method_14_code
def yX5_hiderOf : MethodName := ⟨RX5, "hiderOf", "(II)I"⟩
abbrev cX5_hider : ByteArray := prog_7_method_15_code
def yX5_hider : MethodName := ⟨RX5, "hider", "(II)I"⟩
abbrev cX5_hasNumber : ByteArray := prog_7_method_16_code
def yX5_hasNumber : MethodName := ⟨RX5, "hasNumber", "(II)Z"⟩
abbrev cX5_costOf : ByteArray := prog_7_method_17_code
def yX5_costOf : MethodName := ⟨RX5, "costOf", "(II)I"⟩
abbrev cX5_lay : ByteArray := prog_7_method_18_code
def yX5_lay : MethodName := ⟨RX5, "lay", "(I)V"⟩
abbrev cX5_layPart : ByteArray := prog_7_method_19_code
def yX5_layPart : MethodName := ⟨RX5, "layPart", "(II)V"⟩
abbrev cX5_testsOf : ByteArray := prog_7_method_20_code
def yX5_testsOf : MethodName := ⟨RX5, "testsOf", "(I)I"⟩
abbrev cX5_halvesOf : ByteArray := prog_7_method_21_code
def yX5_halvesOf : MethodName := ⟨RX5, "halvesOf", "(J)I"⟩
abbrev cX5_halves : ByteArray := prog_7_method_22_code
def yX5_halves : MethodName := ⟨RX5, "halves", "(II)I"⟩
abbrev cX5_worstOf : ByteArray := prog_7_method_23_code
def yX5_worstOf : MethodName := ⟨RX5, "worstOf", "(I)I"⟩
abbrev cX5_compile : ByteArray := prog_7_method_24_code
def yX5_compile : MethodName := ⟨RX5, "compile", "(I)I"⟩
abbrev cX5_isCompiled : ByteArray := prog_7_method_25_code
def yX5_isCompiled : MethodName := ⟨RX5, "isCompiled", "()Z"⟩
abbrev cX5_test : ByteArray := prog_7_method_26_code
def yX5_test : MethodName := ⟨RX5, "test", "(II)I"⟩
abbrev cX5_cost : ByteArray := prog_7_method_27_code
def yX5_cost : MethodName := ⟨RX5, "cost", "(I)I"⟩
abbrev cX5_worst : ByteArray := prog_7_method_28_code
def yX5_worst : MethodName := ⟨RX5, "worst", "(I)I"⟩
abbrev cX5_matches : ByteArray := prog_7_method_29_code
def yX5_matches : MethodName := ⟨RX5, "matches", "(IIJJ)Z"⟩
abbrev cX5_judgeBy : ByteArray := prog_7_method_30_code
def yX5_judgeBy : MethodName := ⟨RX5, "judgeBy", "(IIJJ)I"⟩
abbrev cX5_strictest : ByteArray := prog_7_method_31_code
def yX5_strictest : MethodName := ⟨RX5, "strictest", "(IJJ)I"⟩
abbrev cX5_judge : ByteArray := prog_7_method_32_code
def yX5_judge : MethodName := ⟨RX5, "judge", "(IJJ)I"⟩
abbrev cX5_judgeByRules : ByteArray := prog_7_method_33_code
def yX5_judgeByRules : MethodName := ⟨RX5, "judgeByRules", "(IJJ)I"⟩
abbrev cX5_halvesMade : ByteArray := prog_7_method_34_code
def yX5_halvesMade : MethodName := ⟨RX5, "halvesMade", "(IIJJ)I"⟩
abbrev cX5_path : ByteArray := prog_7_method_35_code
def yX5_path : MethodName := ⟨RX5, "path", "(IJJ)I"⟩
abbrev cX5_actionOf : ByteArray := prog_7_method_36_code
def yX5_actionOf : MethodName := ⟨RX5, "actionOf", "(IIJJ)I"⟩
def RJx145de : String := "java/io/Serializable"
def TJx145de : u_T := fun k => match k with
  | _ => ("", "", "", false)
def tyJx145de : Nat → FieldType := fun k => match k with
  | _ => .int
abbrev wsJx145de0 : List Cond := u_ws RJx145de TJx145de 0
theorem nmJx145de : ∀ a, a < 0 → ∀ b, b < 0 → a ≠ b → (TJx145de a).2.1 ≠ (TJx145de b).2.1 := by decide +kernel
theorem tyJx145de_ok : ∀ k, k < 0 → parseFieldDescriptor (TJx145de k).2.2.1 = some (tyJx145de k) := by decide +kernel
def RJx8e188 : String := "java/lang/Cloneable"
def TJx8e188 : u_T := fun k => match k with
  | _ => ("", "", "", false)
def tyJx8e188 : Nat → FieldType := fun k => match k with
  | _ => .int
abbrev wsJx8e1880 : List Cond := u_ws RJx8e188 TJx8e188 0
theorem nmJx8e188 : ∀ a, a < 0 → ∀ b, b < 0 → a ≠ b → (TJx8e188 a).2.1 ≠ (TJx8e188 b).2.1 := by decide +kernel
theorem tyJx8e188_ok : ∀ k, k < 0 → parseFieldDescriptor (TJx8e188 k).2.2.1 = some (tyJx8e188 k) := by decide +kernel
def RJxab1ab : String := "java/lang/Iterable"
def TJxab1ab : u_T := fun k => match k with
  | _ => ("", "", "", false)
def tyJxab1ab : Nat → FieldType := fun k => match k with
  | _ => .int
abbrev wsJxab1ab0 : List Cond := u_ws RJxab1ab TJxab1ab 0
theorem nmJxab1ab : ∀ a, a < 0 → ∀ b, b < 0 → a ≠ b → (TJxab1ab a).2.1 ≠ (TJxab1ab b).2.1 := by decide +kernel
theorem tyJxab1ab_ok : ∀ k, k < 0 → parseFieldDescriptor (TJxab1ab k).2.2.1 = some (tyJxab1ab k) := by decide +kernel
def RJ9 : String := "java/lang/Math"
def TJ9 : u_T := fun k => match k with
  | _ => ("", "", "", false)
def tyJ9 : Nat → FieldType := fun k => match k with
  | _ => .int
abbrev wsJ90 : List Cond := u_ws RJ9 TJ9 0
theorem nmJ9 : ∀ a, a < 0 → ∀ b, b < 0 → a ≠ b → (TJ9 a).2.1 ≠ (TJ9 b).2.1 := by decide +kernel
theorem tyJ9_ok : ∀ k, k < 0 → parseFieldDescriptor (TJ9 k).2.2.1 = some (tyJ9 k) := by decide +kernel
abbrev cJ9_max_7cf53 : ByteArray := prog_15_method_65_code
def yJ9_max_7cf53 : MethodName := ⟨RJ9, "max", "(II)I"⟩
abbrev cJ9_min_7cf53 : ByteArray := prog_15_method_69_code
def yJ9_min_7cf53 : MethodName := ⟨RJ9, "min", "(II)I"⟩
def RJ0 : String := "java/lang/String"
def TJ0 : u_T := fun k => match k with
  | _ => ("", "", "", false)
def tyJ0 : Nat → FieldType := fun k => match k with
  | _ => .int
abbrev wsJ00 : List Cond := u_ws RJ0 TJ0 0
theorem nmJ0 : ∀ a, a < 0 → ∀ b, b < 0 → a ≠ b → (TJ0 a).2.1 ≠ (TJ0 b).2.1 := by decide +kernel
theorem tyJ0_ok : ∀ k, k < 0 → parseFieldDescriptor (TJ0 k).2.2.1 = some (tyJ0 k) := by decide +kernel
def RJ10 : String := "java/lang/System"
def TJ10 : u_T := fun k => match k with
  | _ => ("", "", "", false)
def tyJ10 : Nat → FieldType := fun k => match k with
  | _ => .int
abbrev wsJ100 : List Cond := u_ws RJ10 TJ10 0
theorem nmJ10 : ∀ a, a < 0 → ∀ b, b < 0 → a ≠ b → (TJ10 a).2.1 ≠ (TJ10 b).2.1 := by decide +kernel
theorem tyJ10_ok : ∀ k, k < 0 → parseFieldDescriptor (TJ10 k).2.2.1 = some (tyJ10 k) := by decide +kernel
def RJxa1e45 : String := "java/util/AbstractCollection"
def TJxa1e45 : u_T := fun k => match k with
  | _ => ("", "", "", false)
def tyJxa1e45 : Nat → FieldType := fun k => match k with
  | _ => .int
abbrev wsJxa1e450 : List Cond := u_ws RJxa1e45 TJxa1e45 0
theorem nmJxa1e45 : ∀ a, a < 0 → ∀ b, b < 0 → a ≠ b → (TJxa1e45 a).2.1 ≠ (TJxa1e45 b).2.1 := by decide +kernel
theorem tyJxa1e45_ok : ∀ k, k < 0 → parseFieldDescriptor (TJxa1e45 k).2.2.1 = some (tyJxa1e45 k) := by decide +kernel
abbrev cJxa1e45_init_da8c8 : ByteArray := prog_20_method_1_code
def yJxa1e45_init_da8c8 : MethodName := ⟨RJxa1e45, "<init>", "()V"⟩
def RJxc12de : String := "java/util/AbstractList"
def TJxc12de : u_T := fun k => match k with
  | _ => ("", "", "", false)
def tyJxc12de : Nat → FieldType := fun k => match k with
  | _ => .int
abbrev wsJxc12de0 : List Cond := u_ws RJxc12de TJxc12de 0
theorem nmJxc12de : ∀ a, a < 0 → ∀ b, b < 0 → a ≠ b → (TJxc12de a).2.1 ≠ (TJxc12de b).2.1 := by decide +kernel
theorem tyJxc12de_ok : ∀ k, k < 0 → parseFieldDescriptor (TJxc12de k).2.2.1 = some (tyJxc12de k) := by decide +kernel
abbrev cJxc12de_init_da8c8 : ByteArray := prog_21_method_1_code
def yJxc12de_init_da8c8 : MethodName := ⟨RJxc12de, "<init>", "()V"⟩
def RJx4a65c : String := "java/util/ArrayList"
def TJx4a65c : u_T := fun k => match k with
  | 0 => ("java/util/AbstractList", "modCount", "I", false)
  | 1 => ("java/util/ArrayList", "elementData", "[Ljava/lang/Object;", false)
  | _ => ("java/util/ArrayList", "size", "I", false)
def tyJx4a65c : Nat → FieldType := fun k => match k with
  | 0 => .int
  | 1 => .array (.object "java/lang/Object")
  | _ => .int
abbrev wsJx4a65c0 : List Cond := u_ws RJx4a65c TJx4a65c 3
theorem nmJx4a65c : ∀ a, a < 3 → ∀ b, b < 3 → a ≠ b → (TJx4a65c a).2.1 ≠ (TJx4a65c b).2.1 := by decide +kernel
theorem tyJx4a65c_ok : ∀ k, k < 3 → parseFieldDescriptor (TJx4a65c k).2.2.1 = some (tyJx4a65c k) := by decide +kernel
abbrev cJx4a65c_init_da8c8 : ByteArray := prog_22_method_2_code
def yJx4a65c_init_da8c8 : MethodName := ⟨RJx4a65c, "<init>", "()V"⟩
abbrev cJx4a65c_grow_92f84 : ByteArray := prog_22_method_6_code
def yJx4a65c_grow_92f84 : MethodName := ⟨RJx4a65c, "grow", "(I)[Ljava/lang/Object;"⟩
abbrev cJx4a65c_grow_d5877 : ByteArray := prog_22_method_7_code
def yJx4a65c_grow_d5877 : MethodName := ⟨RJx4a65c, "grow", "()[Ljava/lang/Object;"⟩
abbrev cJx4a65c_size_8abf5 : ByteArray := prog_22_method_8_code
def yJx4a65c_size_8abf5 : MethodName := ⟨RJx4a65c, "size", "()I"⟩
abbrev cJx4a65c_elementData_915e3 : ByteArray := prog_22_method_18_code
def yJx4a65c_elementData_915e3 : MethodName := ⟨RJx4a65c, "elementData", "(I)Ljava/lang/Object;"⟩
abbrev cJx4a65c_get_915e3 : ByteArray := prog_22_method_20_code
def yJx4a65c_get_915e3 : MethodName := ⟨RJx4a65c, "get", "(I)Ljava/lang/Object;"⟩
abbrev cJx4a65c_add_72be8 : ByteArray := prog_22_method_24_code
def yJx4a65c_add_72be8 : MethodName := ⟨RJx4a65c, "add", "(Ljava/lang/Object;[Ljava/lang/Object;I)V"⟩
abbrev cJx4a65c_add_9ea2d : ByteArray := prog_22_method_25_code
def yJx4a65c_add_9ea2d : MethodName := ⟨RJx4a65c, "add", "(Ljava/lang/Object;)Z"⟩
abbrev cJx4a65c_remove_915e3 : ByteArray := prog_22_method_29_code
def yJx4a65c_remove_915e3 : MethodName := ⟨RJx4a65c, "remove", "(I)Ljava/lang/Object;"⟩
abbrev cJx4a65c_fastRemove_b59b0 : ByteArray := prog_22_method_39_code
def yJx4a65c_fastRemove_b59b0 : MethodName := ⟨RJx4a65c, "fastRemove", "([Ljava/lang/Object;I)V"⟩
abbrev cJx4a65c_clear_da8c8 : ByteArray := prog_22_method_40_code
def yJx4a65c_clear_da8c8 : MethodName := ⟨RJx4a65c, "clear", "()V"⟩
def RJ7 : String := "java/util/Arrays"
def TJ7 : u_T := fun k => match k with
  | _ => ("", "", "", false)
def tyJ7 : Nat → FieldType := fun k => match k with
  | _ => .int
abbrev wsJ70 : List Cond := u_ws RJ7 TJ7 0
theorem nmJ7 : ∀ a, a < 0 → ∀ b, b < 0 → a ≠ b → (TJ7 a).2.1 ≠ (TJ7 b).2.1 := by decide +kernel
theorem tyJ7_ok : ∀ k, k < 0 → parseFieldDescriptor (TJ7 k).2.2.1 = some (tyJ7 k) := by decide +kernel
abbrev cJ7_copyOf_1904c : ByteArray := prog_23_method_119_code
def yJ7_copyOf_1904c : MethodName := ⟨RJ7, "copyOf", "([Ljava/lang/Object;I)[Ljava/lang/Object;"⟩
abbrev cJ7_copyOf_6403c : ByteArray := prog_23_method_120_code
def yJ7_copyOf_6403c : MethodName := ⟨RJ7, "copyOf", "([Ljava/lang/Object;ILjava/lang/Class;)[Ljava/lang/Object;"⟩
def RJx5ef63 : String := "java/util/Collection"
def TJx5ef63 : u_T := fun k => match k with
  | _ => ("", "", "", false)
def tyJx5ef63 : Nat → FieldType := fun k => match k with
  | _ => .int
abbrev wsJx5ef630 : List Cond := u_ws RJx5ef63 TJx5ef63 0
theorem nmJx5ef63 : ∀ a, a < 0 → ∀ b, b < 0 → a ≠ b → (TJx5ef63 a).2.1 ≠ (TJx5ef63 b).2.1 := by decide +kernel
theorem tyJx5ef63_ok : ∀ k, k < 0 → parseFieldDescriptor (TJx5ef63 k).2.2.1 = some (tyJx5ef63 k) := by decide +kernel
def RJxbd725 : String := "java/util/List"
def TJxbd725 : u_T := fun k => match k with
  | _ => ("", "", "", false)
def tyJxbd725 : Nat → FieldType := fun k => match k with
  | _ => .int
abbrev wsJxbd7250 : List Cond := u_ws RJxbd725 TJxbd725 0
theorem nmJxbd725 : ∀ a, a < 0 → ∀ b, b < 0 → a ≠ b → (TJxbd725 a).2.1 ≠ (TJxbd725 b).2.1 := by decide +kernel
theorem tyJxbd725_ok : ∀ k, k < 0 → parseFieldDescriptor (TJxbd725 k).2.2.1 = some (tyJxbd725 k) := by decide +kernel
def RJ15 : String := "java/util/Objects"
def TJ15 : u_T := fun k => match k with
  | _ => ("", "", "", false)
def tyJ15 : Nat → FieldType := fun k => match k with
  | _ => .int
abbrev wsJ150 : List Cond := u_ws RJ15 TJ15 0
theorem nmJ15 : ∀ a, a < 0 → ∀ b, b < 0 → a ≠ b → (TJ15 a).2.1 ≠ (TJ15 b).2.1 := by decide +kernel
theorem tyJ15_ok : ∀ k, k < 0 → parseFieldDescriptor (TJ15 k).2.2.1 = some (tyJ15 k) := by decide +kernel
abbrev cJ15_checkIndex_7cf53 : ByteArray := prog_26_method_17_code
def yJ15_checkIndex_7cf53 : MethodName := ⟨RJ15, "checkIndex", "(II)I"⟩
def RJxf0a74 : String := "java/util/RandomAccess"
def TJxf0a74 : u_T := fun k => match k with
  | _ => ("", "", "", false)
def tyJxf0a74 : Nat → FieldType := fun k => match k with
  | _ => .int
abbrev wsJxf0a740 : List Cond := u_ws RJxf0a74 TJxf0a74 0
theorem nmJxf0a74 : ∀ a, a < 0 → ∀ b, b < 0 → a ≠ b → (TJxf0a74 a).2.1 ≠ (TJxf0a74 b).2.1 := by decide +kernel
theorem tyJxf0a74_ok : ∀ k, k < 0 → parseFieldDescriptor (TJxf0a74 k).2.2.1 = some (tyJxf0a74 k) := by decide +kernel
def RJxa66e6 : String := "java/util/SequencedCollection"
def TJxa66e6 : u_T := fun k => match k with
  | _ => ("", "", "", false)
def tyJxa66e6 : Nat → FieldType := fun k => match k with
  | _ => .int
abbrev wsJxa66e60 : List Cond := u_ws RJxa66e6 TJxa66e6 0
theorem nmJxa66e6 : ∀ a, a < 0 → ∀ b, b < 0 → a ≠ b → (TJxa66e6 a).2.1 ≠ (TJxa66e6 b).2.1 := by decide +kernel
theorem tyJxa66e6_ok : ∀ k, k < 0 → parseFieldDescriptor (TJxa66e6 k).2.2.1 = some (tyJxa66e6 k) := by decide +kernel
def RJ8 : String := "jdk/internal/util/ArraysSupport"
def TJ8 : u_T := fun k => match k with
  | _ => ("", "", "", false)
def tyJ8 : Nat → FieldType := fun k => match k with
  | _ => .int
abbrev wsJ80 : List Cond := u_ws RJ8 TJ8 0
theorem nmJ8 : ∀ a, a < 0 → ∀ b, b < 0 → a ≠ b → (TJ8 a).2.1 ≠ (TJ8 b).2.1 := by decide +kernel
theorem tyJ8_ok : ∀ k, k < 0 → parseFieldDescriptor (TJ8 k).2.2.1 = some (tyJ8 k) := by decide +kernel
abbrev cJ8_newLength_cabcc : ByteArray := prog_29_method_27_code
def yJ8_newLength_cabcc : MethodName := ⟨RJ8, "newLength", "(III)I"⟩
abbrev cJ8_hugeLength_7cf53 : ByteArray := prog_29_method_28_code
def yJ8_hugeLength_7cf53 : MethodName := ⟨RJ8, "hugeLength", "(II)I"⟩
def RJ3 : String := "jdk/internal/util/Preconditions"
def TJ3 : u_T := fun k => match k with
  | _ => ("", "", "", false)
def tyJ3 : Nat → FieldType := fun k => match k with
  | _ => .int
abbrev wsJ30 : List Cond := u_ws RJ3 TJ3 0
theorem nmJ3 : ∀ a, a < 0 → ∀ b, b < 0 → a ≠ b → (TJ3 a).2.1 ≠ (TJ3 b).2.1 := by decide +kernel
theorem tyJ3_ok : ∀ k, k < 0 → parseFieldDescriptor (TJ3 k).2.2.1 = some (tyJ3 k) := by decide +kernel
abbrev cJ3_checkIndex_8e157 : ByteArray := prog_30_method_11_code
def yJ3_checkIndex_8e157 : MethodName := ⟨RJ3, "checkIndex", "(IILjava/util/function/BiFunction;)I"⟩
def RL : String := "SyscallFilterLaw"
abbrev cL_add : ByteArray := method_3_code
def yL_add : MethodName := ⟨RL, "add", "(LSyscallFilter;IIIJJI[J)I"⟩
abbrev cL_remove : ByteArray := method_4_code
def yL_remove : MethodName := ⟨RL, "remove", "(LSyscallFilter;II[J)I"⟩
abbrev cL_setDefault : ByteArray := method_5_code
def yL_setDefault : MethodName := ⟨RL, "setDefault", "(LSyscallFilter;II[J)I"⟩
abbrev cL_setFrequency : ByteArray := method_6_code
def yL_setFrequency : MethodName := ⟨RL, "setFrequency", "(LSyscallFilter;II[J)I"⟩
abbrev cL_rules : ByteArray := method_7_code
def yL_rules : MethodName := ⟨RL, "rules", "(LSyscallFilter;I[J)I"⟩
abbrev cL_hider : ByteArray := method_8_code
def yL_hider : MethodName := ⟨RL, "hider", "(LSyscallFilter;II[J)I"⟩
abbrev cL_compile : ByteArray := method_9_code
def yL_compile : MethodName := ⟨RL, "compile", "(LSyscallFilter;I[J)I"⟩
abbrev cL_test : ByteArray := method_10_code
def yL_test : MethodName := ⟨RL, "test", "(LSyscallFilter;II[J)I"⟩
abbrev cL_cost : ByteArray := method_11_code
def yL_cost : MethodName := ⟨RL, "cost", "(LSyscallFilter;I[J)I"⟩
abbrev cL_worst : ByteArray := method_12_code
def yL_worst : MethodName := ⟨RL, "worst", "(LSyscallFilter;I[J)I"⟩
abbrev cL_judge : ByteArray := method_13_code
def yL_judge : MethodName := ⟨RL, "judge", "(LSyscallFilter;IJJ[J)I"⟩
abbrev cL_judgeByRules : ByteArray := method_14_code
def yL_judgeByRules : MethodName := ⟨RL, "judgeByRules", "(LSyscallFilter;IJJ[J)I"⟩
abbrev cL_path : ByteArray := method_15_code
def yL_path : MethodName := ⟨RL, "path", "(LSyscallFilter;IJJ[J)I"⟩
abbrev cL_actionOf : ByteArray := method_16_code
def yL_actionOf : MethodName := ⟨RL, "actionOf", "(LSyscallFilter;IIJJ[J)I"⟩
abbrev cL_law : ByteArray := code
def yL_law : MethodName := ⟨RL, "law", "([I)Z"⟩
def wsJxa1e45_init_da8c8 : List Cond := .code yJxa1e45_init_da8c8 cJxa1e45_init_da8c8 1 none :: ([.methodLink RJxa1e45 1 objectInit, .instanceMethod objectInit, .code objectInit ⟨#[0xb1]⟩ 1 none])
def wsJxc12de_init_da8c8 : List Cond := .code yJxc12de_init_da8c8 cJxc12de_init_da8c8 1 none :: ([.fieldLink RJxc12de 7 "java/util/AbstractList" "modCount" "I", .methodLink RJxc12de 1 yJxa1e45_init_da8c8, .instanceMethod yJxa1e45_init_da8c8, .initialized RJxa1e45, .code yJxa1e45_init_da8c8 cJxa1e45_init_da8c8 1 none, .methodLink RJxa1e45 1 objectInit, .instanceMethod objectInit, .code objectInit ⟨#[0xb1]⟩ 1 none] ++ wsJx4a65c0)
def wsJx4a65c_init_da8c8 : List Cond := .code yJx4a65c_init_da8c8 cJx4a65c_init_da8c8 1 none :: ([.fieldLink RJx4a65c 39 "java/util/ArrayList" "DEFAULTCAPACITY_EMPTY_ELEMENTDATA" "[Ljava/lang/Object;", .fieldLink RJx4a65c 9 "java/util/ArrayList" "elementData" "[Ljava/lang/Object;", .methodLink RJx4a65c 1 yJxc12de_init_da8c8, .instanceMethod yJxc12de_init_da8c8, .initialized RJxc12de, .code yJxc12de_init_da8c8 cJxc12de_init_da8c8 1 none, .fieldLink RJxc12de 7 "java/util/AbstractList" "modCount" "I", .methodLink RJxc12de 1 yJxa1e45_init_da8c8, .instanceMethod yJxa1e45_init_da8c8, .initialized RJxa1e45, .code yJxa1e45_init_da8c8 cJxa1e45_init_da8c8 1 none, .methodLink RJxa1e45 1 objectInit, .instanceMethod objectInit, .code objectInit ⟨#[0xb1]⟩ 1 none] ++ wsJx4a65c0)
def wsX0_init : List Cond := .code yX0_init cX0_init 1 none :: ([.methodLink RX0 3 objectInit, .instanceMethod objectInit, .code objectInit ⟨#[0xb1]⟩ 1 none, .classLink RX0 9 RJx4a65c, .instantiable RJx4a65c 3, .initialized RJx4a65c, .fieldLink RX0 12 "SyscallFilter$Filter" "rules" "Ljava/util/ArrayList;", .fieldLink RX0 18 "SyscallFilter$Filter" "reached" "Ljava/util/ArrayList;", .methodLink RX0 11 yJx4a65c_init_da8c8, .instanceMethod yJx4a65c_init_da8c8, .code yJx4a65c_init_da8c8 cJx4a65c_init_da8c8 1 none, .fieldLink RJx4a65c 39 "java/util/ArrayList" "DEFAULTCAPACITY_EMPTY_ELEMENTDATA" "[Ljava/lang/Object;", .fieldLink RJx4a65c 9 "java/util/ArrayList" "elementData" "[Ljava/lang/Object;", .methodLink RJx4a65c 1 yJxc12de_init_da8c8, .instanceMethod yJxc12de_init_da8c8, .initialized RJxc12de, .code yJxc12de_init_da8c8 cJxc12de_init_da8c8 1 none, .fieldLink RJxc12de 7 "java/util/AbstractList" "modCount" "I", .methodLink RJxc12de 1 yJxa1e45_init_da8c8, .instanceMethod yJxa1e45_init_da8c8, .initialized RJxa1e45, .code yJxa1e45_init_da8c8 cJxa1e45_init_da8c8 1 none, .methodLink RJxa1e45 1 objectInit] ++ wsJx4a65c0 ++ wsX00)
def wsJx4a65c_size_8abf5 : List Cond := .code yJx4a65c_size_8abf5 cJx4a65c_size_8abf5 1 (some .int) :: ([.fieldLink RJx4a65c 48 "java/util/ArrayList" "size" "I"] ++ wsJx4a65c0)
def wsX0_isFull : List Cond := .code yX0_isFull cX0_isFull 1 (some .boolean) :: ([.fieldLink RX0 12 "SyscallFilter$Filter" "rules" "Ljava/util/ArrayList;", .methodLink RX0 21 yJx4a65c_size_8abf5, .instanceMethod yJx4a65c_size_8abf5, .selects RJx4a65c yJx4a65c_size_8abf5 yJx4a65c_size_8abf5, .initialized RJx4a65c, .code yJx4a65c_size_8abf5 cJx4a65c_size_8abf5 1 (some .int), .fieldLink RJx4a65c 48 "java/util/ArrayList" "size" "I"] ++ wsX00 ++ wsJx4a65c0)
def wsJ8_hugeLength_7cf53 : List Cond := .code yJ8_hugeLength_7cf53 cJ8_hugeLength_7cf53 3 (some .int) :: ([.constant RJ8 200 (2147483639)])
def wsJ8_newLength_cabcc : List Cond := .code yJ8_newLength_cabcc cJ8_newLength_cabcc 4 (some .int) :: ([.methodLink RJ8 194 Lib.Math.max.name, .static Lib.Math.max.name, .initialized "java/lang/Math", .code Lib.Math.max.name Lib.Math.max.code 2 (some .int), .constant RJ8 200 (2147483639), .methodLink RJ8 201 yJ8_hugeLength_7cf53, .static yJ8_hugeLength_7cf53, .initialized RJ8, .code yJ8_hugeLength_7cf53 cJ8_hugeLength_7cf53 3 (some .int)])
def wsJ7_copyOf_6403c : List Cond := .code yJ7_copyOf_6403c cJ7_copyOf_6403c 4 (some (.array (.object "java/lang/Object"))) :: ([.classLink RJ7 110 "[Ljava/lang/Object;", .classLink RJ7 2 "java/lang/Object", .methodLink RJ7 304 Lib.Math.min.name, .static Lib.Math.min.name, .initialized "java/lang/Math", .code Lib.Math.min.name Lib.Math.min.code 2 (some .int), .methodLink RJ7 150 arraycopyName, .native arraycopyName, .static arraycopyName, .initialized "java/lang/System"])
def wsJ7_copyOf_1904c : List Cond := .code yJ7_copyOf_1904c cJ7_copyOf_1904c 2 (some (.array (.object "java/lang/Object"))) :: ([.methodLink RJ7 86 ⟨"java/lang/Object", "getClass", "()Ljava/lang/Class;"⟩, .selects "[Ljava/lang/Object;" ⟨"java/lang/Object", "getClass", "()Ljava/lang/Class;"⟩ ⟨"java/lang/Object", "getClass", "()Ljava/lang/Class;"⟩, .instanceMethod ⟨"java/lang/Object", "getClass", "()Ljava/lang/Class;"⟩, .native ⟨"java/lang/Object", "getClass", "()Ljava/lang/Class;"⟩, .methodLink RJ7 300 yJ7_copyOf_6403c, .static yJ7_copyOf_6403c, .initialized RJ7, .code yJ7_copyOf_6403c cJ7_copyOf_6403c 4 (some (.array (.object "java/lang/Object"))), .classLink RJ7 110 "[Ljava/lang/Object;", .classLink RJ7 2 "java/lang/Object", .methodLink RJ7 304 Lib.Math.min.name, .static Lib.Math.min.name, .initialized "java/lang/Math", .code Lib.Math.min.name Lib.Math.min.code 2 (some .int), .methodLink RJ7 150 arraycopyName, .native arraycopyName, .static arraycopyName, .initialized "java/lang/System"])
def wsJx4a65c_grow_92f84_r1 : List Cond := [Cond.fieldLink RJx4a65c 9 "java/util/ArrayList" "elementData" "[Ljava/lang/Object;", Cond.fieldLink RJx4a65c 39 "java/util/ArrayList" "DEFAULTCAPACITY_EMPTY_ELEMENTDATA" "[Ljava/lang/Object;", Cond.methodLink RJx4a65c 79 Lib.Math.max.name, Cond.static Lib.Math.max.name, Cond.initialized "java/lang/Math", Cond.code Lib.Math.max.name Lib.Math.max.code 2 (some .int), Cond.classLink RJx4a65c 7 "java/lang/Object", Cond.methodLink RJx4a65c 73 yJ8_newLength_cabcc, Cond.static yJ8_newLength_cabcc, Cond.initialized RJ8, Cond.code yJ8_newLength_cabcc cJ8_newLength_cabcc 4 (some .int), Cond.methodLink RJ8 194 Lib.Math.max.name, Cond.constant RJ8 200 (2147483639), Cond.methodLink RJ8 201 yJ8_hugeLength_7cf53, Cond.static yJ8_hugeLength_7cf53, Cond.code yJ8_hugeLength_7cf53 cJ8_hugeLength_7cf53 3 (some .int), Cond.methodLink RJx4a65c 66 yJ7_copyOf_1904c, Cond.static yJ7_copyOf_1904c, Cond.initialized RJ7, Cond.code yJ7_copyOf_1904c cJ7_copyOf_1904c 2 (some (.array (.object "java/lang/Object"))), Cond.methodLink RJ7 86 ⟨"java/lang/Object", "getClass", "()Ljava/lang/Class;"⟩, Cond.selects "[Ljava/lang/Object;" ⟨"java/lang/Object", "getClass", "()Ljava/lang/Class;"⟩ ⟨"java/lang/Object", "getClass", "()Ljava/lang/Class;"⟩, Cond.instanceMethod ⟨"java/lang/Object", "getClass", "()Ljava/lang/Class;"⟩, Cond.native ⟨"java/lang/Object", "getClass", "()Ljava/lang/Class;"⟩]
def wsJx4a65c_grow_92f84_r2 : List Cond := [Cond.methodLink RJ7 300 yJ7_copyOf_6403c, Cond.static yJ7_copyOf_6403c, Cond.code yJ7_copyOf_6403c cJ7_copyOf_6403c 4 (some (.array (.object "java/lang/Object"))), Cond.classLink RJ7 110 "[Ljava/lang/Object;", Cond.classLink RJ7 2 "java/lang/Object", Cond.methodLink RJ7 304 Lib.Math.min.name, Cond.static Lib.Math.min.name, Cond.code Lib.Math.min.name Lib.Math.min.code 2 (some .int), Cond.methodLink RJ7 150 arraycopyName, Cond.native arraycopyName, Cond.static arraycopyName, Cond.initialized "java/lang/System"]
def wsJx4a65c_grow_92f84 : List Cond := .code yJx4a65c_grow_92f84 cJx4a65c_grow_92f84 4 (some (.array (.object "java/lang/Object"))) :: ((wsJx4a65c_grow_92f84_r1 ++ wsJx4a65c_grow_92f84_r2) ++ wsJx4a65c0)
def wsJx4a65c_grow_d5877_r1 : List Cond := [Cond.fieldLink RJx4a65c 48 "java/util/ArrayList" "size" "I", Cond.methodLink RJx4a65c 69 yJx4a65c_grow_92f84, Cond.instanceMethod yJx4a65c_grow_92f84, Cond.selects RJx4a65c yJx4a65c_grow_92f84 yJx4a65c_grow_92f84, Cond.initialized RJx4a65c, Cond.code yJx4a65c_grow_92f84 cJx4a65c_grow_92f84 4 (some (.array (.object "java/lang/Object"))), Cond.fieldLink RJx4a65c 9 "java/util/ArrayList" "elementData" "[Ljava/lang/Object;", Cond.fieldLink RJx4a65c 39 "java/util/ArrayList" "DEFAULTCAPACITY_EMPTY_ELEMENTDATA" "[Ljava/lang/Object;", Cond.methodLink RJx4a65c 79 Lib.Math.max.name, Cond.static Lib.Math.max.name, Cond.initialized "java/lang/Math", Cond.code Lib.Math.max.name Lib.Math.max.code 2 (some .int), Cond.classLink RJx4a65c 7 "java/lang/Object", Cond.methodLink RJx4a65c 73 yJ8_newLength_cabcc, Cond.static yJ8_newLength_cabcc, Cond.initialized RJ8, Cond.code yJ8_newLength_cabcc cJ8_newLength_cabcc 4 (some .int), Cond.methodLink RJ8 194 Lib.Math.max.name, Cond.constant RJ8 200 (2147483639), Cond.methodLink RJ8 201 yJ8_hugeLength_7cf53, Cond.static yJ8_hugeLength_7cf53, Cond.code yJ8_hugeLength_7cf53 cJ8_hugeLength_7cf53 3 (some .int), Cond.methodLink RJx4a65c 66 yJ7_copyOf_1904c, Cond.static yJ7_copyOf_1904c]
def wsJx4a65c_grow_d5877_r2 : List Cond := [Cond.initialized RJ7, Cond.code yJ7_copyOf_1904c cJ7_copyOf_1904c 2 (some (.array (.object "java/lang/Object"))), Cond.methodLink RJ7 86 ⟨"java/lang/Object", "getClass", "()Ljava/lang/Class;"⟩, Cond.selects "[Ljava/lang/Object;" ⟨"java/lang/Object", "getClass", "()Ljava/lang/Class;"⟩ ⟨"java/lang/Object", "getClass", "()Ljava/lang/Class;"⟩, Cond.instanceMethod ⟨"java/lang/Object", "getClass", "()Ljava/lang/Class;"⟩, Cond.native ⟨"java/lang/Object", "getClass", "()Ljava/lang/Class;"⟩, Cond.methodLink RJ7 300 yJ7_copyOf_6403c, Cond.static yJ7_copyOf_6403c, Cond.code yJ7_copyOf_6403c cJ7_copyOf_6403c 4 (some (.array (.object "java/lang/Object"))), Cond.classLink RJ7 110 "[Ljava/lang/Object;", Cond.classLink RJ7 2 "java/lang/Object", Cond.methodLink RJ7 304 Lib.Math.min.name, Cond.static Lib.Math.min.name, Cond.code Lib.Math.min.name Lib.Math.min.code 2 (some .int), Cond.methodLink RJ7 150 arraycopyName, Cond.native arraycopyName, Cond.static arraycopyName, Cond.initialized "java/lang/System"]
def wsJx4a65c_grow_d5877 : List Cond := .code yJx4a65c_grow_d5877 cJx4a65c_grow_d5877 1 (some (.array (.object "java/lang/Object"))) :: ((wsJx4a65c_grow_d5877_r1 ++ wsJx4a65c_grow_d5877_r2) ++ wsJx4a65c0)
def wsJx4a65c_add_72be8_r1 : List Cond := [Cond.fieldLink RJx4a65c 48 "java/util/ArrayList" "size" "I", Cond.methodLink RJx4a65c 129 yJx4a65c_grow_d5877, Cond.instanceMethod yJx4a65c_grow_d5877, Cond.selects RJx4a65c yJx4a65c_grow_d5877 yJx4a65c_grow_d5877, Cond.initialized RJx4a65c, Cond.code yJx4a65c_grow_d5877 cJx4a65c_grow_d5877 1 (some (.array (.object "java/lang/Object"))), Cond.methodLink RJx4a65c 69 yJx4a65c_grow_92f84, Cond.instanceMethod yJx4a65c_grow_92f84, Cond.selects RJx4a65c yJx4a65c_grow_92f84 yJx4a65c_grow_92f84, Cond.code yJx4a65c_grow_92f84 cJx4a65c_grow_92f84 4 (some (.array (.object "java/lang/Object"))), Cond.fieldLink RJx4a65c 9 "java/util/ArrayList" "elementData" "[Ljava/lang/Object;", Cond.fieldLink RJx4a65c 39 "java/util/ArrayList" "DEFAULTCAPACITY_EMPTY_ELEMENTDATA" "[Ljava/lang/Object;", Cond.methodLink RJx4a65c 79 Lib.Math.max.name, Cond.static Lib.Math.max.name, Cond.initialized "java/lang/Math", Cond.code Lib.Math.max.name Lib.Math.max.code 2 (some .int), Cond.classLink RJx4a65c 7 "java/lang/Object", Cond.methodLink RJx4a65c 73 yJ8_newLength_cabcc, Cond.static yJ8_newLength_cabcc, Cond.initialized RJ8, Cond.code yJ8_newLength_cabcc cJ8_newLength_cabcc 4 (some .int), Cond.methodLink RJ8 194 Lib.Math.max.name, Cond.constant RJ8 200 (2147483639), Cond.methodLink RJ8 201 yJ8_hugeLength_7cf53]
def wsJx4a65c_add_72be8_r2 : List Cond := [Cond.static yJ8_hugeLength_7cf53, Cond.code yJ8_hugeLength_7cf53 cJ8_hugeLength_7cf53 3 (some .int), Cond.methodLink RJx4a65c 66 yJ7_copyOf_1904c, Cond.static yJ7_copyOf_1904c, Cond.initialized RJ7, Cond.code yJ7_copyOf_1904c cJ7_copyOf_1904c 2 (some (.array (.object "java/lang/Object"))), Cond.methodLink RJ7 86 ⟨"java/lang/Object", "getClass", "()Ljava/lang/Class;"⟩, Cond.selects "[Ljava/lang/Object;" ⟨"java/lang/Object", "getClass", "()Ljava/lang/Class;"⟩ ⟨"java/lang/Object", "getClass", "()Ljava/lang/Class;"⟩, Cond.instanceMethod ⟨"java/lang/Object", "getClass", "()Ljava/lang/Class;"⟩, Cond.native ⟨"java/lang/Object", "getClass", "()Ljava/lang/Class;"⟩, Cond.methodLink RJ7 300 yJ7_copyOf_6403c, Cond.static yJ7_copyOf_6403c, Cond.code yJ7_copyOf_6403c cJ7_copyOf_6403c 4 (some (.array (.object "java/lang/Object"))), Cond.classLink RJ7 110 "[Ljava/lang/Object;", Cond.classLink RJ7 2 "java/lang/Object", Cond.methodLink RJ7 304 Lib.Math.min.name, Cond.static Lib.Math.min.name, Cond.code Lib.Math.min.name Lib.Math.min.code 2 (some .int), Cond.methodLink RJ7 150 arraycopyName, Cond.native arraycopyName, Cond.static arraycopyName, Cond.initialized "java/lang/System"]
def wsJx4a65c_add_72be8 : List Cond := .code yJx4a65c_add_72be8 cJx4a65c_add_72be8 4 none :: ((wsJx4a65c_add_72be8_r1 ++ wsJx4a65c_add_72be8_r2) ++ wsJx4a65c0)
def wsJx4a65c_add_9ea2d_r1 : List Cond := [Cond.fieldLink RJx4a65c 63 "java/util/ArrayList" "modCount" "I", Cond.sameField "java/util/ArrayList" "java/util/AbstractList" "modCount" "I", Cond.fieldLink RJx4a65c 9 "java/util/ArrayList" "elementData" "[Ljava/lang/Object;", Cond.fieldLink RJx4a65c 48 "java/util/ArrayList" "size" "I", Cond.methodLink RJx4a65c 131 yJx4a65c_add_72be8, Cond.instanceMethod yJx4a65c_add_72be8, Cond.selects RJx4a65c yJx4a65c_add_72be8 yJx4a65c_add_72be8, Cond.initialized RJx4a65c, Cond.code yJx4a65c_add_72be8 cJx4a65c_add_72be8 4 none, Cond.methodLink RJx4a65c 129 yJx4a65c_grow_d5877, Cond.instanceMethod yJx4a65c_grow_d5877, Cond.selects RJx4a65c yJx4a65c_grow_d5877 yJx4a65c_grow_d5877, Cond.code yJx4a65c_grow_d5877 cJx4a65c_grow_d5877 1 (some (.array (.object "java/lang/Object"))), Cond.methodLink RJx4a65c 69 yJx4a65c_grow_92f84, Cond.instanceMethod yJx4a65c_grow_92f84, Cond.selects RJx4a65c yJx4a65c_grow_92f84 yJx4a65c_grow_92f84, Cond.code yJx4a65c_grow_92f84 cJx4a65c_grow_92f84 4 (some (.array (.object "java/lang/Object"))), Cond.fieldLink RJx4a65c 39 "java/util/ArrayList" "DEFAULTCAPACITY_EMPTY_ELEMENTDATA" "[Ljava/lang/Object;", Cond.methodLink RJx4a65c 79 Lib.Math.max.name, Cond.static Lib.Math.max.name, Cond.initialized "java/lang/Math", Cond.code Lib.Math.max.name Lib.Math.max.code 2 (some .int), Cond.classLink RJx4a65c 7 "java/lang/Object", Cond.methodLink RJx4a65c 73 yJ8_newLength_cabcc]
def wsJx4a65c_add_9ea2d_r2 : List Cond := [Cond.static yJ8_newLength_cabcc, Cond.initialized RJ8, Cond.code yJ8_newLength_cabcc cJ8_newLength_cabcc 4 (some .int), Cond.methodLink RJ8 194 Lib.Math.max.name, Cond.constant RJ8 200 (2147483639), Cond.methodLink RJ8 201 yJ8_hugeLength_7cf53, Cond.static yJ8_hugeLength_7cf53, Cond.code yJ8_hugeLength_7cf53 cJ8_hugeLength_7cf53 3 (some .int), Cond.methodLink RJx4a65c 66 yJ7_copyOf_1904c, Cond.static yJ7_copyOf_1904c, Cond.initialized RJ7, Cond.code yJ7_copyOf_1904c cJ7_copyOf_1904c 2 (some (.array (.object "java/lang/Object"))), Cond.methodLink RJ7 86 ⟨"java/lang/Object", "getClass", "()Ljava/lang/Class;"⟩, Cond.selects "[Ljava/lang/Object;" ⟨"java/lang/Object", "getClass", "()Ljava/lang/Class;"⟩ ⟨"java/lang/Object", "getClass", "()Ljava/lang/Class;"⟩, Cond.instanceMethod ⟨"java/lang/Object", "getClass", "()Ljava/lang/Class;"⟩, Cond.native ⟨"java/lang/Object", "getClass", "()Ljava/lang/Class;"⟩, Cond.methodLink RJ7 300 yJ7_copyOf_6403c, Cond.static yJ7_copyOf_6403c, Cond.code yJ7_copyOf_6403c cJ7_copyOf_6403c 4 (some (.array (.object "java/lang/Object"))), Cond.classLink RJ7 110 "[Ljava/lang/Object;", Cond.classLink RJ7 2 "java/lang/Object", Cond.methodLink RJ7 304 Lib.Math.min.name, Cond.static Lib.Math.min.name, Cond.code Lib.Math.min.name Lib.Math.min.code 2 (some .int)]
def wsJx4a65c_add_9ea2d_r3 : List Cond := [Cond.methodLink RJ7 150 arraycopyName, Cond.native arraycopyName, Cond.static arraycopyName, Cond.initialized "java/lang/System"]
def wsJx4a65c_add_9ea2d : List Cond := .code yJx4a65c_add_9ea2d cJx4a65c_add_9ea2d 2 (some .boolean) :: ((wsJx4a65c_add_9ea2d_r1 ++ (wsJx4a65c_add_9ea2d_r2 ++ wsJx4a65c_add_9ea2d_r3)) ++ wsJx4a65c0)
def wsX0_append_r1 : List Cond := [Cond.fieldLink RX0 12 "SyscallFilter$Filter" "rules" "Ljava/util/ArrayList;", Cond.methodLink RX0 25 yJx4a65c_add_9ea2d, Cond.instanceMethod yJx4a65c_add_9ea2d, Cond.selects RJx4a65c yJx4a65c_add_9ea2d yJx4a65c_add_9ea2d, Cond.initialized RJx4a65c, Cond.code yJx4a65c_add_9ea2d cJx4a65c_add_9ea2d 2 (some .boolean), Cond.fieldLink RJx4a65c 63 "java/util/ArrayList" "modCount" "I", Cond.sameField "java/util/ArrayList" "java/util/AbstractList" "modCount" "I", Cond.fieldLink RJx4a65c 9 "java/util/ArrayList" "elementData" "[Ljava/lang/Object;", Cond.fieldLink RJx4a65c 48 "java/util/ArrayList" "size" "I", Cond.methodLink RJx4a65c 131 yJx4a65c_add_72be8, Cond.instanceMethod yJx4a65c_add_72be8, Cond.selects RJx4a65c yJx4a65c_add_72be8 yJx4a65c_add_72be8, Cond.code yJx4a65c_add_72be8 cJx4a65c_add_72be8 4 none, Cond.methodLink RJx4a65c 129 yJx4a65c_grow_d5877, Cond.instanceMethod yJx4a65c_grow_d5877, Cond.selects RJx4a65c yJx4a65c_grow_d5877 yJx4a65c_grow_d5877, Cond.code yJx4a65c_grow_d5877 cJx4a65c_grow_d5877 1 (some (.array (.object "java/lang/Object"))), Cond.methodLink RJx4a65c 69 yJx4a65c_grow_92f84, Cond.instanceMethod yJx4a65c_grow_92f84, Cond.selects RJx4a65c yJx4a65c_grow_92f84 yJx4a65c_grow_92f84, Cond.code yJx4a65c_grow_92f84 cJx4a65c_grow_92f84 4 (some (.array (.object "java/lang/Object"))), Cond.fieldLink RJx4a65c 39 "java/util/ArrayList" "DEFAULTCAPACITY_EMPTY_ELEMENTDATA" "[Ljava/lang/Object;", Cond.methodLink RJx4a65c 79 Lib.Math.max.name]
def wsX0_append_r2 : List Cond := [Cond.static Lib.Math.max.name, Cond.initialized "java/lang/Math", Cond.code Lib.Math.max.name Lib.Math.max.code 2 (some .int), Cond.classLink RJx4a65c 7 "java/lang/Object", Cond.methodLink RJx4a65c 73 yJ8_newLength_cabcc, Cond.static yJ8_newLength_cabcc, Cond.initialized RJ8, Cond.code yJ8_newLength_cabcc cJ8_newLength_cabcc 4 (some .int), Cond.methodLink RJ8 194 Lib.Math.max.name, Cond.constant RJ8 200 (2147483639), Cond.methodLink RJ8 201 yJ8_hugeLength_7cf53, Cond.static yJ8_hugeLength_7cf53, Cond.code yJ8_hugeLength_7cf53 cJ8_hugeLength_7cf53 3 (some .int), Cond.methodLink RJx4a65c 66 yJ7_copyOf_1904c, Cond.static yJ7_copyOf_1904c, Cond.initialized RJ7, Cond.code yJ7_copyOf_1904c cJ7_copyOf_1904c 2 (some (.array (.object "java/lang/Object"))), Cond.methodLink RJ7 86 ⟨"java/lang/Object", "getClass", "()Ljava/lang/Class;"⟩, Cond.selects "[Ljava/lang/Object;" ⟨"java/lang/Object", "getClass", "()Ljava/lang/Class;"⟩ ⟨"java/lang/Object", "getClass", "()Ljava/lang/Class;"⟩, Cond.instanceMethod ⟨"java/lang/Object", "getClass", "()Ljava/lang/Class;"⟩, Cond.native ⟨"java/lang/Object", "getClass", "()Ljava/lang/Class;"⟩, Cond.methodLink RJ7 300 yJ7_copyOf_6403c, Cond.static yJ7_copyOf_6403c, Cond.code yJ7_copyOf_6403c cJ7_copyOf_6403c 4 (some (.array (.object "java/lang/Object")))]
def wsX0_append_r3 : List Cond := [Cond.classLink RJ7 110 "[Ljava/lang/Object;", Cond.classLink RJ7 2 "java/lang/Object", Cond.methodLink RJ7 304 Lib.Math.min.name, Cond.static Lib.Math.min.name, Cond.code Lib.Math.min.name Lib.Math.min.code 2 (some .int), Cond.methodLink RJ7 150 arraycopyName, Cond.native arraycopyName, Cond.static arraycopyName, Cond.initialized "java/lang/System", Cond.methodLink RX0 21 yJx4a65c_size_8abf5, Cond.instanceMethod yJx4a65c_size_8abf5, Cond.selects RJx4a65c yJx4a65c_size_8abf5 yJx4a65c_size_8abf5, Cond.code yJx4a65c_size_8abf5 cJx4a65c_size_8abf5 1 (some .int)]
def wsX0_append : List Cond := .code yX0_append cX0_append 2 (some .int) :: ((wsX0_append_r1 ++ (wsX0_append_r2 ++ wsX0_append_r3)) ++ wsX00 ++ wsJx4a65c0)
def wsJ3_checkIndex_8e157 : List Cond := .code yJ3_checkIndex_8e157 cJ3_checkIndex_8e157 3 (some .int) :: ([])
def wsJ15_checkIndex_7cf53 : List Cond := .code yJ15_checkIndex_7cf53 cJ15_checkIndex_7cf53 2 (some .int) :: ([.methodLink RJ15 105 yJ3_checkIndex_8e157, .static yJ3_checkIndex_8e157, .initialized RJ3, .code yJ3_checkIndex_8e157 cJ3_checkIndex_8e157 3 (some .int)])
def wsJx4a65c_fastRemove_b59b0 : List Cond := .code yJx4a65c_fastRemove_b59b0 cJx4a65c_fastRemove_b59b0 4 none :: ([.fieldLink RJx4a65c 63 "java/util/ArrayList" "modCount" "I", .sameField "java/util/ArrayList" "java/util/AbstractList" "modCount" "I", .fieldLink RJx4a65c 48 "java/util/ArrayList" "size" "I", .methodLink RJx4a65c 112 arraycopyName, .native arraycopyName, .static arraycopyName, .initialized "java/lang/System"] ++ wsJx4a65c0)
def wsJx4a65c_remove_915e3 : List Cond := .code yJx4a65c_remove_915e3 cJx4a65c_remove_915e3 4 (some (.object "java/lang/Object")) :: ([.fieldLink RJx4a65c 48 "java/util/ArrayList" "size" "I", .fieldLink RJx4a65c 9 "java/util/ArrayList" "elementData" "[Ljava/lang/Object;", .methodLink RJx4a65c 118 yJ15_checkIndex_7cf53, .static yJ15_checkIndex_7cf53, .initialized RJ15, .code yJ15_checkIndex_7cf53 cJ15_checkIndex_7cf53 2 (some .int), .methodLink RJ15 105 yJ3_checkIndex_8e157, .static yJ3_checkIndex_8e157, .initialized RJ3, .code yJ3_checkIndex_8e157 cJ3_checkIndex_8e157 3 (some .int), .methodLink RJx4a65c 144 yJx4a65c_fastRemove_b59b0, .instanceMethod yJx4a65c_fastRemove_b59b0, .selects RJx4a65c yJx4a65c_fastRemove_b59b0 yJx4a65c_fastRemove_b59b0, .initialized RJx4a65c, .code yJx4a65c_fastRemove_b59b0 cJx4a65c_fastRemove_b59b0 4 none, .fieldLink RJx4a65c 63 "java/util/ArrayList" "modCount" "I", .sameField "java/util/ArrayList" "java/util/AbstractList" "modCount" "I", .methodLink RJx4a65c 112 arraycopyName, .native arraycopyName, .static arraycopyName, .initialized "java/lang/System"] ++ wsJx4a65c0)
def wsX0_drop_r1 : List Cond := [Cond.fieldLink RX0 12 "SyscallFilter$Filter" "rules" "Ljava/util/ArrayList;", Cond.methodLink RX0 21 yJx4a65c_size_8abf5, Cond.instanceMethod yJx4a65c_size_8abf5, Cond.selects RJx4a65c yJx4a65c_size_8abf5 yJx4a65c_size_8abf5, Cond.initialized RJx4a65c, Cond.code yJx4a65c_size_8abf5 cJx4a65c_size_8abf5 1 (some .int), Cond.fieldLink RJx4a65c 48 "java/util/ArrayList" "size" "I", Cond.methodLink RX0 29 yJx4a65c_remove_915e3, Cond.instanceMethod yJx4a65c_remove_915e3, Cond.selects RJx4a65c yJx4a65c_remove_915e3 yJx4a65c_remove_915e3, Cond.code yJx4a65c_remove_915e3 cJx4a65c_remove_915e3 4 (some (.object "java/lang/Object")), Cond.fieldLink RJx4a65c 9 "java/util/ArrayList" "elementData" "[Ljava/lang/Object;", Cond.methodLink RJx4a65c 118 yJ15_checkIndex_7cf53, Cond.static yJ15_checkIndex_7cf53, Cond.initialized RJ15, Cond.code yJ15_checkIndex_7cf53 cJ15_checkIndex_7cf53 2 (some .int), Cond.methodLink RJ15 105 yJ3_checkIndex_8e157, Cond.static yJ3_checkIndex_8e157, Cond.initialized RJ3, Cond.code yJ3_checkIndex_8e157 cJ3_checkIndex_8e157 3 (some .int), Cond.methodLink RJx4a65c 144 yJx4a65c_fastRemove_b59b0, Cond.instanceMethod yJx4a65c_fastRemove_b59b0, Cond.selects RJx4a65c yJx4a65c_fastRemove_b59b0 yJx4a65c_fastRemove_b59b0, Cond.code yJx4a65c_fastRemove_b59b0 cJx4a65c_fastRemove_b59b0 4 none]
def wsX0_drop_r2 : List Cond := [Cond.fieldLink RJx4a65c 63 "java/util/ArrayList" "modCount" "I", Cond.sameField "java/util/ArrayList" "java/util/AbstractList" "modCount" "I", Cond.methodLink RJx4a65c 112 arraycopyName, Cond.native arraycopyName, Cond.static arraycopyName, Cond.initialized "java/lang/System"]
def wsX0_drop : List Cond := .code yX0_drop cX0_drop 2 (some .int) :: ((wsX0_drop_r1 ++ wsX0_drop_r2) ++ wsX00 ++ wsJx4a65c0)
def wsJx4a65c_elementData_915e3 : List Cond := .code yJx4a65c_elementData_915e3 cJx4a65c_elementData_915e3 2 (some (.object "java/lang/Object")) :: ([.fieldLink RJx4a65c 9 "java/util/ArrayList" "elementData" "[Ljava/lang/Object;"] ++ wsJx4a65c0)
def wsJx4a65c_get_915e3 : List Cond := .code yJx4a65c_get_915e3 cJx4a65c_get_915e3 2 (some (.object "java/lang/Object")) :: ([.fieldLink RJx4a65c 48 "java/util/ArrayList" "size" "I", .methodLink RJx4a65c 118 yJ15_checkIndex_7cf53, .static yJ15_checkIndex_7cf53, .initialized RJ15, .code yJ15_checkIndex_7cf53 cJ15_checkIndex_7cf53 2 (some .int), .methodLink RJ15 105 yJ3_checkIndex_8e157, .static yJ3_checkIndex_8e157, .initialized RJ3, .code yJ3_checkIndex_8e157 cJ3_checkIndex_8e157 3 (some .int), .methodLink RJx4a65c 123 yJx4a65c_elementData_915e3, .instanceMethod yJx4a65c_elementData_915e3, .selects RJx4a65c yJx4a65c_elementData_915e3 yJx4a65c_elementData_915e3, .initialized RJx4a65c, .code yJx4a65c_elementData_915e3 cJx4a65c_elementData_915e3 2 (some (.object "java/lang/Object")), .fieldLink RJx4a65c 9 "java/util/ArrayList" "elementData" "[Ljava/lang/Object;"] ++ wsJx4a65c0)
def wsX3_canNeverMatch : List Cond := .code yX3_canNeverMatch cX3_canNeverMatch 1 (some .boolean) :: ([.fieldLink RX3 22 "SyscallFilter$Rule" "value" "J", .fieldLink RX3 18 "SyscallFilter$Rule" "mask" "J", .constantLong RX3 32 (-1)] ++ wsX30)
def wsX3_covers : List Cond := .code yX3_covers cX3_covers 2 (some .boolean) :: ([.fieldLink RX3 9 "SyscallFilter$Rule" "number" "I", .fieldLink RX3 18 "SyscallFilter$Rule" "mask" "J", .fieldLink RX3 22 "SyscallFilter$Rule" "value" "J", .fieldLink RX3 15 "SyscallFilter$Rule" "argument" "I", .constantLong RX3 32 (-1)] ++ wsX30)
def wsX0_hiderOf_r1 : List Cond := [Cond.fieldLink RX0 12 "SyscallFilter$Filter" "rules" "Ljava/util/ArrayList;", Cond.classLink RX0 36 "SyscallFilter$Rule", Cond.methodLink RX0 21 yJx4a65c_size_8abf5, Cond.instanceMethod yJx4a65c_size_8abf5, Cond.selects RJx4a65c yJx4a65c_size_8abf5 yJx4a65c_size_8abf5, Cond.initialized RJx4a65c, Cond.code yJx4a65c_size_8abf5 cJx4a65c_size_8abf5 1 (some .int), Cond.fieldLink RJx4a65c 48 "java/util/ArrayList" "size" "I", Cond.methodLink RX0 33 yJx4a65c_get_915e3, Cond.instanceMethod yJx4a65c_get_915e3, Cond.selects RJx4a65c yJx4a65c_get_915e3 yJx4a65c_get_915e3, Cond.code yJx4a65c_get_915e3 cJx4a65c_get_915e3 2 (some (.object "java/lang/Object")), Cond.methodLink RJx4a65c 118 yJ15_checkIndex_7cf53, Cond.static yJ15_checkIndex_7cf53, Cond.initialized RJ15, Cond.code yJ15_checkIndex_7cf53 cJ15_checkIndex_7cf53 2 (some .int), Cond.methodLink RJ15 105 yJ3_checkIndex_8e157, Cond.static yJ3_checkIndex_8e157, Cond.initialized RJ3, Cond.code yJ3_checkIndex_8e157 cJ3_checkIndex_8e157 3 (some .int), Cond.methodLink RJx4a65c 123 yJx4a65c_elementData_915e3, Cond.instanceMethod yJx4a65c_elementData_915e3, Cond.selects RJx4a65c yJx4a65c_elementData_915e3 yJx4a65c_elementData_915e3, Cond.code yJx4a65c_elementData_915e3 cJx4a65c_elementData_915e3 2 (some (.object "java/lang/Object"))]
def wsX0_hiderOf_r2 : List Cond := [Cond.fieldLink RJx4a65c 9 "java/util/ArrayList" "elementData" "[Ljava/lang/Object;", Cond.methodLink RX0 38 yX3_canNeverMatch, Cond.instanceMethod yX3_canNeverMatch, Cond.selects RX3 yX3_canNeverMatch yX3_canNeverMatch, Cond.initialized RX3, Cond.code yX3_canNeverMatch cX3_canNeverMatch 1 (some .boolean), Cond.fieldLink RX3 22 "SyscallFilter$Rule" "value" "J", Cond.fieldLink RX3 18 "SyscallFilter$Rule" "mask" "J", Cond.constantLong RX3 32 (-1), Cond.methodLink RX0 42 yX3_covers, Cond.instanceMethod yX3_covers, Cond.selects RX3 yX3_covers yX3_covers, Cond.code yX3_covers cX3_covers 2 (some .boolean), Cond.fieldLink RX3 9 "SyscallFilter$Rule" "number" "I", Cond.fieldLink RX3 15 "SyscallFilter$Rule" "argument" "I"]
def wsX0_hiderOf : List Cond := .code yX0_hiderOf cX0_hiderOf 4 (some .int) :: ((wsX0_hiderOf_r1 ++ wsX0_hiderOf_r2) ++ wsX00 ++ wsJx4a65c0 ++ wsX30)
def wsJx4a65c_clear_da8c8 : List Cond := .code yJx4a65c_clear_da8c8 cJx4a65c_clear_da8c8 4 none :: ([.fieldLink RJx4a65c 63 "java/util/ArrayList" "modCount" "I", .sameField "java/util/ArrayList" "java/util/AbstractList" "modCount" "I", .fieldLink RJx4a65c 9 "java/util/ArrayList" "elementData" "[Ljava/lang/Object;", .fieldLink RJx4a65c 48 "java/util/ArrayList" "size" "I"] ++ wsJx4a65c0)
def wsX0_gatherReached_r1 : List Cond := [Cond.fieldLink RX0 18 "SyscallFilter$Filter" "reached" "Ljava/util/ArrayList;", Cond.fieldLink RX0 12 "SyscallFilter$Filter" "rules" "Ljava/util/ArrayList;", Cond.classLink RX0 36 "SyscallFilter$Rule", Cond.methodLink RX0 80 yJx4a65c_clear_da8c8, Cond.instanceMethod yJx4a65c_clear_da8c8, Cond.selects RJx4a65c yJx4a65c_clear_da8c8 yJx4a65c_clear_da8c8, Cond.initialized RJx4a65c, Cond.code yJx4a65c_clear_da8c8 cJx4a65c_clear_da8c8 4 none, Cond.fieldLink RJx4a65c 63 "java/util/ArrayList" "modCount" "I", Cond.sameField "java/util/ArrayList" "java/util/AbstractList" "modCount" "I", Cond.fieldLink RJx4a65c 9 "java/util/ArrayList" "elementData" "[Ljava/lang/Object;", Cond.fieldLink RJx4a65c 48 "java/util/ArrayList" "size" "I", Cond.methodLink RX0 21 yJx4a65c_size_8abf5, Cond.instanceMethod yJx4a65c_size_8abf5, Cond.selects RJx4a65c yJx4a65c_size_8abf5 yJx4a65c_size_8abf5, Cond.code yJx4a65c_size_8abf5 cJx4a65c_size_8abf5 1 (some .int), Cond.methodLink RX0 83 yX0_hiderOf, Cond.instanceMethod yX0_hiderOf, Cond.selects RX0 yX0_hiderOf yX0_hiderOf, Cond.initialized RX0, Cond.code yX0_hiderOf cX0_hiderOf 4 (some .int), Cond.methodLink RX0 33 yJx4a65c_get_915e3, Cond.instanceMethod yJx4a65c_get_915e3, Cond.selects RJx4a65c yJx4a65c_get_915e3 yJx4a65c_get_915e3]
def wsX0_gatherReached_r2 : List Cond := [Cond.code yJx4a65c_get_915e3 cJx4a65c_get_915e3 2 (some (.object "java/lang/Object")), Cond.methodLink RJx4a65c 118 yJ15_checkIndex_7cf53, Cond.static yJ15_checkIndex_7cf53, Cond.initialized RJ15, Cond.code yJ15_checkIndex_7cf53 cJ15_checkIndex_7cf53 2 (some .int), Cond.methodLink RJ15 105 yJ3_checkIndex_8e157, Cond.static yJ3_checkIndex_8e157, Cond.initialized RJ3, Cond.code yJ3_checkIndex_8e157 cJ3_checkIndex_8e157 3 (some .int), Cond.methodLink RJx4a65c 123 yJx4a65c_elementData_915e3, Cond.instanceMethod yJx4a65c_elementData_915e3, Cond.selects RJx4a65c yJx4a65c_elementData_915e3 yJx4a65c_elementData_915e3, Cond.code yJx4a65c_elementData_915e3 cJx4a65c_elementData_915e3 2 (some (.object "java/lang/Object")), Cond.methodLink RX0 38 yX3_canNeverMatch, Cond.instanceMethod yX3_canNeverMatch, Cond.selects RX3 yX3_canNeverMatch yX3_canNeverMatch, Cond.initialized RX3, Cond.code yX3_canNeverMatch cX3_canNeverMatch 1 (some .boolean), Cond.fieldLink RX3 22 "SyscallFilter$Rule" "value" "J", Cond.fieldLink RX3 18 "SyscallFilter$Rule" "mask" "J", Cond.constantLong RX3 32 (-1), Cond.methodLink RX0 42 yX3_covers, Cond.instanceMethod yX3_covers, Cond.selects RX3 yX3_covers yX3_covers]
def wsX0_gatherReached_r3 : List Cond := [Cond.code yX3_covers cX3_covers 2 (some .boolean), Cond.fieldLink RX3 9 "SyscallFilter$Rule" "number" "I", Cond.fieldLink RX3 15 "SyscallFilter$Rule" "argument" "I", Cond.methodLink RX0 25 yJx4a65c_add_9ea2d, Cond.instanceMethod yJx4a65c_add_9ea2d, Cond.selects RJx4a65c yJx4a65c_add_9ea2d yJx4a65c_add_9ea2d, Cond.code yJx4a65c_add_9ea2d cJx4a65c_add_9ea2d 2 (some .boolean), Cond.methodLink RJx4a65c 131 yJx4a65c_add_72be8, Cond.instanceMethod yJx4a65c_add_72be8, Cond.selects RJx4a65c yJx4a65c_add_72be8 yJx4a65c_add_72be8, Cond.code yJx4a65c_add_72be8 cJx4a65c_add_72be8 4 none, Cond.methodLink RJx4a65c 129 yJx4a65c_grow_d5877, Cond.instanceMethod yJx4a65c_grow_d5877, Cond.selects RJx4a65c yJx4a65c_grow_d5877 yJx4a65c_grow_d5877, Cond.code yJx4a65c_grow_d5877 cJx4a65c_grow_d5877 1 (some (.array (.object "java/lang/Object"))), Cond.methodLink RJx4a65c 69 yJx4a65c_grow_92f84, Cond.instanceMethod yJx4a65c_grow_92f84, Cond.selects RJx4a65c yJx4a65c_grow_92f84 yJx4a65c_grow_92f84, Cond.code yJx4a65c_grow_92f84 cJx4a65c_grow_92f84 4 (some (.array (.object "java/lang/Object"))), Cond.fieldLink RJx4a65c 39 "java/util/ArrayList" "DEFAULTCAPACITY_EMPTY_ELEMENTDATA" "[Ljava/lang/Object;", Cond.methodLink RJx4a65c 79 Lib.Math.max.name, Cond.static Lib.Math.max.name, Cond.initialized "java/lang/Math", Cond.code Lib.Math.max.name Lib.Math.max.code 2 (some .int)]
def wsX0_gatherReached_r4 : List Cond := [Cond.classLink RJx4a65c 7 "java/lang/Object", Cond.methodLink RJx4a65c 73 yJ8_newLength_cabcc, Cond.static yJ8_newLength_cabcc, Cond.initialized RJ8, Cond.code yJ8_newLength_cabcc cJ8_newLength_cabcc 4 (some .int), Cond.methodLink RJ8 194 Lib.Math.max.name, Cond.constant RJ8 200 (2147483639), Cond.methodLink RJ8 201 yJ8_hugeLength_7cf53, Cond.static yJ8_hugeLength_7cf53, Cond.code yJ8_hugeLength_7cf53 cJ8_hugeLength_7cf53 3 (some .int), Cond.methodLink RJx4a65c 66 yJ7_copyOf_1904c, Cond.static yJ7_copyOf_1904c, Cond.initialized RJ7, Cond.code yJ7_copyOf_1904c cJ7_copyOf_1904c 2 (some (.array (.object "java/lang/Object"))), Cond.methodLink RJ7 86 ⟨"java/lang/Object", "getClass", "()Ljava/lang/Class;"⟩, Cond.selects "[Ljava/lang/Object;" ⟨"java/lang/Object", "getClass", "()Ljava/lang/Class;"⟩ ⟨"java/lang/Object", "getClass", "()Ljava/lang/Class;"⟩, Cond.instanceMethod ⟨"java/lang/Object", "getClass", "()Ljava/lang/Class;"⟩, Cond.native ⟨"java/lang/Object", "getClass", "()Ljava/lang/Class;"⟩, Cond.methodLink RJ7 300 yJ7_copyOf_6403c, Cond.static yJ7_copyOf_6403c, Cond.code yJ7_copyOf_6403c cJ7_copyOf_6403c 4 (some (.array (.object "java/lang/Object"))), Cond.classLink RJ7 110 "[Ljava/lang/Object;", Cond.classLink RJ7 2 "java/lang/Object", Cond.methodLink RJ7 304 Lib.Math.min.name]
def wsX0_gatherReached_r5 : List Cond := [Cond.static Lib.Math.min.name, Cond.code Lib.Math.min.name Lib.Math.min.code 2 (some .int), Cond.methodLink RJ7 150 arraycopyName, Cond.native arraycopyName, Cond.static arraycopyName, Cond.initialized "java/lang/System"]
def wsX0_gatherReached : List Cond := .code yX0_gatherReached cX0_gatherReached 2 none :: ((wsX0_gatherReached_r1 ++ (wsX0_gatherReached_r2 ++ (wsX0_gatherReached_r3 ++ (wsX0_gatherReached_r4 ++ wsX0_gatherReached_r5)))) ++ wsX00 ++ wsJx4a65c0 ++ wsX30)
def wsX2_startAnew : List Cond := .code yX2_startAnew cX2_startAnew 1 none :: ([.fieldLink RX2 26 "SyscallFilter$Planner" "size" "I"] ++ wsX20)
def wsX0_isReached_r1 : List Cond := [Cond.fieldLink RX0 18 "SyscallFilter$Filter" "reached" "Ljava/util/ArrayList;", Cond.classLink RX0 36 "SyscallFilter$Rule", Cond.methodLink RX0 21 yJx4a65c_size_8abf5, Cond.instanceMethod yJx4a65c_size_8abf5, Cond.selects RJx4a65c yJx4a65c_size_8abf5 yJx4a65c_size_8abf5, Cond.initialized RJx4a65c, Cond.code yJx4a65c_size_8abf5 cJx4a65c_size_8abf5 1 (some .int), Cond.fieldLink RJx4a65c 48 "java/util/ArrayList" "size" "I", Cond.methodLink RX0 33 yJx4a65c_get_915e3, Cond.instanceMethod yJx4a65c_get_915e3, Cond.selects RJx4a65c yJx4a65c_get_915e3 yJx4a65c_get_915e3, Cond.code yJx4a65c_get_915e3 cJx4a65c_get_915e3 2 (some (.object "java/lang/Object")), Cond.methodLink RJx4a65c 118 yJ15_checkIndex_7cf53, Cond.static yJ15_checkIndex_7cf53, Cond.initialized RJ15, Cond.code yJ15_checkIndex_7cf53 cJ15_checkIndex_7cf53 2 (some .int), Cond.methodLink RJ15 105 yJ3_checkIndex_8e157, Cond.static yJ3_checkIndex_8e157, Cond.initialized RJ3, Cond.code yJ3_checkIndex_8e157 cJ3_checkIndex_8e157 3 (some .int), Cond.methodLink RJx4a65c 123 yJx4a65c_elementData_915e3, Cond.instanceMethod yJx4a65c_elementData_915e3, Cond.selects RJx4a65c yJx4a65c_elementData_915e3 yJx4a65c_elementData_915e3, Cond.code yJx4a65c_elementData_915e3 cJx4a65c_elementData_915e3 2 (some (.object "java/lang/Object"))]
def wsX0_isReached_r2 : List Cond := [Cond.fieldLink RJx4a65c 9 "java/util/ArrayList" "elementData" "[Ljava/lang/Object;"]
def wsX0_isReached : List Cond := .code yX0_isReached cX0_isReached 3 (some .boolean) :: ((wsX0_isReached_r1 ++ wsX0_isReached_r2) ++ wsX00 ++ wsX30 ++ wsJx4a65c0)
def wsX2_take : List Cond := .code yX2_take cX2_take 3 none :: ([.fieldLink RX2 26 "SyscallFilter$Planner" "size" "I", .fieldLink RX2 9 "SyscallFilter$Planner" "numbers" "[I", .fieldLink RX2 15 "SyscallFilter$Planner" "weights" "[I"] ++ wsX20)
def wsX2_costBelow : List Cond := .code yX2_costBelow cX2_costBelow 4 (some .int) :: ([.fieldLink RX2 20 "SyscallFilter$Planner" "costs" "[[I"] ++ wsX20)
def wsX2_weightOf : List Cond := .code yX2_weightOf cX2_weightOf 5 (some .int) :: ([.fieldLink RX2 15 "SyscallFilter$Planner" "weights" "[I"] ++ wsX20)
def wsX2_weighTrees : List Cond := .code yX2_weighTrees cX2_weighTrees 5 none :: ([.fieldLink RX2 23 "SyscallFilter$Planner" "firstPlaces" "[[I", .fieldLink RX2 20 "SyscallFilter$Planner" "costs" "[[I", .methodLink RX2 34 yX2_costBelow, .instanceMethod yX2_costBelow, .selects RX2 yX2_costBelow yX2_costBelow, .initialized RX2, .code yX2_costBelow cX2_costBelow 4 (some .int), .methodLink RX2 38 yX2_weightOf, .instanceMethod yX2_weightOf, .selects RX2 yX2_weightOf yX2_weightOf, .code yX2_weightOf cX2_weightOf 5 (some .int), .fieldLink RX2 15 "SyscallFilter$Planner" "weights" "[I"] ++ wsX20)
def wsX2_weighAllTrees : List Cond := .code yX2_weighAllTrees cX2_weighAllTrees 3 none :: ([.fieldLink RX2 26 "SyscallFilter$Planner" "size" "I", .methodLink RX2 30 yX2_weighTrees, .instanceMethod yX2_weighTrees, .selects RX2 yX2_weighTrees yX2_weighTrees, .initialized RX2, .code yX2_weighTrees cX2_weighTrees 5 none, .fieldLink RX2 23 "SyscallFilter$Planner" "firstPlaces" "[[I", .fieldLink RX2 20 "SyscallFilter$Planner" "costs" "[[I", .methodLink RX2 34 yX2_costBelow, .instanceMethod yX2_costBelow, .selects RX2 yX2_costBelow yX2_costBelow, .code yX2_costBelow cX2_costBelow 4 (some .int), .methodLink RX2 38 yX2_weightOf, .instanceMethod yX2_weightOf, .selects RX2 yX2_weightOf yX2_weightOf, .code yX2_weightOf cX2_weightOf 5 (some .int), .fieldLink RX2 15 "SyscallFilter$Planner" "weights" "[I"] ++ wsX20)
def wsX1_init : List Cond := .code yX1_init cX1_init 5 none :: ([.methodLink RX1 1 objectInit, .instanceMethod objectInit, .code objectInit ⟨#[0xb1]⟩ 1 none, .fieldLink RX1 7 "SyscallFilter$Node" "number" "I", .fieldLink RX1 13 "SyscallFilter$Node" "tests" "I", .fieldLink RX1 16 "SyscallFilter$Node" "lesser" "LSyscallFilter$Node;", .fieldLink RX1 20 "SyscallFilter$Node" "greater" "LSyscallFilter$Node;"] ++ wsX10)
def wsX2_grow : List Cond := .code yX2_grow cX2_grow 5 (some (.object "SyscallFilter$Node")) :: ([.fieldLink RX2 23 "SyscallFilter$Planner" "firstPlaces" "[[I", .classLink RX2 46 RX1, .instantiable RX1 4, .initialized RX1, .fieldLink RX2 9 "SyscallFilter$Planner" "numbers" "[I", .methodLink RX2 42 yX2_grow, .static yX2_grow, .initialized RX2, .methodLink RX2 48 yX1_init, .instanceMethod yX1_init, .code yX1_init cX1_init 5 none, .methodLink RX1 1 objectInit, .instanceMethod objectInit, .code objectInit ⟨#[0xb1]⟩ 1 none, .fieldLink RX1 7 "SyscallFilter$Node" "number" "I", .fieldLink RX1 13 "SyscallFilter$Node" "tests" "I", .fieldLink RX1 16 "SyscallFilter$Node" "lesser" "LSyscallFilter$Node;", .fieldLink RX1 20 "SyscallFilter$Node" "greater" "LSyscallFilter$Node;"] ++ wsX20 ++ wsX10)
def wsX2_bestTree : List Cond := .code yX2_bestTree cX2_bestTree 1 (some (.object "SyscallFilter$Node")) :: ([.fieldLink RX2 26 "SyscallFilter$Planner" "size" "I", .methodLink RX2 42 yX2_grow, .static yX2_grow, .initialized RX2, .code yX2_grow cX2_grow 5 (some (.object "SyscallFilter$Node")), .fieldLink RX2 23 "SyscallFilter$Planner" "firstPlaces" "[[I", .classLink RX2 46 RX1, .instantiable RX1 4, .initialized RX1, .fieldLink RX2 9 "SyscallFilter$Planner" "numbers" "[I", .methodLink RX2 48 yX1_init, .instanceMethod yX1_init, .code yX1_init cX1_init 5 none, .methodLink RX1 1 objectInit, .instanceMethod objectInit, .code objectInit ⟨#[0xb1]⟩ 1 none, .fieldLink RX1 7 "SyscallFilter$Node" "number" "I", .fieldLink RX1 13 "SyscallFilter$Node" "tests" "I", .fieldLink RX1 16 "SyscallFilter$Node" "lesser" "LSyscallFilter$Node;", .fieldLink RX1 20 "SyscallFilter$Node" "greater" "LSyscallFilter$Node;"] ++ wsX20 ++ wsX10)
def wsX2_leastCost : List Cond := .code yX2_leastCost cX2_leastCost 1 (some .int) :: ([.fieldLink RX2 20 "SyscallFilter$Planner" "costs" "[[I", .fieldLink RX2 26 "SyscallFilter$Planner" "size" "I"] ++ wsX20)
def wsX0_planTree_r1 : List Cond := [Cond.fieldLink RX0 69 "SyscallFilter$Filter" "firstTest" "LSyscallFilter$Node;", Cond.fieldLink RX0 76 "SyscallFilter$Filter" "treeCost" "I", Cond.methodLink RX0 46 yX0_gatherReached, Cond.instanceMethod yX0_gatherReached, Cond.selects RX0 yX0_gatherReached yX0_gatherReached, Cond.initialized RX0, Cond.code yX0_gatherReached cX0_gatherReached 2 none, Cond.fieldLink RX0 18 "SyscallFilter$Filter" "reached" "Ljava/util/ArrayList;", Cond.fieldLink RX0 12 "SyscallFilter$Filter" "rules" "Ljava/util/ArrayList;", Cond.classLink RX0 36 "SyscallFilter$Rule", Cond.methodLink RX0 80 yJx4a65c_clear_da8c8, Cond.instanceMethod yJx4a65c_clear_da8c8, Cond.selects RJx4a65c yJx4a65c_clear_da8c8 yJx4a65c_clear_da8c8, Cond.initialized RJx4a65c, Cond.code yJx4a65c_clear_da8c8 cJx4a65c_clear_da8c8 4 none, Cond.fieldLink RJx4a65c 63 "java/util/ArrayList" "modCount" "I", Cond.sameField "java/util/ArrayList" "java/util/AbstractList" "modCount" "I", Cond.fieldLink RJx4a65c 9 "java/util/ArrayList" "elementData" "[Ljava/lang/Object;", Cond.fieldLink RJx4a65c 48 "java/util/ArrayList" "size" "I", Cond.methodLink RX0 21 yJx4a65c_size_8abf5, Cond.instanceMethod yJx4a65c_size_8abf5, Cond.selects RJx4a65c yJx4a65c_size_8abf5 yJx4a65c_size_8abf5, Cond.code yJx4a65c_size_8abf5 cJx4a65c_size_8abf5 1 (some .int), Cond.methodLink RX0 83 yX0_hiderOf]
def wsX0_planTree_r2 : List Cond := [Cond.instanceMethod yX0_hiderOf, Cond.selects RX0 yX0_hiderOf yX0_hiderOf, Cond.code yX0_hiderOf cX0_hiderOf 4 (some .int), Cond.methodLink RX0 33 yJx4a65c_get_915e3, Cond.instanceMethod yJx4a65c_get_915e3, Cond.selects RJx4a65c yJx4a65c_get_915e3 yJx4a65c_get_915e3, Cond.code yJx4a65c_get_915e3 cJx4a65c_get_915e3 2 (some (.object "java/lang/Object")), Cond.methodLink RJx4a65c 118 yJ15_checkIndex_7cf53, Cond.static yJ15_checkIndex_7cf53, Cond.initialized RJ15, Cond.code yJ15_checkIndex_7cf53 cJ15_checkIndex_7cf53 2 (some .int), Cond.methodLink RJ15 105 yJ3_checkIndex_8e157, Cond.static yJ3_checkIndex_8e157, Cond.initialized RJ3, Cond.code yJ3_checkIndex_8e157 cJ3_checkIndex_8e157 3 (some .int), Cond.methodLink RJx4a65c 123 yJx4a65c_elementData_915e3, Cond.instanceMethod yJx4a65c_elementData_915e3, Cond.selects RJx4a65c yJx4a65c_elementData_915e3 yJx4a65c_elementData_915e3, Cond.code yJx4a65c_elementData_915e3 cJx4a65c_elementData_915e3 2 (some (.object "java/lang/Object")), Cond.methodLink RX0 38 yX3_canNeverMatch, Cond.instanceMethod yX3_canNeverMatch, Cond.selects RX3 yX3_canNeverMatch yX3_canNeverMatch, Cond.initialized RX3, Cond.code yX3_canNeverMatch cX3_canNeverMatch 1 (some .boolean)]
def wsX0_planTree_r3 : List Cond := [Cond.fieldLink RX3 22 "SyscallFilter$Rule" "value" "J", Cond.fieldLink RX3 18 "SyscallFilter$Rule" "mask" "J", Cond.constantLong RX3 32 (-1), Cond.methodLink RX0 42 yX3_covers, Cond.instanceMethod yX3_covers, Cond.selects RX3 yX3_covers yX3_covers, Cond.code yX3_covers cX3_covers 2 (some .boolean), Cond.fieldLink RX3 9 "SyscallFilter$Rule" "number" "I", Cond.fieldLink RX3 15 "SyscallFilter$Rule" "argument" "I", Cond.methodLink RX0 25 yJx4a65c_add_9ea2d, Cond.instanceMethod yJx4a65c_add_9ea2d, Cond.selects RJx4a65c yJx4a65c_add_9ea2d yJx4a65c_add_9ea2d, Cond.code yJx4a65c_add_9ea2d cJx4a65c_add_9ea2d 2 (some .boolean), Cond.methodLink RJx4a65c 131 yJx4a65c_add_72be8, Cond.instanceMethod yJx4a65c_add_72be8, Cond.selects RJx4a65c yJx4a65c_add_72be8 yJx4a65c_add_72be8, Cond.code yJx4a65c_add_72be8 cJx4a65c_add_72be8 4 none, Cond.methodLink RJx4a65c 129 yJx4a65c_grow_d5877, Cond.instanceMethod yJx4a65c_grow_d5877, Cond.selects RJx4a65c yJx4a65c_grow_d5877 yJx4a65c_grow_d5877, Cond.code yJx4a65c_grow_d5877 cJx4a65c_grow_d5877 1 (some (.array (.object "java/lang/Object"))), Cond.methodLink RJx4a65c 69 yJx4a65c_grow_92f84, Cond.instanceMethod yJx4a65c_grow_92f84, Cond.selects RJx4a65c yJx4a65c_grow_92f84 yJx4a65c_grow_92f84]
def wsX0_planTree_r4 : List Cond := [Cond.code yJx4a65c_grow_92f84 cJx4a65c_grow_92f84 4 (some (.array (.object "java/lang/Object"))), Cond.fieldLink RJx4a65c 39 "java/util/ArrayList" "DEFAULTCAPACITY_EMPTY_ELEMENTDATA" "[Ljava/lang/Object;", Cond.methodLink RJx4a65c 79 Lib.Math.max.name, Cond.static Lib.Math.max.name, Cond.initialized "java/lang/Math", Cond.code Lib.Math.max.name Lib.Math.max.code 2 (some .int), Cond.classLink RJx4a65c 7 "java/lang/Object", Cond.methodLink RJx4a65c 73 yJ8_newLength_cabcc, Cond.static yJ8_newLength_cabcc, Cond.initialized RJ8, Cond.code yJ8_newLength_cabcc cJ8_newLength_cabcc 4 (some .int), Cond.methodLink RJ8 194 Lib.Math.max.name, Cond.constant RJ8 200 (2147483639), Cond.methodLink RJ8 201 yJ8_hugeLength_7cf53, Cond.static yJ8_hugeLength_7cf53, Cond.code yJ8_hugeLength_7cf53 cJ8_hugeLength_7cf53 3 (some .int), Cond.methodLink RJx4a65c 66 yJ7_copyOf_1904c, Cond.static yJ7_copyOf_1904c, Cond.initialized RJ7, Cond.code yJ7_copyOf_1904c cJ7_copyOf_1904c 2 (some (.array (.object "java/lang/Object"))), Cond.methodLink RJ7 86 ⟨"java/lang/Object", "getClass", "()Ljava/lang/Class;"⟩, Cond.selects "[Ljava/lang/Object;" ⟨"java/lang/Object", "getClass", "()Ljava/lang/Class;"⟩ ⟨"java/lang/Object", "getClass", "()Ljava/lang/Class;"⟩, Cond.instanceMethod ⟨"java/lang/Object", "getClass", "()Ljava/lang/Class;"⟩, Cond.native ⟨"java/lang/Object", "getClass", "()Ljava/lang/Class;"⟩]
def wsX0_planTree_r5 : List Cond := [Cond.methodLink RJ7 300 yJ7_copyOf_6403c, Cond.static yJ7_copyOf_6403c, Cond.code yJ7_copyOf_6403c cJ7_copyOf_6403c 4 (some (.array (.object "java/lang/Object"))), Cond.classLink RJ7 110 "[Ljava/lang/Object;", Cond.classLink RJ7 2 "java/lang/Object", Cond.methodLink RJ7 304 Lib.Math.min.name, Cond.static Lib.Math.min.name, Cond.code Lib.Math.min.name Lib.Math.min.code 2 (some .int), Cond.methodLink RJ7 150 arraycopyName, Cond.native arraycopyName, Cond.static arraycopyName, Cond.initialized "java/lang/System", Cond.methodLink RX0 49 yX2_startAnew, Cond.instanceMethod yX2_startAnew, Cond.selects RX2 yX2_startAnew yX2_startAnew, Cond.initialized RX2, Cond.code yX2_startAnew cX2_startAnew 1 none, Cond.fieldLink RX2 26 "SyscallFilter$Planner" "size" "I", Cond.methodLink RX0 54 yX0_isReached, Cond.instanceMethod yX0_isReached, Cond.selects RX0 yX0_isReached yX0_isReached, Cond.code yX0_isReached cX0_isReached 3 (some .boolean), Cond.methodLink RX0 58 yX2_take, Cond.instanceMethod yX2_take]
def wsX0_planTree_r6 : List Cond := [Cond.selects RX2 yX2_take yX2_take, Cond.code yX2_take cX2_take 3 none, Cond.fieldLink RX2 9 "SyscallFilter$Planner" "numbers" "[I", Cond.fieldLink RX2 15 "SyscallFilter$Planner" "weights" "[I", Cond.methodLink RX0 62 yX2_weighAllTrees, Cond.instanceMethod yX2_weighAllTrees, Cond.selects RX2 yX2_weighAllTrees yX2_weighAllTrees, Cond.code yX2_weighAllTrees cX2_weighAllTrees 3 none, Cond.methodLink RX2 30 yX2_weighTrees, Cond.instanceMethod yX2_weighTrees, Cond.selects RX2 yX2_weighTrees yX2_weighTrees, Cond.code yX2_weighTrees cX2_weighTrees 5 none, Cond.fieldLink RX2 23 "SyscallFilter$Planner" "firstPlaces" "[[I", Cond.fieldLink RX2 20 "SyscallFilter$Planner" "costs" "[[I", Cond.methodLink RX2 34 yX2_costBelow, Cond.instanceMethod yX2_costBelow, Cond.selects RX2 yX2_costBelow yX2_costBelow, Cond.code yX2_costBelow cX2_costBelow 4 (some .int), Cond.methodLink RX2 38 yX2_weightOf, Cond.instanceMethod yX2_weightOf, Cond.selects RX2 yX2_weightOf yX2_weightOf, Cond.code yX2_weightOf cX2_weightOf 5 (some .int), Cond.methodLink RX0 65 yX2_bestTree, Cond.instanceMethod yX2_bestTree]
def wsX0_planTree_r7 : List Cond := [Cond.selects RX2 yX2_bestTree yX2_bestTree, Cond.code yX2_bestTree cX2_bestTree 1 (some (.object "SyscallFilter$Node")), Cond.methodLink RX2 42 yX2_grow, Cond.static yX2_grow, Cond.code yX2_grow cX2_grow 5 (some (.object "SyscallFilter$Node")), Cond.classLink RX2 46 RX1, Cond.instantiable RX1 4, Cond.initialized RX1, Cond.methodLink RX2 48 yX1_init, Cond.instanceMethod yX1_init, Cond.code yX1_init cX1_init 5 none, Cond.methodLink RX1 1 objectInit, Cond.instanceMethod objectInit, Cond.code objectInit ⟨#[0xb1]⟩ 1 none, Cond.fieldLink RX1 7 "SyscallFilter$Node" "number" "I", Cond.fieldLink RX1 13 "SyscallFilter$Node" "tests" "I", Cond.fieldLink RX1 16 "SyscallFilter$Node" "lesser" "LSyscallFilter$Node;", Cond.fieldLink RX1 20 "SyscallFilter$Node" "greater" "LSyscallFilter$Node;", Cond.methodLink RX0 73 yX2_leastCost, Cond.instanceMethod yX2_leastCost, Cond.selects RX2 yX2_leastCost yX2_leastCost, Cond.code yX2_leastCost cX2_leastCost 1 (some .int)]
def wsX0_planTree : List Cond := .code yX0_planTree cX0_planTree 4 none :: ((wsX0_planTree_r1 ++ (wsX0_planTree_r2 ++ (wsX0_planTree_r3 ++ (wsX0_planTree_r4 ++ (wsX0_planTree_r5 ++ (wsX0_planTree_r6 ++ wsX0_planTree_r7)))))) ++ wsX00 ++ wsJx4a65c0 ++ wsX30 ++ wsX20 ++ wsX10)
def wsX0_numberAt : List Cond := .code yX0_numberAt cX0_numberAt 4 (some .int) :: ([.fieldLink RX0 69 "SyscallFilter$Filter" "firstTest" "LSyscallFilter$Node;"] ++ wsX00 ++ wsX10)
def wsX1_towards : List Cond := .code yX1_towards cX1_towards 2 (some (.object "SyscallFilter$Node")) :: ([.fieldLink RX1 7 "SyscallFilter$Node" "number" "I", .fieldLink RX1 16 "SyscallFilter$Node" "lesser" "LSyscallFilter$Node;", .fieldLink RX1 20 "SyscallFilter$Node" "greater" "LSyscallFilter$Node;"] ++ wsX10)
def wsX0_lastTest : List Cond := .code yX0_lastTest cX0_lastTest 4 (some (.object "SyscallFilter$Node")) :: ([.fieldLink RX0 69 "SyscallFilter$Filter" "firstTest" "LSyscallFilter$Node;", .methodLink RX0 139 yX1_towards, .instanceMethod yX1_towards, .selects RX1 yX1_towards yX1_towards, .initialized RX1, .code yX1_towards cX1_towards 2 (some (.object "SyscallFilter$Node")), .fieldLink RX1 7 "SyscallFilter$Node" "number" "I", .fieldLink RX1 16 "SyscallFilter$Node" "lesser" "LSyscallFilter$Node;", .fieldLink RX1 20 "SyscallFilter$Node" "greater" "LSyscallFilter$Node;"] ++ wsX00 ++ wsX10)
def wsX0_numberTests : List Cond := .code yX0_numberTests cX0_numberTests 3 (some .int) :: ([.methodLink RX0 119 yX0_lastTest, .instanceMethod yX0_lastTest, .selects RX0 yX0_lastTest yX0_lastTest, .initialized RX0, .code yX0_lastTest cX0_lastTest 4 (some (.object "SyscallFilter$Node")), .fieldLink RX0 69 "SyscallFilter$Filter" "firstTest" "LSyscallFilter$Node;", .methodLink RX0 139 yX1_towards, .instanceMethod yX1_towards, .selects RX1 yX1_towards yX1_towards, .initialized RX1, .code yX1_towards cX1_towards 2 (some (.object "SyscallFilter$Node")), .fieldLink RX1 7 "SyscallFilter$Node" "number" "I", .fieldLink RX1 16 "SyscallFilter$Node" "lesser" "LSyscallFilter$Node;", .fieldLink RX1 20 "SyscallFilter$Node" "greater" "LSyscallFilter$Node;"] ++ wsX10 ++ wsX00)
def wsX3_lowerTests : List Cond := .code yX3_lowerTests cX3_lowerTests 1 (some .int) :: ([.fieldLink RX3 18 "SyscallFilter$Rule" "mask" "J", .constantLong RX3 34 (4294967295)] ++ wsX30)
def wsX3_upperTests : List Cond := .code yX3_upperTests cX3_upperTests 1 (some .int) :: ([.fieldLink RX3 18 "SyscallFilter$Rule" "mask" "J", .constantLong RX3 46 (-4294967296)] ++ wsX30)
def wsX3_mostTests : List Cond := .code yX3_mostTests cX3_mostTests 1 (some .int) :: ([.methodLink RX3 36 yX3_lowerTests, .instanceMethod yX3_lowerTests, .selects RX3 yX3_lowerTests yX3_lowerTests, .initialized RX3, .code yX3_lowerTests cX3_lowerTests 1 (some .int), .fieldLink RX3 18 "SyscallFilter$Rule" "mask" "J", .constantLong RX3 34 (4294967295), .methodLink RX3 43 yX3_upperTests, .instanceMethod yX3_upperTests, .selects RX3 yX3_upperTests yX3_upperTests, .code yX3_upperTests cX3_upperTests 1 (some .int), .constantLong RX3 46 (-4294967296)] ++ wsX30)
def wsX0_mostRuleTests_r1 : List Cond := [Cond.fieldLink RX0 18 "SyscallFilter$Filter" "reached" "Ljava/util/ArrayList;", Cond.classLink RX0 36 "SyscallFilter$Rule", Cond.methodLink RX0 21 yJx4a65c_size_8abf5, Cond.instanceMethod yJx4a65c_size_8abf5, Cond.selects RJx4a65c yJx4a65c_size_8abf5 yJx4a65c_size_8abf5, Cond.initialized RJx4a65c, Cond.code yJx4a65c_size_8abf5 cJx4a65c_size_8abf5 1 (some .int), Cond.fieldLink RJx4a65c 48 "java/util/ArrayList" "size" "I", Cond.methodLink RX0 33 yJx4a65c_get_915e3, Cond.instanceMethod yJx4a65c_get_915e3, Cond.selects RJx4a65c yJx4a65c_get_915e3 yJx4a65c_get_915e3, Cond.code yJx4a65c_get_915e3 cJx4a65c_get_915e3 2 (some (.object "java/lang/Object")), Cond.methodLink RJx4a65c 118 yJ15_checkIndex_7cf53, Cond.static yJ15_checkIndex_7cf53, Cond.initialized RJ15, Cond.code yJ15_checkIndex_7cf53 cJ15_checkIndex_7cf53 2 (some .int), Cond.methodLink RJ15 105 yJ3_checkIndex_8e157, Cond.static yJ3_checkIndex_8e157, Cond.initialized RJ3, Cond.code yJ3_checkIndex_8e157 cJ3_checkIndex_8e157 3 (some .int), Cond.methodLink RJx4a65c 123 yJx4a65c_elementData_915e3, Cond.instanceMethod yJx4a65c_elementData_915e3, Cond.selects RJx4a65c yJx4a65c_elementData_915e3 yJx4a65c_elementData_915e3, Cond.code yJx4a65c_elementData_915e3 cJx4a65c_elementData_915e3 2 (some (.object "java/lang/Object"))]
def wsX0_mostRuleTests_r2 : List Cond := [Cond.fieldLink RJx4a65c 9 "java/util/ArrayList" "elementData" "[Ljava/lang/Object;", Cond.methodLink RX0 136 yX3_mostTests, Cond.instanceMethod yX3_mostTests, Cond.selects RX3 yX3_mostTests yX3_mostTests, Cond.initialized RX3, Cond.code yX3_mostTests cX3_mostTests 1 (some .int), Cond.methodLink RX3 36 yX3_lowerTests, Cond.instanceMethod yX3_lowerTests, Cond.selects RX3 yX3_lowerTests yX3_lowerTests, Cond.code yX3_lowerTests cX3_lowerTests 1 (some .int), Cond.fieldLink RX3 18 "SyscallFilter$Rule" "mask" "J", Cond.constantLong RX3 34 (4294967295), Cond.methodLink RX3 43 yX3_upperTests, Cond.instanceMethod yX3_upperTests, Cond.selects RX3 yX3_upperTests yX3_upperTests, Cond.code yX3_upperTests cX3_upperTests 1 (some .int), Cond.constantLong RX3 46 (-4294967296)]
def wsX0_mostRuleTests : List Cond := .code yX0_mostRuleTests cX0_mostRuleTests 4 (some .int) :: ((wsX0_mostRuleTests_r1 ++ wsX0_mostRuleTests_r2) ++ wsX00 ++ wsX30 ++ wsJx4a65c0)
def wsX0_worstPath_r1 : List Cond := [Cond.methodLink RX0 105 Lib.Math.max.name, Cond.static Lib.Math.max.name, Cond.initialized "java/lang/Math", Cond.code Lib.Math.max.name Lib.Math.max.code 2 (some .int), Cond.methodLink RX0 99 yX0_numberTests, Cond.instanceMethod yX0_numberTests, Cond.selects RX0 yX0_numberTests yX0_numberTests, Cond.initialized RX0, Cond.code yX0_numberTests cX0_numberTests 3 (some .int), Cond.methodLink RX0 119 yX0_lastTest, Cond.instanceMethod yX0_lastTest, Cond.selects RX0 yX0_lastTest yX0_lastTest, Cond.code yX0_lastTest cX0_lastTest 4 (some (.object "SyscallFilter$Node")), Cond.fieldLink RX0 69 "SyscallFilter$Filter" "firstTest" "LSyscallFilter$Node;", Cond.methodLink RX0 139 yX1_towards, Cond.instanceMethod yX1_towards, Cond.selects RX1 yX1_towards yX1_towards, Cond.initialized RX1, Cond.code yX1_towards cX1_towards 2 (some (.object "SyscallFilter$Node")), Cond.fieldLink RX1 7 "SyscallFilter$Node" "number" "I", Cond.fieldLink RX1 16 "SyscallFilter$Node" "lesser" "LSyscallFilter$Node;", Cond.fieldLink RX1 20 "SyscallFilter$Node" "greater" "LSyscallFilter$Node;", Cond.methodLink RX0 102 yX0_mostRuleTests, Cond.instanceMethod yX0_mostRuleTests]
def wsX0_worstPath_r2 : List Cond := [Cond.selects RX0 yX0_mostRuleTests yX0_mostRuleTests, Cond.code yX0_mostRuleTests cX0_mostRuleTests 4 (some .int), Cond.fieldLink RX0 18 "SyscallFilter$Filter" "reached" "Ljava/util/ArrayList;", Cond.classLink RX0 36 "SyscallFilter$Rule", Cond.methodLink RX0 21 yJx4a65c_size_8abf5, Cond.instanceMethod yJx4a65c_size_8abf5, Cond.selects RJx4a65c yJx4a65c_size_8abf5 yJx4a65c_size_8abf5, Cond.initialized RJx4a65c, Cond.code yJx4a65c_size_8abf5 cJx4a65c_size_8abf5 1 (some .int), Cond.fieldLink RJx4a65c 48 "java/util/ArrayList" "size" "I", Cond.methodLink RX0 33 yJx4a65c_get_915e3, Cond.instanceMethod yJx4a65c_get_915e3, Cond.selects RJx4a65c yJx4a65c_get_915e3 yJx4a65c_get_915e3, Cond.code yJx4a65c_get_915e3 cJx4a65c_get_915e3 2 (some (.object "java/lang/Object")), Cond.methodLink RJx4a65c 118 yJ15_checkIndex_7cf53, Cond.static yJ15_checkIndex_7cf53, Cond.initialized RJ15, Cond.code yJ15_checkIndex_7cf53 cJ15_checkIndex_7cf53 2 (some .int), Cond.methodLink RJ15 105 yJ3_checkIndex_8e157, Cond.static yJ3_checkIndex_8e157, Cond.initialized RJ3, Cond.code yJ3_checkIndex_8e157 cJ3_checkIndex_8e157 3 (some .int), Cond.methodLink RJx4a65c 123 yJx4a65c_elementData_915e3, Cond.instanceMethod yJx4a65c_elementData_915e3]
def wsX0_worstPath_r3 : List Cond := [Cond.selects RJx4a65c yJx4a65c_elementData_915e3 yJx4a65c_elementData_915e3, Cond.code yJx4a65c_elementData_915e3 cJx4a65c_elementData_915e3 2 (some (.object "java/lang/Object")), Cond.fieldLink RJx4a65c 9 "java/util/ArrayList" "elementData" "[Ljava/lang/Object;", Cond.methodLink RX0 136 yX3_mostTests, Cond.instanceMethod yX3_mostTests, Cond.selects RX3 yX3_mostTests yX3_mostTests, Cond.initialized RX3, Cond.code yX3_mostTests cX3_mostTests 1 (some .int), Cond.methodLink RX3 36 yX3_lowerTests, Cond.instanceMethod yX3_lowerTests, Cond.selects RX3 yX3_lowerTests yX3_lowerTests, Cond.code yX3_lowerTests cX3_lowerTests 1 (some .int), Cond.fieldLink RX3 18 "SyscallFilter$Rule" "mask" "J", Cond.constantLong RX3 34 (4294967295), Cond.methodLink RX3 43 yX3_upperTests, Cond.instanceMethod yX3_upperTests, Cond.selects RX3 yX3_upperTests yX3_upperTests, Cond.code yX3_upperTests cX3_upperTests 1 (some .int), Cond.constantLong RX3 46 (-4294967296)]
def wsX0_worstPath : List Cond := .code yX0_worstPath cX0_worstPath 3 (some .int) :: ((wsX0_worstPath_r1 ++ (wsX0_worstPath_r2 ++ wsX0_worstPath_r3)) ++ wsX10 ++ wsX00 ++ wsX30 ++ wsJx4a65c0)
def wsX3_argumentOf : List Cond := .code yX3_argumentOf cX3_argumentOf 5 (some .long) :: ([.fieldLink RX3 15 "SyscallFilter$Rule" "argument" "I"] ++ wsX30)
def wsX3_testsFor : List Cond := .code yX3_testsFor cX3_testsFor 6 (some .int) :: ([.fieldLink RX3 18 "SyscallFilter$Rule" "mask" "J", .fieldLink RX3 22 "SyscallFilter$Rule" "value" "J", .constantLong RX3 34 (4294967295), .methodLink RX3 28 yX3_argumentOf, .instanceMethod yX3_argumentOf, .selects RX3 yX3_argumentOf yX3_argumentOf, .initialized RX3, .code yX3_argumentOf cX3_argumentOf 5 (some .long), .fieldLink RX3 15 "SyscallFilter$Rule" "argument" "I", .methodLink RX3 36 yX3_lowerTests, .instanceMethod yX3_lowerTests, .selects RX3 yX3_lowerTests yX3_lowerTests, .code yX3_lowerTests cX3_lowerTests 1 (some .int), .methodLink RX3 40 yX3_mostTests, .instanceMethod yX3_mostTests, .selects RX3 yX3_mostTests yX3_mostTests, .code yX3_mostTests cX3_mostTests 1 (some .int), .methodLink RX3 43 yX3_upperTests, .instanceMethod yX3_upperTests, .selects RX3 yX3_upperTests yX3_upperTests, .code yX3_upperTests cX3_upperTests 1 (some .int), .constantLong RX3 46 (-4294967296)] ++ wsX30)
def wsX3_matches : List Cond := .code yX3_matches cX3_matches 5 (some .boolean) :: ([.fieldLink RX3 18 "SyscallFilter$Rule" "mask" "J", .fieldLink RX3 22 "SyscallFilter$Rule" "value" "J", .methodLink RX3 28 yX3_argumentOf, .instanceMethod yX3_argumentOf, .selects RX3 yX3_argumentOf yX3_argumentOf, .initialized RX3, .code yX3_argumentOf cX3_argumentOf 5 (some .long), .fieldLink RX3 15 "SyscallFilter$Rule" "argument" "I"] ++ wsX30)
def wsX0_pathOf_r1 : List Cond := [Cond.fieldLink RX0 18 "SyscallFilter$Filter" "reached" "Ljava/util/ArrayList;", Cond.classLink RX0 36 "SyscallFilter$Rule", Cond.methodLink RX0 99 yX0_numberTests, Cond.instanceMethod yX0_numberTests, Cond.selects RX0 yX0_numberTests yX0_numberTests, Cond.initialized RX0, Cond.code yX0_numberTests cX0_numberTests 3 (some .int), Cond.methodLink RX0 119 yX0_lastTest, Cond.instanceMethod yX0_lastTest, Cond.selects RX0 yX0_lastTest yX0_lastTest, Cond.code yX0_lastTest cX0_lastTest 4 (some (.object "SyscallFilter$Node")), Cond.fieldLink RX0 69 "SyscallFilter$Filter" "firstTest" "LSyscallFilter$Node;", Cond.methodLink RX0 139 yX1_towards, Cond.instanceMethod yX1_towards, Cond.selects RX1 yX1_towards yX1_towards, Cond.initialized RX1, Cond.code yX1_towards cX1_towards 2 (some (.object "SyscallFilter$Node")), Cond.fieldLink RX1 7 "SyscallFilter$Node" "number" "I", Cond.fieldLink RX1 16 "SyscallFilter$Node" "lesser" "LSyscallFilter$Node;", Cond.fieldLink RX1 20 "SyscallFilter$Node" "greater" "LSyscallFilter$Node;", Cond.methodLink RX0 21 yJx4a65c_size_8abf5, Cond.instanceMethod yJx4a65c_size_8abf5, Cond.selects RJx4a65c yJx4a65c_size_8abf5 yJx4a65c_size_8abf5, Cond.initialized RJx4a65c]
def wsX0_pathOf_r2 : List Cond := [Cond.code yJx4a65c_size_8abf5 cJx4a65c_size_8abf5 1 (some .int), Cond.fieldLink RJx4a65c 48 "java/util/ArrayList" "size" "I", Cond.methodLink RX0 33 yJx4a65c_get_915e3, Cond.instanceMethod yJx4a65c_get_915e3, Cond.selects RJx4a65c yJx4a65c_get_915e3 yJx4a65c_get_915e3, Cond.code yJx4a65c_get_915e3 cJx4a65c_get_915e3 2 (some (.object "java/lang/Object")), Cond.methodLink RJx4a65c 118 yJ15_checkIndex_7cf53, Cond.static yJ15_checkIndex_7cf53, Cond.initialized RJ15, Cond.code yJ15_checkIndex_7cf53 cJ15_checkIndex_7cf53 2 (some .int), Cond.methodLink RJ15 105 yJ3_checkIndex_8e157, Cond.static yJ3_checkIndex_8e157, Cond.initialized RJ3, Cond.code yJ3_checkIndex_8e157 cJ3_checkIndex_8e157 3 (some .int), Cond.methodLink RJx4a65c 123 yJx4a65c_elementData_915e3, Cond.instanceMethod yJx4a65c_elementData_915e3, Cond.selects RJx4a65c yJx4a65c_elementData_915e3 yJx4a65c_elementData_915e3, Cond.code yJx4a65c_elementData_915e3 cJx4a65c_elementData_915e3 2 (some (.object "java/lang/Object")), Cond.fieldLink RJx4a65c 9 "java/util/ArrayList" "elementData" "[Ljava/lang/Object;", Cond.methodLink RX0 111 yX3_testsFor, Cond.instanceMethod yX3_testsFor, Cond.selects RX3 yX3_testsFor yX3_testsFor, Cond.initialized RX3, Cond.code yX3_testsFor cX3_testsFor 6 (some .int)]
def wsX0_pathOf_r3 : List Cond := [Cond.fieldLink RX3 18 "SyscallFilter$Rule" "mask" "J", Cond.fieldLink RX3 22 "SyscallFilter$Rule" "value" "J", Cond.constantLong RX3 34 (4294967295), Cond.methodLink RX3 28 yX3_argumentOf, Cond.instanceMethod yX3_argumentOf, Cond.selects RX3 yX3_argumentOf yX3_argumentOf, Cond.code yX3_argumentOf cX3_argumentOf 5 (some .long), Cond.fieldLink RX3 15 "SyscallFilter$Rule" "argument" "I", Cond.methodLink RX3 36 yX3_lowerTests, Cond.instanceMethod yX3_lowerTests, Cond.selects RX3 yX3_lowerTests yX3_lowerTests, Cond.code yX3_lowerTests cX3_lowerTests 1 (some .int), Cond.methodLink RX3 40 yX3_mostTests, Cond.instanceMethod yX3_mostTests, Cond.selects RX3 yX3_mostTests yX3_mostTests, Cond.code yX3_mostTests cX3_mostTests 1 (some .int), Cond.methodLink RX3 43 yX3_upperTests, Cond.instanceMethod yX3_upperTests, Cond.selects RX3 yX3_upperTests yX3_upperTests, Cond.code yX3_upperTests cX3_upperTests 1 (some .int), Cond.constantLong RX3 46 (-4294967296), Cond.methodLink RX0 115 yX3_matches, Cond.instanceMethod yX3_matches, Cond.selects RX3 yX3_matches yX3_matches]
def wsX0_pathOf_r4 : List Cond := [Cond.code yX3_matches cX3_matches 5 (some .boolean)]
def wsX0_pathOf : List Cond := .code yX0_pathOf cX0_pathOf 9 (some .int) :: ((wsX0_pathOf_r1 ++ (wsX0_pathOf_r2 ++ (wsX0_pathOf_r3 ++ wsX0_pathOf_r4))) ++ wsX00 ++ wsX30 ++ wsX10 ++ wsJx4a65c0)
def wsX0_actionOfFirstMatch_r1 : List Cond := [Cond.classLink RX0 36 "SyscallFilter$Rule", Cond.fieldLink RX0 123 "SyscallFilter$Filter" "defaultAction" "I", Cond.methodLink RX0 21 yJx4a65c_size_8abf5, Cond.instanceMethod yJx4a65c_size_8abf5, Cond.selects RJx4a65c yJx4a65c_size_8abf5 yJx4a65c_size_8abf5, Cond.initialized RJx4a65c, Cond.code yJx4a65c_size_8abf5 cJx4a65c_size_8abf5 1 (some .int), Cond.fieldLink RJx4a65c 48 "java/util/ArrayList" "size" "I", Cond.methodLink RX0 33 yJx4a65c_get_915e3, Cond.instanceMethod yJx4a65c_get_915e3, Cond.selects RJx4a65c yJx4a65c_get_915e3 yJx4a65c_get_915e3, Cond.code yJx4a65c_get_915e3 cJx4a65c_get_915e3 2 (some (.object "java/lang/Object")), Cond.methodLink RJx4a65c 118 yJ15_checkIndex_7cf53, Cond.static yJ15_checkIndex_7cf53, Cond.initialized RJ15, Cond.code yJ15_checkIndex_7cf53 cJ15_checkIndex_7cf53 2 (some .int), Cond.methodLink RJ15 105 yJ3_checkIndex_8e157, Cond.static yJ3_checkIndex_8e157, Cond.initialized RJ3, Cond.code yJ3_checkIndex_8e157 cJ3_checkIndex_8e157 3 (some .int), Cond.methodLink RJx4a65c 123 yJx4a65c_elementData_915e3, Cond.instanceMethod yJx4a65c_elementData_915e3, Cond.selects RJx4a65c yJx4a65c_elementData_915e3 yJx4a65c_elementData_915e3, Cond.code yJx4a65c_elementData_915e3 cJx4a65c_elementData_915e3 2 (some (.object "java/lang/Object"))]
def wsX0_actionOfFirstMatch_r2 : List Cond := [Cond.fieldLink RJx4a65c 9 "java/util/ArrayList" "elementData" "[Ljava/lang/Object;", Cond.methodLink RX0 115 yX3_matches, Cond.instanceMethod yX3_matches, Cond.selects RX3 yX3_matches yX3_matches, Cond.initialized RX3, Cond.code yX3_matches cX3_matches 5 (some .boolean), Cond.fieldLink RX3 18 "SyscallFilter$Rule" "mask" "J", Cond.fieldLink RX3 22 "SyscallFilter$Rule" "value" "J", Cond.methodLink RX3 28 yX3_argumentOf, Cond.instanceMethod yX3_argumentOf, Cond.selects RX3 yX3_argumentOf yX3_argumentOf, Cond.code yX3_argumentOf cX3_argumentOf 5 (some .long), Cond.fieldLink RX3 15 "SyscallFilter$Rule" "argument" "I"]
def wsX0_actionOfFirstMatch : List Cond := .code yX0_actionOfFirstMatch cX0_actionOfFirstMatch 9 (some .int) :: ((wsX0_actionOfFirstMatch_r1 ++ wsX0_actionOfFirstMatch_r2) ++ wsX30 ++ wsX00 ++ wsJx4a65c0)
def wsX0_actionByTree_r1 : List Cond := [Cond.fieldLink RX0 123 "SyscallFilter$Filter" "defaultAction" "I", Cond.fieldLink RX0 18 "SyscallFilter$Filter" "reached" "Ljava/util/ArrayList;", Cond.methodLink RX0 119 yX0_lastTest, Cond.instanceMethod yX0_lastTest, Cond.selects RX0 yX0_lastTest yX0_lastTest, Cond.initialized RX0, Cond.code yX0_lastTest cX0_lastTest 4 (some (.object "SyscallFilter$Node")), Cond.fieldLink RX0 69 "SyscallFilter$Filter" "firstTest" "LSyscallFilter$Node;", Cond.methodLink RX0 139 yX1_towards, Cond.instanceMethod yX1_towards, Cond.selects RX1 yX1_towards yX1_towards, Cond.initialized RX1, Cond.code yX1_towards cX1_towards 2 (some (.object "SyscallFilter$Node")), Cond.fieldLink RX1 7 "SyscallFilter$Node" "number" "I", Cond.fieldLink RX1 16 "SyscallFilter$Node" "lesser" "LSyscallFilter$Node;", Cond.fieldLink RX1 20 "SyscallFilter$Node" "greater" "LSyscallFilter$Node;", Cond.methodLink RX0 126 yX0_actionOfFirstMatch, Cond.instanceMethod yX0_actionOfFirstMatch, Cond.selects RX0 yX0_actionOfFirstMatch yX0_actionOfFirstMatch, Cond.code yX0_actionOfFirstMatch cX0_actionOfFirstMatch 9 (some .int), Cond.classLink RX0 36 "SyscallFilter$Rule", Cond.methodLink RX0 21 yJx4a65c_size_8abf5, Cond.instanceMethod yJx4a65c_size_8abf5, Cond.selects RJx4a65c yJx4a65c_size_8abf5 yJx4a65c_size_8abf5]
def wsX0_actionByTree_r2 : List Cond := [Cond.initialized RJx4a65c, Cond.code yJx4a65c_size_8abf5 cJx4a65c_size_8abf5 1 (some .int), Cond.fieldLink RJx4a65c 48 "java/util/ArrayList" "size" "I", Cond.methodLink RX0 33 yJx4a65c_get_915e3, Cond.instanceMethod yJx4a65c_get_915e3, Cond.selects RJx4a65c yJx4a65c_get_915e3 yJx4a65c_get_915e3, Cond.code yJx4a65c_get_915e3 cJx4a65c_get_915e3 2 (some (.object "java/lang/Object")), Cond.methodLink RJx4a65c 118 yJ15_checkIndex_7cf53, Cond.static yJ15_checkIndex_7cf53, Cond.initialized RJ15, Cond.code yJ15_checkIndex_7cf53 cJ15_checkIndex_7cf53 2 (some .int), Cond.methodLink RJ15 105 yJ3_checkIndex_8e157, Cond.static yJ3_checkIndex_8e157, Cond.initialized RJ3, Cond.code yJ3_checkIndex_8e157 cJ3_checkIndex_8e157 3 (some .int), Cond.methodLink RJx4a65c 123 yJx4a65c_elementData_915e3, Cond.instanceMethod yJx4a65c_elementData_915e3, Cond.selects RJx4a65c yJx4a65c_elementData_915e3 yJx4a65c_elementData_915e3, Cond.code yJx4a65c_elementData_915e3 cJx4a65c_elementData_915e3 2 (some (.object "java/lang/Object")), Cond.fieldLink RJx4a65c 9 "java/util/ArrayList" "elementData" "[Ljava/lang/Object;", Cond.methodLink RX0 115 yX3_matches, Cond.instanceMethod yX3_matches, Cond.selects RX3 yX3_matches yX3_matches, Cond.initialized RX3]
def wsX0_actionByTree_r3 : List Cond := [Cond.code yX3_matches cX3_matches 5 (some .boolean), Cond.fieldLink RX3 18 "SyscallFilter$Rule" "mask" "J", Cond.fieldLink RX3 22 "SyscallFilter$Rule" "value" "J", Cond.methodLink RX3 28 yX3_argumentOf, Cond.instanceMethod yX3_argumentOf, Cond.selects RX3 yX3_argumentOf yX3_argumentOf, Cond.code yX3_argumentOf cX3_argumentOf 5 (some .long), Cond.fieldLink RX3 15 "SyscallFilter$Rule" "argument" "I"]
def wsX0_actionByTree : List Cond := .code yX0_actionByTree cX0_actionByTree 7 (some .int) :: ((wsX0_actionByTree_r1 ++ (wsX0_actionByTree_r2 ++ wsX0_actionByTree_r3)) ++ wsX10 ++ wsX00 ++ wsX30 ++ wsJx4a65c0)
def wsX0_actionByRules_r1 : List Cond := [Cond.fieldLink RX0 12 "SyscallFilter$Filter" "rules" "Ljava/util/ArrayList;", Cond.methodLink RX0 126 yX0_actionOfFirstMatch, Cond.instanceMethod yX0_actionOfFirstMatch, Cond.selects RX0 yX0_actionOfFirstMatch yX0_actionOfFirstMatch, Cond.initialized RX0, Cond.code yX0_actionOfFirstMatch cX0_actionOfFirstMatch 9 (some .int), Cond.classLink RX0 36 "SyscallFilter$Rule", Cond.fieldLink RX0 123 "SyscallFilter$Filter" "defaultAction" "I", Cond.methodLink RX0 21 yJx4a65c_size_8abf5, Cond.instanceMethod yJx4a65c_size_8abf5, Cond.selects RJx4a65c yJx4a65c_size_8abf5 yJx4a65c_size_8abf5, Cond.initialized RJx4a65c, Cond.code yJx4a65c_size_8abf5 cJx4a65c_size_8abf5 1 (some .int), Cond.fieldLink RJx4a65c 48 "java/util/ArrayList" "size" "I", Cond.methodLink RX0 33 yJx4a65c_get_915e3, Cond.instanceMethod yJx4a65c_get_915e3, Cond.selects RJx4a65c yJx4a65c_get_915e3 yJx4a65c_get_915e3, Cond.code yJx4a65c_get_915e3 cJx4a65c_get_915e3 2 (some (.object "java/lang/Object")), Cond.methodLink RJx4a65c 118 yJ15_checkIndex_7cf53, Cond.static yJ15_checkIndex_7cf53, Cond.initialized RJ15, Cond.code yJ15_checkIndex_7cf53 cJ15_checkIndex_7cf53 2 (some .int), Cond.methodLink RJ15 105 yJ3_checkIndex_8e157, Cond.static yJ3_checkIndex_8e157]
def wsX0_actionByRules_r2 : List Cond := [Cond.initialized RJ3, Cond.code yJ3_checkIndex_8e157 cJ3_checkIndex_8e157 3 (some .int), Cond.methodLink RJx4a65c 123 yJx4a65c_elementData_915e3, Cond.instanceMethod yJx4a65c_elementData_915e3, Cond.selects RJx4a65c yJx4a65c_elementData_915e3 yJx4a65c_elementData_915e3, Cond.code yJx4a65c_elementData_915e3 cJx4a65c_elementData_915e3 2 (some (.object "java/lang/Object")), Cond.fieldLink RJx4a65c 9 "java/util/ArrayList" "elementData" "[Ljava/lang/Object;", Cond.methodLink RX0 115 yX3_matches, Cond.instanceMethod yX3_matches, Cond.selects RX3 yX3_matches yX3_matches, Cond.initialized RX3, Cond.code yX3_matches cX3_matches 5 (some .boolean), Cond.fieldLink RX3 18 "SyscallFilter$Rule" "mask" "J", Cond.fieldLink RX3 22 "SyscallFilter$Rule" "value" "J", Cond.methodLink RX3 28 yX3_argumentOf, Cond.instanceMethod yX3_argumentOf, Cond.selects RX3 yX3_argumentOf yX3_argumentOf, Cond.code yX3_argumentOf cX3_argumentOf 5 (some .long), Cond.fieldLink RX3 15 "SyscallFilter$Rule" "argument" "I"]
def wsX0_actionByRules : List Cond := .code yX0_actionByRules cX0_actionByRules 6 (some .int) :: ((wsX0_actionByRules_r1 ++ wsX0_actionByRules_r2) ++ wsX00 ++ wsX30 ++ wsJx4a65c0)
def wsX2_init : List Cond := .code yX2_init cX2_init 1 none :: ([.methodLink RX2 3 objectInit, .instanceMethod objectInit, .code objectInit ⟨#[0xb1]⟩ 1 none, .arrayClass .int, .fieldLink RX2 9 "SyscallFilter$Planner" "numbers" "[I", .fieldLink RX2 15 "SyscallFilter$Planner" "weights" "[I", .classLink RX2 18 "[[I", .fieldLink RX2 20 "SyscallFilter$Planner" "costs" "[[I", .fieldLink RX2 23 "SyscallFilter$Planner" "firstPlaces" "[[I"] ++ wsX20)
def wsX3_init : List Cond := .code yX3_init cX3_init 8 none :: ([.methodLink RX3 3 objectInit, .instanceMethod objectInit, .code objectInit ⟨#[0xb1]⟩ 1 none, .fieldLink RX3 9 "SyscallFilter$Rule" "number" "I", .fieldLink RX3 15 "SyscallFilter$Rule" "argument" "I", .fieldLink RX3 18 "SyscallFilter$Rule" "mask" "J", .fieldLink RX3 22 "SyscallFilter$Rule" "value" "J", .fieldLink RX3 25 "SyscallFilter$Rule" "action" "I"] ++ wsX30)
def wsX4_init_r1 : List Cond := [Cond.methodLink RX4 1 objectInit, Cond.instanceMethod objectInit, Cond.code objectInit ⟨#[0xb1]⟩ 1 none, Cond.classLink RX4 9 RX0, Cond.fieldLink RX4 11 "SyscallFilter" "filters" "[LSyscallFilter$Filter;", Cond.arrayClass .int, Cond.fieldLink RX4 15 "SyscallFilter" "frequencies" "[I", Cond.classLink RX4 19 RX2, Cond.instantiable RX2 5, Cond.initialized RX2, Cond.fieldLink RX4 22 "SyscallFilter" "planner" "LSyscallFilter$Planner;", Cond.instantiable RX0 5, Cond.initialized RX0, Cond.instanceMethod yX2_init, Cond.code yX2_init cX2_init 1 none, Cond.methodLink RX2 3 objectInit, Cond.fieldLink RX2 9 "SyscallFilter$Planner" "numbers" "[I", Cond.fieldLink RX2 15 "SyscallFilter$Planner" "weights" "[I", Cond.classLink RX2 18 "[[I", Cond.fieldLink RX2 20 "SyscallFilter$Planner" "costs" "[[I", Cond.fieldLink RX2 23 "SyscallFilter$Planner" "firstPlaces" "[[I", Cond.instanceMethod yX0_init, Cond.code yX0_init cX0_init 1 none, Cond.methodLink RX0 3 objectInit]
def wsX4_init_r2 : List Cond := [Cond.classLink RX0 9 RJx4a65c, Cond.instantiable RJx4a65c 3, Cond.initialized RJx4a65c, Cond.fieldLink RX0 12 "SyscallFilter$Filter" "rules" "Ljava/util/ArrayList;", Cond.fieldLink RX0 18 "SyscallFilter$Filter" "reached" "Ljava/util/ArrayList;", Cond.methodLink RX0 11 yJx4a65c_init_da8c8, Cond.instanceMethod yJx4a65c_init_da8c8, Cond.code yJx4a65c_init_da8c8 cJx4a65c_init_da8c8 1 none, Cond.fieldLink RJx4a65c 39 "java/util/ArrayList" "DEFAULTCAPACITY_EMPTY_ELEMENTDATA" "[Ljava/lang/Object;", Cond.fieldLink RJx4a65c 9 "java/util/ArrayList" "elementData" "[Ljava/lang/Object;", Cond.methodLink RJx4a65c 1 yJxc12de_init_da8c8, Cond.instanceMethod yJxc12de_init_da8c8, Cond.initialized RJxc12de, Cond.code yJxc12de_init_da8c8 cJxc12de_init_da8c8 1 none, Cond.fieldLink RJxc12de 7 "java/util/AbstractList" "modCount" "I", Cond.methodLink RJxc12de 1 yJxa1e45_init_da8c8, Cond.instanceMethod yJxa1e45_init_da8c8, Cond.initialized RJxa1e45, Cond.code yJxa1e45_init_da8c8 cJxa1e45_init_da8c8 1 none, Cond.methodLink RJxa1e45 1 objectInit]
def wsX4_init : List Cond := .code yX4_init cX4_init 2 none :: ((wsX4_init_r1 ++ wsX4_init_r2) ++ wsX40 ++ wsX20 ++ wsX00 ++ wsJx4a65c0)
def wsX4_requireFilter : List Cond := .code yX4_requireFilter cX4_requireFilter 1 none :: ([.classLink RX4 34 "java/lang/IllegalArgumentException", .initialized "java/lang/IllegalArgumentException"] ++ (vx_atS RX4 38 "java/lang/IllegalArgumentException" ["java/lang/RuntimeException", "java/lang/Exception"]).filter goodWord)
def wsX4_requireNumber : List Cond := .code yX4_requireNumber cX4_requireNumber 1 none :: ([.classLink RX4 34 "java/lang/IllegalArgumentException", .initialized "java/lang/IllegalArgumentException"] ++ (vx_atS RX4 38 "java/lang/IllegalArgumentException" ["java/lang/RuntimeException", "java/lang/Exception"]).filter goodWord)
def wsX4_requireAction : List Cond := .code yX4_requireAction cX4_requireAction 1 none :: ([.classLink RX4 34 "java/lang/IllegalArgumentException", .initialized "java/lang/IllegalArgumentException"] ++ (vx_atS RX4 38 "java/lang/IllegalArgumentException" ["java/lang/RuntimeException", "java/lang/Exception"]).filter goodWord)
def wsX4_add_r1 : List Cond := [Cond.classLink RX4 34 "java/lang/IllegalArgumentException", Cond.initialized "java/lang/IllegalArgumentException", Cond.classLink RX4 48 "java/lang/IllegalStateException", Cond.initialized "java/lang/IllegalStateException", Cond.fieldLink RX4 11 "SyscallFilter" "filters" "[LSyscallFilter$Filter;", Cond.fieldLink RX4 53 "SyscallFilter" "compiled" "Z", Cond.classLink RX4 57 RX3, Cond.instantiable RX3 5, Cond.initialized RX3, Cond.methodLink RX4 27 yX4_requireFilter, Cond.static yX4_requireFilter, Cond.initialized RX4, Cond.code yX4_requireFilter cX4_requireFilter 1 none, Cond.methodLink RX4 31 yX4_requireNumber, Cond.static yX4_requireNumber, Cond.code yX4_requireNumber cX4_requireNumber 1 none, Cond.methodLink RX4 41 yX4_requireAction, Cond.static yX4_requireAction, Cond.code yX4_requireAction cX4_requireAction 1 none, Cond.methodLink RX4 44 yX0_isFull, Cond.instanceMethod yX0_isFull, Cond.selects RX0 yX0_isFull yX0_isFull, Cond.initialized RX0, Cond.code yX0_isFull cX0_isFull 1 (some .boolean)]
def wsX4_add_r2 : List Cond := [Cond.fieldLink RX0 12 "SyscallFilter$Filter" "rules" "Ljava/util/ArrayList;", Cond.methodLink RX0 21 yJx4a65c_size_8abf5, Cond.instanceMethod yJx4a65c_size_8abf5, Cond.selects RJx4a65c yJx4a65c_size_8abf5 yJx4a65c_size_8abf5, Cond.initialized RJx4a65c, Cond.code yJx4a65c_size_8abf5 cJx4a65c_size_8abf5 1 (some .int), Cond.fieldLink RJx4a65c 48 "java/util/ArrayList" "size" "I", Cond.methodLink RX4 59 yX3_init, Cond.instanceMethod yX3_init, Cond.code yX3_init cX3_init 8 none, Cond.methodLink RX3 3 objectInit, Cond.instanceMethod objectInit, Cond.code objectInit ⟨#[0xb1]⟩ 1 none, Cond.fieldLink RX3 9 "SyscallFilter$Rule" "number" "I", Cond.fieldLink RX3 15 "SyscallFilter$Rule" "argument" "I", Cond.fieldLink RX3 18 "SyscallFilter$Rule" "mask" "J", Cond.fieldLink RX3 22 "SyscallFilter$Rule" "value" "J", Cond.fieldLink RX3 25 "SyscallFilter$Rule" "action" "I", Cond.methodLink RX4 62 yX0_append, Cond.instanceMethod yX0_append, Cond.selects RX0 yX0_append yX0_append, Cond.code yX0_append cX0_append 2 (some .int), Cond.methodLink RX0 25 yJx4a65c_add_9ea2d, Cond.instanceMethod yJx4a65c_add_9ea2d]
def wsX4_add_r3 : List Cond := [Cond.selects RJx4a65c yJx4a65c_add_9ea2d yJx4a65c_add_9ea2d, Cond.code yJx4a65c_add_9ea2d cJx4a65c_add_9ea2d 2 (some .boolean), Cond.fieldLink RJx4a65c 63 "java/util/ArrayList" "modCount" "I", Cond.sameField "java/util/ArrayList" "java/util/AbstractList" "modCount" "I", Cond.fieldLink RJx4a65c 9 "java/util/ArrayList" "elementData" "[Ljava/lang/Object;", Cond.methodLink RJx4a65c 131 yJx4a65c_add_72be8, Cond.instanceMethod yJx4a65c_add_72be8, Cond.selects RJx4a65c yJx4a65c_add_72be8 yJx4a65c_add_72be8, Cond.code yJx4a65c_add_72be8 cJx4a65c_add_72be8 4 none, Cond.methodLink RJx4a65c 129 yJx4a65c_grow_d5877, Cond.instanceMethod yJx4a65c_grow_d5877, Cond.selects RJx4a65c yJx4a65c_grow_d5877 yJx4a65c_grow_d5877, Cond.code yJx4a65c_grow_d5877 cJx4a65c_grow_d5877 1 (some (.array (.object "java/lang/Object"))), Cond.methodLink RJx4a65c 69 yJx4a65c_grow_92f84, Cond.instanceMethod yJx4a65c_grow_92f84, Cond.selects RJx4a65c yJx4a65c_grow_92f84 yJx4a65c_grow_92f84, Cond.code yJx4a65c_grow_92f84 cJx4a65c_grow_92f84 4 (some (.array (.object "java/lang/Object"))), Cond.fieldLink RJx4a65c 39 "java/util/ArrayList" "DEFAULTCAPACITY_EMPTY_ELEMENTDATA" "[Ljava/lang/Object;", Cond.methodLink RJx4a65c 79 Lib.Math.max.name, Cond.static Lib.Math.max.name, Cond.initialized "java/lang/Math", Cond.code Lib.Math.max.name Lib.Math.max.code 2 (some .int), Cond.classLink RJx4a65c 7 "java/lang/Object", Cond.methodLink RJx4a65c 73 yJ8_newLength_cabcc]
def wsX4_add_r4 : List Cond := [Cond.static yJ8_newLength_cabcc, Cond.initialized RJ8, Cond.code yJ8_newLength_cabcc cJ8_newLength_cabcc 4 (some .int), Cond.methodLink RJ8 194 Lib.Math.max.name, Cond.constant RJ8 200 (2147483639), Cond.methodLink RJ8 201 yJ8_hugeLength_7cf53, Cond.static yJ8_hugeLength_7cf53, Cond.code yJ8_hugeLength_7cf53 cJ8_hugeLength_7cf53 3 (some .int), Cond.methodLink RJx4a65c 66 yJ7_copyOf_1904c, Cond.static yJ7_copyOf_1904c, Cond.initialized RJ7, Cond.code yJ7_copyOf_1904c cJ7_copyOf_1904c 2 (some (.array (.object "java/lang/Object"))), Cond.methodLink RJ7 86 ⟨"java/lang/Object", "getClass", "()Ljava/lang/Class;"⟩, Cond.selects "[Ljava/lang/Object;" ⟨"java/lang/Object", "getClass", "()Ljava/lang/Class;"⟩ ⟨"java/lang/Object", "getClass", "()Ljava/lang/Class;"⟩, Cond.instanceMethod ⟨"java/lang/Object", "getClass", "()Ljava/lang/Class;"⟩, Cond.native ⟨"java/lang/Object", "getClass", "()Ljava/lang/Class;"⟩, Cond.methodLink RJ7 300 yJ7_copyOf_6403c, Cond.static yJ7_copyOf_6403c, Cond.code yJ7_copyOf_6403c cJ7_copyOf_6403c 4 (some (.array (.object "java/lang/Object"))), Cond.classLink RJ7 110 "[Ljava/lang/Object;", Cond.classLink RJ7 2 "java/lang/Object", Cond.methodLink RJ7 304 Lib.Math.min.name, Cond.static Lib.Math.min.name, Cond.code Lib.Math.min.name Lib.Math.min.code 2 (some .int)]
def wsX4_add_r5 : List Cond := [Cond.methodLink RJ7 150 arraycopyName, Cond.native arraycopyName, Cond.static arraycopyName, Cond.initialized "java/lang/System"]
def wsX4_add : List Cond := .code yX4_add cX4_add 9 (some .int) :: ((wsX4_add_r1 ++ (wsX4_add_r2 ++ (wsX4_add_r3 ++ (wsX4_add_r4 ++ wsX4_add_r5)))) ++ wsX40 ++ wsX30 ++ wsX00 ++ wsJx4a65c0 ++ (vx_atS RX4 38 "java/lang/IllegalArgumentException" ["java/lang/RuntimeException", "java/lang/Exception"]).filter goodWord ++ (vx_atS RX4 52 "java/lang/IllegalStateException" ["java/lang/RuntimeException", "java/lang/Exception"]).filter goodWord)
def wsX4_requireRule : List Cond := .code yX4_requireRule cX4_requireRule 3 none :: ([.classLink RX4 141 "java/lang/IndexOutOfBoundsException", .initialized "java/lang/IndexOutOfBoundsException", .fieldLink RX4 11 "SyscallFilter" "filters" "[LSyscallFilter$Filter;", .methodLink RX4 84 yJx4a65c_size_8abf5, .instanceMethod yJx4a65c_size_8abf5, .selects RJx4a65c yJx4a65c_size_8abf5 yJx4a65c_size_8abf5, .initialized RJx4a65c, .code yJx4a65c_size_8abf5 cJx4a65c_size_8abf5 1 (some .int), .fieldLink RJx4a65c 48 "java/util/ArrayList" "size" "I"] ++ wsX40 ++ wsX00 ++ wsJx4a65c0 ++ (vx_atS RX4 145 "java/lang/IndexOutOfBoundsException" ["java/lang/RuntimeException", "java/lang/Exception"]).filter goodWord)
def wsX4_remove_r1 : List Cond := [Cond.fieldLink RX4 53 "SyscallFilter" "compiled" "Z", Cond.fieldLink RX4 11 "SyscallFilter" "filters" "[LSyscallFilter$Filter;", Cond.methodLink RX4 27 yX4_requireFilter, Cond.static yX4_requireFilter, Cond.initialized RX4, Cond.code yX4_requireFilter cX4_requireFilter 1 none, Cond.classLink RX4 34 "java/lang/IllegalArgumentException", Cond.initialized "java/lang/IllegalArgumentException", Cond.methodLink RX4 66 yX4_requireRule, Cond.instanceMethod yX4_requireRule, Cond.selects RX4 yX4_requireRule yX4_requireRule, Cond.code yX4_requireRule cX4_requireRule 3 none, Cond.classLink RX4 141 "java/lang/IndexOutOfBoundsException", Cond.initialized "java/lang/IndexOutOfBoundsException", Cond.methodLink RX4 84 yJx4a65c_size_8abf5, Cond.instanceMethod yJx4a65c_size_8abf5, Cond.selects RJx4a65c yJx4a65c_size_8abf5 yJx4a65c_size_8abf5, Cond.initialized RJx4a65c, Cond.code yJx4a65c_size_8abf5 cJx4a65c_size_8abf5 1 (some .int), Cond.fieldLink RJx4a65c 48 "java/util/ArrayList" "size" "I", Cond.methodLink RX4 70 yX0_drop, Cond.instanceMethod yX0_drop, Cond.selects RX0 yX0_drop yX0_drop, Cond.initialized RX0]
def wsX4_remove_r2 : List Cond := [Cond.code yX0_drop cX0_drop 2 (some .int), Cond.fieldLink RX0 12 "SyscallFilter$Filter" "rules" "Ljava/util/ArrayList;", Cond.methodLink RX0 21 yJx4a65c_size_8abf5, Cond.methodLink RX0 29 yJx4a65c_remove_915e3, Cond.instanceMethod yJx4a65c_remove_915e3, Cond.selects RJx4a65c yJx4a65c_remove_915e3 yJx4a65c_remove_915e3, Cond.code yJx4a65c_remove_915e3 cJx4a65c_remove_915e3 4 (some (.object "java/lang/Object")), Cond.fieldLink RJx4a65c 9 "java/util/ArrayList" "elementData" "[Ljava/lang/Object;", Cond.methodLink RJx4a65c 118 yJ15_checkIndex_7cf53, Cond.static yJ15_checkIndex_7cf53, Cond.initialized RJ15, Cond.code yJ15_checkIndex_7cf53 cJ15_checkIndex_7cf53 2 (some .int), Cond.methodLink RJ15 105 yJ3_checkIndex_8e157, Cond.static yJ3_checkIndex_8e157, Cond.initialized RJ3, Cond.code yJ3_checkIndex_8e157 cJ3_checkIndex_8e157 3 (some .int), Cond.methodLink RJx4a65c 144 yJx4a65c_fastRemove_b59b0, Cond.instanceMethod yJx4a65c_fastRemove_b59b0, Cond.selects RJx4a65c yJx4a65c_fastRemove_b59b0 yJx4a65c_fastRemove_b59b0, Cond.code yJx4a65c_fastRemove_b59b0 cJx4a65c_fastRemove_b59b0 4 none, Cond.fieldLink RJx4a65c 63 "java/util/ArrayList" "modCount" "I", Cond.sameField "java/util/ArrayList" "java/util/AbstractList" "modCount" "I", Cond.methodLink RJx4a65c 112 arraycopyName, Cond.native arraycopyName]
def wsX4_remove_r3 : List Cond := [Cond.static arraycopyName, Cond.initialized "java/lang/System"]
def wsX4_remove : List Cond := .code yX4_remove cX4_remove 3 (some .int) :: ((wsX4_remove_r1 ++ (wsX4_remove_r2 ++ wsX4_remove_r3)) ++ wsX40 ++ wsX00 ++ wsJx4a65c0 ++ (vx_atS RX4 38 "java/lang/IllegalArgumentException" ["java/lang/RuntimeException", "java/lang/Exception"]).filter goodWord ++ (vx_atS RX4 145 "java/lang/IndexOutOfBoundsException" ["java/lang/RuntimeException", "java/lang/Exception"]).filter goodWord)
def wsX4_setDefault : List Cond := .code yX4_setDefault cX4_setDefault 4 (some .int) :: ([.fieldLink RX4 11 "SyscallFilter" "filters" "[LSyscallFilter$Filter;", .fieldLink RX4 53 "SyscallFilter" "compiled" "Z", .methodLink RX4 27 yX4_requireFilter, .static yX4_requireFilter, .initialized RX4, .code yX4_requireFilter cX4_requireFilter 1 none, .classLink RX4 34 "java/lang/IllegalArgumentException", .initialized "java/lang/IllegalArgumentException", .methodLink RX4 41 yX4_requireAction, .static yX4_requireAction, .code yX4_requireAction cX4_requireAction 1 none] ++ wsX40 ++ wsX00 ++ (vx_atS RX4 38 "java/lang/IllegalArgumentException" ["java/lang/RuntimeException", "java/lang/Exception"]).filter goodWord)
def wsX4_setFrequency : List Cond := .code yX4_setFrequency cX4_setFrequency 4 (some .int) :: ([.classLink RX4 34 "java/lang/IllegalArgumentException", .initialized "java/lang/IllegalArgumentException", .fieldLink RX4 15 "SyscallFilter" "frequencies" "[I", .fieldLink RX4 53 "SyscallFilter" "compiled" "Z", .methodLink RX4 31 yX4_requireNumber, .static yX4_requireNumber, .initialized RX4, .code yX4_requireNumber cX4_requireNumber 1 none] ++ wsX40 ++ (vx_atS RX4 38 "java/lang/IllegalArgumentException" ["java/lang/RuntimeException", "java/lang/Exception"]).filter goodWord)
def wsX4_rules : List Cond := .code yX4_rules cX4_rules 2 (some .int) :: ([.fieldLink RX4 11 "SyscallFilter" "filters" "[LSyscallFilter$Filter;", .methodLink RX4 27 yX4_requireFilter, .static yX4_requireFilter, .initialized RX4, .code yX4_requireFilter cX4_requireFilter 1 none, .classLink RX4 34 "java/lang/IllegalArgumentException", .initialized "java/lang/IllegalArgumentException", .methodLink RX4 84 yJx4a65c_size_8abf5, .instanceMethod yJx4a65c_size_8abf5, .selects RJx4a65c yJx4a65c_size_8abf5 yJx4a65c_size_8abf5, .initialized RJx4a65c, .code yJx4a65c_size_8abf5 cJx4a65c_size_8abf5 1 (some .int), .fieldLink RJx4a65c 48 "java/util/ArrayList" "size" "I"] ++ wsX40 ++ wsX00 ++ wsJx4a65c0 ++ (vx_atS RX4 38 "java/lang/IllegalArgumentException" ["java/lang/RuntimeException", "java/lang/Exception"]).filter goodWord)
def wsX4_hider_r1 : List Cond := [Cond.fieldLink RX4 11 "SyscallFilter" "filters" "[LSyscallFilter$Filter;", Cond.methodLink RX4 27 yX4_requireFilter, Cond.static yX4_requireFilter, Cond.initialized RX4, Cond.code yX4_requireFilter cX4_requireFilter 1 none, Cond.classLink RX4 34 "java/lang/IllegalArgumentException", Cond.initialized "java/lang/IllegalArgumentException", Cond.methodLink RX4 66 yX4_requireRule, Cond.instanceMethod yX4_requireRule, Cond.selects RX4 yX4_requireRule yX4_requireRule, Cond.code yX4_requireRule cX4_requireRule 3 none, Cond.classLink RX4 141 "java/lang/IndexOutOfBoundsException", Cond.initialized "java/lang/IndexOutOfBoundsException", Cond.methodLink RX4 84 yJx4a65c_size_8abf5, Cond.instanceMethod yJx4a65c_size_8abf5, Cond.selects RJx4a65c yJx4a65c_size_8abf5 yJx4a65c_size_8abf5, Cond.initialized RJx4a65c, Cond.code yJx4a65c_size_8abf5 cJx4a65c_size_8abf5 1 (some .int), Cond.fieldLink RJx4a65c 48 "java/util/ArrayList" "size" "I", Cond.methodLink RX4 90 yX0_hiderOf, Cond.instanceMethod yX0_hiderOf, Cond.selects RX0 yX0_hiderOf yX0_hiderOf, Cond.initialized RX0, Cond.code yX0_hiderOf cX0_hiderOf 4 (some .int)]
def wsX4_hider_r2 : List Cond := [Cond.fieldLink RX0 12 "SyscallFilter$Filter" "rules" "Ljava/util/ArrayList;", Cond.classLink RX0 36 "SyscallFilter$Rule", Cond.methodLink RX0 21 yJx4a65c_size_8abf5, Cond.methodLink RX0 33 yJx4a65c_get_915e3, Cond.instanceMethod yJx4a65c_get_915e3, Cond.selects RJx4a65c yJx4a65c_get_915e3 yJx4a65c_get_915e3, Cond.code yJx4a65c_get_915e3 cJx4a65c_get_915e3 2 (some (.object "java/lang/Object")), Cond.methodLink RJx4a65c 118 yJ15_checkIndex_7cf53, Cond.static yJ15_checkIndex_7cf53, Cond.initialized RJ15, Cond.code yJ15_checkIndex_7cf53 cJ15_checkIndex_7cf53 2 (some .int), Cond.methodLink RJ15 105 yJ3_checkIndex_8e157, Cond.static yJ3_checkIndex_8e157, Cond.initialized RJ3, Cond.code yJ3_checkIndex_8e157 cJ3_checkIndex_8e157 3 (some .int), Cond.methodLink RJx4a65c 123 yJx4a65c_elementData_915e3, Cond.instanceMethod yJx4a65c_elementData_915e3, Cond.selects RJx4a65c yJx4a65c_elementData_915e3 yJx4a65c_elementData_915e3, Cond.code yJx4a65c_elementData_915e3 cJx4a65c_elementData_915e3 2 (some (.object "java/lang/Object")), Cond.fieldLink RJx4a65c 9 "java/util/ArrayList" "elementData" "[Ljava/lang/Object;", Cond.methodLink RX0 38 yX3_canNeverMatch, Cond.instanceMethod yX3_canNeverMatch, Cond.selects RX3 yX3_canNeverMatch yX3_canNeverMatch, Cond.initialized RX3]
def wsX4_hider_r3 : List Cond := [Cond.code yX3_canNeverMatch cX3_canNeverMatch 1 (some .boolean), Cond.fieldLink RX3 22 "SyscallFilter$Rule" "value" "J", Cond.fieldLink RX3 18 "SyscallFilter$Rule" "mask" "J", Cond.constantLong RX3 32 (-1), Cond.methodLink RX0 42 yX3_covers, Cond.instanceMethod yX3_covers, Cond.selects RX3 yX3_covers yX3_covers, Cond.code yX3_covers cX3_covers 2 (some .boolean), Cond.fieldLink RX3 9 "SyscallFilter$Rule" "number" "I", Cond.fieldLink RX3 15 "SyscallFilter$Rule" "argument" "I"]
def wsX4_hider : List Cond := .code yX4_hider cX4_hider 3 (some .int) :: ((wsX4_hider_r1 ++ (wsX4_hider_r2 ++ wsX4_hider_r3)) ++ wsX40 ++ wsX00 ++ wsJx4a65c0 ++ wsX30 ++ (vx_atS RX4 38 "java/lang/IllegalArgumentException" ["java/lang/RuntimeException", "java/lang/Exception"]).filter goodWord ++ (vx_atS RX4 145 "java/lang/IndexOutOfBoundsException" ["java/lang/RuntimeException", "java/lang/Exception"]).filter goodWord)
def wsX4_planTrees_r1 : List Cond := [Cond.fieldLink RX4 11 "SyscallFilter" "filters" "[LSyscallFilter$Filter;", Cond.fieldLink RX4 22 "SyscallFilter" "planner" "LSyscallFilter$Planner;", Cond.fieldLink RX4 15 "SyscallFilter" "frequencies" "[I", Cond.methodLink RX4 131 yX0_planTree, Cond.instanceMethod yX0_planTree, Cond.selects RX0 yX0_planTree yX0_planTree, Cond.initialized RX0, Cond.code yX0_planTree cX0_planTree 4 none, Cond.fieldLink RX0 69 "SyscallFilter$Filter" "firstTest" "LSyscallFilter$Node;", Cond.fieldLink RX0 76 "SyscallFilter$Filter" "treeCost" "I", Cond.methodLink RX0 46 yX0_gatherReached, Cond.instanceMethod yX0_gatherReached, Cond.selects RX0 yX0_gatherReached yX0_gatherReached, Cond.code yX0_gatherReached cX0_gatherReached 2 none, Cond.fieldLink RX0 18 "SyscallFilter$Filter" "reached" "Ljava/util/ArrayList;", Cond.fieldLink RX0 12 "SyscallFilter$Filter" "rules" "Ljava/util/ArrayList;", Cond.classLink RX0 36 "SyscallFilter$Rule", Cond.methodLink RX0 80 yJx4a65c_clear_da8c8, Cond.instanceMethod yJx4a65c_clear_da8c8, Cond.selects RJx4a65c yJx4a65c_clear_da8c8 yJx4a65c_clear_da8c8, Cond.initialized RJx4a65c, Cond.code yJx4a65c_clear_da8c8 cJx4a65c_clear_da8c8 4 none, Cond.fieldLink RJx4a65c 63 "java/util/ArrayList" "modCount" "I", Cond.sameField "java/util/ArrayList" "java/util/AbstractList" "modCount" "I"]
def wsX4_planTrees_r2 : List Cond := [Cond.fieldLink RJx4a65c 9 "java/util/ArrayList" "elementData" "[Ljava/lang/Object;", Cond.fieldLink RJx4a65c 48 "java/util/ArrayList" "size" "I", Cond.methodLink RX0 21 yJx4a65c_size_8abf5, Cond.instanceMethod yJx4a65c_size_8abf5, Cond.selects RJx4a65c yJx4a65c_size_8abf5 yJx4a65c_size_8abf5, Cond.code yJx4a65c_size_8abf5 cJx4a65c_size_8abf5 1 (some .int), Cond.methodLink RX0 83 yX0_hiderOf, Cond.instanceMethod yX0_hiderOf, Cond.selects RX0 yX0_hiderOf yX0_hiderOf, Cond.code yX0_hiderOf cX0_hiderOf 4 (some .int), Cond.methodLink RX0 33 yJx4a65c_get_915e3, Cond.instanceMethod yJx4a65c_get_915e3, Cond.selects RJx4a65c yJx4a65c_get_915e3 yJx4a65c_get_915e3, Cond.code yJx4a65c_get_915e3 cJx4a65c_get_915e3 2 (some (.object "java/lang/Object")), Cond.methodLink RJx4a65c 118 yJ15_checkIndex_7cf53, Cond.static yJ15_checkIndex_7cf53, Cond.initialized RJ15, Cond.code yJ15_checkIndex_7cf53 cJ15_checkIndex_7cf53 2 (some .int), Cond.methodLink RJ15 105 yJ3_checkIndex_8e157, Cond.static yJ3_checkIndex_8e157, Cond.initialized RJ3, Cond.code yJ3_checkIndex_8e157 cJ3_checkIndex_8e157 3 (some .int), Cond.methodLink RJx4a65c 123 yJx4a65c_elementData_915e3, Cond.instanceMethod yJx4a65c_elementData_915e3]
def wsX4_planTrees_r3 : List Cond := [Cond.selects RJx4a65c yJx4a65c_elementData_915e3 yJx4a65c_elementData_915e3, Cond.code yJx4a65c_elementData_915e3 cJx4a65c_elementData_915e3 2 (some (.object "java/lang/Object")), Cond.methodLink RX0 38 yX3_canNeverMatch, Cond.instanceMethod yX3_canNeverMatch, Cond.selects RX3 yX3_canNeverMatch yX3_canNeverMatch, Cond.initialized RX3, Cond.code yX3_canNeverMatch cX3_canNeverMatch 1 (some .boolean), Cond.fieldLink RX3 22 "SyscallFilter$Rule" "value" "J", Cond.fieldLink RX3 18 "SyscallFilter$Rule" "mask" "J", Cond.constantLong RX3 32 (-1), Cond.methodLink RX0 42 yX3_covers, Cond.instanceMethod yX3_covers, Cond.selects RX3 yX3_covers yX3_covers, Cond.code yX3_covers cX3_covers 2 (some .boolean), Cond.fieldLink RX3 9 "SyscallFilter$Rule" "number" "I", Cond.fieldLink RX3 15 "SyscallFilter$Rule" "argument" "I", Cond.methodLink RX0 25 yJx4a65c_add_9ea2d, Cond.instanceMethod yJx4a65c_add_9ea2d, Cond.selects RJx4a65c yJx4a65c_add_9ea2d yJx4a65c_add_9ea2d, Cond.code yJx4a65c_add_9ea2d cJx4a65c_add_9ea2d 2 (some .boolean), Cond.methodLink RJx4a65c 131 yJx4a65c_add_72be8, Cond.instanceMethod yJx4a65c_add_72be8, Cond.selects RJx4a65c yJx4a65c_add_72be8 yJx4a65c_add_72be8, Cond.code yJx4a65c_add_72be8 cJx4a65c_add_72be8 4 none]
def wsX4_planTrees_r4 : List Cond := [Cond.methodLink RJx4a65c 129 yJx4a65c_grow_d5877, Cond.instanceMethod yJx4a65c_grow_d5877, Cond.selects RJx4a65c yJx4a65c_grow_d5877 yJx4a65c_grow_d5877, Cond.code yJx4a65c_grow_d5877 cJx4a65c_grow_d5877 1 (some (.array (.object "java/lang/Object"))), Cond.methodLink RJx4a65c 69 yJx4a65c_grow_92f84, Cond.instanceMethod yJx4a65c_grow_92f84, Cond.selects RJx4a65c yJx4a65c_grow_92f84 yJx4a65c_grow_92f84, Cond.code yJx4a65c_grow_92f84 cJx4a65c_grow_92f84 4 (some (.array (.object "java/lang/Object"))), Cond.fieldLink RJx4a65c 39 "java/util/ArrayList" "DEFAULTCAPACITY_EMPTY_ELEMENTDATA" "[Ljava/lang/Object;", Cond.methodLink RJx4a65c 79 Lib.Math.max.name, Cond.static Lib.Math.max.name, Cond.initialized "java/lang/Math", Cond.code Lib.Math.max.name Lib.Math.max.code 2 (some .int), Cond.classLink RJx4a65c 7 "java/lang/Object", Cond.methodLink RJx4a65c 73 yJ8_newLength_cabcc, Cond.static yJ8_newLength_cabcc, Cond.initialized RJ8, Cond.code yJ8_newLength_cabcc cJ8_newLength_cabcc 4 (some .int), Cond.methodLink RJ8 194 Lib.Math.max.name, Cond.constant RJ8 200 (2147483639), Cond.methodLink RJ8 201 yJ8_hugeLength_7cf53, Cond.static yJ8_hugeLength_7cf53, Cond.code yJ8_hugeLength_7cf53 cJ8_hugeLength_7cf53 3 (some .int), Cond.methodLink RJx4a65c 66 yJ7_copyOf_1904c]
def wsX4_planTrees_r5 : List Cond := [Cond.static yJ7_copyOf_1904c, Cond.initialized RJ7, Cond.code yJ7_copyOf_1904c cJ7_copyOf_1904c 2 (some (.array (.object "java/lang/Object"))), Cond.methodLink RJ7 86 ⟨"java/lang/Object", "getClass", "()Ljava/lang/Class;"⟩, Cond.selects "[Ljava/lang/Object;" ⟨"java/lang/Object", "getClass", "()Ljava/lang/Class;"⟩ ⟨"java/lang/Object", "getClass", "()Ljava/lang/Class;"⟩, Cond.instanceMethod ⟨"java/lang/Object", "getClass", "()Ljava/lang/Class;"⟩, Cond.native ⟨"java/lang/Object", "getClass", "()Ljava/lang/Class;"⟩, Cond.methodLink RJ7 300 yJ7_copyOf_6403c, Cond.static yJ7_copyOf_6403c, Cond.code yJ7_copyOf_6403c cJ7_copyOf_6403c 4 (some (.array (.object "java/lang/Object"))), Cond.classLink RJ7 110 "[Ljava/lang/Object;", Cond.classLink RJ7 2 "java/lang/Object", Cond.methodLink RJ7 304 Lib.Math.min.name, Cond.static Lib.Math.min.name, Cond.code Lib.Math.min.name Lib.Math.min.code 2 (some .int), Cond.methodLink RJ7 150 arraycopyName, Cond.native arraycopyName, Cond.static arraycopyName, Cond.initialized "java/lang/System", Cond.methodLink RX0 49 yX2_startAnew, Cond.instanceMethod yX2_startAnew, Cond.selects RX2 yX2_startAnew yX2_startAnew, Cond.initialized RX2, Cond.code yX2_startAnew cX2_startAnew 1 none]
def wsX4_planTrees_r6 : List Cond := [Cond.fieldLink RX2 26 "SyscallFilter$Planner" "size" "I", Cond.methodLink RX0 54 yX0_isReached, Cond.instanceMethod yX0_isReached, Cond.selects RX0 yX0_isReached yX0_isReached, Cond.code yX0_isReached cX0_isReached 3 (some .boolean), Cond.methodLink RX0 58 yX2_take, Cond.instanceMethod yX2_take, Cond.selects RX2 yX2_take yX2_take, Cond.code yX2_take cX2_take 3 none, Cond.fieldLink RX2 9 "SyscallFilter$Planner" "numbers" "[I", Cond.fieldLink RX2 15 "SyscallFilter$Planner" "weights" "[I", Cond.methodLink RX0 62 yX2_weighAllTrees, Cond.instanceMethod yX2_weighAllTrees, Cond.selects RX2 yX2_weighAllTrees yX2_weighAllTrees, Cond.code yX2_weighAllTrees cX2_weighAllTrees 3 none, Cond.methodLink RX2 30 yX2_weighTrees, Cond.instanceMethod yX2_weighTrees, Cond.selects RX2 yX2_weighTrees yX2_weighTrees, Cond.code yX2_weighTrees cX2_weighTrees 5 none, Cond.fieldLink RX2 23 "SyscallFilter$Planner" "firstPlaces" "[[I", Cond.fieldLink RX2 20 "SyscallFilter$Planner" "costs" "[[I", Cond.methodLink RX2 34 yX2_costBelow, Cond.instanceMethod yX2_costBelow, Cond.selects RX2 yX2_costBelow yX2_costBelow]
def wsX4_planTrees_r7 : List Cond := [Cond.code yX2_costBelow cX2_costBelow 4 (some .int), Cond.methodLink RX2 38 yX2_weightOf, Cond.instanceMethod yX2_weightOf, Cond.selects RX2 yX2_weightOf yX2_weightOf, Cond.code yX2_weightOf cX2_weightOf 5 (some .int), Cond.methodLink RX0 65 yX2_bestTree, Cond.instanceMethod yX2_bestTree, Cond.selects RX2 yX2_bestTree yX2_bestTree, Cond.code yX2_bestTree cX2_bestTree 1 (some (.object "SyscallFilter$Node")), Cond.methodLink RX2 42 yX2_grow, Cond.static yX2_grow, Cond.code yX2_grow cX2_grow 5 (some (.object "SyscallFilter$Node")), Cond.classLink RX2 46 RX1, Cond.instantiable RX1 4, Cond.initialized RX1, Cond.methodLink RX2 48 yX1_init, Cond.instanceMethod yX1_init, Cond.code yX1_init cX1_init 5 none, Cond.methodLink RX1 1 objectInit, Cond.instanceMethod objectInit, Cond.code objectInit ⟨#[0xb1]⟩ 1 none, Cond.fieldLink RX1 7 "SyscallFilter$Node" "number" "I", Cond.fieldLink RX1 13 "SyscallFilter$Node" "tests" "I", Cond.fieldLink RX1 16 "SyscallFilter$Node" "lesser" "LSyscallFilter$Node;"]
def wsX4_planTrees_r8 : List Cond := [Cond.fieldLink RX1 20 "SyscallFilter$Node" "greater" "LSyscallFilter$Node;", Cond.methodLink RX0 73 yX2_leastCost, Cond.instanceMethod yX2_leastCost, Cond.selects RX2 yX2_leastCost yX2_leastCost, Cond.code yX2_leastCost cX2_leastCost 1 (some .int)]
def wsX4_planTrees : List Cond := .code yX4_planTrees cX4_planTrees 5 none :: ((wsX4_planTrees_r1 ++ (wsX4_planTrees_r2 ++ (wsX4_planTrees_r3 ++ (wsX4_planTrees_r4 ++ (wsX4_planTrees_r5 ++ (wsX4_planTrees_r6 ++ (wsX4_planTrees_r7 ++ wsX4_planTrees_r8))))))) ++ wsX40 ++ wsX00 ++ wsJx4a65c0 ++ wsX30 ++ wsX20 ++ wsX10)
def wsX4_worstPathOfAll_r1 : List Cond := [Cond.fieldLink RX4 11 "SyscallFilter" "filters" "[LSyscallFilter$Filter;", Cond.methodLink RX4 112 yX0_worstPath, Cond.instanceMethod yX0_worstPath, Cond.selects RX0 yX0_worstPath yX0_worstPath, Cond.initialized RX0, Cond.code yX0_worstPath cX0_worstPath 3 (some .int), Cond.methodLink RX0 105 Lib.Math.max.name, Cond.static Lib.Math.max.name, Cond.initialized "java/lang/Math", Cond.code Lib.Math.max.name Lib.Math.max.code 2 (some .int), Cond.methodLink RX0 99 yX0_numberTests, Cond.instanceMethod yX0_numberTests, Cond.selects RX0 yX0_numberTests yX0_numberTests, Cond.code yX0_numberTests cX0_numberTests 3 (some .int), Cond.methodLink RX0 119 yX0_lastTest, Cond.instanceMethod yX0_lastTest, Cond.selects RX0 yX0_lastTest yX0_lastTest, Cond.code yX0_lastTest cX0_lastTest 4 (some (.object "SyscallFilter$Node")), Cond.fieldLink RX0 69 "SyscallFilter$Filter" "firstTest" "LSyscallFilter$Node;", Cond.methodLink RX0 139 yX1_towards, Cond.instanceMethod yX1_towards, Cond.selects RX1 yX1_towards yX1_towards, Cond.initialized RX1, Cond.code yX1_towards cX1_towards 2 (some (.object "SyscallFilter$Node"))]
def wsX4_worstPathOfAll_r2 : List Cond := [Cond.fieldLink RX1 7 "SyscallFilter$Node" "number" "I", Cond.fieldLink RX1 16 "SyscallFilter$Node" "lesser" "LSyscallFilter$Node;", Cond.fieldLink RX1 20 "SyscallFilter$Node" "greater" "LSyscallFilter$Node;", Cond.methodLink RX0 102 yX0_mostRuleTests, Cond.instanceMethod yX0_mostRuleTests, Cond.selects RX0 yX0_mostRuleTests yX0_mostRuleTests, Cond.code yX0_mostRuleTests cX0_mostRuleTests 4 (some .int), Cond.fieldLink RX0 18 "SyscallFilter$Filter" "reached" "Ljava/util/ArrayList;", Cond.classLink RX0 36 "SyscallFilter$Rule", Cond.methodLink RX0 21 yJx4a65c_size_8abf5, Cond.instanceMethod yJx4a65c_size_8abf5, Cond.selects RJx4a65c yJx4a65c_size_8abf5 yJx4a65c_size_8abf5, Cond.initialized RJx4a65c, Cond.code yJx4a65c_size_8abf5 cJx4a65c_size_8abf5 1 (some .int), Cond.fieldLink RJx4a65c 48 "java/util/ArrayList" "size" "I", Cond.methodLink RX0 33 yJx4a65c_get_915e3, Cond.instanceMethod yJx4a65c_get_915e3, Cond.selects RJx4a65c yJx4a65c_get_915e3 yJx4a65c_get_915e3, Cond.code yJx4a65c_get_915e3 cJx4a65c_get_915e3 2 (some (.object "java/lang/Object")), Cond.methodLink RJx4a65c 118 yJ15_checkIndex_7cf53, Cond.static yJ15_checkIndex_7cf53, Cond.initialized RJ15, Cond.code yJ15_checkIndex_7cf53 cJ15_checkIndex_7cf53 2 (some .int), Cond.methodLink RJ15 105 yJ3_checkIndex_8e157]
def wsX4_worstPathOfAll_r3 : List Cond := [Cond.static yJ3_checkIndex_8e157, Cond.initialized RJ3, Cond.code yJ3_checkIndex_8e157 cJ3_checkIndex_8e157 3 (some .int), Cond.methodLink RJx4a65c 123 yJx4a65c_elementData_915e3, Cond.instanceMethod yJx4a65c_elementData_915e3, Cond.selects RJx4a65c yJx4a65c_elementData_915e3 yJx4a65c_elementData_915e3, Cond.code yJx4a65c_elementData_915e3 cJx4a65c_elementData_915e3 2 (some (.object "java/lang/Object")), Cond.fieldLink RJx4a65c 9 "java/util/ArrayList" "elementData" "[Ljava/lang/Object;", Cond.methodLink RX0 136 yX3_mostTests, Cond.instanceMethod yX3_mostTests, Cond.selects RX3 yX3_mostTests yX3_mostTests, Cond.initialized RX3, Cond.code yX3_mostTests cX3_mostTests 1 (some .int), Cond.methodLink RX3 36 yX3_lowerTests, Cond.instanceMethod yX3_lowerTests, Cond.selects RX3 yX3_lowerTests yX3_lowerTests, Cond.code yX3_lowerTests cX3_lowerTests 1 (some .int), Cond.fieldLink RX3 18 "SyscallFilter$Rule" "mask" "J", Cond.constantLong RX3 34 (4294967295), Cond.methodLink RX3 43 yX3_upperTests, Cond.instanceMethod yX3_upperTests, Cond.selects RX3 yX3_upperTests yX3_upperTests, Cond.code yX3_upperTests cX3_upperTests 1 (some .int), Cond.constantLong RX3 46 (-4294967296)]
def wsX4_worstPathOfAll : List Cond := .code yX4_worstPathOfAll cX4_worstPathOfAll 6 (some .int) :: ((wsX4_worstPathOfAll_r1 ++ (wsX4_worstPathOfAll_r2 ++ wsX4_worstPathOfAll_r3)) ++ wsX40 ++ wsX10 ++ wsX00 ++ wsX30 ++ wsJx4a65c0)
def wsX4_compile_r1 : List Cond := [Cond.classLink RX4 34 "java/lang/IllegalArgumentException", Cond.initialized "java/lang/IllegalArgumentException", Cond.fieldLink RX4 53 "SyscallFilter" "compiled" "Z", Cond.methodLink RX4 95 yX4_planTrees, Cond.instanceMethod yX4_planTrees, Cond.selects RX4 yX4_planTrees yX4_planTrees, Cond.initialized RX4, Cond.code yX4_planTrees cX4_planTrees 5 none, Cond.fieldLink RX4 11 "SyscallFilter" "filters" "[LSyscallFilter$Filter;", Cond.fieldLink RX4 22 "SyscallFilter" "planner" "LSyscallFilter$Planner;", Cond.fieldLink RX4 15 "SyscallFilter" "frequencies" "[I", Cond.methodLink RX4 131 yX0_planTree, Cond.instanceMethod yX0_planTree, Cond.selects RX0 yX0_planTree yX0_planTree, Cond.initialized RX0, Cond.code yX0_planTree cX0_planTree 4 none, Cond.fieldLink RX0 69 "SyscallFilter$Filter" "firstTest" "LSyscallFilter$Node;", Cond.fieldLink RX0 76 "SyscallFilter$Filter" "treeCost" "I", Cond.methodLink RX0 46 yX0_gatherReached, Cond.instanceMethod yX0_gatherReached, Cond.selects RX0 yX0_gatherReached yX0_gatherReached, Cond.code yX0_gatherReached cX0_gatherReached 2 none, Cond.fieldLink RX0 18 "SyscallFilter$Filter" "reached" "Ljava/util/ArrayList;", Cond.fieldLink RX0 12 "SyscallFilter$Filter" "rules" "Ljava/util/ArrayList;"]
def wsX4_compile_r2 : List Cond := [Cond.classLink RX0 36 "SyscallFilter$Rule", Cond.methodLink RX0 80 yJx4a65c_clear_da8c8, Cond.instanceMethod yJx4a65c_clear_da8c8, Cond.selects RJx4a65c yJx4a65c_clear_da8c8 yJx4a65c_clear_da8c8, Cond.initialized RJx4a65c, Cond.code yJx4a65c_clear_da8c8 cJx4a65c_clear_da8c8 4 none, Cond.fieldLink RJx4a65c 63 "java/util/ArrayList" "modCount" "I", Cond.sameField "java/util/ArrayList" "java/util/AbstractList" "modCount" "I", Cond.fieldLink RJx4a65c 9 "java/util/ArrayList" "elementData" "[Ljava/lang/Object;", Cond.fieldLink RJx4a65c 48 "java/util/ArrayList" "size" "I", Cond.methodLink RX0 21 yJx4a65c_size_8abf5, Cond.instanceMethod yJx4a65c_size_8abf5, Cond.selects RJx4a65c yJx4a65c_size_8abf5 yJx4a65c_size_8abf5, Cond.code yJx4a65c_size_8abf5 cJx4a65c_size_8abf5 1 (some .int), Cond.methodLink RX0 83 yX0_hiderOf, Cond.instanceMethod yX0_hiderOf, Cond.selects RX0 yX0_hiderOf yX0_hiderOf, Cond.code yX0_hiderOf cX0_hiderOf 4 (some .int), Cond.methodLink RX0 33 yJx4a65c_get_915e3, Cond.instanceMethod yJx4a65c_get_915e3, Cond.selects RJx4a65c yJx4a65c_get_915e3 yJx4a65c_get_915e3, Cond.code yJx4a65c_get_915e3 cJx4a65c_get_915e3 2 (some (.object "java/lang/Object")), Cond.methodLink RJx4a65c 118 yJ15_checkIndex_7cf53, Cond.static yJ15_checkIndex_7cf53]
def wsX4_compile_r3 : List Cond := [Cond.initialized RJ15, Cond.code yJ15_checkIndex_7cf53 cJ15_checkIndex_7cf53 2 (some .int), Cond.methodLink RJ15 105 yJ3_checkIndex_8e157, Cond.static yJ3_checkIndex_8e157, Cond.initialized RJ3, Cond.code yJ3_checkIndex_8e157 cJ3_checkIndex_8e157 3 (some .int), Cond.methodLink RJx4a65c 123 yJx4a65c_elementData_915e3, Cond.instanceMethod yJx4a65c_elementData_915e3, Cond.selects RJx4a65c yJx4a65c_elementData_915e3 yJx4a65c_elementData_915e3, Cond.code yJx4a65c_elementData_915e3 cJx4a65c_elementData_915e3 2 (some (.object "java/lang/Object")), Cond.methodLink RX0 38 yX3_canNeverMatch, Cond.instanceMethod yX3_canNeverMatch, Cond.selects RX3 yX3_canNeverMatch yX3_canNeverMatch, Cond.initialized RX3, Cond.code yX3_canNeverMatch cX3_canNeverMatch 1 (some .boolean), Cond.fieldLink RX3 22 "SyscallFilter$Rule" "value" "J", Cond.fieldLink RX3 18 "SyscallFilter$Rule" "mask" "J", Cond.constantLong RX3 32 (-1), Cond.methodLink RX0 42 yX3_covers, Cond.instanceMethod yX3_covers, Cond.selects RX3 yX3_covers yX3_covers, Cond.code yX3_covers cX3_covers 2 (some .boolean), Cond.fieldLink RX3 9 "SyscallFilter$Rule" "number" "I", Cond.fieldLink RX3 15 "SyscallFilter$Rule" "argument" "I"]
def wsX4_compile_r4 : List Cond := [Cond.methodLink RX0 25 yJx4a65c_add_9ea2d, Cond.instanceMethod yJx4a65c_add_9ea2d, Cond.selects RJx4a65c yJx4a65c_add_9ea2d yJx4a65c_add_9ea2d, Cond.code yJx4a65c_add_9ea2d cJx4a65c_add_9ea2d 2 (some .boolean), Cond.methodLink RJx4a65c 131 yJx4a65c_add_72be8, Cond.instanceMethod yJx4a65c_add_72be8, Cond.selects RJx4a65c yJx4a65c_add_72be8 yJx4a65c_add_72be8, Cond.code yJx4a65c_add_72be8 cJx4a65c_add_72be8 4 none, Cond.methodLink RJx4a65c 129 yJx4a65c_grow_d5877, Cond.instanceMethod yJx4a65c_grow_d5877, Cond.selects RJx4a65c yJx4a65c_grow_d5877 yJx4a65c_grow_d5877, Cond.code yJx4a65c_grow_d5877 cJx4a65c_grow_d5877 1 (some (.array (.object "java/lang/Object"))), Cond.methodLink RJx4a65c 69 yJx4a65c_grow_92f84, Cond.instanceMethod yJx4a65c_grow_92f84, Cond.selects RJx4a65c yJx4a65c_grow_92f84 yJx4a65c_grow_92f84, Cond.code yJx4a65c_grow_92f84 cJx4a65c_grow_92f84 4 (some (.array (.object "java/lang/Object"))), Cond.fieldLink RJx4a65c 39 "java/util/ArrayList" "DEFAULTCAPACITY_EMPTY_ELEMENTDATA" "[Ljava/lang/Object;", Cond.methodLink RJx4a65c 79 Lib.Math.max.name, Cond.static Lib.Math.max.name, Cond.initialized "java/lang/Math", Cond.code Lib.Math.max.name Lib.Math.max.code 2 (some .int), Cond.classLink RJx4a65c 7 "java/lang/Object", Cond.methodLink RJx4a65c 73 yJ8_newLength_cabcc, Cond.static yJ8_newLength_cabcc]
def wsX4_compile_r5 : List Cond := [Cond.initialized RJ8, Cond.code yJ8_newLength_cabcc cJ8_newLength_cabcc 4 (some .int), Cond.methodLink RJ8 194 Lib.Math.max.name, Cond.constant RJ8 200 (2147483639), Cond.methodLink RJ8 201 yJ8_hugeLength_7cf53, Cond.static yJ8_hugeLength_7cf53, Cond.code yJ8_hugeLength_7cf53 cJ8_hugeLength_7cf53 3 (some .int), Cond.methodLink RJx4a65c 66 yJ7_copyOf_1904c, Cond.static yJ7_copyOf_1904c, Cond.initialized RJ7, Cond.code yJ7_copyOf_1904c cJ7_copyOf_1904c 2 (some (.array (.object "java/lang/Object"))), Cond.methodLink RJ7 86 ⟨"java/lang/Object", "getClass", "()Ljava/lang/Class;"⟩, Cond.selects "[Ljava/lang/Object;" ⟨"java/lang/Object", "getClass", "()Ljava/lang/Class;"⟩ ⟨"java/lang/Object", "getClass", "()Ljava/lang/Class;"⟩, Cond.instanceMethod ⟨"java/lang/Object", "getClass", "()Ljava/lang/Class;"⟩, Cond.native ⟨"java/lang/Object", "getClass", "()Ljava/lang/Class;"⟩, Cond.methodLink RJ7 300 yJ7_copyOf_6403c, Cond.static yJ7_copyOf_6403c, Cond.code yJ7_copyOf_6403c cJ7_copyOf_6403c 4 (some (.array (.object "java/lang/Object"))), Cond.classLink RJ7 110 "[Ljava/lang/Object;", Cond.classLink RJ7 2 "java/lang/Object", Cond.methodLink RJ7 304 Lib.Math.min.name, Cond.static Lib.Math.min.name, Cond.code Lib.Math.min.name Lib.Math.min.code 2 (some .int), Cond.methodLink RJ7 150 arraycopyName]
def wsX4_compile_r6 : List Cond := [Cond.native arraycopyName, Cond.static arraycopyName, Cond.initialized "java/lang/System", Cond.methodLink RX0 49 yX2_startAnew, Cond.instanceMethod yX2_startAnew, Cond.selects RX2 yX2_startAnew yX2_startAnew, Cond.initialized RX2, Cond.code yX2_startAnew cX2_startAnew 1 none, Cond.fieldLink RX2 26 "SyscallFilter$Planner" "size" "I", Cond.methodLink RX0 54 yX0_isReached, Cond.instanceMethod yX0_isReached, Cond.selects RX0 yX0_isReached yX0_isReached, Cond.code yX0_isReached cX0_isReached 3 (some .boolean), Cond.methodLink RX0 58 yX2_take, Cond.instanceMethod yX2_take, Cond.selects RX2 yX2_take yX2_take, Cond.code yX2_take cX2_take 3 none, Cond.fieldLink RX2 9 "SyscallFilter$Planner" "numbers" "[I", Cond.fieldLink RX2 15 "SyscallFilter$Planner" "weights" "[I", Cond.methodLink RX0 62 yX2_weighAllTrees, Cond.instanceMethod yX2_weighAllTrees, Cond.selects RX2 yX2_weighAllTrees yX2_weighAllTrees, Cond.code yX2_weighAllTrees cX2_weighAllTrees 3 none, Cond.methodLink RX2 30 yX2_weighTrees]
def wsX4_compile_r7 : List Cond := [Cond.instanceMethod yX2_weighTrees, Cond.selects RX2 yX2_weighTrees yX2_weighTrees, Cond.code yX2_weighTrees cX2_weighTrees 5 none, Cond.fieldLink RX2 23 "SyscallFilter$Planner" "firstPlaces" "[[I", Cond.fieldLink RX2 20 "SyscallFilter$Planner" "costs" "[[I", Cond.methodLink RX2 34 yX2_costBelow, Cond.instanceMethod yX2_costBelow, Cond.selects RX2 yX2_costBelow yX2_costBelow, Cond.code yX2_costBelow cX2_costBelow 4 (some .int), Cond.methodLink RX2 38 yX2_weightOf, Cond.instanceMethod yX2_weightOf, Cond.selects RX2 yX2_weightOf yX2_weightOf, Cond.code yX2_weightOf cX2_weightOf 5 (some .int), Cond.methodLink RX0 65 yX2_bestTree, Cond.instanceMethod yX2_bestTree, Cond.selects RX2 yX2_bestTree yX2_bestTree, Cond.code yX2_bestTree cX2_bestTree 1 (some (.object "SyscallFilter$Node")), Cond.methodLink RX2 42 yX2_grow, Cond.static yX2_grow, Cond.code yX2_grow cX2_grow 5 (some (.object "SyscallFilter$Node")), Cond.classLink RX2 46 RX1, Cond.instantiable RX1 4, Cond.initialized RX1, Cond.methodLink RX2 48 yX1_init]
def wsX4_compile_r8 : List Cond := [Cond.instanceMethod yX1_init, Cond.code yX1_init cX1_init 5 none, Cond.methodLink RX1 1 objectInit, Cond.instanceMethod objectInit, Cond.code objectInit ⟨#[0xb1]⟩ 1 none, Cond.fieldLink RX1 7 "SyscallFilter$Node" "number" "I", Cond.fieldLink RX1 13 "SyscallFilter$Node" "tests" "I", Cond.fieldLink RX1 16 "SyscallFilter$Node" "lesser" "LSyscallFilter$Node;", Cond.fieldLink RX1 20 "SyscallFilter$Node" "greater" "LSyscallFilter$Node;", Cond.methodLink RX0 73 yX2_leastCost, Cond.instanceMethod yX2_leastCost, Cond.selects RX2 yX2_leastCost yX2_leastCost, Cond.code yX2_leastCost cX2_leastCost 1 (some .int), Cond.methodLink RX4 98 yX4_worstPathOfAll, Cond.instanceMethod yX4_worstPathOfAll, Cond.selects RX4 yX4_worstPathOfAll yX4_worstPathOfAll, Cond.code yX4_worstPathOfAll cX4_worstPathOfAll 6 (some .int), Cond.methodLink RX4 112 yX0_worstPath, Cond.instanceMethod yX0_worstPath, Cond.selects RX0 yX0_worstPath yX0_worstPath, Cond.code yX0_worstPath cX0_worstPath 3 (some .int), Cond.methodLink RX0 105 Lib.Math.max.name, Cond.methodLink RX0 99 yX0_numberTests, Cond.instanceMethod yX0_numberTests]
def wsX4_compile_r9 : List Cond := [Cond.selects RX0 yX0_numberTests yX0_numberTests, Cond.code yX0_numberTests cX0_numberTests 3 (some .int), Cond.methodLink RX0 119 yX0_lastTest, Cond.instanceMethod yX0_lastTest, Cond.selects RX0 yX0_lastTest yX0_lastTest, Cond.code yX0_lastTest cX0_lastTest 4 (some (.object "SyscallFilter$Node")), Cond.methodLink RX0 139 yX1_towards, Cond.instanceMethod yX1_towards, Cond.selects RX1 yX1_towards yX1_towards, Cond.code yX1_towards cX1_towards 2 (some (.object "SyscallFilter$Node")), Cond.methodLink RX0 102 yX0_mostRuleTests, Cond.instanceMethod yX0_mostRuleTests, Cond.selects RX0 yX0_mostRuleTests yX0_mostRuleTests, Cond.code yX0_mostRuleTests cX0_mostRuleTests 4 (some .int), Cond.methodLink RX0 136 yX3_mostTests, Cond.instanceMethod yX3_mostTests, Cond.selects RX3 yX3_mostTests yX3_mostTests, Cond.code yX3_mostTests cX3_mostTests 1 (some .int), Cond.methodLink RX3 36 yX3_lowerTests, Cond.instanceMethod yX3_lowerTests, Cond.selects RX3 yX3_lowerTests yX3_lowerTests, Cond.code yX3_lowerTests cX3_lowerTests 1 (some .int), Cond.constantLong RX3 34 (4294967295), Cond.methodLink RX3 43 yX3_upperTests]
def wsX4_compile_r10 : List Cond := [Cond.instanceMethod yX3_upperTests, Cond.selects RX3 yX3_upperTests yX3_upperTests, Cond.code yX3_upperTests cX3_upperTests 1 (some .int), Cond.constantLong RX3 46 (-4294967296)]
def wsX4_compile : List Cond := .code yX4_compile cX4_compile 3 (some .int) :: ((wsX4_compile_r1 ++ (wsX4_compile_r2 ++ (wsX4_compile_r3 ++ (wsX4_compile_r4 ++ (wsX4_compile_r5 ++ (wsX4_compile_r6 ++ (wsX4_compile_r7 ++ (wsX4_compile_r8 ++ (wsX4_compile_r9 ++ wsX4_compile_r10))))))))) ++ wsX40 ++ wsX00 ++ wsJx4a65c0 ++ wsX30 ++ wsX20 ++ wsX10 ++ (vx_atS RX4 38 "java/lang/IllegalArgumentException" ["java/lang/RuntimeException", "java/lang/Exception"]).filter goodWord)
def wsX4_isCompiled : List Cond := .code yX4_isCompiled cX4_isCompiled 1 (some .boolean) :: ([.fieldLink RX4 53 "SyscallFilter" "compiled" "Z"] ++ wsX40)
def wsX4_requireCompiled : List Cond := .code yX4_requireCompiled cX4_requireCompiled 1 none :: ([.classLink RX4 48 "java/lang/IllegalStateException", .initialized "java/lang/IllegalStateException", .fieldLink RX4 53 "SyscallFilter" "compiled" "Z"] ++ wsX40 ++ (vx_atS RX4 52 "java/lang/IllegalStateException" ["java/lang/RuntimeException", "java/lang/Exception"]).filter goodWord)
def wsX4_test : List Cond := .code yX4_test cX4_test 3 (some .int) :: ([.classLink RX4 34 "java/lang/IllegalArgumentException", .initialized "java/lang/IllegalArgumentException", .fieldLink RX4 11 "SyscallFilter" "filters" "[LSyscallFilter$Filter;", .methodLink RX4 27 yX4_requireFilter, .static yX4_requireFilter, .initialized RX4, .code yX4_requireFilter cX4_requireFilter 1 none, .methodLink RX4 103 yX4_requireCompiled, .instanceMethod yX4_requireCompiled, .selects RX4 yX4_requireCompiled yX4_requireCompiled, .code yX4_requireCompiled cX4_requireCompiled 1 none, .classLink RX4 48 "java/lang/IllegalStateException", .initialized "java/lang/IllegalStateException", .fieldLink RX4 53 "SyscallFilter" "compiled" "Z", .methodLink RX4 106 yX0_numberAt, .instanceMethod yX0_numberAt, .selects RX0 yX0_numberAt yX0_numberAt, .initialized RX0, .code yX0_numberAt cX0_numberAt 4 (some .int), .fieldLink RX0 69 "SyscallFilter$Filter" "firstTest" "LSyscallFilter$Node;"] ++ wsX40 ++ wsX00 ++ wsX10 ++ (vx_atS RX4 38 "java/lang/IllegalArgumentException" ["java/lang/RuntimeException", "java/lang/Exception"]).filter goodWord ++ (vx_atS RX4 52 "java/lang/IllegalStateException" ["java/lang/RuntimeException", "java/lang/Exception"]).filter goodWord)
def wsX4_cost : List Cond := .code yX4_cost cX4_cost 2 (some .int) :: ([.fieldLink RX4 11 "SyscallFilter" "filters" "[LSyscallFilter$Filter;", .methodLink RX4 27 yX4_requireFilter, .static yX4_requireFilter, .initialized RX4, .code yX4_requireFilter cX4_requireFilter 1 none, .classLink RX4 34 "java/lang/IllegalArgumentException", .initialized "java/lang/IllegalArgumentException", .methodLink RX4 103 yX4_requireCompiled, .instanceMethod yX4_requireCompiled, .selects RX4 yX4_requireCompiled yX4_requireCompiled, .code yX4_requireCompiled cX4_requireCompiled 1 none, .classLink RX4 48 "java/lang/IllegalStateException", .initialized "java/lang/IllegalStateException", .fieldLink RX4 53 "SyscallFilter" "compiled" "Z"] ++ wsX40 ++ wsX00 ++ (vx_atS RX4 38 "java/lang/IllegalArgumentException" ["java/lang/RuntimeException", "java/lang/Exception"]).filter goodWord ++ (vx_atS RX4 52 "java/lang/IllegalStateException" ["java/lang/RuntimeException", "java/lang/Exception"]).filter goodWord)
def wsX4_worst_r1 : List Cond := [Cond.fieldLink RX4 11 "SyscallFilter" "filters" "[LSyscallFilter$Filter;", Cond.methodLink RX4 27 yX4_requireFilter, Cond.static yX4_requireFilter, Cond.initialized RX4, Cond.code yX4_requireFilter cX4_requireFilter 1 none, Cond.classLink RX4 34 "java/lang/IllegalArgumentException", Cond.initialized "java/lang/IllegalArgumentException", Cond.methodLink RX4 103 yX4_requireCompiled, Cond.instanceMethod yX4_requireCompiled, Cond.selects RX4 yX4_requireCompiled yX4_requireCompiled, Cond.code yX4_requireCompiled cX4_requireCompiled 1 none, Cond.classLink RX4 48 "java/lang/IllegalStateException", Cond.initialized "java/lang/IllegalStateException", Cond.fieldLink RX4 53 "SyscallFilter" "compiled" "Z", Cond.methodLink RX4 112 yX0_worstPath, Cond.instanceMethod yX0_worstPath, Cond.selects RX0 yX0_worstPath yX0_worstPath, Cond.initialized RX0, Cond.code yX0_worstPath cX0_worstPath 3 (some .int), Cond.methodLink RX0 105 Lib.Math.max.name, Cond.static Lib.Math.max.name, Cond.initialized "java/lang/Math", Cond.code Lib.Math.max.name Lib.Math.max.code 2 (some .int), Cond.methodLink RX0 99 yX0_numberTests]
def wsX4_worst_r2 : List Cond := [Cond.instanceMethod yX0_numberTests, Cond.selects RX0 yX0_numberTests yX0_numberTests, Cond.code yX0_numberTests cX0_numberTests 3 (some .int), Cond.methodLink RX0 119 yX0_lastTest, Cond.instanceMethod yX0_lastTest, Cond.selects RX0 yX0_lastTest yX0_lastTest, Cond.code yX0_lastTest cX0_lastTest 4 (some (.object "SyscallFilter$Node")), Cond.fieldLink RX0 69 "SyscallFilter$Filter" "firstTest" "LSyscallFilter$Node;", Cond.methodLink RX0 139 yX1_towards, Cond.instanceMethod yX1_towards, Cond.selects RX1 yX1_towards yX1_towards, Cond.initialized RX1, Cond.code yX1_towards cX1_towards 2 (some (.object "SyscallFilter$Node")), Cond.fieldLink RX1 7 "SyscallFilter$Node" "number" "I", Cond.fieldLink RX1 16 "SyscallFilter$Node" "lesser" "LSyscallFilter$Node;", Cond.fieldLink RX1 20 "SyscallFilter$Node" "greater" "LSyscallFilter$Node;", Cond.methodLink RX0 102 yX0_mostRuleTests, Cond.instanceMethod yX0_mostRuleTests, Cond.selects RX0 yX0_mostRuleTests yX0_mostRuleTests, Cond.code yX0_mostRuleTests cX0_mostRuleTests 4 (some .int), Cond.fieldLink RX0 18 "SyscallFilter$Filter" "reached" "Ljava/util/ArrayList;", Cond.classLink RX0 36 "SyscallFilter$Rule", Cond.methodLink RX0 21 yJx4a65c_size_8abf5, Cond.instanceMethod yJx4a65c_size_8abf5]
def wsX4_worst_r3 : List Cond := [Cond.selects RJx4a65c yJx4a65c_size_8abf5 yJx4a65c_size_8abf5, Cond.initialized RJx4a65c, Cond.code yJx4a65c_size_8abf5 cJx4a65c_size_8abf5 1 (some .int), Cond.fieldLink RJx4a65c 48 "java/util/ArrayList" "size" "I", Cond.methodLink RX0 33 yJx4a65c_get_915e3, Cond.instanceMethod yJx4a65c_get_915e3, Cond.selects RJx4a65c yJx4a65c_get_915e3 yJx4a65c_get_915e3, Cond.code yJx4a65c_get_915e3 cJx4a65c_get_915e3 2 (some (.object "java/lang/Object")), Cond.methodLink RJx4a65c 118 yJ15_checkIndex_7cf53, Cond.static yJ15_checkIndex_7cf53, Cond.initialized RJ15, Cond.code yJ15_checkIndex_7cf53 cJ15_checkIndex_7cf53 2 (some .int), Cond.methodLink RJ15 105 yJ3_checkIndex_8e157, Cond.static yJ3_checkIndex_8e157, Cond.initialized RJ3, Cond.code yJ3_checkIndex_8e157 cJ3_checkIndex_8e157 3 (some .int), Cond.methodLink RJx4a65c 123 yJx4a65c_elementData_915e3, Cond.instanceMethod yJx4a65c_elementData_915e3, Cond.selects RJx4a65c yJx4a65c_elementData_915e3 yJx4a65c_elementData_915e3, Cond.code yJx4a65c_elementData_915e3 cJx4a65c_elementData_915e3 2 (some (.object "java/lang/Object")), Cond.fieldLink RJx4a65c 9 "java/util/ArrayList" "elementData" "[Ljava/lang/Object;", Cond.methodLink RX0 136 yX3_mostTests, Cond.instanceMethod yX3_mostTests, Cond.selects RX3 yX3_mostTests yX3_mostTests]
def wsX4_worst_r4 : List Cond := [Cond.initialized RX3, Cond.code yX3_mostTests cX3_mostTests 1 (some .int), Cond.methodLink RX3 36 yX3_lowerTests, Cond.instanceMethod yX3_lowerTests, Cond.selects RX3 yX3_lowerTests yX3_lowerTests, Cond.code yX3_lowerTests cX3_lowerTests 1 (some .int), Cond.fieldLink RX3 18 "SyscallFilter$Rule" "mask" "J", Cond.constantLong RX3 34 (4294967295), Cond.methodLink RX3 43 yX3_upperTests, Cond.instanceMethod yX3_upperTests, Cond.selects RX3 yX3_upperTests yX3_upperTests, Cond.code yX3_upperTests cX3_upperTests 1 (some .int), Cond.constantLong RX3 46 (-4294967296)]
def wsX4_worst : List Cond := .code yX4_worst cX4_worst 2 (some .int) :: ((wsX4_worst_r1 ++ (wsX4_worst_r2 ++ (wsX4_worst_r3 ++ wsX4_worst_r4))) ++ wsX40 ++ wsX10 ++ wsX00 ++ wsX30 ++ wsJx4a65c0 ++ (vx_atS RX4 38 "java/lang/IllegalArgumentException" ["java/lang/RuntimeException", "java/lang/Exception"]).filter goodWord ++ (vx_atS RX4 52 "java/lang/IllegalStateException" ["java/lang/RuntimeException", "java/lang/Exception"]).filter goodWord)
def wsX4_judge_r1 : List Cond := [Cond.fieldLink RX4 11 "SyscallFilter" "filters" "[LSyscallFilter$Filter;", Cond.methodLink RX4 119 Lib.Math.max.name, Cond.static Lib.Math.max.name, Cond.initialized "java/lang/Math", Cond.code Lib.Math.max.name Lib.Math.max.code 2 (some .int), Cond.methodLink RX4 31 yX4_requireNumber, Cond.static yX4_requireNumber, Cond.initialized RX4, Cond.code yX4_requireNumber cX4_requireNumber 1 none, Cond.classLink RX4 34 "java/lang/IllegalArgumentException", Cond.initialized "java/lang/IllegalArgumentException", Cond.methodLink RX4 103 yX4_requireCompiled, Cond.instanceMethod yX4_requireCompiled, Cond.selects RX4 yX4_requireCompiled yX4_requireCompiled, Cond.code yX4_requireCompiled cX4_requireCompiled 1 none, Cond.classLink RX4 48 "java/lang/IllegalStateException", Cond.initialized "java/lang/IllegalStateException", Cond.fieldLink RX4 53 "SyscallFilter" "compiled" "Z", Cond.methodLink RX4 115 yX0_actionByTree, Cond.instanceMethod yX0_actionByTree, Cond.selects RX0 yX0_actionByTree yX0_actionByTree, Cond.initialized RX0, Cond.code yX0_actionByTree cX0_actionByTree 7 (some .int), Cond.fieldLink RX0 123 "SyscallFilter$Filter" "defaultAction" "I"]
def wsX4_judge_r2 : List Cond := [Cond.fieldLink RX0 18 "SyscallFilter$Filter" "reached" "Ljava/util/ArrayList;", Cond.methodLink RX0 119 yX0_lastTest, Cond.instanceMethod yX0_lastTest, Cond.selects RX0 yX0_lastTest yX0_lastTest, Cond.code yX0_lastTest cX0_lastTest 4 (some (.object "SyscallFilter$Node")), Cond.fieldLink RX0 69 "SyscallFilter$Filter" "firstTest" "LSyscallFilter$Node;", Cond.methodLink RX0 139 yX1_towards, Cond.instanceMethod yX1_towards, Cond.selects RX1 yX1_towards yX1_towards, Cond.initialized RX1, Cond.code yX1_towards cX1_towards 2 (some (.object "SyscallFilter$Node")), Cond.fieldLink RX1 7 "SyscallFilter$Node" "number" "I", Cond.fieldLink RX1 16 "SyscallFilter$Node" "lesser" "LSyscallFilter$Node;", Cond.fieldLink RX1 20 "SyscallFilter$Node" "greater" "LSyscallFilter$Node;", Cond.methodLink RX0 126 yX0_actionOfFirstMatch, Cond.instanceMethod yX0_actionOfFirstMatch, Cond.selects RX0 yX0_actionOfFirstMatch yX0_actionOfFirstMatch, Cond.code yX0_actionOfFirstMatch cX0_actionOfFirstMatch 9 (some .int), Cond.classLink RX0 36 "SyscallFilter$Rule", Cond.methodLink RX0 21 yJx4a65c_size_8abf5, Cond.instanceMethod yJx4a65c_size_8abf5, Cond.selects RJx4a65c yJx4a65c_size_8abf5 yJx4a65c_size_8abf5, Cond.initialized RJx4a65c, Cond.code yJx4a65c_size_8abf5 cJx4a65c_size_8abf5 1 (some .int)]
def wsX4_judge_r3 : List Cond := [Cond.fieldLink RJx4a65c 48 "java/util/ArrayList" "size" "I", Cond.methodLink RX0 33 yJx4a65c_get_915e3, Cond.instanceMethod yJx4a65c_get_915e3, Cond.selects RJx4a65c yJx4a65c_get_915e3 yJx4a65c_get_915e3, Cond.code yJx4a65c_get_915e3 cJx4a65c_get_915e3 2 (some (.object "java/lang/Object")), Cond.methodLink RJx4a65c 118 yJ15_checkIndex_7cf53, Cond.static yJ15_checkIndex_7cf53, Cond.initialized RJ15, Cond.code yJ15_checkIndex_7cf53 cJ15_checkIndex_7cf53 2 (some .int), Cond.methodLink RJ15 105 yJ3_checkIndex_8e157, Cond.static yJ3_checkIndex_8e157, Cond.initialized RJ3, Cond.code yJ3_checkIndex_8e157 cJ3_checkIndex_8e157 3 (some .int), Cond.methodLink RJx4a65c 123 yJx4a65c_elementData_915e3, Cond.instanceMethod yJx4a65c_elementData_915e3, Cond.selects RJx4a65c yJx4a65c_elementData_915e3 yJx4a65c_elementData_915e3, Cond.code yJx4a65c_elementData_915e3 cJx4a65c_elementData_915e3 2 (some (.object "java/lang/Object")), Cond.fieldLink RJx4a65c 9 "java/util/ArrayList" "elementData" "[Ljava/lang/Object;", Cond.methodLink RX0 115 yX3_matches, Cond.instanceMethod yX3_matches, Cond.selects RX3 yX3_matches yX3_matches, Cond.initialized RX3, Cond.code yX3_matches cX3_matches 5 (some .boolean), Cond.fieldLink RX3 18 "SyscallFilter$Rule" "mask" "J"]
def wsX4_judge_r4 : List Cond := [Cond.fieldLink RX3 22 "SyscallFilter$Rule" "value" "J", Cond.methodLink RX3 28 yX3_argumentOf, Cond.instanceMethod yX3_argumentOf, Cond.selects RX3 yX3_argumentOf yX3_argumentOf, Cond.code yX3_argumentOf cX3_argumentOf 5 (some .long), Cond.fieldLink RX3 15 "SyscallFilter$Rule" "argument" "I"]
def wsX4_judge : List Cond := .code yX4_judge cX4_judge 11 (some .int) :: ((wsX4_judge_r1 ++ (wsX4_judge_r2 ++ (wsX4_judge_r3 ++ wsX4_judge_r4))) ++ wsX40 ++ wsX10 ++ wsX00 ++ wsX30 ++ wsJx4a65c0 ++ (vx_atS RX4 38 "java/lang/IllegalArgumentException" ["java/lang/RuntimeException", "java/lang/Exception"]).filter goodWord ++ (vx_atS RX4 52 "java/lang/IllegalStateException" ["java/lang/RuntimeException", "java/lang/Exception"]).filter goodWord)
def wsX4_judgeByRules_r1 : List Cond := [Cond.fieldLink RX4 11 "SyscallFilter" "filters" "[LSyscallFilter$Filter;", Cond.methodLink RX4 119 Lib.Math.max.name, Cond.static Lib.Math.max.name, Cond.initialized "java/lang/Math", Cond.code Lib.Math.max.name Lib.Math.max.code 2 (some .int), Cond.methodLink RX4 31 yX4_requireNumber, Cond.static yX4_requireNumber, Cond.initialized RX4, Cond.code yX4_requireNumber cX4_requireNumber 1 none, Cond.classLink RX4 34 "java/lang/IllegalArgumentException", Cond.initialized "java/lang/IllegalArgumentException", Cond.methodLink RX4 125 yX0_actionByRules, Cond.instanceMethod yX0_actionByRules, Cond.selects RX0 yX0_actionByRules yX0_actionByRules, Cond.initialized RX0, Cond.code yX0_actionByRules cX0_actionByRules 6 (some .int), Cond.fieldLink RX0 12 "SyscallFilter$Filter" "rules" "Ljava/util/ArrayList;", Cond.methodLink RX0 126 yX0_actionOfFirstMatch, Cond.instanceMethod yX0_actionOfFirstMatch, Cond.selects RX0 yX0_actionOfFirstMatch yX0_actionOfFirstMatch, Cond.code yX0_actionOfFirstMatch cX0_actionOfFirstMatch 9 (some .int), Cond.classLink RX0 36 "SyscallFilter$Rule", Cond.fieldLink RX0 123 "SyscallFilter$Filter" "defaultAction" "I", Cond.methodLink RX0 21 yJx4a65c_size_8abf5]
def wsX4_judgeByRules_r2 : List Cond := [Cond.instanceMethod yJx4a65c_size_8abf5, Cond.selects RJx4a65c yJx4a65c_size_8abf5 yJx4a65c_size_8abf5, Cond.initialized RJx4a65c, Cond.code yJx4a65c_size_8abf5 cJx4a65c_size_8abf5 1 (some .int), Cond.fieldLink RJx4a65c 48 "java/util/ArrayList" "size" "I", Cond.methodLink RX0 33 yJx4a65c_get_915e3, Cond.instanceMethod yJx4a65c_get_915e3, Cond.selects RJx4a65c yJx4a65c_get_915e3 yJx4a65c_get_915e3, Cond.code yJx4a65c_get_915e3 cJx4a65c_get_915e3 2 (some (.object "java/lang/Object")), Cond.methodLink RJx4a65c 118 yJ15_checkIndex_7cf53, Cond.static yJ15_checkIndex_7cf53, Cond.initialized RJ15, Cond.code yJ15_checkIndex_7cf53 cJ15_checkIndex_7cf53 2 (some .int), Cond.methodLink RJ15 105 yJ3_checkIndex_8e157, Cond.static yJ3_checkIndex_8e157, Cond.initialized RJ3, Cond.code yJ3_checkIndex_8e157 cJ3_checkIndex_8e157 3 (some .int), Cond.methodLink RJx4a65c 123 yJx4a65c_elementData_915e3, Cond.instanceMethod yJx4a65c_elementData_915e3, Cond.selects RJx4a65c yJx4a65c_elementData_915e3 yJx4a65c_elementData_915e3, Cond.code yJx4a65c_elementData_915e3 cJx4a65c_elementData_915e3 2 (some (.object "java/lang/Object")), Cond.fieldLink RJx4a65c 9 "java/util/ArrayList" "elementData" "[Ljava/lang/Object;", Cond.methodLink RX0 115 yX3_matches, Cond.instanceMethod yX3_matches]
def wsX4_judgeByRules_r3 : List Cond := [Cond.selects RX3 yX3_matches yX3_matches, Cond.initialized RX3, Cond.code yX3_matches cX3_matches 5 (some .boolean), Cond.fieldLink RX3 18 "SyscallFilter$Rule" "mask" "J", Cond.fieldLink RX3 22 "SyscallFilter$Rule" "value" "J", Cond.methodLink RX3 28 yX3_argumentOf, Cond.instanceMethod yX3_argumentOf, Cond.selects RX3 yX3_argumentOf yX3_argumentOf, Cond.code yX3_argumentOf cX3_argumentOf 5 (some .long), Cond.fieldLink RX3 15 "SyscallFilter$Rule" "argument" "I"]
def wsX4_judgeByRules : List Cond := .code yX4_judgeByRules cX4_judgeByRules 11 (some .int) :: ((wsX4_judgeByRules_r1 ++ (wsX4_judgeByRules_r2 ++ wsX4_judgeByRules_r3)) ++ wsX40 ++ wsX00 ++ wsX30 ++ wsJx4a65c0 ++ (vx_atS RX4 38 "java/lang/IllegalArgumentException" ["java/lang/RuntimeException", "java/lang/Exception"]).filter goodWord)
def wsX4_path_r1 : List Cond := [Cond.fieldLink RX4 11 "SyscallFilter" "filters" "[LSyscallFilter$Filter;", Cond.methodLink RX4 31 yX4_requireNumber, Cond.static yX4_requireNumber, Cond.initialized RX4, Cond.code yX4_requireNumber cX4_requireNumber 1 none, Cond.classLink RX4 34 "java/lang/IllegalArgumentException", Cond.initialized "java/lang/IllegalArgumentException", Cond.methodLink RX4 103 yX4_requireCompiled, Cond.instanceMethod yX4_requireCompiled, Cond.selects RX4 yX4_requireCompiled yX4_requireCompiled, Cond.code yX4_requireCompiled cX4_requireCompiled 1 none, Cond.classLink RX4 48 "java/lang/IllegalStateException", Cond.initialized "java/lang/IllegalStateException", Cond.fieldLink RX4 53 "SyscallFilter" "compiled" "Z", Cond.methodLink RX4 128 yX0_pathOf, Cond.instanceMethod yX0_pathOf, Cond.selects RX0 yX0_pathOf yX0_pathOf, Cond.initialized RX0, Cond.code yX0_pathOf cX0_pathOf 9 (some .int), Cond.fieldLink RX0 18 "SyscallFilter$Filter" "reached" "Ljava/util/ArrayList;", Cond.classLink RX0 36 "SyscallFilter$Rule", Cond.methodLink RX0 99 yX0_numberTests, Cond.instanceMethod yX0_numberTests, Cond.selects RX0 yX0_numberTests yX0_numberTests]
def wsX4_path_r2 : List Cond := [Cond.code yX0_numberTests cX0_numberTests 3 (some .int), Cond.methodLink RX0 119 yX0_lastTest, Cond.instanceMethod yX0_lastTest, Cond.selects RX0 yX0_lastTest yX0_lastTest, Cond.code yX0_lastTest cX0_lastTest 4 (some (.object "SyscallFilter$Node")), Cond.fieldLink RX0 69 "SyscallFilter$Filter" "firstTest" "LSyscallFilter$Node;", Cond.methodLink RX0 139 yX1_towards, Cond.instanceMethod yX1_towards, Cond.selects RX1 yX1_towards yX1_towards, Cond.initialized RX1, Cond.code yX1_towards cX1_towards 2 (some (.object "SyscallFilter$Node")), Cond.fieldLink RX1 7 "SyscallFilter$Node" "number" "I", Cond.fieldLink RX1 16 "SyscallFilter$Node" "lesser" "LSyscallFilter$Node;", Cond.fieldLink RX1 20 "SyscallFilter$Node" "greater" "LSyscallFilter$Node;", Cond.methodLink RX0 21 yJx4a65c_size_8abf5, Cond.instanceMethod yJx4a65c_size_8abf5, Cond.selects RJx4a65c yJx4a65c_size_8abf5 yJx4a65c_size_8abf5, Cond.initialized RJx4a65c, Cond.code yJx4a65c_size_8abf5 cJx4a65c_size_8abf5 1 (some .int), Cond.fieldLink RJx4a65c 48 "java/util/ArrayList" "size" "I", Cond.methodLink RX0 33 yJx4a65c_get_915e3, Cond.instanceMethod yJx4a65c_get_915e3, Cond.selects RJx4a65c yJx4a65c_get_915e3 yJx4a65c_get_915e3, Cond.code yJx4a65c_get_915e3 cJx4a65c_get_915e3 2 (some (.object "java/lang/Object"))]
def wsX4_path_r3 : List Cond := [Cond.methodLink RJx4a65c 118 yJ15_checkIndex_7cf53, Cond.static yJ15_checkIndex_7cf53, Cond.initialized RJ15, Cond.code yJ15_checkIndex_7cf53 cJ15_checkIndex_7cf53 2 (some .int), Cond.methodLink RJ15 105 yJ3_checkIndex_8e157, Cond.static yJ3_checkIndex_8e157, Cond.initialized RJ3, Cond.code yJ3_checkIndex_8e157 cJ3_checkIndex_8e157 3 (some .int), Cond.methodLink RJx4a65c 123 yJx4a65c_elementData_915e3, Cond.instanceMethod yJx4a65c_elementData_915e3, Cond.selects RJx4a65c yJx4a65c_elementData_915e3 yJx4a65c_elementData_915e3, Cond.code yJx4a65c_elementData_915e3 cJx4a65c_elementData_915e3 2 (some (.object "java/lang/Object")), Cond.fieldLink RJx4a65c 9 "java/util/ArrayList" "elementData" "[Ljava/lang/Object;", Cond.methodLink RX0 111 yX3_testsFor, Cond.instanceMethod yX3_testsFor, Cond.selects RX3 yX3_testsFor yX3_testsFor, Cond.initialized RX3, Cond.code yX3_testsFor cX3_testsFor 6 (some .int), Cond.fieldLink RX3 18 "SyscallFilter$Rule" "mask" "J", Cond.fieldLink RX3 22 "SyscallFilter$Rule" "value" "J", Cond.constantLong RX3 34 (4294967295), Cond.methodLink RX3 28 yX3_argumentOf, Cond.instanceMethod yX3_argumentOf, Cond.selects RX3 yX3_argumentOf yX3_argumentOf]
def wsX4_path_r4 : List Cond := [Cond.code yX3_argumentOf cX3_argumentOf 5 (some .long), Cond.fieldLink RX3 15 "SyscallFilter$Rule" "argument" "I", Cond.methodLink RX3 36 yX3_lowerTests, Cond.instanceMethod yX3_lowerTests, Cond.selects RX3 yX3_lowerTests yX3_lowerTests, Cond.code yX3_lowerTests cX3_lowerTests 1 (some .int), Cond.methodLink RX3 40 yX3_mostTests, Cond.instanceMethod yX3_mostTests, Cond.selects RX3 yX3_mostTests yX3_mostTests, Cond.code yX3_mostTests cX3_mostTests 1 (some .int), Cond.methodLink RX3 43 yX3_upperTests, Cond.instanceMethod yX3_upperTests, Cond.selects RX3 yX3_upperTests yX3_upperTests, Cond.code yX3_upperTests cX3_upperTests 1 (some .int), Cond.constantLong RX3 46 (-4294967296), Cond.methodLink RX0 115 yX3_matches, Cond.instanceMethod yX3_matches, Cond.selects RX3 yX3_matches yX3_matches, Cond.code yX3_matches cX3_matches 5 (some .boolean)]
def wsX4_path : List Cond := .code yX4_path cX4_path 11 (some .int) :: ((wsX4_path_r1 ++ (wsX4_path_r2 ++ (wsX4_path_r3 ++ wsX4_path_r4))) ++ wsX40 ++ wsX00 ++ wsX30 ++ wsX10 ++ wsJx4a65c0 ++ (vx_atS RX4 38 "java/lang/IllegalArgumentException" ["java/lang/RuntimeException", "java/lang/Exception"]).filter goodWord ++ (vx_atS RX4 52 "java/lang/IllegalStateException" ["java/lang/RuntimeException", "java/lang/Exception"]).filter goodWord)
def wsX4_actionOf_r1 : List Cond := [Cond.fieldLink RX4 11 "SyscallFilter" "filters" "[LSyscallFilter$Filter;", Cond.methodLink RX4 27 yX4_requireFilter, Cond.static yX4_requireFilter, Cond.initialized RX4, Cond.code yX4_requireFilter cX4_requireFilter 1 none, Cond.classLink RX4 34 "java/lang/IllegalArgumentException", Cond.initialized "java/lang/IllegalArgumentException", Cond.methodLink RX4 31 yX4_requireNumber, Cond.static yX4_requireNumber, Cond.code yX4_requireNumber cX4_requireNumber 1 none, Cond.methodLink RX4 125 yX0_actionByRules, Cond.instanceMethod yX0_actionByRules, Cond.selects RX0 yX0_actionByRules yX0_actionByRules, Cond.initialized RX0, Cond.code yX0_actionByRules cX0_actionByRules 6 (some .int), Cond.fieldLink RX0 12 "SyscallFilter$Filter" "rules" "Ljava/util/ArrayList;", Cond.methodLink RX0 126 yX0_actionOfFirstMatch, Cond.instanceMethod yX0_actionOfFirstMatch, Cond.selects RX0 yX0_actionOfFirstMatch yX0_actionOfFirstMatch, Cond.code yX0_actionOfFirstMatch cX0_actionOfFirstMatch 9 (some .int), Cond.classLink RX0 36 "SyscallFilter$Rule", Cond.fieldLink RX0 123 "SyscallFilter$Filter" "defaultAction" "I", Cond.methodLink RX0 21 yJx4a65c_size_8abf5, Cond.instanceMethod yJx4a65c_size_8abf5]
def wsX4_actionOf_r2 : List Cond := [Cond.selects RJx4a65c yJx4a65c_size_8abf5 yJx4a65c_size_8abf5, Cond.initialized RJx4a65c, Cond.code yJx4a65c_size_8abf5 cJx4a65c_size_8abf5 1 (some .int), Cond.fieldLink RJx4a65c 48 "java/util/ArrayList" "size" "I", Cond.methodLink RX0 33 yJx4a65c_get_915e3, Cond.instanceMethod yJx4a65c_get_915e3, Cond.selects RJx4a65c yJx4a65c_get_915e3 yJx4a65c_get_915e3, Cond.code yJx4a65c_get_915e3 cJx4a65c_get_915e3 2 (some (.object "java/lang/Object")), Cond.methodLink RJx4a65c 118 yJ15_checkIndex_7cf53, Cond.static yJ15_checkIndex_7cf53, Cond.initialized RJ15, Cond.code yJ15_checkIndex_7cf53 cJ15_checkIndex_7cf53 2 (some .int), Cond.methodLink RJ15 105 yJ3_checkIndex_8e157, Cond.static yJ3_checkIndex_8e157, Cond.initialized RJ3, Cond.code yJ3_checkIndex_8e157 cJ3_checkIndex_8e157 3 (some .int), Cond.methodLink RJx4a65c 123 yJx4a65c_elementData_915e3, Cond.instanceMethod yJx4a65c_elementData_915e3, Cond.selects RJx4a65c yJx4a65c_elementData_915e3 yJx4a65c_elementData_915e3, Cond.code yJx4a65c_elementData_915e3 cJx4a65c_elementData_915e3 2 (some (.object "java/lang/Object")), Cond.fieldLink RJx4a65c 9 "java/util/ArrayList" "elementData" "[Ljava/lang/Object;", Cond.methodLink RX0 115 yX3_matches, Cond.instanceMethod yX3_matches, Cond.selects RX3 yX3_matches yX3_matches]
def wsX4_actionOf_r3 : List Cond := [Cond.initialized RX3, Cond.code yX3_matches cX3_matches 5 (some .boolean), Cond.fieldLink RX3 18 "SyscallFilter$Rule" "mask" "J", Cond.fieldLink RX3 22 "SyscallFilter$Rule" "value" "J", Cond.methodLink RX3 28 yX3_argumentOf, Cond.instanceMethod yX3_argumentOf, Cond.selects RX3 yX3_argumentOf yX3_argumentOf, Cond.code yX3_argumentOf cX3_argumentOf 5 (some .long), Cond.fieldLink RX3 15 "SyscallFilter$Rule" "argument" "I"]
def wsX4_actionOf : List Cond := .code yX4_actionOf cX4_actionOf 7 (some .int) :: ((wsX4_actionOf_r1 ++ (wsX4_actionOf_r2 ++ wsX4_actionOf_r3)) ++ wsX40 ++ wsX00 ++ wsX30 ++ wsJx4a65c0 ++ (vx_atS RX4 38 "java/lang/IllegalArgumentException" ["java/lang/RuntimeException", "java/lang/Exception"]).filter goodWord)
def wsX5_init : List Cond := .code yX5_init cX5_init 1 none :: ([.methodLink RX5 1 objectInit, .instanceMethod objectInit, .code objectInit ⟨#[0xb1]⟩ 1 none, .arrayClass .int, .fieldLink RX5 7 "SyscallFilterModel" "numbers" "[I", .fieldLink RX5 13 "SyscallFilterModel" "arguments" "[I", .arrayClass .long, .fieldLink RX5 16 "SyscallFilterModel" "masks" "[J", .fieldLink RX5 20 "SyscallFilterModel" "values" "[J", .fieldLink RX5 23 "SyscallFilterModel" "actions" "[I", .fieldLink RX5 26 "SyscallFilterModel" "many" "[I", .fieldLink RX5 29 "SyscallFilterModel" "defaults" "[I", .fieldLink RX5 32 "SyscallFilterModel" "frequencies" "[I", .fieldLink RX5 35 "SyscallFilterModel" "keys" "[I", .fieldLink RX5 38 "SyscallFilterModel" "costs" "[I", .fieldLink RX5 41 "SyscallFilterModel" "roots" "[I"] ++ wsX50)
def wsX5_thrown : List Cond := .code yX5_thrown cX5_thrown 1 (some .int) :: ([.fieldLink RX5 44 "SyscallFilterModel" "thrown" "I"] ++ wsX50)
def wsX5_goesWell : List Cond := .code yX5_goesWell cX5_goesWell 2 (some .boolean) :: ([.fieldLink RX5 44 "SyscallFilterModel" "thrown" "I"] ++ wsX50)
def wsX5_in : List Cond := .code yX5_in cX5_in 3 (some .boolean) :: ([])
def wsX5_isFilter : List Cond := .code yX5_isFilter cX5_isFilter 1 (some .boolean) :: ([.methodLink RX5 48 yX5_in, .static yX5_in, .initialized RX5, .code yX5_in cX5_in 3 (some .boolean)])
def wsX5_isNumber : List Cond := .code yX5_isNumber cX5_isNumber 1 (some .boolean) :: ([.methodLink RX5 48 yX5_in, .static yX5_in, .initialized RX5, .code yX5_in cX5_in 3 (some .boolean)])
def wsX5_isRule : List Cond := .code yX5_isRule cX5_isRule 3 (some .boolean) :: ([.fieldLink RX5 26 "SyscallFilterModel" "many" "[I", .methodLink RX5 52 yX5_isFilter, .static yX5_isFilter, .initialized RX5, .code yX5_isFilter cX5_isFilter 1 (some .boolean), .methodLink RX5 48 yX5_in, .static yX5_in, .code yX5_in cX5_in 3 (some .boolean)] ++ wsX50)
def wsX5_add : List Cond := .code yX5_add cX5_add 11 (some .int) :: ([.fieldLink RX5 26 "SyscallFilterModel" "many" "[I", .fieldLink RX5 7 "SyscallFilterModel" "numbers" "[I", .fieldLink RX5 13 "SyscallFilterModel" "arguments" "[I", .fieldLink RX5 16 "SyscallFilterModel" "masks" "[J", .fieldLink RX5 20 "SyscallFilterModel" "values" "[J", .fieldLink RX5 23 "SyscallFilterModel" "actions" "[I", .fieldLink RX5 62 "SyscallFilterModel" "isCompiled" "Z", .methodLink RX5 52 yX5_isFilter, .static yX5_isFilter, .initialized RX5, .code yX5_isFilter cX5_isFilter 1 (some .boolean), .methodLink RX5 48 yX5_in, .static yX5_in, .code yX5_in cX5_in 3 (some .boolean), .methodLink RX5 56 yX5_isNumber, .static yX5_isNumber, .code yX5_isNumber cX5_isNumber 1 (some .boolean), .methodLink RX5 59 yX5_goesWell, .instanceMethod yX5_goesWell, .selects RX5 yX5_goesWell yX5_goesWell, .code yX5_goesWell cX5_goesWell 2 (some .boolean), .fieldLink RX5 44 "SyscallFilterModel" "thrown" "I"] ++ wsX50)
def wsX5_remove : List Cond := .code yX5_remove cX5_remove 4 (some .int) :: ([.fieldLink RX5 26 "SyscallFilterModel" "many" "[I", .fieldLink RX5 7 "SyscallFilterModel" "numbers" "[I", .fieldLink RX5 13 "SyscallFilterModel" "arguments" "[I", .fieldLink RX5 16 "SyscallFilterModel" "masks" "[J", .fieldLink RX5 20 "SyscallFilterModel" "values" "[J", .fieldLink RX5 23 "SyscallFilterModel" "actions" "[I", .fieldLink RX5 62 "SyscallFilterModel" "isCompiled" "Z", .methodLink RX5 52 yX5_isFilter, .static yX5_isFilter, .initialized RX5, .code yX5_isFilter cX5_isFilter 1 (some .boolean), .methodLink RX5 48 yX5_in, .static yX5_in, .code yX5_in cX5_in 3 (some .boolean), .methodLink RX5 66 yX5_isRule, .instanceMethod yX5_isRule, .selects RX5 yX5_isRule yX5_isRule, .code yX5_isRule cX5_isRule 3 (some .boolean), .methodLink RX5 59 yX5_goesWell, .instanceMethod yX5_goesWell, .selects RX5 yX5_goesWell yX5_goesWell, .code yX5_goesWell cX5_goesWell 2 (some .boolean), .fieldLink RX5 44 "SyscallFilterModel" "thrown" "I"] ++ wsX50)
def wsX5_setDefault : List Cond := .code yX5_setDefault cX5_setDefault 4 (some .int) :: ([.fieldLink RX5 29 "SyscallFilterModel" "defaults" "[I", .fieldLink RX5 62 "SyscallFilterModel" "isCompiled" "Z", .methodLink RX5 52 yX5_isFilter, .static yX5_isFilter, .initialized RX5, .code yX5_isFilter cX5_isFilter 1 (some .boolean), .methodLink RX5 48 yX5_in, .static yX5_in, .code yX5_in cX5_in 3 (some .boolean), .methodLink RX5 59 yX5_goesWell, .instanceMethod yX5_goesWell, .selects RX5 yX5_goesWell yX5_goesWell, .code yX5_goesWell cX5_goesWell 2 (some .boolean), .fieldLink RX5 44 "SyscallFilterModel" "thrown" "I"] ++ wsX50)
def wsX5_setFrequency : List Cond := .code yX5_setFrequency cX5_setFrequency 4 (some .int) :: ([.fieldLink RX5 32 "SyscallFilterModel" "frequencies" "[I", .fieldLink RX5 62 "SyscallFilterModel" "isCompiled" "Z", .methodLink RX5 56 yX5_isNumber, .static yX5_isNumber, .initialized RX5, .code yX5_isNumber cX5_isNumber 1 (some .boolean), .methodLink RX5 48 yX5_in, .static yX5_in, .code yX5_in cX5_in 3 (some .boolean), .methodLink RX5 59 yX5_goesWell, .instanceMethod yX5_goesWell, .selects RX5 yX5_goesWell yX5_goesWell, .code yX5_goesWell cX5_goesWell 2 (some .boolean), .fieldLink RX5 44 "SyscallFilterModel" "thrown" "I"] ++ wsX50)
def wsX5_rules : List Cond := .code yX5_rules cX5_rules 2 (some .int) :: ([.fieldLink RX5 26 "SyscallFilterModel" "many" "[I", .methodLink RX5 52 yX5_isFilter, .static yX5_isFilter, .initialized RX5, .code yX5_isFilter cX5_isFilter 1 (some .boolean), .methodLink RX5 48 yX5_in, .static yX5_in, .code yX5_in cX5_in 3 (some .boolean), .methodLink RX5 59 yX5_goesWell, .instanceMethod yX5_goesWell, .selects RX5 yX5_goesWell yX5_goesWell, .code yX5_goesWell cX5_goesWell 2 (some .boolean), .fieldLink RX5 44 "SyscallFilterModel" "thrown" "I"] ++ wsX50)
def wsX5_hides : List Cond := .code yX5_hides cX5_hides 4 (some .boolean) :: ([.fieldLink RX5 7 "SyscallFilterModel" "numbers" "[I", .fieldLink RX5 16 "SyscallFilterModel" "masks" "[J", .fieldLink RX5 20 "SyscallFilterModel" "values" "[J", .constantLong RX5 70 (-1), .fieldLink RX5 13 "SyscallFilterModel" "arguments" "[I"] ++ wsX50)
def wsX5_hiderOf : List Cond := .code yX5_hiderOf cX5_hiderOf 5 (some .int) :: ([.fieldLink RX5 20 "SyscallFilterModel" "values" "[J", .fieldLink RX5 16 "SyscallFilterModel" "masks" "[J", .constantLong RX5 70 (-1), .methodLink RX5 72 yX5_hides, .instanceMethod yX5_hides, .selects RX5 yX5_hides yX5_hides, .initialized RX5, .code yX5_hides cX5_hides 4 (some .boolean), .fieldLink RX5 7 "SyscallFilterModel" "numbers" "[I", .fieldLink RX5 13 "SyscallFilterModel" "arguments" "[I"] ++ wsX50)
def wsX5_hider_r1 : List Cond := [Cond.methodLink RX5 52 yX5_isFilter, Cond.static yX5_isFilter, Cond.initialized RX5, Cond.code yX5_isFilter cX5_isFilter 1 (some .boolean), Cond.methodLink RX5 48 yX5_in, Cond.static yX5_in, Cond.code yX5_in cX5_in 3 (some .boolean), Cond.methodLink RX5 66 yX5_isRule, Cond.instanceMethod yX5_isRule, Cond.selects RX5 yX5_isRule yX5_isRule, Cond.code yX5_isRule cX5_isRule 3 (some .boolean), Cond.fieldLink RX5 26 "SyscallFilterModel" "many" "[I", Cond.methodLink RX5 59 yX5_goesWell, Cond.instanceMethod yX5_goesWell, Cond.selects RX5 yX5_goesWell yX5_goesWell, Cond.code yX5_goesWell cX5_goesWell 2 (some .boolean), Cond.fieldLink RX5 44 "SyscallFilterModel" "thrown" "I", Cond.methodLink RX5 75 yX5_hiderOf, Cond.instanceMethod yX5_hiderOf, Cond.selects RX5 yX5_hiderOf yX5_hiderOf, Cond.code yX5_hiderOf cX5_hiderOf 5 (some .int), Cond.fieldLink RX5 20 "SyscallFilterModel" "values" "[J", Cond.fieldLink RX5 16 "SyscallFilterModel" "masks" "[J", Cond.constantLong RX5 70 (-1)]
def wsX5_hider_r2 : List Cond := [Cond.methodLink RX5 72 yX5_hides, Cond.instanceMethod yX5_hides, Cond.selects RX5 yX5_hides yX5_hides, Cond.code yX5_hides cX5_hides 4 (some .boolean), Cond.fieldLink RX5 7 "SyscallFilterModel" "numbers" "[I", Cond.fieldLink RX5 13 "SyscallFilterModel" "arguments" "[I"]
def wsX5_hider : List Cond := .code yX5_hider cX5_hider 3 (some .int) :: ((wsX5_hider_r1 ++ wsX5_hider_r2) ++ wsX50)
def wsX5_hasNumber : List Cond := .code yX5_hasNumber cX5_hasNumber 5 (some .boolean) :: ([.fieldLink RX5 26 "SyscallFilterModel" "many" "[I", .fieldLink RX5 7 "SyscallFilterModel" "numbers" "[I", .methodLink RX5 75 yX5_hiderOf, .instanceMethod yX5_hiderOf, .selects RX5 yX5_hiderOf yX5_hiderOf, .initialized RX5, .code yX5_hiderOf cX5_hiderOf 5 (some .int), .fieldLink RX5 20 "SyscallFilterModel" "values" "[J", .fieldLink RX5 16 "SyscallFilterModel" "masks" "[J", .constantLong RX5 70 (-1), .methodLink RX5 72 yX5_hides, .instanceMethod yX5_hides, .selects RX5 yX5_hides yX5_hides, .code yX5_hides cX5_hides 4 (some .boolean), .fieldLink RX5 13 "SyscallFilterModel" "arguments" "[I"] ++ wsX50)
def wsX5_costOf : List Cond := .code yX5_costOf cX5_costOf 3 (some .int) :: ([.fieldLink RX5 38 "SyscallFilterModel" "costs" "[I"] ++ wsX50)
def wsX5_layPart : List Cond := .code yX5_layPart cX5_layPart 7 none :: ([.fieldLink RX5 32 "SyscallFilterModel" "frequencies" "[I", .fieldLink RX5 35 "SyscallFilterModel" "keys" "[I", .fieldLink RX5 41 "SyscallFilterModel" "roots" "[I", .fieldLink RX5 38 "SyscallFilterModel" "costs" "[I", .methodLink RX5 89 yX5_costOf, .instanceMethod yX5_costOf, .selects RX5 yX5_costOf yX5_costOf, .initialized RX5, .code yX5_costOf cX5_costOf 3 (some .int)] ++ wsX50)
def wsX5_lay_r1 : List Cond := [Cond.fieldLink RX5 79 "SyscallFilterModel" "size" "I", Cond.fieldLink RX5 35 "SyscallFilterModel" "keys" "[I", Cond.methodLink RX5 82 yX5_hasNumber, Cond.instanceMethod yX5_hasNumber, Cond.selects RX5 yX5_hasNumber yX5_hasNumber, Cond.initialized RX5, Cond.code yX5_hasNumber cX5_hasNumber 5 (some .boolean), Cond.fieldLink RX5 26 "SyscallFilterModel" "many" "[I", Cond.fieldLink RX5 7 "SyscallFilterModel" "numbers" "[I", Cond.methodLink RX5 75 yX5_hiderOf, Cond.instanceMethod yX5_hiderOf, Cond.selects RX5 yX5_hiderOf yX5_hiderOf, Cond.code yX5_hiderOf cX5_hiderOf 5 (some .int), Cond.fieldLink RX5 20 "SyscallFilterModel" "values" "[J", Cond.fieldLink RX5 16 "SyscallFilterModel" "masks" "[J", Cond.constantLong RX5 70 (-1), Cond.methodLink RX5 72 yX5_hides, Cond.instanceMethod yX5_hides, Cond.selects RX5 yX5_hides yX5_hides, Cond.code yX5_hides cX5_hides 4 (some .boolean), Cond.fieldLink RX5 13 "SyscallFilterModel" "arguments" "[I", Cond.methodLink RX5 85 yX5_layPart, Cond.instanceMethod yX5_layPart, Cond.selects RX5 yX5_layPart yX5_layPart]
def wsX5_lay_r2 : List Cond := [Cond.code yX5_layPart cX5_layPart 7 none, Cond.fieldLink RX5 32 "SyscallFilterModel" "frequencies" "[I", Cond.fieldLink RX5 41 "SyscallFilterModel" "roots" "[I", Cond.fieldLink RX5 38 "SyscallFilterModel" "costs" "[I", Cond.methodLink RX5 89 yX5_costOf, Cond.instanceMethod yX5_costOf, Cond.selects RX5 yX5_costOf yX5_costOf, Cond.code yX5_costOf cX5_costOf 3 (some .int)]
def wsX5_lay : List Cond := .code yX5_lay cX5_lay 4 none :: ((wsX5_lay_r1 ++ wsX5_lay_r2) ++ wsX50)
def wsX5_testsOf : List Cond := .code yX5_testsOf cX5_testsOf 6 (some .int) :: ([.fieldLink RX5 79 "SyscallFilterModel" "size" "I", .fieldLink RX5 41 "SyscallFilterModel" "roots" "[I", .fieldLink RX5 35 "SyscallFilterModel" "keys" "[I"] ++ wsX50)
def wsX5_halvesOf : List Cond := .code yX5_halvesOf cX5_halvesOf 2 (some .int) :: ([.constantLong RX5 92 (4294967295)])
def wsX5_halves : List Cond := .code yX5_halves cX5_halves 6 (some .int) :: ([.fieldLink RX5 26 "SyscallFilterModel" "many" "[I", .fieldLink RX5 7 "SyscallFilterModel" "numbers" "[I", .fieldLink RX5 16 "SyscallFilterModel" "masks" "[J", .methodLink RX5 75 yX5_hiderOf, .instanceMethod yX5_hiderOf, .selects RX5 yX5_hiderOf yX5_hiderOf, .initialized RX5, .code yX5_hiderOf cX5_hiderOf 5 (some .int), .fieldLink RX5 20 "SyscallFilterModel" "values" "[J", .constantLong RX5 70 (-1), .methodLink RX5 72 yX5_hides, .instanceMethod yX5_hides, .selects RX5 yX5_hides yX5_hides, .code yX5_hides cX5_hides 4 (some .boolean), .fieldLink RX5 13 "SyscallFilterModel" "arguments" "[I", .methodLink RX5 94 yX5_halvesOf, .static yX5_halvesOf, .code yX5_halvesOf cX5_halvesOf 2 (some .int), .constantLong RX5 92 (4294967295)] ++ wsX50)
def wsX5_worstOf_r1 : List Cond := [Cond.methodLink RX5 98 yX5_lay, Cond.instanceMethod yX5_lay, Cond.selects RX5 yX5_lay yX5_lay, Cond.initialized RX5, Cond.code yX5_lay cX5_lay 4 none, Cond.fieldLink RX5 79 "SyscallFilterModel" "size" "I", Cond.fieldLink RX5 35 "SyscallFilterModel" "keys" "[I", Cond.methodLink RX5 82 yX5_hasNumber, Cond.instanceMethod yX5_hasNumber, Cond.selects RX5 yX5_hasNumber yX5_hasNumber, Cond.code yX5_hasNumber cX5_hasNumber 5 (some .boolean), Cond.fieldLink RX5 26 "SyscallFilterModel" "many" "[I", Cond.fieldLink RX5 7 "SyscallFilterModel" "numbers" "[I", Cond.methodLink RX5 75 yX5_hiderOf, Cond.instanceMethod yX5_hiderOf, Cond.selects RX5 yX5_hiderOf yX5_hiderOf, Cond.code yX5_hiderOf cX5_hiderOf 5 (some .int), Cond.fieldLink RX5 20 "SyscallFilterModel" "values" "[J", Cond.fieldLink RX5 16 "SyscallFilterModel" "masks" "[J", Cond.constantLong RX5 70 (-1), Cond.methodLink RX5 72 yX5_hides, Cond.instanceMethod yX5_hides, Cond.selects RX5 yX5_hides yX5_hides, Cond.code yX5_hides cX5_hides 4 (some .boolean)]
def wsX5_worstOf_r2 : List Cond := [Cond.fieldLink RX5 13 "SyscallFilterModel" "arguments" "[I", Cond.methodLink RX5 85 yX5_layPart, Cond.instanceMethod yX5_layPart, Cond.selects RX5 yX5_layPart yX5_layPart, Cond.code yX5_layPart cX5_layPart 7 none, Cond.fieldLink RX5 32 "SyscallFilterModel" "frequencies" "[I", Cond.fieldLink RX5 41 "SyscallFilterModel" "roots" "[I", Cond.fieldLink RX5 38 "SyscallFilterModel" "costs" "[I", Cond.methodLink RX5 89 yX5_costOf, Cond.instanceMethod yX5_costOf, Cond.selects RX5 yX5_costOf yX5_costOf, Cond.code yX5_costOf cX5_costOf 3 (some .int), Cond.methodLink RX5 102 yX5_testsOf, Cond.instanceMethod yX5_testsOf, Cond.selects RX5 yX5_testsOf yX5_testsOf, Cond.code yX5_testsOf cX5_testsOf 6 (some .int), Cond.methodLink RX5 106 yX5_halves, Cond.instanceMethod yX5_halves, Cond.selects RX5 yX5_halves yX5_halves, Cond.code yX5_halves cX5_halves 6 (some .int), Cond.methodLink RX5 94 yX5_halvesOf, Cond.static yX5_halvesOf, Cond.code yX5_halvesOf cX5_halvesOf 2 (some .int), Cond.constantLong RX5 92 (4294967295)]
def wsX5_worstOf : List Cond := .code yX5_worstOf cX5_worstOf 5 (some .int) :: ((wsX5_worstOf_r1 ++ wsX5_worstOf_r2) ++ wsX50)
def wsX5_compile_r1 : List Cond := [Cond.fieldLink RX5 62 "SyscallFilterModel" "isCompiled" "Z", Cond.methodLink RX5 48 yX5_in, Cond.static yX5_in, Cond.initialized RX5, Cond.code yX5_in cX5_in 3 (some .boolean), Cond.methodLink RX5 59 yX5_goesWell, Cond.instanceMethod yX5_goesWell, Cond.selects RX5 yX5_goesWell yX5_goesWell, Cond.code yX5_goesWell cX5_goesWell 2 (some .boolean), Cond.fieldLink RX5 44 "SyscallFilterModel" "thrown" "I", Cond.methodLink RX5 109 yX5_worstOf, Cond.instanceMethod yX5_worstOf, Cond.selects RX5 yX5_worstOf yX5_worstOf, Cond.code yX5_worstOf cX5_worstOf 5 (some .int), Cond.methodLink RX5 98 yX5_lay, Cond.instanceMethod yX5_lay, Cond.selects RX5 yX5_lay yX5_lay, Cond.code yX5_lay cX5_lay 4 none, Cond.fieldLink RX5 79 "SyscallFilterModel" "size" "I", Cond.fieldLink RX5 35 "SyscallFilterModel" "keys" "[I", Cond.methodLink RX5 82 yX5_hasNumber, Cond.instanceMethod yX5_hasNumber, Cond.selects RX5 yX5_hasNumber yX5_hasNumber, Cond.code yX5_hasNumber cX5_hasNumber 5 (some .boolean)]
def wsX5_compile_r2 : List Cond := [Cond.fieldLink RX5 26 "SyscallFilterModel" "many" "[I", Cond.fieldLink RX5 7 "SyscallFilterModel" "numbers" "[I", Cond.methodLink RX5 75 yX5_hiderOf, Cond.instanceMethod yX5_hiderOf, Cond.selects RX5 yX5_hiderOf yX5_hiderOf, Cond.code yX5_hiderOf cX5_hiderOf 5 (some .int), Cond.fieldLink RX5 20 "SyscallFilterModel" "values" "[J", Cond.fieldLink RX5 16 "SyscallFilterModel" "masks" "[J", Cond.constantLong RX5 70 (-1), Cond.methodLink RX5 72 yX5_hides, Cond.instanceMethod yX5_hides, Cond.selects RX5 yX5_hides yX5_hides, Cond.code yX5_hides cX5_hides 4 (some .boolean), Cond.fieldLink RX5 13 "SyscallFilterModel" "arguments" "[I", Cond.methodLink RX5 85 yX5_layPart, Cond.instanceMethod yX5_layPart, Cond.selects RX5 yX5_layPart yX5_layPart, Cond.code yX5_layPart cX5_layPart 7 none, Cond.fieldLink RX5 32 "SyscallFilterModel" "frequencies" "[I", Cond.fieldLink RX5 41 "SyscallFilterModel" "roots" "[I", Cond.fieldLink RX5 38 "SyscallFilterModel" "costs" "[I", Cond.methodLink RX5 89 yX5_costOf, Cond.instanceMethod yX5_costOf, Cond.selects RX5 yX5_costOf yX5_costOf]
def wsX5_compile_r3 : List Cond := [Cond.code yX5_costOf cX5_costOf 3 (some .int), Cond.methodLink RX5 102 yX5_testsOf, Cond.instanceMethod yX5_testsOf, Cond.selects RX5 yX5_testsOf yX5_testsOf, Cond.code yX5_testsOf cX5_testsOf 6 (some .int), Cond.methodLink RX5 106 yX5_halves, Cond.instanceMethod yX5_halves, Cond.selects RX5 yX5_halves yX5_halves, Cond.code yX5_halves cX5_halves 6 (some .int), Cond.methodLink RX5 94 yX5_halvesOf, Cond.static yX5_halvesOf, Cond.code yX5_halvesOf cX5_halvesOf 2 (some .int), Cond.constantLong RX5 92 (4294967295)]
def wsX5_compile : List Cond := .code yX5_compile cX5_compile 4 (some .int) :: ((wsX5_compile_r1 ++ (wsX5_compile_r2 ++ wsX5_compile_r3)) ++ wsX50)
def wsX5_isCompiled : List Cond := .code yX5_isCompiled cX5_isCompiled 1 (some .boolean) :: ([.fieldLink RX5 44 "SyscallFilterModel" "thrown" "I", .fieldLink RX5 62 "SyscallFilterModel" "isCompiled" "Z"] ++ wsX50)
def wsX5_test_r1 : List Cond := [Cond.fieldLink RX5 62 "SyscallFilterModel" "isCompiled" "Z", Cond.fieldLink RX5 79 "SyscallFilterModel" "size" "I", Cond.fieldLink RX5 41 "SyscallFilterModel" "roots" "[I", Cond.fieldLink RX5 35 "SyscallFilterModel" "keys" "[I", Cond.methodLink RX5 52 yX5_isFilter, Cond.static yX5_isFilter, Cond.initialized RX5, Cond.code yX5_isFilter cX5_isFilter 1 (some .boolean), Cond.methodLink RX5 48 yX5_in, Cond.static yX5_in, Cond.code yX5_in cX5_in 3 (some .boolean), Cond.methodLink RX5 59 yX5_goesWell, Cond.instanceMethod yX5_goesWell, Cond.selects RX5 yX5_goesWell yX5_goesWell, Cond.code yX5_goesWell cX5_goesWell 2 (some .boolean), Cond.fieldLink RX5 44 "SyscallFilterModel" "thrown" "I", Cond.methodLink RX5 98 yX5_lay, Cond.instanceMethod yX5_lay, Cond.selects RX5 yX5_lay yX5_lay, Cond.code yX5_lay cX5_lay 4 none, Cond.methodLink RX5 82 yX5_hasNumber, Cond.instanceMethod yX5_hasNumber, Cond.selects RX5 yX5_hasNumber yX5_hasNumber, Cond.code yX5_hasNumber cX5_hasNumber 5 (some .boolean)]
def wsX5_test_r2 : List Cond := [Cond.fieldLink RX5 26 "SyscallFilterModel" "many" "[I", Cond.fieldLink RX5 7 "SyscallFilterModel" "numbers" "[I", Cond.methodLink RX5 75 yX5_hiderOf, Cond.instanceMethod yX5_hiderOf, Cond.selects RX5 yX5_hiderOf yX5_hiderOf, Cond.code yX5_hiderOf cX5_hiderOf 5 (some .int), Cond.fieldLink RX5 20 "SyscallFilterModel" "values" "[J", Cond.fieldLink RX5 16 "SyscallFilterModel" "masks" "[J", Cond.constantLong RX5 70 (-1), Cond.methodLink RX5 72 yX5_hides, Cond.instanceMethod yX5_hides, Cond.selects RX5 yX5_hides yX5_hides, Cond.code yX5_hides cX5_hides 4 (some .boolean), Cond.fieldLink RX5 13 "SyscallFilterModel" "arguments" "[I", Cond.methodLink RX5 85 yX5_layPart, Cond.instanceMethod yX5_layPart, Cond.selects RX5 yX5_layPart yX5_layPart, Cond.code yX5_layPart cX5_layPart 7 none, Cond.fieldLink RX5 32 "SyscallFilterModel" "frequencies" "[I", Cond.fieldLink RX5 38 "SyscallFilterModel" "costs" "[I", Cond.methodLink RX5 89 yX5_costOf, Cond.instanceMethod yX5_costOf, Cond.selects RX5 yX5_costOf yX5_costOf, Cond.code yX5_costOf cX5_costOf 3 (some .int)]
def wsX5_test : List Cond := .code yX5_test cX5_test 8 (some .int) :: ((wsX5_test_r1 ++ wsX5_test_r2) ++ wsX50)
def wsX5_cost_r1 : List Cond := [Cond.fieldLink RX5 62 "SyscallFilterModel" "isCompiled" "Z", Cond.fieldLink RX5 79 "SyscallFilterModel" "size" "I", Cond.methodLink RX5 52 yX5_isFilter, Cond.static yX5_isFilter, Cond.initialized RX5, Cond.code yX5_isFilter cX5_isFilter 1 (some .boolean), Cond.methodLink RX5 48 yX5_in, Cond.static yX5_in, Cond.code yX5_in cX5_in 3 (some .boolean), Cond.methodLink RX5 59 yX5_goesWell, Cond.instanceMethod yX5_goesWell, Cond.selects RX5 yX5_goesWell yX5_goesWell, Cond.code yX5_goesWell cX5_goesWell 2 (some .boolean), Cond.fieldLink RX5 44 "SyscallFilterModel" "thrown" "I", Cond.methodLink RX5 98 yX5_lay, Cond.instanceMethod yX5_lay, Cond.selects RX5 yX5_lay yX5_lay, Cond.code yX5_lay cX5_lay 4 none, Cond.fieldLink RX5 35 "SyscallFilterModel" "keys" "[I", Cond.methodLink RX5 82 yX5_hasNumber, Cond.instanceMethod yX5_hasNumber, Cond.selects RX5 yX5_hasNumber yX5_hasNumber, Cond.code yX5_hasNumber cX5_hasNumber 5 (some .boolean), Cond.fieldLink RX5 26 "SyscallFilterModel" "many" "[I"]
def wsX5_cost_r2 : List Cond := [Cond.fieldLink RX5 7 "SyscallFilterModel" "numbers" "[I", Cond.methodLink RX5 75 yX5_hiderOf, Cond.instanceMethod yX5_hiderOf, Cond.selects RX5 yX5_hiderOf yX5_hiderOf, Cond.code yX5_hiderOf cX5_hiderOf 5 (some .int), Cond.fieldLink RX5 20 "SyscallFilterModel" "values" "[J", Cond.fieldLink RX5 16 "SyscallFilterModel" "masks" "[J", Cond.constantLong RX5 70 (-1), Cond.methodLink RX5 72 yX5_hides, Cond.instanceMethod yX5_hides, Cond.selects RX5 yX5_hides yX5_hides, Cond.code yX5_hides cX5_hides 4 (some .boolean), Cond.fieldLink RX5 13 "SyscallFilterModel" "arguments" "[I", Cond.methodLink RX5 85 yX5_layPart, Cond.instanceMethod yX5_layPart, Cond.selects RX5 yX5_layPart yX5_layPart, Cond.code yX5_layPart cX5_layPart 7 none, Cond.fieldLink RX5 32 "SyscallFilterModel" "frequencies" "[I", Cond.fieldLink RX5 41 "SyscallFilterModel" "roots" "[I", Cond.fieldLink RX5 38 "SyscallFilterModel" "costs" "[I", Cond.methodLink RX5 89 yX5_costOf, Cond.instanceMethod yX5_costOf, Cond.selects RX5 yX5_costOf yX5_costOf, Cond.code yX5_costOf cX5_costOf 3 (some .int)]
def wsX5_cost : List Cond := .code yX5_cost cX5_cost 2 (some .int) :: ((wsX5_cost_r1 ++ wsX5_cost_r2) ++ wsX50)
def wsX5_worst_r1 : List Cond := [Cond.fieldLink RX5 62 "SyscallFilterModel" "isCompiled" "Z", Cond.methodLink RX5 52 yX5_isFilter, Cond.static yX5_isFilter, Cond.initialized RX5, Cond.code yX5_isFilter cX5_isFilter 1 (some .boolean), Cond.methodLink RX5 48 yX5_in, Cond.static yX5_in, Cond.code yX5_in cX5_in 3 (some .boolean), Cond.methodLink RX5 59 yX5_goesWell, Cond.instanceMethod yX5_goesWell, Cond.selects RX5 yX5_goesWell yX5_goesWell, Cond.code yX5_goesWell cX5_goesWell 2 (some .boolean), Cond.fieldLink RX5 44 "SyscallFilterModel" "thrown" "I", Cond.methodLink RX5 109 yX5_worstOf, Cond.instanceMethod yX5_worstOf, Cond.selects RX5 yX5_worstOf yX5_worstOf, Cond.code yX5_worstOf cX5_worstOf 5 (some .int), Cond.methodLink RX5 98 yX5_lay, Cond.instanceMethod yX5_lay, Cond.selects RX5 yX5_lay yX5_lay, Cond.code yX5_lay cX5_lay 4 none, Cond.fieldLink RX5 79 "SyscallFilterModel" "size" "I", Cond.fieldLink RX5 35 "SyscallFilterModel" "keys" "[I", Cond.methodLink RX5 82 yX5_hasNumber]
def wsX5_worst_r2 : List Cond := [Cond.instanceMethod yX5_hasNumber, Cond.selects RX5 yX5_hasNumber yX5_hasNumber, Cond.code yX5_hasNumber cX5_hasNumber 5 (some .boolean), Cond.fieldLink RX5 26 "SyscallFilterModel" "many" "[I", Cond.fieldLink RX5 7 "SyscallFilterModel" "numbers" "[I", Cond.methodLink RX5 75 yX5_hiderOf, Cond.instanceMethod yX5_hiderOf, Cond.selects RX5 yX5_hiderOf yX5_hiderOf, Cond.code yX5_hiderOf cX5_hiderOf 5 (some .int), Cond.fieldLink RX5 20 "SyscallFilterModel" "values" "[J", Cond.fieldLink RX5 16 "SyscallFilterModel" "masks" "[J", Cond.constantLong RX5 70 (-1), Cond.methodLink RX5 72 yX5_hides, Cond.instanceMethod yX5_hides, Cond.selects RX5 yX5_hides yX5_hides, Cond.code yX5_hides cX5_hides 4 (some .boolean), Cond.fieldLink RX5 13 "SyscallFilterModel" "arguments" "[I", Cond.methodLink RX5 85 yX5_layPart, Cond.instanceMethod yX5_layPart, Cond.selects RX5 yX5_layPart yX5_layPart, Cond.code yX5_layPart cX5_layPart 7 none, Cond.fieldLink RX5 32 "SyscallFilterModel" "frequencies" "[I", Cond.fieldLink RX5 41 "SyscallFilterModel" "roots" "[I", Cond.fieldLink RX5 38 "SyscallFilterModel" "costs" "[I"]
def wsX5_worst_r3 : List Cond := [Cond.methodLink RX5 89 yX5_costOf, Cond.instanceMethod yX5_costOf, Cond.selects RX5 yX5_costOf yX5_costOf, Cond.code yX5_costOf cX5_costOf 3 (some .int), Cond.methodLink RX5 102 yX5_testsOf, Cond.instanceMethod yX5_testsOf, Cond.selects RX5 yX5_testsOf yX5_testsOf, Cond.code yX5_testsOf cX5_testsOf 6 (some .int), Cond.methodLink RX5 106 yX5_halves, Cond.instanceMethod yX5_halves, Cond.selects RX5 yX5_halves yX5_halves, Cond.code yX5_halves cX5_halves 6 (some .int), Cond.methodLink RX5 94 yX5_halvesOf, Cond.static yX5_halvesOf, Cond.code yX5_halvesOf cX5_halvesOf 2 (some .int), Cond.constantLong RX5 92 (4294967295)]
def wsX5_worst : List Cond := .code yX5_worst cX5_worst 2 (some .int) :: ((wsX5_worst_r1 ++ (wsX5_worst_r2 ++ wsX5_worst_r3)) ++ wsX50)
def wsX5_matches : List Cond := .code yX5_matches cX5_matches 9 (some .boolean) :: ([.fieldLink RX5 13 "SyscallFilterModel" "arguments" "[I", .fieldLink RX5 7 "SyscallFilterModel" "numbers" "[I", .fieldLink RX5 16 "SyscallFilterModel" "masks" "[J", .fieldLink RX5 20 "SyscallFilterModel" "values" "[J"] ++ wsX50)
def wsX5_judgeBy : List Cond := .code yX5_judgeBy cX5_judgeBy 8 (some .int) :: ([.fieldLink RX5 26 "SyscallFilterModel" "many" "[I", .fieldLink RX5 23 "SyscallFilterModel" "actions" "[I", .fieldLink RX5 29 "SyscallFilterModel" "defaults" "[I", .methodLink RX5 112 yX5_matches, .instanceMethod yX5_matches, .selects RX5 yX5_matches yX5_matches, .initialized RX5, .code yX5_matches cX5_matches 9 (some .boolean), .fieldLink RX5 13 "SyscallFilterModel" "arguments" "[I", .fieldLink RX5 7 "SyscallFilterModel" "numbers" "[I", .fieldLink RX5 16 "SyscallFilterModel" "masks" "[J", .fieldLink RX5 20 "SyscallFilterModel" "values" "[J"] ++ wsX50)
def wsX5_strictest : List Cond := .code yX5_strictest cX5_strictest 9 (some .int) :: ([.methodLink RX5 116 yX5_judgeBy, .instanceMethod yX5_judgeBy, .selects RX5 yX5_judgeBy yX5_judgeBy, .initialized RX5, .code yX5_judgeBy cX5_judgeBy 8 (some .int), .fieldLink RX5 26 "SyscallFilterModel" "many" "[I", .fieldLink RX5 23 "SyscallFilterModel" "actions" "[I", .fieldLink RX5 29 "SyscallFilterModel" "defaults" "[I", .methodLink RX5 112 yX5_matches, .instanceMethod yX5_matches, .selects RX5 yX5_matches yX5_matches, .code yX5_matches cX5_matches 9 (some .boolean), .fieldLink RX5 13 "SyscallFilterModel" "arguments" "[I", .fieldLink RX5 7 "SyscallFilterModel" "numbers" "[I", .fieldLink RX5 16 "SyscallFilterModel" "masks" "[J", .fieldLink RX5 20 "SyscallFilterModel" "values" "[J"] ++ wsX50)
def wsX5_judge_r1 : List Cond := [Cond.fieldLink RX5 62 "SyscallFilterModel" "isCompiled" "Z", Cond.methodLink RX5 56 yX5_isNumber, Cond.static yX5_isNumber, Cond.initialized RX5, Cond.code yX5_isNumber cX5_isNumber 1 (some .boolean), Cond.methodLink RX5 48 yX5_in, Cond.static yX5_in, Cond.code yX5_in cX5_in 3 (some .boolean), Cond.methodLink RX5 59 yX5_goesWell, Cond.instanceMethod yX5_goesWell, Cond.selects RX5 yX5_goesWell yX5_goesWell, Cond.code yX5_goesWell cX5_goesWell 2 (some .boolean), Cond.fieldLink RX5 44 "SyscallFilterModel" "thrown" "I", Cond.methodLink RX5 120 yX5_strictest, Cond.instanceMethod yX5_strictest, Cond.selects RX5 yX5_strictest yX5_strictest, Cond.code yX5_strictest cX5_strictest 9 (some .int), Cond.methodLink RX5 116 yX5_judgeBy, Cond.instanceMethod yX5_judgeBy, Cond.selects RX5 yX5_judgeBy yX5_judgeBy, Cond.code yX5_judgeBy cX5_judgeBy 8 (some .int), Cond.fieldLink RX5 26 "SyscallFilterModel" "many" "[I", Cond.fieldLink RX5 23 "SyscallFilterModel" "actions" "[I", Cond.fieldLink RX5 29 "SyscallFilterModel" "defaults" "[I"]
def wsX5_judge_r2 : List Cond := [Cond.methodLink RX5 112 yX5_matches, Cond.instanceMethod yX5_matches, Cond.selects RX5 yX5_matches yX5_matches, Cond.code yX5_matches cX5_matches 9 (some .boolean), Cond.fieldLink RX5 13 "SyscallFilterModel" "arguments" "[I", Cond.fieldLink RX5 7 "SyscallFilterModel" "numbers" "[I", Cond.fieldLink RX5 16 "SyscallFilterModel" "masks" "[J", Cond.fieldLink RX5 20 "SyscallFilterModel" "values" "[J"]
def wsX5_judge : List Cond := .code yX5_judge cX5_judge 6 (some .int) :: ((wsX5_judge_r1 ++ wsX5_judge_r2) ++ wsX50)
def wsX5_judgeByRules_r1 : List Cond := [Cond.methodLink RX5 56 yX5_isNumber, Cond.static yX5_isNumber, Cond.initialized RX5, Cond.code yX5_isNumber cX5_isNumber 1 (some .boolean), Cond.methodLink RX5 48 yX5_in, Cond.static yX5_in, Cond.code yX5_in cX5_in 3 (some .boolean), Cond.methodLink RX5 59 yX5_goesWell, Cond.instanceMethod yX5_goesWell, Cond.selects RX5 yX5_goesWell yX5_goesWell, Cond.code yX5_goesWell cX5_goesWell 2 (some .boolean), Cond.fieldLink RX5 44 "SyscallFilterModel" "thrown" "I", Cond.methodLink RX5 120 yX5_strictest, Cond.instanceMethod yX5_strictest, Cond.selects RX5 yX5_strictest yX5_strictest, Cond.code yX5_strictest cX5_strictest 9 (some .int), Cond.methodLink RX5 116 yX5_judgeBy, Cond.instanceMethod yX5_judgeBy, Cond.selects RX5 yX5_judgeBy yX5_judgeBy, Cond.code yX5_judgeBy cX5_judgeBy 8 (some .int), Cond.fieldLink RX5 26 "SyscallFilterModel" "many" "[I", Cond.fieldLink RX5 23 "SyscallFilterModel" "actions" "[I", Cond.fieldLink RX5 29 "SyscallFilterModel" "defaults" "[I", Cond.methodLink RX5 112 yX5_matches]
def wsX5_judgeByRules_r2 : List Cond := [Cond.instanceMethod yX5_matches, Cond.selects RX5 yX5_matches yX5_matches, Cond.code yX5_matches cX5_matches 9 (some .boolean), Cond.fieldLink RX5 13 "SyscallFilterModel" "arguments" "[I", Cond.fieldLink RX5 7 "SyscallFilterModel" "numbers" "[I", Cond.fieldLink RX5 16 "SyscallFilterModel" "masks" "[J", Cond.fieldLink RX5 20 "SyscallFilterModel" "values" "[J"]
def wsX5_judgeByRules : List Cond := .code yX5_judgeByRules cX5_judgeByRules 6 (some .int) :: ((wsX5_judgeByRules_r1 ++ wsX5_judgeByRules_r2) ++ wsX50)
def wsX5_halvesMade : List Cond := .code yX5_halvesMade cX5_halvesMade 13 (some .int) :: ([.fieldLink RX5 26 "SyscallFilterModel" "many" "[I", .fieldLink RX5 7 "SyscallFilterModel" "numbers" "[I", .fieldLink RX5 13 "SyscallFilterModel" "arguments" "[I", .fieldLink RX5 16 "SyscallFilterModel" "masks" "[J", .fieldLink RX5 20 "SyscallFilterModel" "values" "[J", .constantLong RX5 92 (4294967295), .methodLink RX5 75 yX5_hiderOf, .instanceMethod yX5_hiderOf, .selects RX5 yX5_hiderOf yX5_hiderOf, .initialized RX5, .code yX5_hiderOf cX5_hiderOf 5 (some .int), .constantLong RX5 70 (-1), .methodLink RX5 72 yX5_hides, .instanceMethod yX5_hides, .selects RX5 yX5_hides yX5_hides, .code yX5_hides cX5_hides 4 (some .boolean), .methodLink RX5 94 yX5_halvesOf, .static yX5_halvesOf, .code yX5_halvesOf cX5_halvesOf 2 (some .int)] ++ wsX50)
def wsX5_path_r1 : List Cond := [Cond.fieldLink RX5 62 "SyscallFilterModel" "isCompiled" "Z", Cond.methodLink RX5 56 yX5_isNumber, Cond.static yX5_isNumber, Cond.initialized RX5, Cond.code yX5_isNumber cX5_isNumber 1 (some .boolean), Cond.methodLink RX5 48 yX5_in, Cond.static yX5_in, Cond.code yX5_in cX5_in 3 (some .boolean), Cond.methodLink RX5 59 yX5_goesWell, Cond.instanceMethod yX5_goesWell, Cond.selects RX5 yX5_goesWell yX5_goesWell, Cond.code yX5_goesWell cX5_goesWell 2 (some .boolean), Cond.fieldLink RX5 44 "SyscallFilterModel" "thrown" "I", Cond.methodLink RX5 98 yX5_lay, Cond.instanceMethod yX5_lay, Cond.selects RX5 yX5_lay yX5_lay, Cond.code yX5_lay cX5_lay 4 none, Cond.fieldLink RX5 79 "SyscallFilterModel" "size" "I", Cond.fieldLink RX5 35 "SyscallFilterModel" "keys" "[I", Cond.methodLink RX5 82 yX5_hasNumber, Cond.instanceMethod yX5_hasNumber, Cond.selects RX5 yX5_hasNumber yX5_hasNumber, Cond.code yX5_hasNumber cX5_hasNumber 5 (some .boolean), Cond.fieldLink RX5 26 "SyscallFilterModel" "many" "[I"]
def wsX5_path_r2 : List Cond := [Cond.fieldLink RX5 7 "SyscallFilterModel" "numbers" "[I", Cond.methodLink RX5 75 yX5_hiderOf, Cond.instanceMethod yX5_hiderOf, Cond.selects RX5 yX5_hiderOf yX5_hiderOf, Cond.code yX5_hiderOf cX5_hiderOf 5 (some .int), Cond.fieldLink RX5 20 "SyscallFilterModel" "values" "[J", Cond.fieldLink RX5 16 "SyscallFilterModel" "masks" "[J", Cond.constantLong RX5 70 (-1), Cond.methodLink RX5 72 yX5_hides, Cond.instanceMethod yX5_hides, Cond.selects RX5 yX5_hides yX5_hides, Cond.code yX5_hides cX5_hides 4 (some .boolean), Cond.fieldLink RX5 13 "SyscallFilterModel" "arguments" "[I", Cond.methodLink RX5 85 yX5_layPart, Cond.instanceMethod yX5_layPart, Cond.selects RX5 yX5_layPart yX5_layPart, Cond.code yX5_layPart cX5_layPart 7 none, Cond.fieldLink RX5 32 "SyscallFilterModel" "frequencies" "[I", Cond.fieldLink RX5 41 "SyscallFilterModel" "roots" "[I", Cond.fieldLink RX5 38 "SyscallFilterModel" "costs" "[I", Cond.methodLink RX5 89 yX5_costOf, Cond.instanceMethod yX5_costOf, Cond.selects RX5 yX5_costOf yX5_costOf, Cond.code yX5_costOf cX5_costOf 3 (some .int)]
def wsX5_path_r3 : List Cond := [Cond.methodLink RX5 102 yX5_testsOf, Cond.instanceMethod yX5_testsOf, Cond.selects RX5 yX5_testsOf yX5_testsOf, Cond.code yX5_testsOf cX5_testsOf 6 (some .int), Cond.methodLink RX5 124 yX5_halvesMade, Cond.instanceMethod yX5_halvesMade, Cond.selects RX5 yX5_halvesMade yX5_halvesMade, Cond.code yX5_halvesMade cX5_halvesMade 13 (some .int), Cond.constantLong RX5 92 (4294967295), Cond.methodLink RX5 94 yX5_halvesOf, Cond.static yX5_halvesOf, Cond.code yX5_halvesOf cX5_halvesOf 2 (some .int)]
def wsX5_path : List Cond := .code yX5_path cX5_path 8 (some .int) :: ((wsX5_path_r1 ++ (wsX5_path_r2 ++ wsX5_path_r3)) ++ wsX50)
def wsX5_actionOf_r1 : List Cond := [Cond.methodLink RX5 52 yX5_isFilter, Cond.static yX5_isFilter, Cond.initialized RX5, Cond.code yX5_isFilter cX5_isFilter 1 (some .boolean), Cond.methodLink RX5 48 yX5_in, Cond.static yX5_in, Cond.code yX5_in cX5_in 3 (some .boolean), Cond.methodLink RX5 56 yX5_isNumber, Cond.static yX5_isNumber, Cond.code yX5_isNumber cX5_isNumber 1 (some .boolean), Cond.methodLink RX5 59 yX5_goesWell, Cond.instanceMethod yX5_goesWell, Cond.selects RX5 yX5_goesWell yX5_goesWell, Cond.code yX5_goesWell cX5_goesWell 2 (some .boolean), Cond.fieldLink RX5 44 "SyscallFilterModel" "thrown" "I", Cond.methodLink RX5 116 yX5_judgeBy, Cond.instanceMethod yX5_judgeBy, Cond.selects RX5 yX5_judgeBy yX5_judgeBy, Cond.code yX5_judgeBy cX5_judgeBy 8 (some .int), Cond.fieldLink RX5 26 "SyscallFilterModel" "many" "[I", Cond.fieldLink RX5 23 "SyscallFilterModel" "actions" "[I", Cond.fieldLink RX5 29 "SyscallFilterModel" "defaults" "[I", Cond.methodLink RX5 112 yX5_matches, Cond.instanceMethod yX5_matches]
def wsX5_actionOf_r2 : List Cond := [Cond.selects RX5 yX5_matches yX5_matches, Cond.code yX5_matches cX5_matches 9 (some .boolean), Cond.fieldLink RX5 13 "SyscallFilterModel" "arguments" "[I", Cond.fieldLink RX5 7 "SyscallFilterModel" "numbers" "[I", Cond.fieldLink RX5 16 "SyscallFilterModel" "masks" "[J", Cond.fieldLink RX5 20 "SyscallFilterModel" "values" "[J"]
def wsX5_actionOf : List Cond := .code yX5_actionOf cX5_actionOf 7 (some .int) :: ((wsX5_actionOf_r1 ++ wsX5_actionOf_r2) ++ wsX50)
def wsJ9_max_7cf53 : List Cond := .code yJ9_max_7cf53 cJ9_max_7cf53 2 (some .int) :: ([])
def wsJ9_min_7cf53 : List Cond := .code yJ9_min_7cf53 cJ9_min_7cf53 2 (some .int) :: ([])
def wsL_add_r1 : List Cond := [Cond.classLink RL 13 "java/lang/IllegalArgumentException", Cond.classLink RL 15 "java/lang/IllegalStateException", Cond.methodLink RL 7 yX4_add, Cond.instanceMethod yX4_add, Cond.selects RX4 yX4_add yX4_add, Cond.initialized RX4, Cond.code yX4_add cX4_add 9 (some .int), Cond.classLink RX4 34 "java/lang/IllegalArgumentException", Cond.initialized "java/lang/IllegalArgumentException", Cond.classLink RX4 48 "java/lang/IllegalStateException", Cond.initialized "java/lang/IllegalStateException", Cond.fieldLink RX4 11 "SyscallFilter" "filters" "[LSyscallFilter$Filter;", Cond.fieldLink RX4 53 "SyscallFilter" "compiled" "Z", Cond.classLink RX4 57 RX3, Cond.instantiable RX3 5, Cond.initialized RX3, Cond.methodLink RX4 27 yX4_requireFilter, Cond.static yX4_requireFilter, Cond.code yX4_requireFilter cX4_requireFilter 1 none, Cond.methodLink RX4 31 yX4_requireNumber, Cond.static yX4_requireNumber, Cond.code yX4_requireNumber cX4_requireNumber 1 none, Cond.methodLink RX4 41 yX4_requireAction, Cond.static yX4_requireAction]
def wsL_add_r2 : List Cond := [Cond.code yX4_requireAction cX4_requireAction 1 none, Cond.methodLink RX4 44 yX0_isFull, Cond.instanceMethod yX0_isFull, Cond.selects RX0 yX0_isFull yX0_isFull, Cond.initialized RX0, Cond.code yX0_isFull cX0_isFull 1 (some .boolean), Cond.fieldLink RX0 12 "SyscallFilter$Filter" "rules" "Ljava/util/ArrayList;", Cond.methodLink RX0 21 yJx4a65c_size_8abf5, Cond.instanceMethod yJx4a65c_size_8abf5, Cond.selects RJx4a65c yJx4a65c_size_8abf5 yJx4a65c_size_8abf5, Cond.initialized RJx4a65c, Cond.code yJx4a65c_size_8abf5 cJx4a65c_size_8abf5 1 (some .int), Cond.fieldLink RJx4a65c 48 "java/util/ArrayList" "size" "I", Cond.methodLink RX4 59 yX3_init, Cond.instanceMethod yX3_init, Cond.code yX3_init cX3_init 8 none, Cond.methodLink RX3 3 objectInit, Cond.instanceMethod objectInit, Cond.code objectInit ⟨#[0xb1]⟩ 1 none, Cond.fieldLink RX3 9 "SyscallFilter$Rule" "number" "I", Cond.fieldLink RX3 15 "SyscallFilter$Rule" "argument" "I", Cond.fieldLink RX3 18 "SyscallFilter$Rule" "mask" "J", Cond.fieldLink RX3 22 "SyscallFilter$Rule" "value" "J", Cond.fieldLink RX3 25 "SyscallFilter$Rule" "action" "I"]
def wsL_add_r3 : List Cond := [Cond.methodLink RX4 62 yX0_append, Cond.instanceMethod yX0_append, Cond.selects RX0 yX0_append yX0_append, Cond.code yX0_append cX0_append 2 (some .int), Cond.methodLink RX0 25 yJx4a65c_add_9ea2d, Cond.instanceMethod yJx4a65c_add_9ea2d, Cond.selects RJx4a65c yJx4a65c_add_9ea2d yJx4a65c_add_9ea2d, Cond.code yJx4a65c_add_9ea2d cJx4a65c_add_9ea2d 2 (some .boolean), Cond.fieldLink RJx4a65c 63 "java/util/ArrayList" "modCount" "I", Cond.sameField "java/util/ArrayList" "java/util/AbstractList" "modCount" "I", Cond.fieldLink RJx4a65c 9 "java/util/ArrayList" "elementData" "[Ljava/lang/Object;", Cond.methodLink RJx4a65c 131 yJx4a65c_add_72be8, Cond.instanceMethod yJx4a65c_add_72be8, Cond.selects RJx4a65c yJx4a65c_add_72be8 yJx4a65c_add_72be8, Cond.code yJx4a65c_add_72be8 cJx4a65c_add_72be8 4 none, Cond.methodLink RJx4a65c 129 yJx4a65c_grow_d5877, Cond.instanceMethod yJx4a65c_grow_d5877, Cond.selects RJx4a65c yJx4a65c_grow_d5877 yJx4a65c_grow_d5877, Cond.code yJx4a65c_grow_d5877 cJx4a65c_grow_d5877 1 (some (.array (.object "java/lang/Object"))), Cond.methodLink RJx4a65c 69 yJx4a65c_grow_92f84, Cond.instanceMethod yJx4a65c_grow_92f84, Cond.selects RJx4a65c yJx4a65c_grow_92f84 yJx4a65c_grow_92f84, Cond.code yJx4a65c_grow_92f84 cJx4a65c_grow_92f84 4 (some (.array (.object "java/lang/Object"))), Cond.fieldLink RJx4a65c 39 "java/util/ArrayList" "DEFAULTCAPACITY_EMPTY_ELEMENTDATA" "[Ljava/lang/Object;"]
def wsL_add_r4 : List Cond := [Cond.methodLink RJx4a65c 79 Lib.Math.max.name, Cond.static Lib.Math.max.name, Cond.initialized "java/lang/Math", Cond.code Lib.Math.max.name Lib.Math.max.code 2 (some .int), Cond.classLink RJx4a65c 7 "java/lang/Object", Cond.methodLink RJx4a65c 73 yJ8_newLength_cabcc, Cond.static yJ8_newLength_cabcc, Cond.initialized RJ8, Cond.code yJ8_newLength_cabcc cJ8_newLength_cabcc 4 (some .int), Cond.methodLink RJ8 194 Lib.Math.max.name, Cond.constant RJ8 200 (2147483639), Cond.methodLink RJ8 201 yJ8_hugeLength_7cf53, Cond.static yJ8_hugeLength_7cf53, Cond.code yJ8_hugeLength_7cf53 cJ8_hugeLength_7cf53 3 (some .int), Cond.methodLink RJx4a65c 66 yJ7_copyOf_1904c, Cond.static yJ7_copyOf_1904c, Cond.initialized RJ7, Cond.code yJ7_copyOf_1904c cJ7_copyOf_1904c 2 (some (.array (.object "java/lang/Object"))), Cond.methodLink RJ7 86 ⟨"java/lang/Object", "getClass", "()Ljava/lang/Class;"⟩, Cond.selects "[Ljava/lang/Object;" ⟨"java/lang/Object", "getClass", "()Ljava/lang/Class;"⟩ ⟨"java/lang/Object", "getClass", "()Ljava/lang/Class;"⟩, Cond.instanceMethod ⟨"java/lang/Object", "getClass", "()Ljava/lang/Class;"⟩, Cond.native ⟨"java/lang/Object", "getClass", "()Ljava/lang/Class;"⟩, Cond.methodLink RJ7 300 yJ7_copyOf_6403c, Cond.static yJ7_copyOf_6403c]
def wsL_add_r5 : List Cond := [Cond.code yJ7_copyOf_6403c cJ7_copyOf_6403c 4 (some (.array (.object "java/lang/Object"))), Cond.classLink RJ7 110 "[Ljava/lang/Object;", Cond.classLink RJ7 2 "java/lang/Object", Cond.methodLink RJ7 304 Lib.Math.min.name, Cond.static Lib.Math.min.name, Cond.code Lib.Math.min.name Lib.Math.min.code 2 (some .int), Cond.methodLink RJ7 150 arraycopyName, Cond.native arraycopyName, Cond.static arraycopyName, Cond.initialized "java/lang/System"]
def wsL_add : List Cond := .codeWith yL_add cL_add 11 (some .int) [(0, 18, 21, 13), (0, 18, 25, 15)] :: ((wsL_add_r1 ++ (wsL_add_r2 ++ (wsL_add_r3 ++ (wsL_add_r4 ++ wsL_add_r5)))) ++ wsX40 ++ wsX30 ++ wsX00 ++ wsJx4a65c0 ++ (vx_atS RX4 38 "java/lang/IllegalArgumentException" ["java/lang/RuntimeException", "java/lang/Exception"]).filter goodWord ++ (vx_atS RX4 52 "java/lang/IllegalStateException" ["java/lang/RuntimeException", "java/lang/Exception"]).filter goodWord)
def wsL_remove_r1 : List Cond := [Cond.classLink RL 13 "java/lang/IllegalArgumentException", Cond.classLink RL 21 "java/lang/IndexOutOfBoundsException", Cond.methodLink RL 17 yX4_remove, Cond.instanceMethod yX4_remove, Cond.selects RX4 yX4_remove yX4_remove, Cond.initialized RX4, Cond.code yX4_remove cX4_remove 3 (some .int), Cond.fieldLink RX4 53 "SyscallFilter" "compiled" "Z", Cond.fieldLink RX4 11 "SyscallFilter" "filters" "[LSyscallFilter$Filter;", Cond.methodLink RX4 27 yX4_requireFilter, Cond.static yX4_requireFilter, Cond.code yX4_requireFilter cX4_requireFilter 1 none, Cond.classLink RX4 34 "java/lang/IllegalArgumentException", Cond.initialized "java/lang/IllegalArgumentException", Cond.methodLink RX4 66 yX4_requireRule, Cond.instanceMethod yX4_requireRule, Cond.selects RX4 yX4_requireRule yX4_requireRule, Cond.code yX4_requireRule cX4_requireRule 3 none, Cond.classLink RX4 141 "java/lang/IndexOutOfBoundsException", Cond.initialized "java/lang/IndexOutOfBoundsException", Cond.methodLink RX4 84 yJx4a65c_size_8abf5, Cond.instanceMethod yJx4a65c_size_8abf5, Cond.selects RJx4a65c yJx4a65c_size_8abf5 yJx4a65c_size_8abf5, Cond.initialized RJx4a65c]
def wsL_remove_r2 : List Cond := [Cond.code yJx4a65c_size_8abf5 cJx4a65c_size_8abf5 1 (some .int), Cond.fieldLink RJx4a65c 48 "java/util/ArrayList" "size" "I", Cond.methodLink RX4 70 yX0_drop, Cond.instanceMethod yX0_drop, Cond.selects RX0 yX0_drop yX0_drop, Cond.initialized RX0, Cond.code yX0_drop cX0_drop 2 (some .int), Cond.fieldLink RX0 12 "SyscallFilter$Filter" "rules" "Ljava/util/ArrayList;", Cond.methodLink RX0 21 yJx4a65c_size_8abf5, Cond.methodLink RX0 29 yJx4a65c_remove_915e3, Cond.instanceMethod yJx4a65c_remove_915e3, Cond.selects RJx4a65c yJx4a65c_remove_915e3 yJx4a65c_remove_915e3, Cond.code yJx4a65c_remove_915e3 cJx4a65c_remove_915e3 4 (some (.object "java/lang/Object")), Cond.fieldLink RJx4a65c 9 "java/util/ArrayList" "elementData" "[Ljava/lang/Object;", Cond.methodLink RJx4a65c 118 yJ15_checkIndex_7cf53, Cond.static yJ15_checkIndex_7cf53, Cond.initialized RJ15, Cond.code yJ15_checkIndex_7cf53 cJ15_checkIndex_7cf53 2 (some .int), Cond.methodLink RJ15 105 yJ3_checkIndex_8e157, Cond.static yJ3_checkIndex_8e157, Cond.initialized RJ3, Cond.code yJ3_checkIndex_8e157 cJ3_checkIndex_8e157 3 (some .int), Cond.methodLink RJx4a65c 144 yJx4a65c_fastRemove_b59b0, Cond.instanceMethod yJx4a65c_fastRemove_b59b0]
def wsL_remove_r3 : List Cond := [Cond.selects RJx4a65c yJx4a65c_fastRemove_b59b0 yJx4a65c_fastRemove_b59b0, Cond.code yJx4a65c_fastRemove_b59b0 cJx4a65c_fastRemove_b59b0 4 none, Cond.fieldLink RJx4a65c 63 "java/util/ArrayList" "modCount" "I", Cond.sameField "java/util/ArrayList" "java/util/AbstractList" "modCount" "I", Cond.methodLink RJx4a65c 112 arraycopyName, Cond.native arraycopyName, Cond.static arraycopyName, Cond.initialized "java/lang/System"]
def wsL_remove : List Cond := .codeWith yL_remove cL_remove 5 (some .int) [(0, 10, 13, 13), (0, 10, 17, 21)] :: ((wsL_remove_r1 ++ (wsL_remove_r2 ++ wsL_remove_r3)) ++ wsX40 ++ wsX00 ++ wsJx4a65c0 ++ (vx_atS RX4 38 "java/lang/IllegalArgumentException" ["java/lang/RuntimeException", "java/lang/Exception"]).filter goodWord ++ (vx_atS RX4 145 "java/lang/IndexOutOfBoundsException" ["java/lang/RuntimeException", "java/lang/Exception"]).filter goodWord)
def wsL_setDefault : List Cond := .codeWith yL_setDefault cL_setDefault 5 (some .int) [(0, 10, 13, 13)] :: ([.classLink RL 13 "java/lang/IllegalArgumentException", .methodLink RL 23 yX4_setDefault, .instanceMethod yX4_setDefault, .selects RX4 yX4_setDefault yX4_setDefault, .initialized RX4, .code yX4_setDefault cX4_setDefault 4 (some .int), .fieldLink RX4 11 "SyscallFilter" "filters" "[LSyscallFilter$Filter;", .fieldLink RX4 53 "SyscallFilter" "compiled" "Z", .methodLink RX4 27 yX4_requireFilter, .static yX4_requireFilter, .code yX4_requireFilter cX4_requireFilter 1 none, .classLink RX4 34 "java/lang/IllegalArgumentException", .initialized "java/lang/IllegalArgumentException", .methodLink RX4 41 yX4_requireAction, .static yX4_requireAction, .code yX4_requireAction cX4_requireAction 1 none] ++ wsX40 ++ wsX00 ++ (vx_atS RX4 38 "java/lang/IllegalArgumentException" ["java/lang/RuntimeException", "java/lang/Exception"]).filter goodWord)
def wsL_setFrequency : List Cond := .codeWith yL_setFrequency cL_setFrequency 5 (some .int) [(0, 10, 13, 13)] :: ([.classLink RL 13 "java/lang/IllegalArgumentException", .methodLink RL 26 yX4_setFrequency, .instanceMethod yX4_setFrequency, .selects RX4 yX4_setFrequency yX4_setFrequency, .initialized RX4, .code yX4_setFrequency cX4_setFrequency 4 (some .int), .classLink RX4 34 "java/lang/IllegalArgumentException", .initialized "java/lang/IllegalArgumentException", .fieldLink RX4 15 "SyscallFilter" "frequencies" "[I", .fieldLink RX4 53 "SyscallFilter" "compiled" "Z", .methodLink RX4 31 yX4_requireNumber, .static yX4_requireNumber, .code yX4_requireNumber cX4_requireNumber 1 none] ++ wsX40 ++ (vx_atS RX4 38 "java/lang/IllegalArgumentException" ["java/lang/RuntimeException", "java/lang/Exception"]).filter goodWord)
def wsL_rules : List Cond := .codeWith yL_rules cL_rules 4 (some .int) [(0, 9, 12, 13)] :: ([.classLink RL 13 "java/lang/IllegalArgumentException", .methodLink RL 29 yX4_rules, .instanceMethod yX4_rules, .selects RX4 yX4_rules yX4_rules, .initialized RX4, .code yX4_rules cX4_rules 2 (some .int), .fieldLink RX4 11 "SyscallFilter" "filters" "[LSyscallFilter$Filter;", .methodLink RX4 27 yX4_requireFilter, .static yX4_requireFilter, .code yX4_requireFilter cX4_requireFilter 1 none, .classLink RX4 34 "java/lang/IllegalArgumentException", .initialized "java/lang/IllegalArgumentException", .methodLink RX4 84 yJx4a65c_size_8abf5, .instanceMethod yJx4a65c_size_8abf5, .selects RJx4a65c yJx4a65c_size_8abf5 yJx4a65c_size_8abf5, .initialized RJx4a65c, .code yJx4a65c_size_8abf5 cJx4a65c_size_8abf5 1 (some .int), .fieldLink RJx4a65c 48 "java/util/ArrayList" "size" "I"] ++ wsX40 ++ wsX00 ++ wsJx4a65c0 ++ (vx_atS RX4 38 "java/lang/IllegalArgumentException" ["java/lang/RuntimeException", "java/lang/Exception"]).filter goodWord)
def wsL_hider_r1 : List Cond := [Cond.classLink RL 13 "java/lang/IllegalArgumentException", Cond.classLink RL 21 "java/lang/IndexOutOfBoundsException", Cond.methodLink RL 33 yX4_hider, Cond.instanceMethod yX4_hider, Cond.selects RX4 yX4_hider yX4_hider, Cond.initialized RX4, Cond.code yX4_hider cX4_hider 3 (some .int), Cond.fieldLink RX4 11 "SyscallFilter" "filters" "[LSyscallFilter$Filter;", Cond.methodLink RX4 27 yX4_requireFilter, Cond.static yX4_requireFilter, Cond.code yX4_requireFilter cX4_requireFilter 1 none, Cond.classLink RX4 34 "java/lang/IllegalArgumentException", Cond.initialized "java/lang/IllegalArgumentException", Cond.methodLink RX4 66 yX4_requireRule, Cond.instanceMethod yX4_requireRule, Cond.selects RX4 yX4_requireRule yX4_requireRule, Cond.code yX4_requireRule cX4_requireRule 3 none, Cond.classLink RX4 141 "java/lang/IndexOutOfBoundsException", Cond.initialized "java/lang/IndexOutOfBoundsException", Cond.methodLink RX4 84 yJx4a65c_size_8abf5, Cond.instanceMethod yJx4a65c_size_8abf5, Cond.selects RJx4a65c yJx4a65c_size_8abf5 yJx4a65c_size_8abf5, Cond.initialized RJx4a65c, Cond.code yJx4a65c_size_8abf5 cJx4a65c_size_8abf5 1 (some .int)]
def wsL_hider_r2 : List Cond := [Cond.fieldLink RJx4a65c 48 "java/util/ArrayList" "size" "I", Cond.methodLink RX4 90 yX0_hiderOf, Cond.instanceMethod yX0_hiderOf, Cond.selects RX0 yX0_hiderOf yX0_hiderOf, Cond.initialized RX0, Cond.code yX0_hiderOf cX0_hiderOf 4 (some .int), Cond.fieldLink RX0 12 "SyscallFilter$Filter" "rules" "Ljava/util/ArrayList;", Cond.classLink RX0 36 "SyscallFilter$Rule", Cond.methodLink RX0 21 yJx4a65c_size_8abf5, Cond.methodLink RX0 33 yJx4a65c_get_915e3, Cond.instanceMethod yJx4a65c_get_915e3, Cond.selects RJx4a65c yJx4a65c_get_915e3 yJx4a65c_get_915e3, Cond.code yJx4a65c_get_915e3 cJx4a65c_get_915e3 2 (some (.object "java/lang/Object")), Cond.methodLink RJx4a65c 118 yJ15_checkIndex_7cf53, Cond.static yJ15_checkIndex_7cf53, Cond.initialized RJ15, Cond.code yJ15_checkIndex_7cf53 cJ15_checkIndex_7cf53 2 (some .int), Cond.methodLink RJ15 105 yJ3_checkIndex_8e157, Cond.static yJ3_checkIndex_8e157, Cond.initialized RJ3, Cond.code yJ3_checkIndex_8e157 cJ3_checkIndex_8e157 3 (some .int), Cond.methodLink RJx4a65c 123 yJx4a65c_elementData_915e3, Cond.instanceMethod yJx4a65c_elementData_915e3, Cond.selects RJx4a65c yJx4a65c_elementData_915e3 yJx4a65c_elementData_915e3]
def wsL_hider_r3 : List Cond := [Cond.code yJx4a65c_elementData_915e3 cJx4a65c_elementData_915e3 2 (some (.object "java/lang/Object")), Cond.fieldLink RJx4a65c 9 "java/util/ArrayList" "elementData" "[Ljava/lang/Object;", Cond.methodLink RX0 38 yX3_canNeverMatch, Cond.instanceMethod yX3_canNeverMatch, Cond.selects RX3 yX3_canNeverMatch yX3_canNeverMatch, Cond.initialized RX3, Cond.code yX3_canNeverMatch cX3_canNeverMatch 1 (some .boolean), Cond.fieldLink RX3 22 "SyscallFilter$Rule" "value" "J", Cond.fieldLink RX3 18 "SyscallFilter$Rule" "mask" "J", Cond.constantLong RX3 32 (-1), Cond.methodLink RX0 42 yX3_covers, Cond.instanceMethod yX3_covers, Cond.selects RX3 yX3_covers yX3_covers, Cond.code yX3_covers cX3_covers 2 (some .boolean), Cond.fieldLink RX3 9 "SyscallFilter$Rule" "number" "I", Cond.fieldLink RX3 15 "SyscallFilter$Rule" "argument" "I"]
def wsL_hider : List Cond := .codeWith yL_hider cL_hider 5 (some .int) [(0, 10, 13, 13), (0, 10, 17, 21)] :: ((wsL_hider_r1 ++ (wsL_hider_r2 ++ wsL_hider_r3)) ++ wsX40 ++ wsX00 ++ wsJx4a65c0 ++ wsX30 ++ (vx_atS RX4 38 "java/lang/IllegalArgumentException" ["java/lang/RuntimeException", "java/lang/Exception"]).filter goodWord ++ (vx_atS RX4 145 "java/lang/IndexOutOfBoundsException" ["java/lang/RuntimeException", "java/lang/Exception"]).filter goodWord)
def wsL_compile_r1 : List Cond := [Cond.classLink RL 13 "java/lang/IllegalArgumentException", Cond.methodLink RL 36 yX4_compile, Cond.instanceMethod yX4_compile, Cond.selects RX4 yX4_compile yX4_compile, Cond.initialized RX4, Cond.code yX4_compile cX4_compile 3 (some .int), Cond.classLink RX4 34 "java/lang/IllegalArgumentException", Cond.initialized "java/lang/IllegalArgumentException", Cond.fieldLink RX4 53 "SyscallFilter" "compiled" "Z", Cond.methodLink RX4 95 yX4_planTrees, Cond.instanceMethod yX4_planTrees, Cond.selects RX4 yX4_planTrees yX4_planTrees, Cond.code yX4_planTrees cX4_planTrees 5 none, Cond.fieldLink RX4 11 "SyscallFilter" "filters" "[LSyscallFilter$Filter;", Cond.fieldLink RX4 22 "SyscallFilter" "planner" "LSyscallFilter$Planner;", Cond.fieldLink RX4 15 "SyscallFilter" "frequencies" "[I", Cond.methodLink RX4 131 yX0_planTree, Cond.instanceMethod yX0_planTree, Cond.selects RX0 yX0_planTree yX0_planTree, Cond.initialized RX0, Cond.code yX0_planTree cX0_planTree 4 none, Cond.fieldLink RX0 69 "SyscallFilter$Filter" "firstTest" "LSyscallFilter$Node;", Cond.fieldLink RX0 76 "SyscallFilter$Filter" "treeCost" "I", Cond.methodLink RX0 46 yX0_gatherReached]
def wsL_compile_r2 : List Cond := [Cond.instanceMethod yX0_gatherReached, Cond.selects RX0 yX0_gatherReached yX0_gatherReached, Cond.code yX0_gatherReached cX0_gatherReached 2 none, Cond.fieldLink RX0 18 "SyscallFilter$Filter" "reached" "Ljava/util/ArrayList;", Cond.fieldLink RX0 12 "SyscallFilter$Filter" "rules" "Ljava/util/ArrayList;", Cond.classLink RX0 36 "SyscallFilter$Rule", Cond.methodLink RX0 80 yJx4a65c_clear_da8c8, Cond.instanceMethod yJx4a65c_clear_da8c8, Cond.selects RJx4a65c yJx4a65c_clear_da8c8 yJx4a65c_clear_da8c8, Cond.initialized RJx4a65c, Cond.code yJx4a65c_clear_da8c8 cJx4a65c_clear_da8c8 4 none, Cond.fieldLink RJx4a65c 63 "java/util/ArrayList" "modCount" "I", Cond.sameField "java/util/ArrayList" "java/util/AbstractList" "modCount" "I", Cond.fieldLink RJx4a65c 9 "java/util/ArrayList" "elementData" "[Ljava/lang/Object;", Cond.fieldLink RJx4a65c 48 "java/util/ArrayList" "size" "I", Cond.methodLink RX0 21 yJx4a65c_size_8abf5, Cond.instanceMethod yJx4a65c_size_8abf5, Cond.selects RJx4a65c yJx4a65c_size_8abf5 yJx4a65c_size_8abf5, Cond.code yJx4a65c_size_8abf5 cJx4a65c_size_8abf5 1 (some .int), Cond.methodLink RX0 83 yX0_hiderOf, Cond.instanceMethod yX0_hiderOf, Cond.selects RX0 yX0_hiderOf yX0_hiderOf, Cond.code yX0_hiderOf cX0_hiderOf 4 (some .int), Cond.methodLink RX0 33 yJx4a65c_get_915e3]
def wsL_compile_r3 : List Cond := [Cond.instanceMethod yJx4a65c_get_915e3, Cond.selects RJx4a65c yJx4a65c_get_915e3 yJx4a65c_get_915e3, Cond.code yJx4a65c_get_915e3 cJx4a65c_get_915e3 2 (some (.object "java/lang/Object")), Cond.methodLink RJx4a65c 118 yJ15_checkIndex_7cf53, Cond.static yJ15_checkIndex_7cf53, Cond.initialized RJ15, Cond.code yJ15_checkIndex_7cf53 cJ15_checkIndex_7cf53 2 (some .int), Cond.methodLink RJ15 105 yJ3_checkIndex_8e157, Cond.static yJ3_checkIndex_8e157, Cond.initialized RJ3, Cond.code yJ3_checkIndex_8e157 cJ3_checkIndex_8e157 3 (some .int), Cond.methodLink RJx4a65c 123 yJx4a65c_elementData_915e3, Cond.instanceMethod yJx4a65c_elementData_915e3, Cond.selects RJx4a65c yJx4a65c_elementData_915e3 yJx4a65c_elementData_915e3, Cond.code yJx4a65c_elementData_915e3 cJx4a65c_elementData_915e3 2 (some (.object "java/lang/Object")), Cond.methodLink RX0 38 yX3_canNeverMatch, Cond.instanceMethod yX3_canNeverMatch, Cond.selects RX3 yX3_canNeverMatch yX3_canNeverMatch, Cond.initialized RX3, Cond.code yX3_canNeverMatch cX3_canNeverMatch 1 (some .boolean), Cond.fieldLink RX3 22 "SyscallFilter$Rule" "value" "J", Cond.fieldLink RX3 18 "SyscallFilter$Rule" "mask" "J", Cond.constantLong RX3 32 (-1), Cond.methodLink RX0 42 yX3_covers]
def wsL_compile_r4 : List Cond := [Cond.instanceMethod yX3_covers, Cond.selects RX3 yX3_covers yX3_covers, Cond.code yX3_covers cX3_covers 2 (some .boolean), Cond.fieldLink RX3 9 "SyscallFilter$Rule" "number" "I", Cond.fieldLink RX3 15 "SyscallFilter$Rule" "argument" "I", Cond.methodLink RX0 25 yJx4a65c_add_9ea2d, Cond.instanceMethod yJx4a65c_add_9ea2d, Cond.selects RJx4a65c yJx4a65c_add_9ea2d yJx4a65c_add_9ea2d, Cond.code yJx4a65c_add_9ea2d cJx4a65c_add_9ea2d 2 (some .boolean), Cond.methodLink RJx4a65c 131 yJx4a65c_add_72be8, Cond.instanceMethod yJx4a65c_add_72be8, Cond.selects RJx4a65c yJx4a65c_add_72be8 yJx4a65c_add_72be8, Cond.code yJx4a65c_add_72be8 cJx4a65c_add_72be8 4 none, Cond.methodLink RJx4a65c 129 yJx4a65c_grow_d5877, Cond.instanceMethod yJx4a65c_grow_d5877, Cond.selects RJx4a65c yJx4a65c_grow_d5877 yJx4a65c_grow_d5877, Cond.code yJx4a65c_grow_d5877 cJx4a65c_grow_d5877 1 (some (.array (.object "java/lang/Object"))), Cond.methodLink RJx4a65c 69 yJx4a65c_grow_92f84, Cond.instanceMethod yJx4a65c_grow_92f84, Cond.selects RJx4a65c yJx4a65c_grow_92f84 yJx4a65c_grow_92f84, Cond.code yJx4a65c_grow_92f84 cJx4a65c_grow_92f84 4 (some (.array (.object "java/lang/Object"))), Cond.fieldLink RJx4a65c 39 "java/util/ArrayList" "DEFAULTCAPACITY_EMPTY_ELEMENTDATA" "[Ljava/lang/Object;", Cond.methodLink RJx4a65c 79 Lib.Math.max.name, Cond.static Lib.Math.max.name]
def wsL_compile_r5 : List Cond := [Cond.initialized "java/lang/Math", Cond.code Lib.Math.max.name Lib.Math.max.code 2 (some .int), Cond.classLink RJx4a65c 7 "java/lang/Object", Cond.methodLink RJx4a65c 73 yJ8_newLength_cabcc, Cond.static yJ8_newLength_cabcc, Cond.initialized RJ8, Cond.code yJ8_newLength_cabcc cJ8_newLength_cabcc 4 (some .int), Cond.methodLink RJ8 194 Lib.Math.max.name, Cond.constant RJ8 200 (2147483639), Cond.methodLink RJ8 201 yJ8_hugeLength_7cf53, Cond.static yJ8_hugeLength_7cf53, Cond.code yJ8_hugeLength_7cf53 cJ8_hugeLength_7cf53 3 (some .int), Cond.methodLink RJx4a65c 66 yJ7_copyOf_1904c, Cond.static yJ7_copyOf_1904c, Cond.initialized RJ7, Cond.code yJ7_copyOf_1904c cJ7_copyOf_1904c 2 (some (.array (.object "java/lang/Object"))), Cond.methodLink RJ7 86 ⟨"java/lang/Object", "getClass", "()Ljava/lang/Class;"⟩, Cond.selects "[Ljava/lang/Object;" ⟨"java/lang/Object", "getClass", "()Ljava/lang/Class;"⟩ ⟨"java/lang/Object", "getClass", "()Ljava/lang/Class;"⟩, Cond.instanceMethod ⟨"java/lang/Object", "getClass", "()Ljava/lang/Class;"⟩, Cond.native ⟨"java/lang/Object", "getClass", "()Ljava/lang/Class;"⟩, Cond.methodLink RJ7 300 yJ7_copyOf_6403c, Cond.static yJ7_copyOf_6403c, Cond.code yJ7_copyOf_6403c cJ7_copyOf_6403c 4 (some (.array (.object "java/lang/Object"))), Cond.classLink RJ7 110 "[Ljava/lang/Object;"]
def wsL_compile_r6 : List Cond := [Cond.classLink RJ7 2 "java/lang/Object", Cond.methodLink RJ7 304 Lib.Math.min.name, Cond.static Lib.Math.min.name, Cond.code Lib.Math.min.name Lib.Math.min.code 2 (some .int), Cond.methodLink RJ7 150 arraycopyName, Cond.native arraycopyName, Cond.static arraycopyName, Cond.initialized "java/lang/System", Cond.methodLink RX0 49 yX2_startAnew, Cond.instanceMethod yX2_startAnew, Cond.selects RX2 yX2_startAnew yX2_startAnew, Cond.initialized RX2, Cond.code yX2_startAnew cX2_startAnew 1 none, Cond.fieldLink RX2 26 "SyscallFilter$Planner" "size" "I", Cond.methodLink RX0 54 yX0_isReached, Cond.instanceMethod yX0_isReached, Cond.selects RX0 yX0_isReached yX0_isReached, Cond.code yX0_isReached cX0_isReached 3 (some .boolean), Cond.methodLink RX0 58 yX2_take, Cond.instanceMethod yX2_take, Cond.selects RX2 yX2_take yX2_take, Cond.code yX2_take cX2_take 3 none, Cond.fieldLink RX2 9 "SyscallFilter$Planner" "numbers" "[I", Cond.fieldLink RX2 15 "SyscallFilter$Planner" "weights" "[I"]
def wsL_compile_r7 : List Cond := [Cond.methodLink RX0 62 yX2_weighAllTrees, Cond.instanceMethod yX2_weighAllTrees, Cond.selects RX2 yX2_weighAllTrees yX2_weighAllTrees, Cond.code yX2_weighAllTrees cX2_weighAllTrees 3 none, Cond.methodLink RX2 30 yX2_weighTrees, Cond.instanceMethod yX2_weighTrees, Cond.selects RX2 yX2_weighTrees yX2_weighTrees, Cond.code yX2_weighTrees cX2_weighTrees 5 none, Cond.fieldLink RX2 23 "SyscallFilter$Planner" "firstPlaces" "[[I", Cond.fieldLink RX2 20 "SyscallFilter$Planner" "costs" "[[I", Cond.methodLink RX2 34 yX2_costBelow, Cond.instanceMethod yX2_costBelow, Cond.selects RX2 yX2_costBelow yX2_costBelow, Cond.code yX2_costBelow cX2_costBelow 4 (some .int), Cond.methodLink RX2 38 yX2_weightOf, Cond.instanceMethod yX2_weightOf, Cond.selects RX2 yX2_weightOf yX2_weightOf, Cond.code yX2_weightOf cX2_weightOf 5 (some .int), Cond.methodLink RX0 65 yX2_bestTree, Cond.instanceMethod yX2_bestTree, Cond.selects RX2 yX2_bestTree yX2_bestTree, Cond.code yX2_bestTree cX2_bestTree 1 (some (.object "SyscallFilter$Node")), Cond.methodLink RX2 42 yX2_grow, Cond.static yX2_grow]
def wsL_compile_r8 : List Cond := [Cond.code yX2_grow cX2_grow 5 (some (.object "SyscallFilter$Node")), Cond.classLink RX2 46 RX1, Cond.instantiable RX1 4, Cond.initialized RX1, Cond.methodLink RX2 48 yX1_init, Cond.instanceMethod yX1_init, Cond.code yX1_init cX1_init 5 none, Cond.methodLink RX1 1 objectInit, Cond.instanceMethod objectInit, Cond.code objectInit ⟨#[0xb1]⟩ 1 none, Cond.fieldLink RX1 7 "SyscallFilter$Node" "number" "I", Cond.fieldLink RX1 13 "SyscallFilter$Node" "tests" "I", Cond.fieldLink RX1 16 "SyscallFilter$Node" "lesser" "LSyscallFilter$Node;", Cond.fieldLink RX1 20 "SyscallFilter$Node" "greater" "LSyscallFilter$Node;", Cond.methodLink RX0 73 yX2_leastCost, Cond.instanceMethod yX2_leastCost, Cond.selects RX2 yX2_leastCost yX2_leastCost, Cond.code yX2_leastCost cX2_leastCost 1 (some .int), Cond.methodLink RX4 98 yX4_worstPathOfAll, Cond.instanceMethod yX4_worstPathOfAll, Cond.selects RX4 yX4_worstPathOfAll yX4_worstPathOfAll, Cond.code yX4_worstPathOfAll cX4_worstPathOfAll 6 (some .int), Cond.methodLink RX4 112 yX0_worstPath, Cond.instanceMethod yX0_worstPath]
def wsL_compile_r9 : List Cond := [Cond.selects RX0 yX0_worstPath yX0_worstPath, Cond.code yX0_worstPath cX0_worstPath 3 (some .int), Cond.methodLink RX0 105 Lib.Math.max.name, Cond.methodLink RX0 99 yX0_numberTests, Cond.instanceMethod yX0_numberTests, Cond.selects RX0 yX0_numberTests yX0_numberTests, Cond.code yX0_numberTests cX0_numberTests 3 (some .int), Cond.methodLink RX0 119 yX0_lastTest, Cond.instanceMethod yX0_lastTest, Cond.selects RX0 yX0_lastTest yX0_lastTest, Cond.code yX0_lastTest cX0_lastTest 4 (some (.object "SyscallFilter$Node")), Cond.methodLink RX0 139 yX1_towards, Cond.instanceMethod yX1_towards, Cond.selects RX1 yX1_towards yX1_towards, Cond.code yX1_towards cX1_towards 2 (some (.object "SyscallFilter$Node")), Cond.methodLink RX0 102 yX0_mostRuleTests, Cond.instanceMethod yX0_mostRuleTests, Cond.selects RX0 yX0_mostRuleTests yX0_mostRuleTests, Cond.code yX0_mostRuleTests cX0_mostRuleTests 4 (some .int), Cond.methodLink RX0 136 yX3_mostTests, Cond.instanceMethod yX3_mostTests, Cond.selects RX3 yX3_mostTests yX3_mostTests, Cond.code yX3_mostTests cX3_mostTests 1 (some .int), Cond.methodLink RX3 36 yX3_lowerTests]
def wsL_compile_r10 : List Cond := [Cond.instanceMethod yX3_lowerTests, Cond.selects RX3 yX3_lowerTests yX3_lowerTests, Cond.code yX3_lowerTests cX3_lowerTests 1 (some .int), Cond.constantLong RX3 34 (4294967295), Cond.methodLink RX3 43 yX3_upperTests, Cond.instanceMethod yX3_upperTests, Cond.selects RX3 yX3_upperTests yX3_upperTests, Cond.code yX3_upperTests cX3_upperTests 1 (some .int), Cond.constantLong RX3 46 (-4294967296)]
def wsL_compile : List Cond := .codeWith yL_compile cL_compile 4 (some .int) [(0, 9, 12, 13)] :: ((wsL_compile_r1 ++ (wsL_compile_r2 ++ (wsL_compile_r3 ++ (wsL_compile_r4 ++ (wsL_compile_r5 ++ (wsL_compile_r6 ++ (wsL_compile_r7 ++ (wsL_compile_r8 ++ (wsL_compile_r9 ++ wsL_compile_r10))))))))) ++ wsX40 ++ wsX00 ++ wsJx4a65c0 ++ wsX30 ++ wsX20 ++ wsX10 ++ (vx_atS RX4 38 "java/lang/IllegalArgumentException" ["java/lang/RuntimeException", "java/lang/Exception"]).filter goodWord)
def wsL_test_r1 : List Cond := [Cond.classLink RL 13 "java/lang/IllegalArgumentException", Cond.classLink RL 15 "java/lang/IllegalStateException", Cond.methodLink RL 39 yX4_test, Cond.instanceMethod yX4_test, Cond.selects RX4 yX4_test yX4_test, Cond.initialized RX4, Cond.code yX4_test cX4_test 3 (some .int), Cond.classLink RX4 34 "java/lang/IllegalArgumentException", Cond.initialized "java/lang/IllegalArgumentException", Cond.fieldLink RX4 11 "SyscallFilter" "filters" "[LSyscallFilter$Filter;", Cond.methodLink RX4 27 yX4_requireFilter, Cond.static yX4_requireFilter, Cond.code yX4_requireFilter cX4_requireFilter 1 none, Cond.methodLink RX4 103 yX4_requireCompiled, Cond.instanceMethod yX4_requireCompiled, Cond.selects RX4 yX4_requireCompiled yX4_requireCompiled, Cond.code yX4_requireCompiled cX4_requireCompiled 1 none, Cond.classLink RX4 48 "java/lang/IllegalStateException", Cond.initialized "java/lang/IllegalStateException", Cond.fieldLink RX4 53 "SyscallFilter" "compiled" "Z", Cond.methodLink RX4 106 yX0_numberAt, Cond.instanceMethod yX0_numberAt, Cond.selects RX0 yX0_numberAt yX0_numberAt, Cond.initialized RX0]
def wsL_test_r2 : List Cond := [Cond.code yX0_numberAt cX0_numberAt 4 (some .int), Cond.fieldLink RX0 69 "SyscallFilter$Filter" "firstTest" "LSyscallFilter$Node;"]
def wsL_test : List Cond := .codeWith yL_test cL_test 5 (some .int) [(0, 10, 13, 13), (0, 10, 17, 15)] :: ((wsL_test_r1 ++ wsL_test_r2) ++ wsX40 ++ wsX00 ++ wsX10 ++ (vx_atS RX4 38 "java/lang/IllegalArgumentException" ["java/lang/RuntimeException", "java/lang/Exception"]).filter goodWord ++ (vx_atS RX4 52 "java/lang/IllegalStateException" ["java/lang/RuntimeException", "java/lang/Exception"]).filter goodWord)
def wsL_cost : List Cond := .codeWith yL_cost cL_cost 4 (some .int) [(0, 9, 12, 13), (0, 9, 15, 15)] :: ([.classLink RL 13 "java/lang/IllegalArgumentException", .classLink RL 15 "java/lang/IllegalStateException", .methodLink RL 42 yX4_cost, .instanceMethod yX4_cost, .selects RX4 yX4_cost yX4_cost, .initialized RX4, .code yX4_cost cX4_cost 2 (some .int), .fieldLink RX4 11 "SyscallFilter" "filters" "[LSyscallFilter$Filter;", .methodLink RX4 27 yX4_requireFilter, .static yX4_requireFilter, .code yX4_requireFilter cX4_requireFilter 1 none, .classLink RX4 34 "java/lang/IllegalArgumentException", .initialized "java/lang/IllegalArgumentException", .methodLink RX4 103 yX4_requireCompiled, .instanceMethod yX4_requireCompiled, .selects RX4 yX4_requireCompiled yX4_requireCompiled, .code yX4_requireCompiled cX4_requireCompiled 1 none, .classLink RX4 48 "java/lang/IllegalStateException", .initialized "java/lang/IllegalStateException", .fieldLink RX4 53 "SyscallFilter" "compiled" "Z"] ++ wsX40 ++ wsX00 ++ (vx_atS RX4 38 "java/lang/IllegalArgumentException" ["java/lang/RuntimeException", "java/lang/Exception"]).filter goodWord ++ (vx_atS RX4 52 "java/lang/IllegalStateException" ["java/lang/RuntimeException", "java/lang/Exception"]).filter goodWord)
def wsL_worst_r1 : List Cond := [Cond.classLink RL 13 "java/lang/IllegalArgumentException", Cond.classLink RL 15 "java/lang/IllegalStateException", Cond.methodLink RL 45 yX4_worst, Cond.instanceMethod yX4_worst, Cond.selects RX4 yX4_worst yX4_worst, Cond.initialized RX4, Cond.code yX4_worst cX4_worst 2 (some .int), Cond.fieldLink RX4 11 "SyscallFilter" "filters" "[LSyscallFilter$Filter;", Cond.methodLink RX4 27 yX4_requireFilter, Cond.static yX4_requireFilter, Cond.code yX4_requireFilter cX4_requireFilter 1 none, Cond.classLink RX4 34 "java/lang/IllegalArgumentException", Cond.initialized "java/lang/IllegalArgumentException", Cond.methodLink RX4 103 yX4_requireCompiled, Cond.instanceMethod yX4_requireCompiled, Cond.selects RX4 yX4_requireCompiled yX4_requireCompiled, Cond.code yX4_requireCompiled cX4_requireCompiled 1 none, Cond.classLink RX4 48 "java/lang/IllegalStateException", Cond.initialized "java/lang/IllegalStateException", Cond.fieldLink RX4 53 "SyscallFilter" "compiled" "Z", Cond.methodLink RX4 112 yX0_worstPath, Cond.instanceMethod yX0_worstPath, Cond.selects RX0 yX0_worstPath yX0_worstPath, Cond.initialized RX0]
def wsL_worst_r2 : List Cond := [Cond.code yX0_worstPath cX0_worstPath 3 (some .int), Cond.methodLink RX0 105 Lib.Math.max.name, Cond.static Lib.Math.max.name, Cond.initialized "java/lang/Math", Cond.code Lib.Math.max.name Lib.Math.max.code 2 (some .int), Cond.methodLink RX0 99 yX0_numberTests, Cond.instanceMethod yX0_numberTests, Cond.selects RX0 yX0_numberTests yX0_numberTests, Cond.code yX0_numberTests cX0_numberTests 3 (some .int), Cond.methodLink RX0 119 yX0_lastTest, Cond.instanceMethod yX0_lastTest, Cond.selects RX0 yX0_lastTest yX0_lastTest, Cond.code yX0_lastTest cX0_lastTest 4 (some (.object "SyscallFilter$Node")), Cond.fieldLink RX0 69 "SyscallFilter$Filter" "firstTest" "LSyscallFilter$Node;", Cond.methodLink RX0 139 yX1_towards, Cond.instanceMethod yX1_towards, Cond.selects RX1 yX1_towards yX1_towards, Cond.initialized RX1, Cond.code yX1_towards cX1_towards 2 (some (.object "SyscallFilter$Node")), Cond.fieldLink RX1 7 "SyscallFilter$Node" "number" "I", Cond.fieldLink RX1 16 "SyscallFilter$Node" "lesser" "LSyscallFilter$Node;", Cond.fieldLink RX1 20 "SyscallFilter$Node" "greater" "LSyscallFilter$Node;", Cond.methodLink RX0 102 yX0_mostRuleTests, Cond.instanceMethod yX0_mostRuleTests]
def wsL_worst_r3 : List Cond := [Cond.selects RX0 yX0_mostRuleTests yX0_mostRuleTests, Cond.code yX0_mostRuleTests cX0_mostRuleTests 4 (some .int), Cond.fieldLink RX0 18 "SyscallFilter$Filter" "reached" "Ljava/util/ArrayList;", Cond.classLink RX0 36 "SyscallFilter$Rule", Cond.methodLink RX0 21 yJx4a65c_size_8abf5, Cond.instanceMethod yJx4a65c_size_8abf5, Cond.selects RJx4a65c yJx4a65c_size_8abf5 yJx4a65c_size_8abf5, Cond.initialized RJx4a65c, Cond.code yJx4a65c_size_8abf5 cJx4a65c_size_8abf5 1 (some .int), Cond.fieldLink RJx4a65c 48 "java/util/ArrayList" "size" "I", Cond.methodLink RX0 33 yJx4a65c_get_915e3, Cond.instanceMethod yJx4a65c_get_915e3, Cond.selects RJx4a65c yJx4a65c_get_915e3 yJx4a65c_get_915e3, Cond.code yJx4a65c_get_915e3 cJx4a65c_get_915e3 2 (some (.object "java/lang/Object")), Cond.methodLink RJx4a65c 118 yJ15_checkIndex_7cf53, Cond.static yJ15_checkIndex_7cf53, Cond.initialized RJ15, Cond.code yJ15_checkIndex_7cf53 cJ15_checkIndex_7cf53 2 (some .int), Cond.methodLink RJ15 105 yJ3_checkIndex_8e157, Cond.static yJ3_checkIndex_8e157, Cond.initialized RJ3, Cond.code yJ3_checkIndex_8e157 cJ3_checkIndex_8e157 3 (some .int), Cond.methodLink RJx4a65c 123 yJx4a65c_elementData_915e3, Cond.instanceMethod yJx4a65c_elementData_915e3]
def wsL_worst_r4 : List Cond := [Cond.selects RJx4a65c yJx4a65c_elementData_915e3 yJx4a65c_elementData_915e3, Cond.code yJx4a65c_elementData_915e3 cJx4a65c_elementData_915e3 2 (some (.object "java/lang/Object")), Cond.fieldLink RJx4a65c 9 "java/util/ArrayList" "elementData" "[Ljava/lang/Object;", Cond.methodLink RX0 136 yX3_mostTests, Cond.instanceMethod yX3_mostTests, Cond.selects RX3 yX3_mostTests yX3_mostTests, Cond.initialized RX3, Cond.code yX3_mostTests cX3_mostTests 1 (some .int), Cond.methodLink RX3 36 yX3_lowerTests, Cond.instanceMethod yX3_lowerTests, Cond.selects RX3 yX3_lowerTests yX3_lowerTests, Cond.code yX3_lowerTests cX3_lowerTests 1 (some .int), Cond.fieldLink RX3 18 "SyscallFilter$Rule" "mask" "J", Cond.constantLong RX3 34 (4294967295), Cond.methodLink RX3 43 yX3_upperTests, Cond.instanceMethod yX3_upperTests, Cond.selects RX3 yX3_upperTests yX3_upperTests, Cond.code yX3_upperTests cX3_upperTests 1 (some .int), Cond.constantLong RX3 46 (-4294967296)]
def wsL_worst : List Cond := .codeWith yL_worst cL_worst 4 (some .int) [(0, 9, 12, 13), (0, 9, 15, 15)] :: ((wsL_worst_r1 ++ (wsL_worst_r2 ++ (wsL_worst_r3 ++ wsL_worst_r4))) ++ wsX40 ++ wsX10 ++ wsX00 ++ wsX30 ++ wsJx4a65c0 ++ (vx_atS RX4 38 "java/lang/IllegalArgumentException" ["java/lang/RuntimeException", "java/lang/Exception"]).filter goodWord ++ (vx_atS RX4 52 "java/lang/IllegalStateException" ["java/lang/RuntimeException", "java/lang/Exception"]).filter goodWord)
def wsL_judge_r1 : List Cond := [Cond.classLink RL 13 "java/lang/IllegalArgumentException", Cond.classLink RL 15 "java/lang/IllegalStateException", Cond.methodLink RL 48 yX4_judge, Cond.instanceMethod yX4_judge, Cond.selects RX4 yX4_judge yX4_judge, Cond.initialized RX4, Cond.code yX4_judge cX4_judge 11 (some .int), Cond.fieldLink RX4 11 "SyscallFilter" "filters" "[LSyscallFilter$Filter;", Cond.methodLink RX4 119 Lib.Math.max.name, Cond.static Lib.Math.max.name, Cond.initialized "java/lang/Math", Cond.code Lib.Math.max.name Lib.Math.max.code 2 (some .int), Cond.methodLink RX4 31 yX4_requireNumber, Cond.static yX4_requireNumber, Cond.code yX4_requireNumber cX4_requireNumber 1 none, Cond.classLink RX4 34 "java/lang/IllegalArgumentException", Cond.initialized "java/lang/IllegalArgumentException", Cond.methodLink RX4 103 yX4_requireCompiled, Cond.instanceMethod yX4_requireCompiled, Cond.selects RX4 yX4_requireCompiled yX4_requireCompiled, Cond.code yX4_requireCompiled cX4_requireCompiled 1 none, Cond.classLink RX4 48 "java/lang/IllegalStateException", Cond.initialized "java/lang/IllegalStateException", Cond.fieldLink RX4 53 "SyscallFilter" "compiled" "Z"]
def wsL_judge_r2 : List Cond := [Cond.methodLink RX4 115 yX0_actionByTree, Cond.instanceMethod yX0_actionByTree, Cond.selects RX0 yX0_actionByTree yX0_actionByTree, Cond.initialized RX0, Cond.code yX0_actionByTree cX0_actionByTree 7 (some .int), Cond.fieldLink RX0 123 "SyscallFilter$Filter" "defaultAction" "I", Cond.fieldLink RX0 18 "SyscallFilter$Filter" "reached" "Ljava/util/ArrayList;", Cond.methodLink RX0 119 yX0_lastTest, Cond.instanceMethod yX0_lastTest, Cond.selects RX0 yX0_lastTest yX0_lastTest, Cond.code yX0_lastTest cX0_lastTest 4 (some (.object "SyscallFilter$Node")), Cond.fieldLink RX0 69 "SyscallFilter$Filter" "firstTest" "LSyscallFilter$Node;", Cond.methodLink RX0 139 yX1_towards, Cond.instanceMethod yX1_towards, Cond.selects RX1 yX1_towards yX1_towards, Cond.initialized RX1, Cond.code yX1_towards cX1_towards 2 (some (.object "SyscallFilter$Node")), Cond.fieldLink RX1 7 "SyscallFilter$Node" "number" "I", Cond.fieldLink RX1 16 "SyscallFilter$Node" "lesser" "LSyscallFilter$Node;", Cond.fieldLink RX1 20 "SyscallFilter$Node" "greater" "LSyscallFilter$Node;", Cond.methodLink RX0 126 yX0_actionOfFirstMatch, Cond.instanceMethod yX0_actionOfFirstMatch, Cond.selects RX0 yX0_actionOfFirstMatch yX0_actionOfFirstMatch, Cond.code yX0_actionOfFirstMatch cX0_actionOfFirstMatch 9 (some .int)]
def wsL_judge_r3 : List Cond := [Cond.classLink RX0 36 "SyscallFilter$Rule", Cond.methodLink RX0 21 yJx4a65c_size_8abf5, Cond.instanceMethod yJx4a65c_size_8abf5, Cond.selects RJx4a65c yJx4a65c_size_8abf5 yJx4a65c_size_8abf5, Cond.initialized RJx4a65c, Cond.code yJx4a65c_size_8abf5 cJx4a65c_size_8abf5 1 (some .int), Cond.fieldLink RJx4a65c 48 "java/util/ArrayList" "size" "I", Cond.methodLink RX0 33 yJx4a65c_get_915e3, Cond.instanceMethod yJx4a65c_get_915e3, Cond.selects RJx4a65c yJx4a65c_get_915e3 yJx4a65c_get_915e3, Cond.code yJx4a65c_get_915e3 cJx4a65c_get_915e3 2 (some (.object "java/lang/Object")), Cond.methodLink RJx4a65c 118 yJ15_checkIndex_7cf53, Cond.static yJ15_checkIndex_7cf53, Cond.initialized RJ15, Cond.code yJ15_checkIndex_7cf53 cJ15_checkIndex_7cf53 2 (some .int), Cond.methodLink RJ15 105 yJ3_checkIndex_8e157, Cond.static yJ3_checkIndex_8e157, Cond.initialized RJ3, Cond.code yJ3_checkIndex_8e157 cJ3_checkIndex_8e157 3 (some .int), Cond.methodLink RJx4a65c 123 yJx4a65c_elementData_915e3, Cond.instanceMethod yJx4a65c_elementData_915e3, Cond.selects RJx4a65c yJx4a65c_elementData_915e3 yJx4a65c_elementData_915e3, Cond.code yJx4a65c_elementData_915e3 cJx4a65c_elementData_915e3 2 (some (.object "java/lang/Object")), Cond.fieldLink RJx4a65c 9 "java/util/ArrayList" "elementData" "[Ljava/lang/Object;"]
def wsL_judge_r4 : List Cond := [Cond.methodLink RX0 115 yX3_matches, Cond.instanceMethod yX3_matches, Cond.selects RX3 yX3_matches yX3_matches, Cond.initialized RX3, Cond.code yX3_matches cX3_matches 5 (some .boolean), Cond.fieldLink RX3 18 "SyscallFilter$Rule" "mask" "J", Cond.fieldLink RX3 22 "SyscallFilter$Rule" "value" "J", Cond.methodLink RX3 28 yX3_argumentOf, Cond.instanceMethod yX3_argumentOf, Cond.selects RX3 yX3_argumentOf yX3_argumentOf, Cond.code yX3_argumentOf cX3_argumentOf 5 (some .long), Cond.fieldLink RX3 15 "SyscallFilter$Rule" "argument" "I"]
def wsL_judge : List Cond := .codeWith yL_judge cL_judge 8 (some .int) [(0, 13, 16, 13), (0, 13, 20, 15)] :: ((wsL_judge_r1 ++ (wsL_judge_r2 ++ (wsL_judge_r3 ++ wsL_judge_r4))) ++ wsX40 ++ wsX10 ++ wsX00 ++ wsX30 ++ wsJx4a65c0 ++ (vx_atS RX4 38 "java/lang/IllegalArgumentException" ["java/lang/RuntimeException", "java/lang/Exception"]).filter goodWord ++ (vx_atS RX4 52 "java/lang/IllegalStateException" ["java/lang/RuntimeException", "java/lang/Exception"]).filter goodWord)
def wsL_judgeByRules_r1 : List Cond := [Cond.classLink RL 13 "java/lang/IllegalArgumentException", Cond.methodLink RL 52 yX4_judgeByRules, Cond.instanceMethod yX4_judgeByRules, Cond.selects RX4 yX4_judgeByRules yX4_judgeByRules, Cond.initialized RX4, Cond.code yX4_judgeByRules cX4_judgeByRules 11 (some .int), Cond.fieldLink RX4 11 "SyscallFilter" "filters" "[LSyscallFilter$Filter;", Cond.methodLink RX4 119 Lib.Math.max.name, Cond.static Lib.Math.max.name, Cond.initialized "java/lang/Math", Cond.code Lib.Math.max.name Lib.Math.max.code 2 (some .int), Cond.methodLink RX4 31 yX4_requireNumber, Cond.static yX4_requireNumber, Cond.code yX4_requireNumber cX4_requireNumber 1 none, Cond.classLink RX4 34 "java/lang/IllegalArgumentException", Cond.initialized "java/lang/IllegalArgumentException", Cond.methodLink RX4 125 yX0_actionByRules, Cond.instanceMethod yX0_actionByRules, Cond.selects RX0 yX0_actionByRules yX0_actionByRules, Cond.initialized RX0, Cond.code yX0_actionByRules cX0_actionByRules 6 (some .int), Cond.fieldLink RX0 12 "SyscallFilter$Filter" "rules" "Ljava/util/ArrayList;", Cond.methodLink RX0 126 yX0_actionOfFirstMatch, Cond.instanceMethod yX0_actionOfFirstMatch]
def wsL_judgeByRules_r2 : List Cond := [Cond.selects RX0 yX0_actionOfFirstMatch yX0_actionOfFirstMatch, Cond.code yX0_actionOfFirstMatch cX0_actionOfFirstMatch 9 (some .int), Cond.classLink RX0 36 "SyscallFilter$Rule", Cond.fieldLink RX0 123 "SyscallFilter$Filter" "defaultAction" "I", Cond.methodLink RX0 21 yJx4a65c_size_8abf5, Cond.instanceMethod yJx4a65c_size_8abf5, Cond.selects RJx4a65c yJx4a65c_size_8abf5 yJx4a65c_size_8abf5, Cond.initialized RJx4a65c, Cond.code yJx4a65c_size_8abf5 cJx4a65c_size_8abf5 1 (some .int), Cond.fieldLink RJx4a65c 48 "java/util/ArrayList" "size" "I", Cond.methodLink RX0 33 yJx4a65c_get_915e3, Cond.instanceMethod yJx4a65c_get_915e3, Cond.selects RJx4a65c yJx4a65c_get_915e3 yJx4a65c_get_915e3, Cond.code yJx4a65c_get_915e3 cJx4a65c_get_915e3 2 (some (.object "java/lang/Object")), Cond.methodLink RJx4a65c 118 yJ15_checkIndex_7cf53, Cond.static yJ15_checkIndex_7cf53, Cond.initialized RJ15, Cond.code yJ15_checkIndex_7cf53 cJ15_checkIndex_7cf53 2 (some .int), Cond.methodLink RJ15 105 yJ3_checkIndex_8e157, Cond.static yJ3_checkIndex_8e157, Cond.initialized RJ3, Cond.code yJ3_checkIndex_8e157 cJ3_checkIndex_8e157 3 (some .int), Cond.methodLink RJx4a65c 123 yJx4a65c_elementData_915e3, Cond.instanceMethod yJx4a65c_elementData_915e3]
def wsL_judgeByRules_r3 : List Cond := [Cond.selects RJx4a65c yJx4a65c_elementData_915e3 yJx4a65c_elementData_915e3, Cond.code yJx4a65c_elementData_915e3 cJx4a65c_elementData_915e3 2 (some (.object "java/lang/Object")), Cond.fieldLink RJx4a65c 9 "java/util/ArrayList" "elementData" "[Ljava/lang/Object;", Cond.methodLink RX0 115 yX3_matches, Cond.instanceMethod yX3_matches, Cond.selects RX3 yX3_matches yX3_matches, Cond.initialized RX3, Cond.code yX3_matches cX3_matches 5 (some .boolean), Cond.fieldLink RX3 18 "SyscallFilter$Rule" "mask" "J", Cond.fieldLink RX3 22 "SyscallFilter$Rule" "value" "J", Cond.methodLink RX3 28 yX3_argumentOf, Cond.instanceMethod yX3_argumentOf, Cond.selects RX3 yX3_argumentOf yX3_argumentOf, Cond.code yX3_argumentOf cX3_argumentOf 5 (some .long), Cond.fieldLink RX3 15 "SyscallFilter$Rule" "argument" "I"]
def wsL_judgeByRules : List Cond := .codeWith yL_judgeByRules cL_judgeByRules 8 (some .int) [(0, 13, 16, 13)] :: ((wsL_judgeByRules_r1 ++ (wsL_judgeByRules_r2 ++ wsL_judgeByRules_r3)) ++ wsX40 ++ wsX00 ++ wsX30 ++ wsJx4a65c0 ++ (vx_atS RX4 38 "java/lang/IllegalArgumentException" ["java/lang/RuntimeException", "java/lang/Exception"]).filter goodWord)
def wsL_path_r1 : List Cond := [Cond.classLink RL 13 "java/lang/IllegalArgumentException", Cond.classLink RL 15 "java/lang/IllegalStateException", Cond.methodLink RL 55 yX4_path, Cond.instanceMethod yX4_path, Cond.selects RX4 yX4_path yX4_path, Cond.initialized RX4, Cond.code yX4_path cX4_path 11 (some .int), Cond.fieldLink RX4 11 "SyscallFilter" "filters" "[LSyscallFilter$Filter;", Cond.methodLink RX4 31 yX4_requireNumber, Cond.static yX4_requireNumber, Cond.code yX4_requireNumber cX4_requireNumber 1 none, Cond.classLink RX4 34 "java/lang/IllegalArgumentException", Cond.initialized "java/lang/IllegalArgumentException", Cond.methodLink RX4 103 yX4_requireCompiled, Cond.instanceMethod yX4_requireCompiled, Cond.selects RX4 yX4_requireCompiled yX4_requireCompiled, Cond.code yX4_requireCompiled cX4_requireCompiled 1 none, Cond.classLink RX4 48 "java/lang/IllegalStateException", Cond.initialized "java/lang/IllegalStateException", Cond.fieldLink RX4 53 "SyscallFilter" "compiled" "Z", Cond.methodLink RX4 128 yX0_pathOf, Cond.instanceMethod yX0_pathOf, Cond.selects RX0 yX0_pathOf yX0_pathOf, Cond.initialized RX0]
def wsL_path_r2 : List Cond := [Cond.code yX0_pathOf cX0_pathOf 9 (some .int), Cond.fieldLink RX0 18 "SyscallFilter$Filter" "reached" "Ljava/util/ArrayList;", Cond.classLink RX0 36 "SyscallFilter$Rule", Cond.methodLink RX0 99 yX0_numberTests, Cond.instanceMethod yX0_numberTests, Cond.selects RX0 yX0_numberTests yX0_numberTests, Cond.code yX0_numberTests cX0_numberTests 3 (some .int), Cond.methodLink RX0 119 yX0_lastTest, Cond.instanceMethod yX0_lastTest, Cond.selects RX0 yX0_lastTest yX0_lastTest, Cond.code yX0_lastTest cX0_lastTest 4 (some (.object "SyscallFilter$Node")), Cond.fieldLink RX0 69 "SyscallFilter$Filter" "firstTest" "LSyscallFilter$Node;", Cond.methodLink RX0 139 yX1_towards, Cond.instanceMethod yX1_towards, Cond.selects RX1 yX1_towards yX1_towards, Cond.initialized RX1, Cond.code yX1_towards cX1_towards 2 (some (.object "SyscallFilter$Node")), Cond.fieldLink RX1 7 "SyscallFilter$Node" "number" "I", Cond.fieldLink RX1 16 "SyscallFilter$Node" "lesser" "LSyscallFilter$Node;", Cond.fieldLink RX1 20 "SyscallFilter$Node" "greater" "LSyscallFilter$Node;", Cond.methodLink RX0 21 yJx4a65c_size_8abf5, Cond.instanceMethod yJx4a65c_size_8abf5, Cond.selects RJx4a65c yJx4a65c_size_8abf5 yJx4a65c_size_8abf5, Cond.initialized RJx4a65c]
def wsL_path_r3 : List Cond := [Cond.code yJx4a65c_size_8abf5 cJx4a65c_size_8abf5 1 (some .int), Cond.fieldLink RJx4a65c 48 "java/util/ArrayList" "size" "I", Cond.methodLink RX0 33 yJx4a65c_get_915e3, Cond.instanceMethod yJx4a65c_get_915e3, Cond.selects RJx4a65c yJx4a65c_get_915e3 yJx4a65c_get_915e3, Cond.code yJx4a65c_get_915e3 cJx4a65c_get_915e3 2 (some (.object "java/lang/Object")), Cond.methodLink RJx4a65c 118 yJ15_checkIndex_7cf53, Cond.static yJ15_checkIndex_7cf53, Cond.initialized RJ15, Cond.code yJ15_checkIndex_7cf53 cJ15_checkIndex_7cf53 2 (some .int), Cond.methodLink RJ15 105 yJ3_checkIndex_8e157, Cond.static yJ3_checkIndex_8e157, Cond.initialized RJ3, Cond.code yJ3_checkIndex_8e157 cJ3_checkIndex_8e157 3 (some .int), Cond.methodLink RJx4a65c 123 yJx4a65c_elementData_915e3, Cond.instanceMethod yJx4a65c_elementData_915e3, Cond.selects RJx4a65c yJx4a65c_elementData_915e3 yJx4a65c_elementData_915e3, Cond.code yJx4a65c_elementData_915e3 cJx4a65c_elementData_915e3 2 (some (.object "java/lang/Object")), Cond.fieldLink RJx4a65c 9 "java/util/ArrayList" "elementData" "[Ljava/lang/Object;", Cond.methodLink RX0 111 yX3_testsFor, Cond.instanceMethod yX3_testsFor, Cond.selects RX3 yX3_testsFor yX3_testsFor, Cond.initialized RX3, Cond.code yX3_testsFor cX3_testsFor 6 (some .int)]
def wsL_path_r4 : List Cond := [Cond.fieldLink RX3 18 "SyscallFilter$Rule" "mask" "J", Cond.fieldLink RX3 22 "SyscallFilter$Rule" "value" "J", Cond.constantLong RX3 34 (4294967295), Cond.methodLink RX3 28 yX3_argumentOf, Cond.instanceMethod yX3_argumentOf, Cond.selects RX3 yX3_argumentOf yX3_argumentOf, Cond.code yX3_argumentOf cX3_argumentOf 5 (some .long), Cond.fieldLink RX3 15 "SyscallFilter$Rule" "argument" "I", Cond.methodLink RX3 36 yX3_lowerTests, Cond.instanceMethod yX3_lowerTests, Cond.selects RX3 yX3_lowerTests yX3_lowerTests, Cond.code yX3_lowerTests cX3_lowerTests 1 (some .int), Cond.methodLink RX3 40 yX3_mostTests, Cond.instanceMethod yX3_mostTests, Cond.selects RX3 yX3_mostTests yX3_mostTests, Cond.code yX3_mostTests cX3_mostTests 1 (some .int), Cond.methodLink RX3 43 yX3_upperTests, Cond.instanceMethod yX3_upperTests, Cond.selects RX3 yX3_upperTests yX3_upperTests, Cond.code yX3_upperTests cX3_upperTests 1 (some .int), Cond.constantLong RX3 46 (-4294967296), Cond.methodLink RX0 115 yX3_matches, Cond.instanceMethod yX3_matches, Cond.selects RX3 yX3_matches yX3_matches]
def wsL_path_r5 : List Cond := [Cond.code yX3_matches cX3_matches 5 (some .boolean)]
def wsL_path : List Cond := .codeWith yL_path cL_path 8 (some .int) [(0, 13, 16, 13), (0, 13, 20, 15)] :: ((wsL_path_r1 ++ (wsL_path_r2 ++ (wsL_path_r3 ++ (wsL_path_r4 ++ wsL_path_r5)))) ++ wsX40 ++ wsX00 ++ wsX30 ++ wsX10 ++ wsJx4a65c0 ++ (vx_atS RX4 38 "java/lang/IllegalArgumentException" ["java/lang/RuntimeException", "java/lang/Exception"]).filter goodWord ++ (vx_atS RX4 52 "java/lang/IllegalStateException" ["java/lang/RuntimeException", "java/lang/Exception"]).filter goodWord)
def wsL_actionOf_r1 : List Cond := [Cond.classLink RL 13 "java/lang/IllegalArgumentException", Cond.methodLink RL 58 yX4_actionOf, Cond.instanceMethod yX4_actionOf, Cond.selects RX4 yX4_actionOf yX4_actionOf, Cond.initialized RX4, Cond.code yX4_actionOf cX4_actionOf 7 (some .int), Cond.fieldLink RX4 11 "SyscallFilter" "filters" "[LSyscallFilter$Filter;", Cond.methodLink RX4 27 yX4_requireFilter, Cond.static yX4_requireFilter, Cond.code yX4_requireFilter cX4_requireFilter 1 none, Cond.classLink RX4 34 "java/lang/IllegalArgumentException", Cond.initialized "java/lang/IllegalArgumentException", Cond.methodLink RX4 31 yX4_requireNumber, Cond.static yX4_requireNumber, Cond.code yX4_requireNumber cX4_requireNumber 1 none, Cond.methodLink RX4 125 yX0_actionByRules, Cond.instanceMethod yX0_actionByRules, Cond.selects RX0 yX0_actionByRules yX0_actionByRules, Cond.initialized RX0, Cond.code yX0_actionByRules cX0_actionByRules 6 (some .int), Cond.fieldLink RX0 12 "SyscallFilter$Filter" "rules" "Ljava/util/ArrayList;", Cond.methodLink RX0 126 yX0_actionOfFirstMatch, Cond.instanceMethod yX0_actionOfFirstMatch, Cond.selects RX0 yX0_actionOfFirstMatch yX0_actionOfFirstMatch]
def wsL_actionOf_r2 : List Cond := [Cond.code yX0_actionOfFirstMatch cX0_actionOfFirstMatch 9 (some .int), Cond.classLink RX0 36 "SyscallFilter$Rule", Cond.fieldLink RX0 123 "SyscallFilter$Filter" "defaultAction" "I", Cond.methodLink RX0 21 yJx4a65c_size_8abf5, Cond.instanceMethod yJx4a65c_size_8abf5, Cond.selects RJx4a65c yJx4a65c_size_8abf5 yJx4a65c_size_8abf5, Cond.initialized RJx4a65c, Cond.code yJx4a65c_size_8abf5 cJx4a65c_size_8abf5 1 (some .int), Cond.fieldLink RJx4a65c 48 "java/util/ArrayList" "size" "I", Cond.methodLink RX0 33 yJx4a65c_get_915e3, Cond.instanceMethod yJx4a65c_get_915e3, Cond.selects RJx4a65c yJx4a65c_get_915e3 yJx4a65c_get_915e3, Cond.code yJx4a65c_get_915e3 cJx4a65c_get_915e3 2 (some (.object "java/lang/Object")), Cond.methodLink RJx4a65c 118 yJ15_checkIndex_7cf53, Cond.static yJ15_checkIndex_7cf53, Cond.initialized RJ15, Cond.code yJ15_checkIndex_7cf53 cJ15_checkIndex_7cf53 2 (some .int), Cond.methodLink RJ15 105 yJ3_checkIndex_8e157, Cond.static yJ3_checkIndex_8e157, Cond.initialized RJ3, Cond.code yJ3_checkIndex_8e157 cJ3_checkIndex_8e157 3 (some .int), Cond.methodLink RJx4a65c 123 yJx4a65c_elementData_915e3, Cond.instanceMethod yJx4a65c_elementData_915e3, Cond.selects RJx4a65c yJx4a65c_elementData_915e3 yJx4a65c_elementData_915e3]
def wsL_actionOf_r3 : List Cond := [Cond.code yJx4a65c_elementData_915e3 cJx4a65c_elementData_915e3 2 (some (.object "java/lang/Object")), Cond.fieldLink RJx4a65c 9 "java/util/ArrayList" "elementData" "[Ljava/lang/Object;", Cond.methodLink RX0 115 yX3_matches, Cond.instanceMethod yX3_matches, Cond.selects RX3 yX3_matches yX3_matches, Cond.initialized RX3, Cond.code yX3_matches cX3_matches 5 (some .boolean), Cond.fieldLink RX3 18 "SyscallFilter$Rule" "mask" "J", Cond.fieldLink RX3 22 "SyscallFilter$Rule" "value" "J", Cond.methodLink RX3 28 yX3_argumentOf, Cond.instanceMethod yX3_argumentOf, Cond.selects RX3 yX3_argumentOf yX3_argumentOf, Cond.code yX3_argumentOf cX3_argumentOf 5 (some .long), Cond.fieldLink RX3 15 "SyscallFilter$Rule" "argument" "I"]
def wsL_actionOf : List Cond := .codeWith yL_actionOf cL_actionOf 9 (some .int) [(0, 14, 17, 13)] :: ((wsL_actionOf_r1 ++ (wsL_actionOf_r2 ++ wsL_actionOf_r3)) ++ wsX40 ++ wsX00 ++ wsX30 ++ wsJx4a65c0 ++ (vx_atS RX4 38 "java/lang/IllegalArgumentException" ["java/lang/RuntimeException", "java/lang/Exception"]).filter goodWord)
def wsL_law0_r1 : List Cond := [Cond.classLink RL 8 RX4, Cond.instantiable RX4 4, Cond.initialized RX4, Cond.classLink RL 63 RX5, Cond.instantiable RX5 14, Cond.initialized RX5, Cond.arrayClass .long, Cond.constantLong RL 66 (4294967295), Cond.methodLink RL 62 yX4_init, Cond.instanceMethod yX4_init, Cond.code yX4_init cX4_init 2 none, Cond.methodLink RX4 1 objectInit, Cond.instanceMethod objectInit, Cond.code objectInit ⟨#[0xb1]⟩ 1 none, Cond.classLink RX4 9 RX0, Cond.fieldLink RX4 11 "SyscallFilter" "filters" "[LSyscallFilter$Filter;", Cond.arrayClass .int, Cond.fieldLink RX4 15 "SyscallFilter" "frequencies" "[I", Cond.classLink RX4 19 RX2, Cond.instantiable RX2 5, Cond.initialized RX2, Cond.fieldLink RX4 22 "SyscallFilter" "planner" "LSyscallFilter$Planner;", Cond.instantiable RX0 5, Cond.initialized RX0]
def wsL_law0_r2 : List Cond := [Cond.instanceMethod yX2_init, Cond.code yX2_init cX2_init 1 none, Cond.methodLink RX2 3 objectInit, Cond.fieldLink RX2 9 "SyscallFilter$Planner" "numbers" "[I", Cond.fieldLink RX2 15 "SyscallFilter$Planner" "weights" "[I", Cond.classLink RX2 18 "[[I", Cond.fieldLink RX2 20 "SyscallFilter$Planner" "costs" "[[I", Cond.fieldLink RX2 23 "SyscallFilter$Planner" "firstPlaces" "[[I", Cond.instanceMethod yX0_init, Cond.code yX0_init cX0_init 1 none, Cond.methodLink RX0 3 objectInit, Cond.classLink RX0 9 RJx4a65c, Cond.instantiable RJx4a65c 3, Cond.initialized RJx4a65c, Cond.fieldLink RX0 12 "SyscallFilter$Filter" "rules" "Ljava/util/ArrayList;", Cond.fieldLink RX0 18 "SyscallFilter$Filter" "reached" "Ljava/util/ArrayList;", Cond.methodLink RX0 11 yJx4a65c_init_da8c8, Cond.instanceMethod yJx4a65c_init_da8c8, Cond.code yJx4a65c_init_da8c8 cJx4a65c_init_da8c8 1 none, Cond.fieldLink RJx4a65c 39 "java/util/ArrayList" "DEFAULTCAPACITY_EMPTY_ELEMENTDATA" "[Ljava/lang/Object;", Cond.fieldLink RJx4a65c 9 "java/util/ArrayList" "elementData" "[Ljava/lang/Object;", Cond.methodLink RJx4a65c 1 yJxc12de_init_da8c8, Cond.instanceMethod yJxc12de_init_da8c8, Cond.initialized RJxc12de]
def wsL_law0_r3 : List Cond := [Cond.code yJxc12de_init_da8c8 cJxc12de_init_da8c8 1 none, Cond.fieldLink RJxc12de 7 "java/util/AbstractList" "modCount" "I", Cond.methodLink RJxc12de 1 yJxa1e45_init_da8c8, Cond.instanceMethod yJxa1e45_init_da8c8, Cond.initialized RJxa1e45, Cond.code yJxa1e45_init_da8c8 cJxa1e45_init_da8c8 1 none, Cond.methodLink RJxa1e45 1 objectInit, Cond.methodLink RL 65 yX5_init, Cond.instanceMethod yX5_init, Cond.code yX5_init cX5_init 1 none, Cond.methodLink RX5 1 objectInit, Cond.fieldLink RX5 7 "SyscallFilterModel" "numbers" "[I", Cond.fieldLink RX5 13 "SyscallFilterModel" "arguments" "[I", Cond.fieldLink RX5 16 "SyscallFilterModel" "masks" "[J", Cond.fieldLink RX5 20 "SyscallFilterModel" "values" "[J", Cond.fieldLink RX5 23 "SyscallFilterModel" "actions" "[I", Cond.fieldLink RX5 26 "SyscallFilterModel" "many" "[I", Cond.fieldLink RX5 29 "SyscallFilterModel" "defaults" "[I", Cond.fieldLink RX5 32 "SyscallFilterModel" "frequencies" "[I", Cond.fieldLink RX5 35 "SyscallFilterModel" "keys" "[I", Cond.fieldLink RX5 38 "SyscallFilterModel" "costs" "[I", Cond.fieldLink RX5 41 "SyscallFilterModel" "roots" "[I", Cond.methodLink RL 68 yL_add, Cond.static yL_add]
def wsL_law0_r4 : List Cond := [Cond.initialized RL, Cond.codeWith yL_add cL_add 11 (some .int) [(0, 18, 21, 13), (0, 18, 25, 15)], Cond.classLink RL 13 "java/lang/IllegalArgumentException", Cond.classLink RL 15 "java/lang/IllegalStateException", Cond.methodLink RL 7 yX4_add, Cond.instanceMethod yX4_add, Cond.selects RX4 yX4_add yX4_add, Cond.code yX4_add cX4_add 9 (some .int), Cond.classLink RX4 34 "java/lang/IllegalArgumentException", Cond.initialized "java/lang/IllegalArgumentException", Cond.classLink RX4 48 "java/lang/IllegalStateException", Cond.initialized "java/lang/IllegalStateException", Cond.fieldLink RX4 53 "SyscallFilter" "compiled" "Z", Cond.classLink RX4 57 RX3, Cond.instantiable RX3 5, Cond.initialized RX3, Cond.methodLink RX4 27 yX4_requireFilter, Cond.static yX4_requireFilter, Cond.code yX4_requireFilter cX4_requireFilter 1 none, Cond.methodLink RX4 31 yX4_requireNumber, Cond.static yX4_requireNumber, Cond.code yX4_requireNumber cX4_requireNumber 1 none, Cond.methodLink RX4 41 yX4_requireAction, Cond.static yX4_requireAction]
def wsL_law0_r5 : List Cond := [Cond.code yX4_requireAction cX4_requireAction 1 none, Cond.methodLink RX4 44 yX0_isFull, Cond.instanceMethod yX0_isFull, Cond.selects RX0 yX0_isFull yX0_isFull, Cond.code yX0_isFull cX0_isFull 1 (some .boolean), Cond.methodLink RX0 21 yJx4a65c_size_8abf5, Cond.instanceMethod yJx4a65c_size_8abf5, Cond.selects RJx4a65c yJx4a65c_size_8abf5 yJx4a65c_size_8abf5, Cond.code yJx4a65c_size_8abf5 cJx4a65c_size_8abf5 1 (some .int), Cond.fieldLink RJx4a65c 48 "java/util/ArrayList" "size" "I", Cond.methodLink RX4 59 yX3_init, Cond.instanceMethod yX3_init, Cond.code yX3_init cX3_init 8 none, Cond.methodLink RX3 3 objectInit, Cond.fieldLink RX3 9 "SyscallFilter$Rule" "number" "I", Cond.fieldLink RX3 15 "SyscallFilter$Rule" "argument" "I", Cond.fieldLink RX3 18 "SyscallFilter$Rule" "mask" "J", Cond.fieldLink RX3 22 "SyscallFilter$Rule" "value" "J", Cond.fieldLink RX3 25 "SyscallFilter$Rule" "action" "I", Cond.methodLink RX4 62 yX0_append, Cond.instanceMethod yX0_append, Cond.selects RX0 yX0_append yX0_append, Cond.code yX0_append cX0_append 2 (some .int), Cond.methodLink RX0 25 yJx4a65c_add_9ea2d]
def wsL_law0_r6 : List Cond := [Cond.instanceMethod yJx4a65c_add_9ea2d, Cond.selects RJx4a65c yJx4a65c_add_9ea2d yJx4a65c_add_9ea2d, Cond.code yJx4a65c_add_9ea2d cJx4a65c_add_9ea2d 2 (some .boolean), Cond.fieldLink RJx4a65c 63 "java/util/ArrayList" "modCount" "I", Cond.sameField "java/util/ArrayList" "java/util/AbstractList" "modCount" "I", Cond.methodLink RJx4a65c 131 yJx4a65c_add_72be8, Cond.instanceMethod yJx4a65c_add_72be8, Cond.selects RJx4a65c yJx4a65c_add_72be8 yJx4a65c_add_72be8, Cond.code yJx4a65c_add_72be8 cJx4a65c_add_72be8 4 none, Cond.methodLink RJx4a65c 129 yJx4a65c_grow_d5877, Cond.instanceMethod yJx4a65c_grow_d5877, Cond.selects RJx4a65c yJx4a65c_grow_d5877 yJx4a65c_grow_d5877, Cond.code yJx4a65c_grow_d5877 cJx4a65c_grow_d5877 1 (some (.array (.object "java/lang/Object"))), Cond.methodLink RJx4a65c 69 yJx4a65c_grow_92f84, Cond.instanceMethod yJx4a65c_grow_92f84, Cond.selects RJx4a65c yJx4a65c_grow_92f84 yJx4a65c_grow_92f84, Cond.code yJx4a65c_grow_92f84 cJx4a65c_grow_92f84 4 (some (.array (.object "java/lang/Object"))), Cond.methodLink RJx4a65c 79 Lib.Math.max.name, Cond.static Lib.Math.max.name, Cond.initialized "java/lang/Math", Cond.code Lib.Math.max.name Lib.Math.max.code 2 (some .int), Cond.classLink RJx4a65c 7 "java/lang/Object", Cond.methodLink RJx4a65c 73 yJ8_newLength_cabcc, Cond.static yJ8_newLength_cabcc]
def wsL_law0_r7 : List Cond := [Cond.initialized RJ8, Cond.code yJ8_newLength_cabcc cJ8_newLength_cabcc 4 (some .int), Cond.methodLink RJ8 194 Lib.Math.max.name, Cond.constant RJ8 200 (2147483639), Cond.methodLink RJ8 201 yJ8_hugeLength_7cf53, Cond.static yJ8_hugeLength_7cf53, Cond.code yJ8_hugeLength_7cf53 cJ8_hugeLength_7cf53 3 (some .int), Cond.methodLink RJx4a65c 66 yJ7_copyOf_1904c, Cond.static yJ7_copyOf_1904c, Cond.initialized RJ7, Cond.code yJ7_copyOf_1904c cJ7_copyOf_1904c 2 (some (.array (.object "java/lang/Object"))), Cond.methodLink RJ7 86 ⟨"java/lang/Object", "getClass", "()Ljava/lang/Class;"⟩, Cond.selects "[Ljava/lang/Object;" ⟨"java/lang/Object", "getClass", "()Ljava/lang/Class;"⟩ ⟨"java/lang/Object", "getClass", "()Ljava/lang/Class;"⟩, Cond.instanceMethod ⟨"java/lang/Object", "getClass", "()Ljava/lang/Class;"⟩, Cond.native ⟨"java/lang/Object", "getClass", "()Ljava/lang/Class;"⟩, Cond.methodLink RJ7 300 yJ7_copyOf_6403c, Cond.static yJ7_copyOf_6403c, Cond.code yJ7_copyOf_6403c cJ7_copyOf_6403c 4 (some (.array (.object "java/lang/Object"))), Cond.classLink RJ7 110 "[Ljava/lang/Object;", Cond.classLink RJ7 2 "java/lang/Object", Cond.methodLink RJ7 304 Lib.Math.min.name, Cond.static Lib.Math.min.name, Cond.code Lib.Math.min.name Lib.Math.min.code 2 (some .int), Cond.methodLink RJ7 150 arraycopyName]
def wsL_law0_r8 : List Cond := [Cond.native arraycopyName, Cond.static arraycopyName, Cond.initialized "java/lang/System", Cond.methodLink RL 73 yX5_add, Cond.instanceMethod yX5_add, Cond.selects RX5 yX5_add yX5_add, Cond.code yX5_add cX5_add 11 (some .int), Cond.fieldLink RX5 62 "SyscallFilterModel" "isCompiled" "Z", Cond.methodLink RX5 52 yX5_isFilter, Cond.static yX5_isFilter, Cond.code yX5_isFilter cX5_isFilter 1 (some .boolean), Cond.methodLink RX5 48 yX5_in, Cond.static yX5_in, Cond.code yX5_in cX5_in 3 (some .boolean), Cond.methodLink RX5 56 yX5_isNumber, Cond.static yX5_isNumber, Cond.code yX5_isNumber cX5_isNumber 1 (some .boolean), Cond.methodLink RX5 59 yX5_goesWell, Cond.instanceMethod yX5_goesWell, Cond.selects RX5 yX5_goesWell yX5_goesWell, Cond.code yX5_goesWell cX5_goesWell 2 (some .boolean), Cond.fieldLink RX5 44 "SyscallFilterModel" "thrown" "I", Cond.methodLink RL 74 yX5_thrown, Cond.instanceMethod yX5_thrown]
def wsL_law0_r9 : List Cond := [Cond.selects RX5 yX5_thrown yX5_thrown, Cond.code yX5_thrown cX5_thrown 1 (some .int), Cond.methodLink RL 78 yL_remove, Cond.static yL_remove, Cond.codeWith yL_remove cL_remove 5 (some .int) [(0, 10, 13, 13), (0, 10, 17, 21)], Cond.classLink RL 21 "java/lang/IndexOutOfBoundsException", Cond.methodLink RL 17 yX4_remove, Cond.instanceMethod yX4_remove, Cond.selects RX4 yX4_remove yX4_remove, Cond.code yX4_remove cX4_remove 3 (some .int), Cond.methodLink RX4 66 yX4_requireRule, Cond.instanceMethod yX4_requireRule, Cond.selects RX4 yX4_requireRule yX4_requireRule, Cond.code yX4_requireRule cX4_requireRule 3 none, Cond.classLink RX4 141 "java/lang/IndexOutOfBoundsException", Cond.initialized "java/lang/IndexOutOfBoundsException", Cond.methodLink RX4 84 yJx4a65c_size_8abf5, Cond.methodLink RX4 70 yX0_drop, Cond.instanceMethod yX0_drop, Cond.selects RX0 yX0_drop yX0_drop, Cond.code yX0_drop cX0_drop 2 (some .int), Cond.methodLink RX0 29 yJx4a65c_remove_915e3, Cond.instanceMethod yJx4a65c_remove_915e3, Cond.selects RJx4a65c yJx4a65c_remove_915e3 yJx4a65c_remove_915e3]
def wsL_law0_r10 : List Cond := [Cond.code yJx4a65c_remove_915e3 cJx4a65c_remove_915e3 4 (some (.object "java/lang/Object")), Cond.methodLink RJx4a65c 118 yJ15_checkIndex_7cf53, Cond.static yJ15_checkIndex_7cf53, Cond.initialized RJ15, Cond.code yJ15_checkIndex_7cf53 cJ15_checkIndex_7cf53 2 (some .int), Cond.methodLink RJ15 105 yJ3_checkIndex_8e157, Cond.static yJ3_checkIndex_8e157, Cond.initialized RJ3, Cond.code yJ3_checkIndex_8e157 cJ3_checkIndex_8e157 3 (some .int), Cond.methodLink RJx4a65c 144 yJx4a65c_fastRemove_b59b0, Cond.instanceMethod yJx4a65c_fastRemove_b59b0, Cond.selects RJx4a65c yJx4a65c_fastRemove_b59b0 yJx4a65c_fastRemove_b59b0, Cond.code yJx4a65c_fastRemove_b59b0 cJx4a65c_fastRemove_b59b0 4 none, Cond.methodLink RJx4a65c 112 arraycopyName, Cond.methodLink RL 81 yX5_remove, Cond.instanceMethod yX5_remove, Cond.selects RX5 yX5_remove yX5_remove, Cond.code yX5_remove cX5_remove 4 (some .int), Cond.methodLink RX5 66 yX5_isRule, Cond.instanceMethod yX5_isRule, Cond.selects RX5 yX5_isRule yX5_isRule, Cond.code yX5_isRule cX5_isRule 3 (some .boolean), Cond.methodLink RL 82 yL_setDefault, Cond.static yL_setDefault]
def wsL_law0_r11 : List Cond := [Cond.codeWith yL_setDefault cL_setDefault 5 (some .int) [(0, 10, 13, 13)], Cond.methodLink RL 23 yX4_setDefault, Cond.instanceMethod yX4_setDefault, Cond.selects RX4 yX4_setDefault yX4_setDefault, Cond.code yX4_setDefault cX4_setDefault 4 (some .int), Cond.methodLink RL 84 yX5_setDefault, Cond.instanceMethod yX5_setDefault, Cond.selects RX5 yX5_setDefault yX5_setDefault, Cond.code yX5_setDefault cX5_setDefault 4 (some .int), Cond.methodLink RL 85 yL_setFrequency, Cond.static yL_setFrequency, Cond.codeWith yL_setFrequency cL_setFrequency 5 (some .int) [(0, 10, 13, 13)], Cond.methodLink RL 26 yX4_setFrequency, Cond.instanceMethod yX4_setFrequency, Cond.selects RX4 yX4_setFrequency yX4_setFrequency, Cond.code yX4_setFrequency cX4_setFrequency 4 (some .int), Cond.methodLink RL 87 yX5_setFrequency, Cond.instanceMethod yX5_setFrequency, Cond.selects RX5 yX5_setFrequency yX5_setFrequency, Cond.code yX5_setFrequency cX5_setFrequency 4 (some .int), Cond.methodLink RL 88 yL_rules, Cond.static yL_rules, Cond.codeWith yL_rules cL_rules 4 (some .int) [(0, 9, 12, 13)], Cond.methodLink RL 29 yX4_rules]
def wsL_law0_r12 : List Cond := [Cond.instanceMethod yX4_rules, Cond.selects RX4 yX4_rules yX4_rules, Cond.code yX4_rules cX4_rules 2 (some .int), Cond.methodLink RL 91 yX5_rules, Cond.instanceMethod yX5_rules, Cond.selects RX5 yX5_rules yX5_rules, Cond.code yX5_rules cX5_rules 2 (some .int), Cond.methodLink RL 92 yL_hider, Cond.static yL_hider, Cond.codeWith yL_hider cL_hider 5 (some .int) [(0, 10, 13, 13), (0, 10, 17, 21)], Cond.methodLink RL 33 yX4_hider, Cond.instanceMethod yX4_hider, Cond.selects RX4 yX4_hider yX4_hider, Cond.code yX4_hider cX4_hider 3 (some .int), Cond.methodLink RX4 90 yX0_hiderOf, Cond.instanceMethod yX0_hiderOf, Cond.selects RX0 yX0_hiderOf yX0_hiderOf, Cond.code yX0_hiderOf cX0_hiderOf 4 (some .int), Cond.classLink RX0 36 "SyscallFilter$Rule", Cond.methodLink RX0 33 yJx4a65c_get_915e3, Cond.instanceMethod yJx4a65c_get_915e3, Cond.selects RJx4a65c yJx4a65c_get_915e3 yJx4a65c_get_915e3, Cond.code yJx4a65c_get_915e3 cJx4a65c_get_915e3 2 (some (.object "java/lang/Object")), Cond.methodLink RJx4a65c 123 yJx4a65c_elementData_915e3]
def wsL_law0_r13 : List Cond := [Cond.instanceMethod yJx4a65c_elementData_915e3, Cond.selects RJx4a65c yJx4a65c_elementData_915e3 yJx4a65c_elementData_915e3, Cond.code yJx4a65c_elementData_915e3 cJx4a65c_elementData_915e3 2 (some (.object "java/lang/Object")), Cond.methodLink RX0 38 yX3_canNeverMatch, Cond.instanceMethod yX3_canNeverMatch, Cond.selects RX3 yX3_canNeverMatch yX3_canNeverMatch, Cond.code yX3_canNeverMatch cX3_canNeverMatch 1 (some .boolean), Cond.constantLong RX3 32 (-1), Cond.methodLink RX0 42 yX3_covers, Cond.instanceMethod yX3_covers, Cond.selects RX3 yX3_covers yX3_covers, Cond.code yX3_covers cX3_covers 2 (some .boolean), Cond.methodLink RL 94 yX5_hider, Cond.instanceMethod yX5_hider, Cond.selects RX5 yX5_hider yX5_hider, Cond.code yX5_hider cX5_hider 3 (some .int), Cond.methodLink RX5 75 yX5_hiderOf, Cond.instanceMethod yX5_hiderOf, Cond.selects RX5 yX5_hiderOf yX5_hiderOf, Cond.code yX5_hiderOf cX5_hiderOf 5 (some .int), Cond.constantLong RX5 70 (-1), Cond.methodLink RX5 72 yX5_hides, Cond.instanceMethod yX5_hides, Cond.selects RX5 yX5_hides yX5_hides]
def wsL_law0_r14 : List Cond := [Cond.code yX5_hides cX5_hides 4 (some .boolean), Cond.methodLink RL 95 yL_compile, Cond.static yL_compile, Cond.codeWith yL_compile cL_compile 4 (some .int) [(0, 9, 12, 13)], Cond.methodLink RL 36 yX4_compile, Cond.instanceMethod yX4_compile, Cond.selects RX4 yX4_compile yX4_compile, Cond.code yX4_compile cX4_compile 3 (some .int), Cond.methodLink RX4 95 yX4_planTrees, Cond.instanceMethod yX4_planTrees, Cond.selects RX4 yX4_planTrees yX4_planTrees, Cond.code yX4_planTrees cX4_planTrees 5 none, Cond.methodLink RX4 131 yX0_planTree, Cond.instanceMethod yX0_planTree, Cond.selects RX0 yX0_planTree yX0_planTree, Cond.code yX0_planTree cX0_planTree 4 none, Cond.fieldLink RX0 69 "SyscallFilter$Filter" "firstTest" "LSyscallFilter$Node;", Cond.fieldLink RX0 76 "SyscallFilter$Filter" "treeCost" "I", Cond.methodLink RX0 46 yX0_gatherReached, Cond.instanceMethod yX0_gatherReached, Cond.selects RX0 yX0_gatherReached yX0_gatherReached, Cond.code yX0_gatherReached cX0_gatherReached 2 none, Cond.methodLink RX0 80 yJx4a65c_clear_da8c8, Cond.instanceMethod yJx4a65c_clear_da8c8]
def wsL_law0_r15 : List Cond := [Cond.selects RJx4a65c yJx4a65c_clear_da8c8 yJx4a65c_clear_da8c8, Cond.code yJx4a65c_clear_da8c8 cJx4a65c_clear_da8c8 4 none, Cond.methodLink RX0 83 yX0_hiderOf, Cond.methodLink RX0 49 yX2_startAnew, Cond.instanceMethod yX2_startAnew, Cond.selects RX2 yX2_startAnew yX2_startAnew, Cond.code yX2_startAnew cX2_startAnew 1 none, Cond.fieldLink RX2 26 "SyscallFilter$Planner" "size" "I", Cond.methodLink RX0 54 yX0_isReached, Cond.instanceMethod yX0_isReached, Cond.selects RX0 yX0_isReached yX0_isReached, Cond.code yX0_isReached cX0_isReached 3 (some .boolean), Cond.methodLink RX0 58 yX2_take, Cond.instanceMethod yX2_take, Cond.selects RX2 yX2_take yX2_take, Cond.code yX2_take cX2_take 3 none, Cond.methodLink RX0 62 yX2_weighAllTrees, Cond.instanceMethod yX2_weighAllTrees, Cond.selects RX2 yX2_weighAllTrees yX2_weighAllTrees, Cond.code yX2_weighAllTrees cX2_weighAllTrees 3 none, Cond.methodLink RX2 30 yX2_weighTrees, Cond.instanceMethod yX2_weighTrees, Cond.selects RX2 yX2_weighTrees yX2_weighTrees, Cond.code yX2_weighTrees cX2_weighTrees 5 none]
def wsL_law0_r16 : List Cond := [Cond.methodLink RX2 34 yX2_costBelow, Cond.instanceMethod yX2_costBelow, Cond.selects RX2 yX2_costBelow yX2_costBelow, Cond.code yX2_costBelow cX2_costBelow 4 (some .int), Cond.methodLink RX2 38 yX2_weightOf, Cond.instanceMethod yX2_weightOf, Cond.selects RX2 yX2_weightOf yX2_weightOf, Cond.code yX2_weightOf cX2_weightOf 5 (some .int), Cond.methodLink RX0 65 yX2_bestTree, Cond.instanceMethod yX2_bestTree, Cond.selects RX2 yX2_bestTree yX2_bestTree, Cond.code yX2_bestTree cX2_bestTree 1 (some (.object "SyscallFilter$Node")), Cond.methodLink RX2 42 yX2_grow, Cond.static yX2_grow, Cond.code yX2_grow cX2_grow 5 (some (.object "SyscallFilter$Node")), Cond.classLink RX2 46 RX1, Cond.instantiable RX1 4, Cond.initialized RX1, Cond.methodLink RX2 48 yX1_init, Cond.instanceMethod yX1_init, Cond.code yX1_init cX1_init 5 none, Cond.methodLink RX1 1 objectInit, Cond.fieldLink RX1 7 "SyscallFilter$Node" "number" "I", Cond.fieldLink RX1 13 "SyscallFilter$Node" "tests" "I"]
def wsL_law0_r17 : List Cond := [Cond.fieldLink RX1 16 "SyscallFilter$Node" "lesser" "LSyscallFilter$Node;", Cond.fieldLink RX1 20 "SyscallFilter$Node" "greater" "LSyscallFilter$Node;", Cond.methodLink RX0 73 yX2_leastCost, Cond.instanceMethod yX2_leastCost, Cond.selects RX2 yX2_leastCost yX2_leastCost, Cond.code yX2_leastCost cX2_leastCost 1 (some .int), Cond.methodLink RX4 98 yX4_worstPathOfAll, Cond.instanceMethod yX4_worstPathOfAll, Cond.selects RX4 yX4_worstPathOfAll yX4_worstPathOfAll, Cond.code yX4_worstPathOfAll cX4_worstPathOfAll 6 (some .int), Cond.methodLink RX4 112 yX0_worstPath, Cond.instanceMethod yX0_worstPath, Cond.selects RX0 yX0_worstPath yX0_worstPath, Cond.code yX0_worstPath cX0_worstPath 3 (some .int), Cond.methodLink RX0 105 Lib.Math.max.name, Cond.methodLink RX0 99 yX0_numberTests, Cond.instanceMethod yX0_numberTests, Cond.selects RX0 yX0_numberTests yX0_numberTests, Cond.code yX0_numberTests cX0_numberTests 3 (some .int), Cond.methodLink RX0 119 yX0_lastTest, Cond.instanceMethod yX0_lastTest, Cond.selects RX0 yX0_lastTest yX0_lastTest, Cond.code yX0_lastTest cX0_lastTest 4 (some (.object "SyscallFilter$Node")), Cond.methodLink RX0 139 yX1_towards]
def wsL_law0_r18 : List Cond := [Cond.instanceMethod yX1_towards, Cond.selects RX1 yX1_towards yX1_towards, Cond.code yX1_towards cX1_towards 2 (some (.object "SyscallFilter$Node")), Cond.methodLink RX0 102 yX0_mostRuleTests, Cond.instanceMethod yX0_mostRuleTests, Cond.selects RX0 yX0_mostRuleTests yX0_mostRuleTests, Cond.code yX0_mostRuleTests cX0_mostRuleTests 4 (some .int), Cond.methodLink RX0 136 yX3_mostTests, Cond.instanceMethod yX3_mostTests, Cond.selects RX3 yX3_mostTests yX3_mostTests, Cond.code yX3_mostTests cX3_mostTests 1 (some .int), Cond.methodLink RX3 36 yX3_lowerTests, Cond.instanceMethod yX3_lowerTests, Cond.selects RX3 yX3_lowerTests yX3_lowerTests, Cond.code yX3_lowerTests cX3_lowerTests 1 (some .int), Cond.constantLong RX3 34 (4294967295), Cond.methodLink RX3 43 yX3_upperTests, Cond.instanceMethod yX3_upperTests, Cond.selects RX3 yX3_upperTests yX3_upperTests, Cond.code yX3_upperTests cX3_upperTests 1 (some .int), Cond.constantLong RX3 46 (-4294967296), Cond.methodLink RL 97 yX5_compile, Cond.instanceMethod yX5_compile, Cond.selects RX5 yX5_compile yX5_compile]
def wsL_law0_r19 : List Cond := [Cond.code yX5_compile cX5_compile 4 (some .int), Cond.methodLink RX5 109 yX5_worstOf, Cond.instanceMethod yX5_worstOf, Cond.selects RX5 yX5_worstOf yX5_worstOf, Cond.code yX5_worstOf cX5_worstOf 5 (some .int), Cond.methodLink RX5 98 yX5_lay, Cond.instanceMethod yX5_lay, Cond.selects RX5 yX5_lay yX5_lay, Cond.code yX5_lay cX5_lay 4 none, Cond.fieldLink RX5 79 "SyscallFilterModel" "size" "I", Cond.methodLink RX5 82 yX5_hasNumber, Cond.instanceMethod yX5_hasNumber, Cond.selects RX5 yX5_hasNumber yX5_hasNumber, Cond.code yX5_hasNumber cX5_hasNumber 5 (some .boolean), Cond.methodLink RX5 85 yX5_layPart, Cond.instanceMethod yX5_layPart, Cond.selects RX5 yX5_layPart yX5_layPart, Cond.code yX5_layPart cX5_layPart 7 none, Cond.methodLink RX5 89 yX5_costOf, Cond.instanceMethod yX5_costOf, Cond.selects RX5 yX5_costOf yX5_costOf, Cond.code yX5_costOf cX5_costOf 3 (some .int), Cond.methodLink RX5 102 yX5_testsOf, Cond.instanceMethod yX5_testsOf]
def wsL_law0_r20 : List Cond := [Cond.selects RX5 yX5_testsOf yX5_testsOf, Cond.code yX5_testsOf cX5_testsOf 6 (some .int), Cond.methodLink RX5 106 yX5_halves, Cond.instanceMethod yX5_halves, Cond.selects RX5 yX5_halves yX5_halves, Cond.code yX5_halves cX5_halves 6 (some .int), Cond.methodLink RX5 94 yX5_halvesOf, Cond.static yX5_halvesOf, Cond.code yX5_halvesOf cX5_halvesOf 2 (some .int), Cond.constantLong RX5 92 (4294967295), Cond.methodLink RL 98 yX4_isCompiled, Cond.instanceMethod yX4_isCompiled, Cond.selects RX4 yX4_isCompiled yX4_isCompiled, Cond.code yX4_isCompiled cX4_isCompiled 1 (some .boolean), Cond.methodLink RL 102 yX5_isCompiled, Cond.instanceMethod yX5_isCompiled, Cond.selects RX5 yX5_isCompiled yX5_isCompiled, Cond.code yX5_isCompiled cX5_isCompiled 1 (some .boolean), Cond.methodLink RL 103 yL_test, Cond.static yL_test, Cond.codeWith yL_test cL_test 5 (some .int) [(0, 10, 13, 13), (0, 10, 17, 15)], Cond.methodLink RL 39 yX4_test, Cond.instanceMethod yX4_test, Cond.selects RX4 yX4_test yX4_test]
def wsL_law0_r21 : List Cond := [Cond.code yX4_test cX4_test 3 (some .int), Cond.methodLink RX4 103 yX4_requireCompiled, Cond.instanceMethod yX4_requireCompiled, Cond.selects RX4 yX4_requireCompiled yX4_requireCompiled, Cond.code yX4_requireCompiled cX4_requireCompiled 1 none, Cond.methodLink RX4 106 yX0_numberAt, Cond.instanceMethod yX0_numberAt, Cond.selects RX0 yX0_numberAt yX0_numberAt, Cond.code yX0_numberAt cX0_numberAt 4 (some .int), Cond.methodLink RL 105 yX5_test, Cond.instanceMethod yX5_test, Cond.selects RX5 yX5_test yX5_test, Cond.code yX5_test cX5_test 8 (some .int), Cond.methodLink RL 106 yL_cost, Cond.static yL_cost, Cond.codeWith yL_cost cL_cost 4 (some .int) [(0, 9, 12, 13), (0, 9, 15, 15)], Cond.methodLink RL 42 yX4_cost, Cond.instanceMethod yX4_cost, Cond.selects RX4 yX4_cost yX4_cost, Cond.code yX4_cost cX4_cost 2 (some .int), Cond.methodLink RL 108 yX5_cost, Cond.instanceMethod yX5_cost, Cond.selects RX5 yX5_cost yX5_cost, Cond.code yX5_cost cX5_cost 2 (some .int)]
def wsL_law0_r22 : List Cond := [Cond.methodLink RL 109 yL_worst, Cond.static yL_worst, Cond.codeWith yL_worst cL_worst 4 (some .int) [(0, 9, 12, 13), (0, 9, 15, 15)], Cond.methodLink RL 45 yX4_worst, Cond.instanceMethod yX4_worst, Cond.selects RX4 yX4_worst yX4_worst, Cond.code yX4_worst cX4_worst 2 (some .int), Cond.methodLink RL 111 yX5_worst, Cond.instanceMethod yX5_worst, Cond.selects RX5 yX5_worst yX5_worst, Cond.code yX5_worst cX5_worst 2 (some .int), Cond.methodLink RL 112 yL_judge, Cond.static yL_judge, Cond.codeWith yL_judge cL_judge 8 (some .int) [(0, 13, 16, 13), (0, 13, 20, 15)], Cond.methodLink RL 48 yX4_judge, Cond.instanceMethod yX4_judge, Cond.selects RX4 yX4_judge yX4_judge, Cond.code yX4_judge cX4_judge 11 (some .int), Cond.methodLink RX4 119 Lib.Math.max.name, Cond.methodLink RX4 115 yX0_actionByTree, Cond.instanceMethod yX0_actionByTree, Cond.selects RX0 yX0_actionByTree yX0_actionByTree, Cond.code yX0_actionByTree cX0_actionByTree 7 (some .int), Cond.fieldLink RX0 123 "SyscallFilter$Filter" "defaultAction" "I"]
def wsL_law0_r23 : List Cond := [Cond.methodLink RX0 126 yX0_actionOfFirstMatch, Cond.instanceMethod yX0_actionOfFirstMatch, Cond.selects RX0 yX0_actionOfFirstMatch yX0_actionOfFirstMatch, Cond.code yX0_actionOfFirstMatch cX0_actionOfFirstMatch 9 (some .int), Cond.methodLink RX0 115 yX3_matches, Cond.instanceMethod yX3_matches, Cond.selects RX3 yX3_matches yX3_matches, Cond.code yX3_matches cX3_matches 5 (some .boolean), Cond.methodLink RX3 28 yX3_argumentOf, Cond.instanceMethod yX3_argumentOf, Cond.selects RX3 yX3_argumentOf yX3_argumentOf, Cond.code yX3_argumentOf cX3_argumentOf 5 (some .long), Cond.methodLink RL 115 yX5_judge, Cond.instanceMethod yX5_judge, Cond.selects RX5 yX5_judge yX5_judge, Cond.code yX5_judge cX5_judge 6 (some .int), Cond.methodLink RX5 120 yX5_strictest, Cond.instanceMethod yX5_strictest, Cond.selects RX5 yX5_strictest yX5_strictest, Cond.code yX5_strictest cX5_strictest 9 (some .int), Cond.methodLink RX5 116 yX5_judgeBy, Cond.instanceMethod yX5_judgeBy, Cond.selects RX5 yX5_judgeBy yX5_judgeBy, Cond.code yX5_judgeBy cX5_judgeBy 8 (some .int)]
def wsL_law0_r24 : List Cond := [Cond.methodLink RX5 112 yX5_matches, Cond.instanceMethod yX5_matches, Cond.selects RX5 yX5_matches yX5_matches, Cond.code yX5_matches cX5_matches 9 (some .boolean), Cond.methodLink RL 116 yL_judgeByRules, Cond.static yL_judgeByRules, Cond.codeWith yL_judgeByRules cL_judgeByRules 8 (some .int) [(0, 13, 16, 13)], Cond.methodLink RL 52 yX4_judgeByRules, Cond.instanceMethod yX4_judgeByRules, Cond.selects RX4 yX4_judgeByRules yX4_judgeByRules, Cond.code yX4_judgeByRules cX4_judgeByRules 11 (some .int), Cond.methodLink RX4 125 yX0_actionByRules, Cond.instanceMethod yX0_actionByRules, Cond.selects RX0 yX0_actionByRules yX0_actionByRules, Cond.code yX0_actionByRules cX0_actionByRules 6 (some .int), Cond.methodLink RL 118 yX5_judgeByRules, Cond.instanceMethod yX5_judgeByRules, Cond.selects RX5 yX5_judgeByRules yX5_judgeByRules, Cond.code yX5_judgeByRules cX5_judgeByRules 6 (some .int), Cond.methodLink RL 119 yL_path, Cond.static yL_path, Cond.codeWith yL_path cL_path 8 (some .int) [(0, 13, 16, 13), (0, 13, 20, 15)], Cond.methodLink RL 55 yX4_path, Cond.instanceMethod yX4_path]
def wsL_law0_r25 : List Cond := [Cond.selects RX4 yX4_path yX4_path, Cond.code yX4_path cX4_path 11 (some .int), Cond.methodLink RX4 128 yX0_pathOf, Cond.instanceMethod yX0_pathOf, Cond.selects RX0 yX0_pathOf yX0_pathOf, Cond.code yX0_pathOf cX0_pathOf 9 (some .int), Cond.methodLink RX0 111 yX3_testsFor, Cond.instanceMethod yX3_testsFor, Cond.selects RX3 yX3_testsFor yX3_testsFor, Cond.code yX3_testsFor cX3_testsFor 6 (some .int), Cond.methodLink RX3 40 yX3_mostTests, Cond.methodLink RL 121 yX5_path, Cond.instanceMethod yX5_path, Cond.selects RX5 yX5_path yX5_path, Cond.code yX5_path cX5_path 8 (some .int), Cond.methodLink RX5 124 yX5_halvesMade, Cond.instanceMethod yX5_halvesMade, Cond.selects RX5 yX5_halvesMade yX5_halvesMade, Cond.code yX5_halvesMade cX5_halvesMade 13 (some .int), Cond.methodLink RL 122 yL_actionOf, Cond.static yL_actionOf, Cond.codeWith yL_actionOf cL_actionOf 9 (some .int) [(0, 14, 17, 13)], Cond.methodLink RL 58 yX4_actionOf, Cond.instanceMethod yX4_actionOf]
def wsL_law0_r26 : List Cond := [Cond.selects RX4 yX4_actionOf yX4_actionOf, Cond.code yX4_actionOf cX4_actionOf 7 (some .int), Cond.methodLink RL 125 yX5_actionOf, Cond.instanceMethod yX5_actionOf, Cond.selects RX5 yX5_actionOf yX5_actionOf, Cond.code yX5_actionOf cX5_actionOf 7 (some .int)]
def wsL_law0 : List Cond := (wsL_law0_r1 ++ (wsL_law0_r2 ++ (wsL_law0_r3 ++ (wsL_law0_r4 ++ (wsL_law0_r5 ++ (wsL_law0_r6 ++ (wsL_law0_r7 ++ (wsL_law0_r8 ++ (wsL_law0_r9 ++ (wsL_law0_r10 ++ (wsL_law0_r11 ++ (wsL_law0_r12 ++ (wsL_law0_r13 ++ (wsL_law0_r14 ++ (wsL_law0_r15 ++ (wsL_law0_r16 ++ (wsL_law0_r17 ++ (wsL_law0_r18 ++ (wsL_law0_r19 ++ (wsL_law0_r20 ++ (wsL_law0_r21 ++ (wsL_law0_r22 ++ (wsL_law0_r23 ++ (wsL_law0_r24 ++ (wsL_law0_r25 ++ wsL_law0_r26))))))))))))))))))))))))) ++ wsX40 ++ wsX50 ++ wsX20 ++ wsX00 ++ wsJx4a65c0 ++ wsX30 ++ wsX10 ++ ([] : List Cond)
def wsL_law : List Cond := wsL_law0 ++ (vx_atS RX4 38 "java/lang/IllegalArgumentException" ["java/lang/RuntimeException", "java/lang/Exception"]).filter goodWord ++ (vx_atS RX4 52 "java/lang/IllegalStateException" ["java/lang/RuntimeException", "java/lang/Exception"]).filter goodWord ++ (vx_atS RX4 145 "java/lang/IndexOutOfBoundsException" ["java/lang/RuntimeException", "java/lang/Exception"]).filter goodWord
abbrev vwCl : List vw_C := [(RJx4a65c, TJx4a65c, 3), (RX0, TX0, 5), (RX1, TX1, 4), (RX2, TX2, 5), (RX3, TX3, 5), (RX4, TX4, 4), (RX5, TX5, 14)]
end
section
set_option maxRecDepth 20000 in
theorem in0_wsL_law0_r1 : ∀ w ∈ wsL_law0_r1, w ∈ lw_tbl := fun w h => (goodIn_p wsL_law0_r1 [62, 65] (by decide +kernel) (by decide +kernel) w h).1
set_option maxRecDepth 20000 in
theorem in0_wsL_law0_r2 : ∀ w ∈ wsL_law0_r2, w ∈ lw_tbl := fun w h => (goodIn_p wsL_law0_r2 [72, 96, 102] (by decide +kernel) (by decide +kernel) w h).1
set_option maxRecDepth 20000 in
theorem in0_wsL_law0_r3 : ∀ w ∈ wsL_law0_r3, w ∈ lw_tbl := fun w h => (goodIn_p wsL_law0_r3 [105, 108, 676] (by decide +kernel) (by decide +kernel) w h).1
set_option maxRecDepth 20000 in
theorem in0_wsL_law0_r4 : ∀ w ∈ wsL_law0_r4, w ∈ lw_tbl := fun w h => (goodIn_p wsL_law0_r4 [168, 171, 242] (by decide +kernel) (by decide +kernel) w h).1
set_option maxRecDepth 20000 in
theorem in0_wsL_law0_r5 : ∀ w ∈ wsL_law0_r5, w ∈ lw_tbl := fun w h => (goodIn_p wsL_law0_r5 [247, 252, 256, 277, 300] (by decide +kernel) (by decide +kernel) w h).1
set_option maxRecDepth 20000 in
theorem in0_wsL_law0_r6 : ∀ w ∈ wsL_law0_r6, w ∈ lw_tbl := fun w h => (goodIn_p wsL_law0_r6 [304, 308, 312, 316, 322] (by decide +kernel) (by decide +kernel) w h).1
end
section
set_option maxRecDepth 20000 in
theorem in0_wsL_law0_r7 : ∀ w ∈ wsL_law0_r7, w ∈ lw_tbl := fun w h => (goodIn_p wsL_law0_r7 [319, 326, 329, 346, 352] (by decide +kernel) (by decide +kernel) w h).1
set_option maxRecDepth 20000 in
theorem in0_wsL_law0_r8 : ∀ w ∈ wsL_law0_r8, w ∈ lw_tbl := fun w h => (goodIn_p wsL_law0_r8 [729, 732, 735, 738, 742] (by decide +kernel) (by decide +kernel) w h).1
set_option maxRecDepth 20000 in
theorem in0_wsL_law0_r9 : ∀ w ∈ wsL_law0_r9, w ∈ lw_tbl := fun w h => (goodIn_p wsL_law0_r9 [725, 365, 369, 390] (by decide +kernel) (by decide +kernel) w h).1
set_option maxRecDepth 20000 in
theorem in0_wsL_law0_r10 : ∀ w ∈ wsL_law0_r10, w ∈ lw_tbl := fun w h => (goodIn_p wsL_law0_r10 [394, 397, 400, 404, 746, 750] (by decide +kernel) (by decide +kernel) w h).1
set_option maxRecDepth 20000 in
theorem in0_wsL_law0_r11 : ∀ w ∈ wsL_law0_r11, w ∈ lw_tbl := fun w h => (goodIn_p wsL_law0_r11 [412, 754, 419, 758] (by decide +kernel) (by decide +kernel) w h).1
end
section
set_option maxRecDepth 20000 in
theorem in0_wsL_law0_r12 : ∀ w ∈ wsL_law0_r12, w ∈ lw_tbl := fun w h => (goodIn_p wsL_law0_r12 [427, 762, 434, 438, 442] (by decide +kernel) (by decide +kernel) w h).1
set_option maxRecDepth 20000 in
theorem in0_wsL_law0_r13 : ∀ w ∈ wsL_law0_r13, w ∈ lw_tbl := fun w h => (goodIn_p wsL_law0_r13 [446, 451, 456, 766, 770] (by decide +kernel) (by decide +kernel) w h).1
set_option maxRecDepth 20000 in
theorem in0_wsL_law0_r14 : ∀ w ∈ wsL_law0_r14, w ∈ lw_tbl := fun w h => (goodIn_p wsL_law0_r14 [775, 463, 468, 472, 476] (by decide +kernel) (by decide +kernel) w h).1
set_option maxRecDepth 20000 in
theorem in0_wsL_law0_r15 : ∀ w ∈ wsL_law0_r15, w ∈ lw_tbl := fun w h => (goodIn_p wsL_law0_r15 [480, 485, 489, 493, 497, 501] (by decide +kernel) (by decide +kernel) w h).1
set_option maxRecDepth 20000 in
theorem in0_wsL_law0_r16 : ∀ w ∈ wsL_law0_r16, w ∈ lw_tbl := fun w h => (goodIn_p wsL_law0_r16 [505, 509, 513, 516, 521] (by decide +kernel) (by decide +kernel) w h).1
end
section
set_option maxRecDepth 20000 in
theorem in0_wsL_law0_r17 : ∀ w ∈ wsL_law0_r17, w ∈ lw_tbl := fun w h => (goodIn_p wsL_law0_r17 [543, 547, 551, 555, 559] (by decide +kernel) (by decide +kernel) w h).1
set_option maxRecDepth 20000 in
theorem in0_wsL_law0_r18 : ∀ w ∈ wsL_law0_r18, w ∈ lw_tbl := fun w h => (goodIn_p wsL_law0_r18 [563, 567, 571, 575, 580] (by decide +kernel) (by decide +kernel) w h).1
set_option maxRecDepth 20000 in
theorem in0_wsL_law0_r19 : ∀ w ∈ wsL_law0_r19, w ∈ lw_tbl := fun w h => (goodIn_p wsL_law0_r19 [779, 783, 787, 791, 795, 799] (by decide +kernel) (by decide +kernel) w h).1
set_option maxRecDepth 20000 in
theorem in0_wsL_law0_r20 : ∀ w ∈ wsL_law0_r20, w ∈ lw_tbl := fun w h => (goodIn_p wsL_law0_r20 [803, 807, 810, 159, 815] (by decide +kernel) (by decide +kernel) w h).1
set_option maxRecDepth 20000 in
theorem in0_wsL_law0_r21 : ∀ w ∈ wsL_law0_r21, w ∈ lw_tbl := fun w h => (goodIn_p wsL_law0_r21 [589, 594, 599, 819, 606, 823] (by decide +kernel) (by decide +kernel) w h).1
end
section
set_option maxRecDepth 20000 in
theorem in0_wsL_law0_r22 : ∀ w ∈ wsL_law0_r22, w ∈ lw_tbl := fun w h => (goodIn_p wsL_law0_r22 [613, 827, 620, 624] (by decide +kernel) (by decide +kernel) w h).1
set_option maxRecDepth 20000 in
theorem in0_wsL_law0_r23 : ∀ w ∈ wsL_law0_r23, w ∈ lw_tbl := fun w h => (goodIn_p wsL_law0_r23 [628, 632, 636, 831, 835, 839] (by decide +kernel) (by decide +kernel) w h).1
set_option maxRecDepth 20000 in
theorem in0_wsL_law0_r24 : ∀ w ∈ wsL_law0_r24, w ∈ lw_tbl := fun w h => (goodIn_p wsL_law0_r24 [843, 644, 648, 847] (by decide +kernel) (by decide +kernel) w h).1
set_option maxRecDepth 20000 in
theorem in0_wsL_law0_r25 : ∀ w ∈ wsL_law0_r25, w ∈ lw_tbl := fun w h => (goodIn_p wsL_law0_r25 [655, 659, 663, 851, 855] (by decide +kernel) (by decide +kernel) w h).1
set_option maxRecDepth 20000 in
theorem in0_wsL_law0_r26 : ∀ w ∈ wsL_law0_r26, w ∈ lw_tbl := fun w h => (goodIn_p wsL_law0_r26 [671, 859] (by decide +kernel) (by decide +kernel) w h).1
end
section
theorem in0_wsX40 : ∀ w ∈ wsX40, w ∈ lw_tbl := by decide +kernel
theorem in0_wsX50 : ∀ w ∈ wsX50, w ∈ lw_tbl := by decide +kernel
theorem in0_wsX20 : ∀ w ∈ wsX20, w ∈ lw_tbl := by decide +kernel
theorem in0_wsX00 : ∀ w ∈ wsX00, w ∈ lw_tbl := by decide +kernel
theorem in0_wsJx4a65c0 : ∀ w ∈ wsJx4a65c0, w ∈ lw_tbl := by decide +kernel
theorem in0_wsX30 : ∀ w ∈ wsX30, w ∈ lw_tbl := by decide +kernel
theorem in0_wsX10 : ∀ w ∈ wsX10, w ∈ lw_tbl := by decide +kernel
theorem wsL_law_in0 : ∀ w ∈ wsL_law0, w ∈ lw_tbl := List.forall_mem_append.mpr ⟨List.forall_mem_append.mpr ⟨List.forall_mem_append.mpr ⟨List.forall_mem_append.mpr ⟨List.forall_mem_append.mpr ⟨List.forall_mem_append.mpr ⟨List.forall_mem_append.mpr ⟨List.forall_mem_append.mpr ⟨List.forall_mem_append.mpr ⟨in0_wsL_law0_r1, List.forall_mem_append.mpr ⟨in0_wsL_law0_r2, List.forall_mem_append.mpr ⟨in0_wsL_law0_r3, List.forall_mem_append.mpr ⟨in0_wsL_law0_r4, List.forall_mem_append.mpr ⟨in0_wsL_law0_r5, List.forall_mem_append.mpr ⟨in0_wsL_law0_r6, List.forall_mem_append.mpr ⟨in0_wsL_law0_r7, List.forall_mem_append.mpr ⟨in0_wsL_law0_r8, List.forall_mem_append.mpr ⟨in0_wsL_law0_r9, List.forall_mem_append.mpr ⟨in0_wsL_law0_r10, List.forall_mem_append.mpr ⟨in0_wsL_law0_r11, List.forall_mem_append.mpr ⟨in0_wsL_law0_r12, List.forall_mem_append.mpr ⟨in0_wsL_law0_r13, List.forall_mem_append.mpr ⟨in0_wsL_law0_r14, List.forall_mem_append.mpr ⟨in0_wsL_law0_r15, List.forall_mem_append.mpr ⟨in0_wsL_law0_r16, List.forall_mem_append.mpr ⟨in0_wsL_law0_r17, List.forall_mem_append.mpr ⟨in0_wsL_law0_r18, List.forall_mem_append.mpr ⟨in0_wsL_law0_r19, List.forall_mem_append.mpr ⟨in0_wsL_law0_r20, List.forall_mem_append.mpr ⟨in0_wsL_law0_r21, List.forall_mem_append.mpr ⟨in0_wsL_law0_r22, List.forall_mem_append.mpr ⟨in0_wsL_law0_r23, List.forall_mem_append.mpr ⟨in0_wsL_law0_r24, List.forall_mem_append.mpr ⟨in0_wsL_law0_r25, in0_wsL_law0_r26⟩⟩⟩⟩⟩⟩⟩⟩⟩⟩⟩⟩⟩⟩⟩⟩⟩⟩⟩⟩⟩⟩⟩⟩⟩, in0_wsX40⟩, in0_wsX50⟩, in0_wsX20⟩, in0_wsX00⟩, in0_wsJx4a65c0⟩, in0_wsX30⟩, in0_wsX10⟩, fun _ h => absurd h List.not_mem_nil⟩
theorem wsL_law_x0 : ∀ w ∈ (vx_atS RX4 38 "java/lang/IllegalArgumentException" ["java/lang/RuntimeException", "java/lang/Exception"]).filter goodWord, w ∈ lw_tbl := by decide +kernel
theorem wsL_law_x1 : ∀ w ∈ (vx_atS RX4 52 "java/lang/IllegalStateException" ["java/lang/RuntimeException", "java/lang/Exception"]).filter goodWord, w ∈ lw_tbl := by decide +kernel
theorem wsL_law_x2 : ∀ w ∈ (vx_atS RX4 145 "java/lang/IndexOutOfBoundsException" ["java/lang/RuntimeException", "java/lang/Exception"]).filter goodWord, w ∈ lw_tbl := by decide +kernel
theorem wsL_law_in : ∀ w ∈ wsL_law, w ∈ lw_tbl := fun w h => (List.mem_append.mp h).elim (fun h => (List.mem_append.mp h).elim (fun h => (List.mem_append.mp h).elim (fun h => wsL_law_in0 w h) (fun h => wsL_law_x0 w h)) (fun h => wsL_law_x1 w h)) (fun h => wsL_law_x2 w h)
theorem inlX0 : ∀ w ∈ wsX00, w ∈ wsL_law := fun _ h => List.mem_append_left _ (List.mem_append_left _ (List.mem_append_left _ (List.mem_append_left _ (List.mem_append_left _ (List.mem_append_left _ (List.mem_append_left _ (List.mem_append_right _ h)))))))
theorem inX0 : ∀ w ∈ wsX00, w ∈ lw_tbl := fun w h => wsL_law_in w (inlX0 w h)
theorem inlX1 : ∀ w ∈ wsX10, w ∈ wsL_law := fun _ h => List.mem_append_left _ (List.mem_append_left _ (List.mem_append_left _ (List.mem_append_left _ (List.mem_append_right _ h))))
theorem inX1 : ∀ w ∈ wsX10, w ∈ lw_tbl := fun w h => wsL_law_in w (inlX1 w h)
theorem inlX2 : ∀ w ∈ wsX20, w ∈ wsL_law := fun _ h => List.mem_append_left _ (List.mem_append_left _ (List.mem_append_left _ (List.mem_append_left _ (List.mem_append_left _ (List.mem_append_left _ (List.mem_append_left _ (List.mem_append_left _ (List.mem_append_right _ h))))))))
theorem inX2 : ∀ w ∈ wsX20, w ∈ lw_tbl := fun w h => wsL_law_in w (inlX2 w h)
theorem inlX3 : ∀ w ∈ wsX30, w ∈ wsL_law := fun _ h => List.mem_append_left _ (List.mem_append_left _ (List.mem_append_left _ (List.mem_append_left _ (List.mem_append_left _ (List.mem_append_right _ h)))))
theorem inX3 : ∀ w ∈ wsX30, w ∈ lw_tbl := fun w h => wsL_law_in w (inlX3 w h)
theorem inlX4 : ∀ w ∈ wsX40, w ∈ wsL_law := fun _ h => List.mem_append_left _ (List.mem_append_left _ (List.mem_append_left _ (List.mem_append_left _ (List.mem_append_left _ (List.mem_append_left _ (List.mem_append_left _ (List.mem_append_left _ (List.mem_append_left _ (List.mem_append_left _ (List.mem_append_right _ h))))))))))
theorem inX4 : ∀ w ∈ wsX40, w ∈ lw_tbl := fun w h => wsL_law_in w (inlX4 w h)
theorem inlX5 : ∀ w ∈ wsX50, w ∈ wsL_law := fun _ h => List.mem_append_left _ (List.mem_append_left _ (List.mem_append_left _ (List.mem_append_left _ (List.mem_append_left _ (List.mem_append_left _ (List.mem_append_left _ (List.mem_append_left _ (List.mem_append_left _ (List.mem_append_right _ h)))))))))
theorem inX5 : ∀ w ∈ wsX50, w ∈ lw_tbl := fun w h => wsL_law_in w (inlX5 w h)
theorem inJx145de : ∀ w ∈ wsJx145de0, w ∈ lw_tbl := by decide +kernel
theorem inJx8e188 : ∀ w ∈ wsJx8e1880, w ∈ lw_tbl := by decide +kernel
theorem inJxab1ab : ∀ w ∈ wsJxab1ab0, w ∈ lw_tbl := by decide +kernel
theorem inJ9 : ∀ w ∈ wsJ90, w ∈ lw_tbl := by decide +kernel
theorem inJ0 : ∀ w ∈ wsJ00, w ∈ lw_tbl := by decide +kernel
theorem inJ10 : ∀ w ∈ wsJ100, w ∈ lw_tbl := by decide +kernel
theorem inJxa1e45 : ∀ w ∈ wsJxa1e450, w ∈ lw_tbl := by decide +kernel
theorem inJxc12de : ∀ w ∈ wsJxc12de0, w ∈ lw_tbl := by decide +kernel
theorem inlJx4a65c : ∀ w ∈ wsJx4a65c0, w ∈ wsL_law := fun _ h => List.mem_append_left _ (List.mem_append_left _ (List.mem_append_left _ (List.mem_append_left _ (List.mem_append_left _ (List.mem_append_left _ (List.mem_append_right _ h))))))
theorem inJx4a65c : ∀ w ∈ wsJx4a65c0, w ∈ lw_tbl := fun w h => wsL_law_in w (inlJx4a65c w h)
theorem inJ7 : ∀ w ∈ wsJ70, w ∈ lw_tbl := by decide +kernel
theorem inJx5ef63 : ∀ w ∈ wsJx5ef630, w ∈ lw_tbl := by decide +kernel
theorem inJxbd725 : ∀ w ∈ wsJxbd7250, w ∈ lw_tbl := by decide +kernel
theorem inJ15 : ∀ w ∈ wsJ150, w ∈ lw_tbl := by decide +kernel
theorem inJxf0a74 : ∀ w ∈ wsJxf0a740, w ∈ lw_tbl := by decide +kernel
theorem inJxa66e6 : ∀ w ∈ wsJxa66e60, w ∈ lw_tbl := by decide +kernel
theorem inJ8 : ∀ w ∈ wsJ80, w ∈ lw_tbl := by decide +kernel
theorem inJ3 : ∀ w ∈ wsJ30, w ∈ lw_tbl := by decide +kernel
end
section
theorem dX0_init_0 : decode cX0_init 0 = .ok (.aload_n 0, 1) := by decide +kernel
theorem dX0_init_1 : decode cX0_init 1 = .ok (.invokespecial 3, 3) := by decide +kernel
theorem dX0_init_4 : decode cX0_init 4 = .ok (.aload_n 0, 1) := by decide +kernel
theorem dX0_init_5 : decode cX0_init 5 = .ok (.new 9, 3) := by decide +kernel
theorem dX0_init_8 : decode cX0_init 8 = .ok (.dup, 1) := by decide +kernel
theorem dX0_init_9 : decode cX0_init 9 = .ok (.invokespecial 11, 3) := by decide +kernel
theorem dX0_init_12 : decode cX0_init 12 = .ok (.putfield 12, 3) := by decide +kernel
theorem dX0_init_15 : decode cX0_init 15 = .ok (.aload_n 0, 1) := by decide +kernel
theorem dX0_init_16 : decode cX0_init 16 = .ok (.new 9, 3) := by decide +kernel
theorem dX0_init_19 : decode cX0_init 19 = .ok (.dup, 1) := by decide +kernel
theorem dX0_init_20 : decode cX0_init 20 = .ok (.invokespecial 11, 3) := by decide +kernel
theorem dX0_init_23 : decode cX0_init 23 = .ok (.putfield 18, 3) := by decide +kernel
theorem dX0_init_26 : decode cX0_init 26 = .ok (.return_, 1) := by decide +kernel
theorem dX0_isFull_0 : decode cX0_isFull 0 = .ok (.aload_n 0, 1) := by decide +kernel
theorem dX0_isFull_1 : decode cX0_isFull 1 = .ok (.getfield 12, 3) := by decide +kernel
theorem dX0_isFull_4 : decode cX0_isFull 4 = .ok (.invokevirtual 21, 3) := by decide +kernel
theorem dX0_isFull_7 : decode cX0_isFull 7 = .ok (.bipush 10, 2) := by decide +kernel
theorem dX0_isFull_9 : decode cX0_isFull 9 = .ok (.if_icmp .lt 7, 3) := by decide +kernel
theorem dX0_isFull_12 : decode cX0_isFull 12 = .ok (.iconst 1, 1) := by decide +kernel
theorem dX0_isFull_13 : decode cX0_isFull 13 = .ok (.goto 4, 3) := by decide +kernel
theorem dX0_isFull_16 : decode cX0_isFull 16 = .ok (.iconst 0, 1) := by decide +kernel
theorem dX0_isFull_17 : decode cX0_isFull 17 = .ok (.ireturn, 1) := by decide +kernel
theorem dX0_append_0 : decode cX0_append 0 = .ok (.aload_n 0, 1) := by decide +kernel
theorem dX0_append_1 : decode cX0_append 1 = .ok (.getfield 12, 3) := by decide +kernel
theorem dX0_append_4 : decode cX0_append 4 = .ok (.aload_n 1, 1) := by decide +kernel
theorem dX0_append_5 : decode cX0_append 5 = .ok (.invokevirtual 25, 3) := by decide +kernel
theorem dX0_append_8 : decode cX0_append 8 = .ok (.pop, 1) := by decide +kernel
theorem dX0_append_9 : decode cX0_append 9 = .ok (.aload_n 0, 1) := by decide +kernel
theorem dX0_append_10 : decode cX0_append 10 = .ok (.getfield 12, 3) := by decide +kernel
theorem dX0_append_13 : decode cX0_append 13 = .ok (.invokevirtual 21, 3) := by decide +kernel
theorem dX0_append_16 : decode cX0_append 16 = .ok (.iconst 1, 1) := by decide +kernel
theorem dX0_append_17 : decode cX0_append 17 = .ok (.isub, 1) := by decide +kernel
theorem dX0_append_18 : decode cX0_append 18 = .ok (.ireturn, 1) := by decide +kernel
theorem dX0_drop_0 : decode cX0_drop 0 = .ok (.iload_n 1, 1) := by decide +kernel
theorem dX0_drop_1 : decode cX0_drop 1 = .ok (.ifCond .lt 23, 3) := by decide +kernel
theorem dX0_drop_4 : decode cX0_drop 4 = .ok (.iload_n 1, 1) := by decide +kernel
theorem dX0_drop_5 : decode cX0_drop 5 = .ok (.aload_n 0, 1) := by decide +kernel
theorem dX0_drop_6 : decode cX0_drop 6 = .ok (.getfield 12, 3) := by decide +kernel
theorem dX0_drop_9 : decode cX0_drop 9 = .ok (.invokevirtual 21, 3) := by decide +kernel
theorem dX0_drop_12 : decode cX0_drop 12 = .ok (.if_icmp .ge 12, 3) := by decide +kernel
theorem dX0_drop_15 : decode cX0_drop 15 = .ok (.aload_n 0, 1) := by decide +kernel
theorem dX0_drop_16 : decode cX0_drop 16 = .ok (.getfield 12, 3) := by decide +kernel
theorem dX0_drop_19 : decode cX0_drop 19 = .ok (.iload_n 1, 1) := by decide +kernel
theorem dX0_drop_20 : decode cX0_drop 20 = .ok (.invokevirtual 29, 3) := by decide +kernel
theorem dX0_drop_23 : decode cX0_drop 23 = .ok (.pop, 1) := by decide +kernel
theorem dX0_drop_24 : decode cX0_drop 24 = .ok (.aload_n 0, 1) := by decide +kernel
theorem dX0_drop_25 : decode cX0_drop 25 = .ok (.getfield 12, 3) := by decide +kernel
theorem dX0_drop_28 : decode cX0_drop 28 = .ok (.invokevirtual 21, 3) := by decide +kernel
theorem dX0_drop_31 : decode cX0_drop 31 = .ok (.ireturn, 1) := by decide +kernel
theorem dX0_hiderOf_0 : decode cX0_hiderOf 0 = .ok (.iload_n 1, 1) := by decide +kernel
theorem dX0_hiderOf_1 : decode cX0_hiderOf 1 = .ok (.ifCond .lt 14, 3) := by decide +kernel
theorem dX0_hiderOf_4 : decode cX0_hiderOf 4 = .ok (.iload_n 1, 1) := by decide +kernel
theorem dX0_hiderOf_5 : decode cX0_hiderOf 5 = .ok (.aload_n 0, 1) := by decide +kernel
theorem dX0_hiderOf_6 : decode cX0_hiderOf 6 = .ok (.getfield 12, 3) := by decide +kernel
theorem dX0_hiderOf_9 : decode cX0_hiderOf 9 = .ok (.invokevirtual 21, 3) := by decide +kernel
theorem dX0_hiderOf_12 : decode cX0_hiderOf 12 = .ok (.if_icmp .lt 5, 3) := by decide +kernel
theorem dX0_hiderOf_15 : decode cX0_hiderOf 15 = .ok (.iconst (-1), 1) := by decide +kernel
theorem dX0_hiderOf_16 : decode cX0_hiderOf 16 = .ok (.ireturn, 1) := by decide +kernel
theorem dX0_hiderOf_17 : decode cX0_hiderOf 17 = .ok (.aload_n 0, 1) := by decide +kernel
theorem dX0_hiderOf_18 : decode cX0_hiderOf 18 = .ok (.getfield 12, 3) := by decide +kernel
theorem dX0_hiderOf_21 : decode cX0_hiderOf 21 = .ok (.iload_n 1, 1) := by decide +kernel
theorem dX0_hiderOf_22 : decode cX0_hiderOf 22 = .ok (.invokevirtual 33, 3) := by decide +kernel
theorem dX0_hiderOf_25 : decode cX0_hiderOf 25 = .ok (.checkcast 36, 3) := by decide +kernel
theorem dX0_hiderOf_28 : decode cX0_hiderOf 28 = .ok (.astore_n 2, 1) := by decide +kernel
theorem dX0_hiderOf_29 : decode cX0_hiderOf 29 = .ok (.aload_n 2, 1) := by decide +kernel
theorem dX0_hiderOf_30 : decode cX0_hiderOf 30 = .ok (.invokevirtual 38, 3) := by decide +kernel
theorem dX0_hiderOf_33 : decode cX0_hiderOf 33 = .ok (.ifCond .eq 5, 3) := by decide +kernel
theorem dX0_hiderOf_36 : decode cX0_hiderOf 36 = .ok (.iload_n 1, 1) := by decide +kernel
theorem dX0_hiderOf_37 : decode cX0_hiderOf 37 = .ok (.ireturn, 1) := by decide +kernel
theorem dX0_hiderOf_38 : decode cX0_hiderOf 38 = .ok (.iconst 0, 1) := by decide +kernel
theorem dX0_hiderOf_39 : decode cX0_hiderOf 39 = .ok (.istore_n 3, 1) := by decide +kernel
theorem dX0_hiderOf_40 : decode cX0_hiderOf 40 = .ok (.iload_n 3, 1) := by decide +kernel
theorem dX0_hiderOf_41 : decode cX0_hiderOf 41 = .ok (.iload_n 1, 1) := by decide +kernel
theorem dX0_hiderOf_42 : decode cX0_hiderOf 42 = .ok (.if_icmp .ge 29, 3) := by decide +kernel
theorem dX0_hiderOf_45 : decode cX0_hiderOf 45 = .ok (.aload_n 0, 1) := by decide +kernel
theorem dX0_hiderOf_46 : decode cX0_hiderOf 46 = .ok (.getfield 12, 3) := by decide +kernel
theorem dX0_hiderOf_49 : decode cX0_hiderOf 49 = .ok (.iload_n 3, 1) := by decide +kernel
theorem dX0_hiderOf_50 : decode cX0_hiderOf 50 = .ok (.invokevirtual 33, 3) := by decide +kernel
theorem dX0_hiderOf_53 : decode cX0_hiderOf 53 = .ok (.checkcast 36, 3) := by decide +kernel
theorem dX0_hiderOf_56 : decode cX0_hiderOf 56 = .ok (.aload_n 2, 1) := by decide +kernel
theorem dX0_hiderOf_57 : decode cX0_hiderOf 57 = .ok (.invokevirtual 42, 3) := by decide +kernel
theorem dX0_hiderOf_60 : decode cX0_hiderOf 60 = .ok (.ifCond .eq 5, 3) := by decide +kernel
theorem dX0_hiderOf_63 : decode cX0_hiderOf 63 = .ok (.iload_n 3, 1) := by decide +kernel
theorem dX0_hiderOf_64 : decode cX0_hiderOf 64 = .ok (.ireturn, 1) := by decide +kernel
theorem dX0_hiderOf_65 : decode cX0_hiderOf 65 = .ok (.iinc 3 1, 3) := by decide +kernel
theorem dX0_hiderOf_68 : decode cX0_hiderOf 68 = .ok (.goto (-28), 3) := by decide +kernel
theorem dX0_hiderOf_71 : decode cX0_hiderOf 71 = .ok (.iconst (-1), 1) := by decide +kernel
theorem dX0_hiderOf_72 : decode cX0_hiderOf 72 = .ok (.ireturn, 1) := by decide +kernel
theorem dX0_planTree_0 : decode cX0_planTree 0 = .ok (.aload_n 0, 1) := by decide +kernel
theorem dX0_planTree_1 : decode cX0_planTree 1 = .ok (.invokevirtual 46, 3) := by decide +kernel
theorem dX0_planTree_4 : decode cX0_planTree 4 = .ok (.aload_n 1, 1) := by decide +kernel
theorem dX0_planTree_5 : decode cX0_planTree 5 = .ok (.invokevirtual 49, 3) := by decide +kernel
theorem dX0_planTree_8 : decode cX0_planTree 8 = .ok (.iconst 0, 1) := by decide +kernel
theorem dX0_planTree_9 : decode cX0_planTree 9 = .ok (.istore_n 3, 1) := by decide +kernel
theorem dX0_planTree_10 : decode cX0_planTree 10 = .ok (.iload_n 3, 1) := by decide +kernel
theorem dX0_planTree_11 : decode cX0_planTree 11 = .ok (.aload_n 2, 1) := by decide +kernel
theorem dX0_planTree_12 : decode cX0_planTree 12 = .ok (.arraylength, 1) := by decide +kernel
theorem dX0_planTree_13 : decode cX0_planTree 13 = .ok (.if_icmp .ge 27, 3) := by decide +kernel
theorem dX0_planTree_16 : decode cX0_planTree 16 = .ok (.aload_n 0, 1) := by decide +kernel
theorem dX0_planTree_17 : decode cX0_planTree 17 = .ok (.iload_n 3, 1) := by decide +kernel
theorem dX0_planTree_18 : decode cX0_planTree 18 = .ok (.invokevirtual 54, 3) := by decide +kernel
theorem dX0_planTree_21 : decode cX0_planTree 21 = .ok (.ifCond .eq 13, 3) := by decide +kernel
theorem dX0_planTree_24 : decode cX0_planTree 24 = .ok (.aload_n 1, 1) := by decide +kernel
theorem dX0_planTree_25 : decode cX0_planTree 25 = .ok (.iload_n 3, 1) := by decide +kernel
theorem dX0_planTree_26 : decode cX0_planTree 26 = .ok (.aload_n 2, 1) := by decide +kernel
theorem dX0_planTree_27 : decode cX0_planTree 27 = .ok (.iload_n 3, 1) := by decide +kernel
theorem dX0_planTree_28 : decode cX0_planTree 28 = .ok (.iaload, 1) := by decide +kernel
theorem dX0_planTree_29 : decode cX0_planTree 29 = .ok (.iconst 1, 1) := by decide +kernel
theorem dX0_planTree_30 : decode cX0_planTree 30 = .ok (.iadd, 1) := by decide +kernel
theorem dX0_planTree_31 : decode cX0_planTree 31 = .ok (.invokevirtual 58, 3) := by decide +kernel
theorem dX0_planTree_34 : decode cX0_planTree 34 = .ok (.iinc 3 1, 3) := by decide +kernel
theorem dX0_planTree_37 : decode cX0_planTree 37 = .ok (.goto (-27), 3) := by decide +kernel
theorem dX0_planTree_40 : decode cX0_planTree 40 = .ok (.aload_n 1, 1) := by decide +kernel
theorem dX0_planTree_41 : decode cX0_planTree 41 = .ok (.invokevirtual 62, 3) := by decide +kernel
theorem dX0_planTree_44 : decode cX0_planTree 44 = .ok (.aload_n 0, 1) := by decide +kernel
theorem dX0_planTree_45 : decode cX0_planTree 45 = .ok (.aload_n 1, 1) := by decide +kernel
theorem dX0_planTree_46 : decode cX0_planTree 46 = .ok (.invokevirtual 65, 3) := by decide +kernel
theorem dX0_planTree_49 : decode cX0_planTree 49 = .ok (.putfield 69, 3) := by decide +kernel
theorem dX0_planTree_52 : decode cX0_planTree 52 = .ok (.aload_n 0, 1) := by decide +kernel
theorem dX0_planTree_53 : decode cX0_planTree 53 = .ok (.aload_n 1, 1) := by decide +kernel
theorem dX0_planTree_54 : decode cX0_planTree 54 = .ok (.invokevirtual 73, 3) := by decide +kernel
theorem dX0_planTree_57 : decode cX0_planTree 57 = .ok (.putfield 76, 3) := by decide +kernel
theorem dX0_planTree_60 : decode cX0_planTree 60 = .ok (.return_, 1) := by decide +kernel
theorem dX0_gatherReached_0 : decode cX0_gatherReached 0 = .ok (.aload_n 0, 1) := by decide +kernel
theorem dX0_gatherReached_1 : decode cX0_gatherReached 1 = .ok (.getfield 18, 3) := by decide +kernel
theorem dX0_gatherReached_4 : decode cX0_gatherReached 4 = .ok (.invokevirtual 80, 3) := by decide +kernel
theorem dX0_gatherReached_7 : decode cX0_gatherReached 7 = .ok (.iconst 0, 1) := by decide +kernel
theorem dX0_gatherReached_8 : decode cX0_gatherReached 8 = .ok (.istore_n 1, 1) := by decide +kernel
theorem dX0_gatherReached_9 : decode cX0_gatherReached 9 = .ok (.iload_n 1, 1) := by decide +kernel
theorem dX0_gatherReached_10 : decode cX0_gatherReached 10 = .ok (.aload_n 0, 1) := by decide +kernel
theorem dX0_gatherReached_11 : decode cX0_gatherReached 11 = .ok (.getfield 12, 3) := by decide +kernel
theorem dX0_gatherReached_14 : decode cX0_gatherReached 14 = .ok (.invokevirtual 21, 3) := by decide +kernel
theorem dX0_gatherReached_17 : decode cX0_gatherReached 17 = .ok (.if_icmp .ge 37, 3) := by decide +kernel
theorem dX0_gatherReached_20 : decode cX0_gatherReached 20 = .ok (.aload_n 0, 1) := by decide +kernel
theorem dX0_gatherReached_21 : decode cX0_gatherReached 21 = .ok (.iload_n 1, 1) := by decide +kernel
theorem dX0_gatherReached_22 : decode cX0_gatherReached 22 = .ok (.invokevirtual 83, 3) := by decide +kernel
theorem dX0_gatherReached_25 : decode cX0_gatherReached 25 = .ok (.iconst (-1), 1) := by decide +kernel
theorem dX0_gatherReached_26 : decode cX0_gatherReached 26 = .ok (.if_icmp .ne 22, 3) := by decide +kernel
theorem dX0_gatherReached_29 : decode cX0_gatherReached 29 = .ok (.aload_n 0, 1) := by decide +kernel
theorem dX0_gatherReached_30 : decode cX0_gatherReached 30 = .ok (.getfield 18, 3) := by decide +kernel
theorem dX0_gatherReached_33 : decode cX0_gatherReached 33 = .ok (.aload_n 0, 1) := by decide +kernel
theorem dX0_gatherReached_34 : decode cX0_gatherReached 34 = .ok (.getfield 12, 3) := by decide +kernel
theorem dX0_gatherReached_37 : decode cX0_gatherReached 37 = .ok (.iload_n 1, 1) := by decide +kernel
theorem dX0_gatherReached_38 : decode cX0_gatherReached 38 = .ok (.invokevirtual 33, 3) := by decide +kernel
theorem dX0_gatherReached_41 : decode cX0_gatherReached 41 = .ok (.checkcast 36, 3) := by decide +kernel
theorem dX0_gatherReached_44 : decode cX0_gatherReached 44 = .ok (.invokevirtual 25, 3) := by decide +kernel
theorem dX0_gatherReached_47 : decode cX0_gatherReached 47 = .ok (.pop, 1) := by decide +kernel
theorem dX0_gatherReached_48 : decode cX0_gatherReached 48 = .ok (.iinc 1 1, 3) := by decide +kernel
theorem dX0_gatherReached_51 : decode cX0_gatherReached 51 = .ok (.goto (-42), 3) := by decide +kernel
theorem dX0_gatherReached_54 : decode cX0_gatherReached 54 = .ok (.return_, 1) := by decide +kernel
theorem dX0_isReached_0 : decode cX0_isReached 0 = .ok (.iconst 0, 1) := by decide +kernel
theorem dX0_isReached_1 : decode cX0_isReached 1 = .ok (.istore_n 2, 1) := by decide +kernel
theorem dX0_isReached_2 : decode cX0_isReached 2 = .ok (.iload_n 2, 1) := by decide +kernel
theorem dX0_isReached_3 : decode cX0_isReached 3 = .ok (.aload_n 0, 1) := by decide +kernel
theorem dX0_isReached_4 : decode cX0_isReached 4 = .ok (.getfield 18, 3) := by decide +kernel
theorem dX0_isReached_7 : decode cX0_isReached 7 = .ok (.invokevirtual 21, 3) := by decide +kernel
theorem dX0_isReached_10 : decode cX0_isReached 10 = .ok (.if_icmp .ge 29, 3) := by decide +kernel
theorem dX0_isReached_13 : decode cX0_isReached 13 = .ok (.aload_n 0, 1) := by decide +kernel
theorem dX0_isReached_14 : decode cX0_isReached 14 = .ok (.getfield 18, 3) := by decide +kernel
theorem dX0_isReached_17 : decode cX0_isReached 17 = .ok (.iload_n 2, 1) := by decide +kernel
theorem dX0_isReached_18 : decode cX0_isReached 18 = .ok (.invokevirtual 33, 3) := by decide +kernel
theorem dX0_isReached_21 : decode cX0_isReached 21 = .ok (.checkcast 36, 3) := by decide +kernel
theorem dX0_isReached_24 : decode cX0_isReached 24 = .ok (.getfield 87, 3) := by decide +kernel
theorem dX0_isReached_27 : decode cX0_isReached 27 = .ok (.iload_n 1, 1) := by decide +kernel
theorem dX0_isReached_28 : decode cX0_isReached 28 = .ok (.if_icmp .ne 5, 3) := by decide +kernel
theorem dX0_isReached_31 : decode cX0_isReached 31 = .ok (.iconst 1, 1) := by decide +kernel
theorem dX0_isReached_32 : decode cX0_isReached 32 = .ok (.ireturn, 1) := by decide +kernel
theorem dX0_isReached_33 : decode cX0_isReached 33 = .ok (.iinc 2 1, 3) := by decide +kernel
theorem dX0_isReached_36 : decode cX0_isReached 36 = .ok (.goto (-34), 3) := by decide +kernel
theorem dX0_isReached_39 : decode cX0_isReached 39 = .ok (.iconst 0, 1) := by decide +kernel
theorem dX0_isReached_40 : decode cX0_isReached 40 = .ok (.ireturn, 1) := by decide +kernel
theorem dX0_numberAt_0 : decode cX0_numberAt 0 = .ok (.aload_n 0, 1) := by decide +kernel
theorem dX0_numberAt_1 : decode cX0_numberAt 1 = .ok (.getfield 69, 3) := by decide +kernel
theorem dX0_numberAt_4 : decode cX0_numberAt 4 = .ok (.astore_n 2, 1) := by decide +kernel
theorem dX0_numberAt_5 : decode cX0_numberAt 5 = .ok (.iload_n 1, 1) := by decide +kernel
theorem dX0_numberAt_6 : decode cX0_numberAt 6 = .ok (.istore_n 3, 1) := by decide +kernel
theorem dX0_numberAt_7 : decode cX0_numberAt 7 = .ok (.iload_n 3, 1) := by decide +kernel
theorem dX0_numberAt_8 : decode cX0_numberAt 8 = .ok (.iconst 1, 1) := by decide +kernel
theorem dX0_numberAt_9 : decode cX0_numberAt 9 = .ok (.if_icmp .le 32, 3) := by decide +kernel
theorem dX0_numberAt_12 : decode cX0_numberAt 12 = .ok (.aload_n 2, 1) := by decide +kernel
theorem dX0_numberAt_13 : decode cX0_numberAt 13 = .ok (.ifnull 28, 3) := by decide +kernel
theorem dX0_numberAt_16 : decode cX0_numberAt 16 = .ok (.iload_n 3, 1) := by decide +kernel
theorem dX0_numberAt_17 : decode cX0_numberAt 17 = .ok (.iconst 1, 1) := by decide +kernel
theorem dX0_numberAt_18 : decode cX0_numberAt 18 = .ok (.iand, 1) := by decide +kernel
theorem dX0_numberAt_19 : decode cX0_numberAt 19 = .ok (.ifCond .ne 10, 3) := by decide +kernel
theorem dX0_numberAt_22 : decode cX0_numberAt 22 = .ok (.aload_n 2, 1) := by decide +kernel
theorem dX0_numberAt_23 : decode cX0_numberAt 23 = .ok (.getfield 90, 3) := by decide +kernel
theorem dX0_numberAt_26 : decode cX0_numberAt 26 = .ok (.goto 7, 3) := by decide +kernel
theorem dX0_numberAt_29 : decode cX0_numberAt 29 = .ok (.aload_n 2, 1) := by decide +kernel
theorem dX0_numberAt_30 : decode cX0_numberAt 30 = .ok (.getfield 95, 3) := by decide +kernel
theorem dX0_numberAt_33 : decode cX0_numberAt 33 = .ok (.astore_n 2, 1) := by decide +kernel
theorem dX0_numberAt_34 : decode cX0_numberAt 34 = .ok (.iload_n 3, 1) := by decide +kernel
theorem dX0_numberAt_35 : decode cX0_numberAt 35 = .ok (.iconst 1, 1) := by decide +kernel
theorem dX0_numberAt_36 : decode cX0_numberAt 36 = .ok (.ishr, 1) := by decide +kernel
theorem dX0_numberAt_37 : decode cX0_numberAt 37 = .ok (.istore_n 3, 1) := by decide +kernel
theorem dX0_numberAt_38 : decode cX0_numberAt 38 = .ok (.goto (-31), 3) := by decide +kernel
theorem dX0_numberAt_41 : decode cX0_numberAt 41 = .ok (.aload_n 2, 1) := by decide +kernel
theorem dX0_numberAt_42 : decode cX0_numberAt 42 = .ok (.ifnonnull 7, 3) := by decide +kernel
theorem dX0_numberAt_45 : decode cX0_numberAt 45 = .ok (.iconst (-1), 1) := by decide +kernel
theorem dX0_numberAt_46 : decode cX0_numberAt 46 = .ok (.goto 7, 3) := by decide +kernel
theorem dX0_numberAt_49 : decode cX0_numberAt 49 = .ok (.aload_n 2, 1) := by decide +kernel
theorem dX0_numberAt_50 : decode cX0_numberAt 50 = .ok (.getfield 98, 3) := by decide +kernel
theorem dX0_numberAt_53 : decode cX0_numberAt 53 = .ok (.ireturn, 1) := by decide +kernel
theorem dX0_worstPath_0 : decode cX0_worstPath 0 = .ok (.iconst 0, 1) := by decide +kernel
theorem dX0_worstPath_1 : decode cX0_worstPath 1 = .ok (.istore_n 1, 1) := by decide +kernel
theorem dX0_worstPath_2 : decode cX0_worstPath 2 = .ok (.iconst 0, 1) := by decide +kernel
theorem dX0_worstPath_3 : decode cX0_worstPath 3 = .ok (.istore_n 2, 1) := by decide +kernel
theorem dX0_worstPath_4 : decode cX0_worstPath 4 = .ok (.iload_n 2, 1) := by decide +kernel
theorem dX0_worstPath_5 : decode cX0_worstPath 5 = .ok (.bipush 32, 2) := by decide +kernel
theorem dX0_worstPath_7 : decode cX0_worstPath 7 = .ok (.if_icmp .ge 25, 3) := by decide +kernel
theorem dX0_worstPath_10 : decode cX0_worstPath 10 = .ok (.iload_n 1, 1) := by decide +kernel
theorem dX0_worstPath_11 : decode cX0_worstPath 11 = .ok (.aload_n 0, 1) := by decide +kernel
theorem dX0_worstPath_12 : decode cX0_worstPath 12 = .ok (.iload_n 2, 1) := by decide +kernel
theorem dX0_worstPath_13 : decode cX0_worstPath 13 = .ok (.invokevirtual 99, 3) := by decide +kernel
theorem dX0_worstPath_16 : decode cX0_worstPath 16 = .ok (.aload_n 0, 1) := by decide +kernel
theorem dX0_worstPath_17 : decode cX0_worstPath 17 = .ok (.iload_n 2, 1) := by decide +kernel
theorem dX0_worstPath_18 : decode cX0_worstPath 18 = .ok (.invokevirtual 102, 3) := by decide +kernel
theorem dX0_worstPath_21 : decode cX0_worstPath 21 = .ok (.iadd, 1) := by decide +kernel
theorem dX0_worstPath_22 : decode cX0_worstPath 22 = .ok (.invokestatic 105, 3) := by decide +kernel
theorem dX0_worstPath_25 : decode cX0_worstPath 25 = .ok (.istore_n 1, 1) := by decide +kernel
theorem dX0_worstPath_26 : decode cX0_worstPath 26 = .ok (.iinc 2 1, 3) := by decide +kernel
theorem dX0_worstPath_29 : decode cX0_worstPath 29 = .ok (.goto (-25), 3) := by decide +kernel
theorem dX0_worstPath_32 : decode cX0_worstPath 32 = .ok (.iload_n 1, 1) := by decide +kernel
theorem dX0_worstPath_33 : decode cX0_worstPath 33 = .ok (.ireturn, 1) := by decide +kernel
theorem dX0_pathOf_0 : decode cX0_pathOf 0 = .ok (.aload_n 0, 1) := by decide +kernel
theorem dX0_pathOf_1 : decode cX0_pathOf 1 = .ok (.iload_n 1, 1) := by decide +kernel
theorem dX0_pathOf_2 : decode cX0_pathOf 2 = .ok (.invokevirtual 99, 3) := by decide +kernel
theorem dX0_pathOf_5 : decode cX0_pathOf 5 = .ok (.istore 6, 2) := by decide +kernel
theorem dX0_pathOf_7 : decode cX0_pathOf 7 = .ok (.iconst 0, 1) := by decide +kernel
theorem dX0_pathOf_8 : decode cX0_pathOf 8 = .ok (.istore 7, 2) := by decide +kernel
theorem dX0_pathOf_10 : decode cX0_pathOf 10 = .ok (.iload 7, 2) := by decide +kernel
theorem dX0_pathOf_12 : decode cX0_pathOf 12 = .ok (.aload_n 0, 1) := by decide +kernel
theorem dX0_pathOf_13 : decode cX0_pathOf 13 = .ok (.getfield 18, 3) := by decide +kernel
theorem dX0_pathOf_16 : decode cX0_pathOf 16 = .ok (.invokevirtual 21, 3) := by decide +kernel
theorem dX0_pathOf_19 : decode cX0_pathOf 19 = .ok (.if_icmp .ge 59, 3) := by decide +kernel
theorem dX0_pathOf_22 : decode cX0_pathOf 22 = .ok (.aload_n 0, 1) := by decide +kernel
theorem dX0_pathOf_23 : decode cX0_pathOf 23 = .ok (.getfield 18, 3) := by decide +kernel
theorem dX0_pathOf_26 : decode cX0_pathOf 26 = .ok (.iload 7, 2) := by decide +kernel
theorem dX0_pathOf_28 : decode cX0_pathOf 28 = .ok (.invokevirtual 33, 3) := by decide +kernel
theorem dX0_pathOf_31 : decode cX0_pathOf 31 = .ok (.checkcast 36, 3) := by decide +kernel
theorem dX0_pathOf_34 : decode cX0_pathOf 34 = .ok (.astore 8, 2) := by decide +kernel
theorem dX0_pathOf_36 : decode cX0_pathOf 36 = .ok (.aload 8, 2) := by decide +kernel
theorem dX0_pathOf_38 : decode cX0_pathOf 38 = .ok (.getfield 87, 3) := by decide +kernel
theorem dX0_pathOf_41 : decode cX0_pathOf 41 = .ok (.iload_n 1, 1) := by decide +kernel
theorem dX0_pathOf_42 : decode cX0_pathOf 42 = .ok (.if_icmp .ne 30, 3) := by decide +kernel
theorem dX0_pathOf_45 : decode cX0_pathOf 45 = .ok (.iload 6, 2) := by decide +kernel
theorem dX0_pathOf_47 : decode cX0_pathOf 47 = .ok (.aload 8, 2) := by decide +kernel
theorem dX0_pathOf_49 : decode cX0_pathOf 49 = .ok (.lload_n 2, 1) := by decide +kernel
theorem dX0_pathOf_50 : decode cX0_pathOf 50 = .ok (.lload 4, 2) := by decide +kernel
theorem dX0_pathOf_52 : decode cX0_pathOf 52 = .ok (.invokevirtual 111, 3) := by decide +kernel
theorem dX0_pathOf_55 : decode cX0_pathOf 55 = .ok (.iadd, 1) := by decide +kernel
theorem dX0_pathOf_56 : decode cX0_pathOf 56 = .ok (.istore 6, 2) := by decide +kernel
theorem dX0_pathOf_58 : decode cX0_pathOf 58 = .ok (.aload 8, 2) := by decide +kernel
theorem dX0_pathOf_60 : decode cX0_pathOf 60 = .ok (.lload_n 2, 1) := by decide +kernel
theorem dX0_pathOf_61 : decode cX0_pathOf 61 = .ok (.lload 4, 2) := by decide +kernel
theorem dX0_pathOf_63 : decode cX0_pathOf 63 = .ok (.invokevirtual 115, 3) := by decide +kernel
theorem dX0_pathOf_66 : decode cX0_pathOf 66 = .ok (.ifCond .eq 6, 3) := by decide +kernel
theorem dX0_pathOf_69 : decode cX0_pathOf 69 = .ok (.iload 6, 2) := by decide +kernel
theorem dX0_pathOf_71 : decode cX0_pathOf 71 = .ok (.ireturn, 1) := by decide +kernel
theorem dX0_pathOf_72 : decode cX0_pathOf 72 = .ok (.iinc 7 1, 3) := by decide +kernel
theorem dX0_pathOf_75 : decode cX0_pathOf 75 = .ok (.goto (-65), 3) := by decide +kernel
theorem dX0_pathOf_78 : decode cX0_pathOf 78 = .ok (.iload 6, 2) := by decide +kernel
theorem dX0_pathOf_80 : decode cX0_pathOf 80 = .ok (.ireturn, 1) := by decide +kernel
theorem dX0_actionByTree_0 : decode cX0_actionByTree 0 = .ok (.aload_n 0, 1) := by decide +kernel
theorem dX0_actionByTree_1 : decode cX0_actionByTree 1 = .ok (.iload_n 1, 1) := by decide +kernel
theorem dX0_actionByTree_2 : decode cX0_actionByTree 2 = .ok (.invokevirtual 119, 3) := by decide +kernel
theorem dX0_actionByTree_5 : decode cX0_actionByTree 5 = .ok (.astore 6, 2) := by decide +kernel
theorem dX0_actionByTree_7 : decode cX0_actionByTree 7 = .ok (.aload 6, 2) := by decide +kernel
theorem dX0_actionByTree_9 : decode cX0_actionByTree 9 = .ok (.ifnull 12, 3) := by decide +kernel
theorem dX0_actionByTree_12 : decode cX0_actionByTree 12 = .ok (.aload 6, 2) := by decide +kernel
theorem dX0_actionByTree_14 : decode cX0_actionByTree 14 = .ok (.getfield 98, 3) := by decide +kernel
theorem dX0_actionByTree_17 : decode cX0_actionByTree 17 = .ok (.iload_n 1, 1) := by decide +kernel
theorem dX0_actionByTree_18 : decode cX0_actionByTree 18 = .ok (.if_icmp .eq 8, 3) := by decide +kernel
theorem dX0_actionByTree_21 : decode cX0_actionByTree 21 = .ok (.aload_n 0, 1) := by decide +kernel
theorem dX0_actionByTree_22 : decode cX0_actionByTree 22 = .ok (.getfield 123, 3) := by decide +kernel
theorem dX0_actionByTree_25 : decode cX0_actionByTree 25 = .ok (.ireturn, 1) := by decide +kernel
theorem dX0_actionByTree_26 : decode cX0_actionByTree 26 = .ok (.aload_n 0, 1) := by decide +kernel
theorem dX0_actionByTree_27 : decode cX0_actionByTree 27 = .ok (.aload_n 0, 1) := by decide +kernel
theorem dX0_actionByTree_28 : decode cX0_actionByTree 28 = .ok (.getfield 18, 3) := by decide +kernel
theorem dX0_actionByTree_31 : decode cX0_actionByTree 31 = .ok (.iload_n 1, 1) := by decide +kernel
theorem dX0_actionByTree_32 : decode cX0_actionByTree 32 = .ok (.lload_n 2, 1) := by decide +kernel
theorem dX0_actionByTree_33 : decode cX0_actionByTree 33 = .ok (.lload 4, 2) := by decide +kernel
theorem dX0_actionByTree_35 : decode cX0_actionByTree 35 = .ok (.invokevirtual 126, 3) := by decide +kernel
theorem dX0_actionByTree_38 : decode cX0_actionByTree 38 = .ok (.ireturn, 1) := by decide +kernel
theorem dX0_actionByRules_0 : decode cX0_actionByRules 0 = .ok (.aload_n 0, 1) := by decide +kernel
theorem dX0_actionByRules_1 : decode cX0_actionByRules 1 = .ok (.aload_n 0, 1) := by decide +kernel
theorem dX0_actionByRules_2 : decode cX0_actionByRules 2 = .ok (.getfield 12, 3) := by decide +kernel
theorem dX0_actionByRules_5 : decode cX0_actionByRules 5 = .ok (.iload_n 1, 1) := by decide +kernel
theorem dX0_actionByRules_6 : decode cX0_actionByRules 6 = .ok (.lload_n 2, 1) := by decide +kernel
theorem dX0_actionByRules_7 : decode cX0_actionByRules 7 = .ok (.lload 4, 2) := by decide +kernel
theorem dX0_actionByRules_9 : decode cX0_actionByRules 9 = .ok (.invokevirtual 126, 3) := by decide +kernel
theorem dX0_actionByRules_12 : decode cX0_actionByRules 12 = .ok (.ireturn, 1) := by decide +kernel
theorem dX0_actionOfFirstMatch_0 : decode cX0_actionOfFirstMatch 0 = .ok (.iconst 0, 1) := by decide +kernel
theorem dX0_actionOfFirstMatch_1 : decode cX0_actionOfFirstMatch 1 = .ok (.istore 7, 2) := by decide +kernel
theorem dX0_actionOfFirstMatch_3 : decode cX0_actionOfFirstMatch 3 = .ok (.iload 7, 2) := by decide +kernel
theorem dX0_actionOfFirstMatch_5 : decode cX0_actionOfFirstMatch 5 = .ok (.aload_n 1, 1) := by decide +kernel
theorem dX0_actionOfFirstMatch_6 : decode cX0_actionOfFirstMatch 6 = .ok (.invokevirtual 21, 3) := by decide +kernel
theorem dX0_actionOfFirstMatch_9 : decode cX0_actionOfFirstMatch 9 = .ok (.if_icmp .ge 46, 3) := by decide +kernel
theorem dX0_actionOfFirstMatch_12 : decode cX0_actionOfFirstMatch 12 = .ok (.aload_n 1, 1) := by decide +kernel
theorem dX0_actionOfFirstMatch_13 : decode cX0_actionOfFirstMatch 13 = .ok (.iload 7, 2) := by decide +kernel
theorem dX0_actionOfFirstMatch_15 : decode cX0_actionOfFirstMatch 15 = .ok (.invokevirtual 33, 3) := by decide +kernel
theorem dX0_actionOfFirstMatch_18 : decode cX0_actionOfFirstMatch 18 = .ok (.checkcast 36, 3) := by decide +kernel
theorem dX0_actionOfFirstMatch_21 : decode cX0_actionOfFirstMatch 21 = .ok (.astore 8, 2) := by decide +kernel
theorem dX0_actionOfFirstMatch_23 : decode cX0_actionOfFirstMatch 23 = .ok (.aload 8, 2) := by decide +kernel
theorem dX0_actionOfFirstMatch_25 : decode cX0_actionOfFirstMatch 25 = .ok (.getfield 87, 3) := by decide +kernel
theorem dX0_actionOfFirstMatch_28 : decode cX0_actionOfFirstMatch 28 = .ok (.iload_n 2, 1) := by decide +kernel
theorem dX0_actionOfFirstMatch_29 : decode cX0_actionOfFirstMatch 29 = .ok (.if_icmp .ne 20, 3) := by decide +kernel
theorem dX0_actionOfFirstMatch_32 : decode cX0_actionOfFirstMatch 32 = .ok (.aload 8, 2) := by decide +kernel
theorem dX0_actionOfFirstMatch_34 : decode cX0_actionOfFirstMatch 34 = .ok (.lload_n 3, 1) := by decide +kernel
theorem dX0_actionOfFirstMatch_35 : decode cX0_actionOfFirstMatch 35 = .ok (.lload 5, 2) := by decide +kernel
theorem dX0_actionOfFirstMatch_37 : decode cX0_actionOfFirstMatch 37 = .ok (.invokevirtual 115, 3) := by decide +kernel
theorem dX0_actionOfFirstMatch_40 : decode cX0_actionOfFirstMatch 40 = .ok (.ifCond .eq 9, 3) := by decide +kernel
theorem dX0_actionOfFirstMatch_43 : decode cX0_actionOfFirstMatch 43 = .ok (.aload 8, 2) := by decide +kernel
theorem dX0_actionOfFirstMatch_45 : decode cX0_actionOfFirstMatch 45 = .ok (.getfield 130, 3) := by decide +kernel
theorem dX0_actionOfFirstMatch_48 : decode cX0_actionOfFirstMatch 48 = .ok (.ireturn, 1) := by decide +kernel
theorem dX0_actionOfFirstMatch_49 : decode cX0_actionOfFirstMatch 49 = .ok (.iinc 7 1, 3) := by decide +kernel
theorem dX0_actionOfFirstMatch_52 : decode cX0_actionOfFirstMatch 52 = .ok (.goto (-49), 3) := by decide +kernel
theorem dX0_actionOfFirstMatch_55 : decode cX0_actionOfFirstMatch 55 = .ok (.aload_n 0, 1) := by decide +kernel
theorem dX0_actionOfFirstMatch_56 : decode cX0_actionOfFirstMatch 56 = .ok (.getfield 123, 3) := by decide +kernel
theorem dX0_actionOfFirstMatch_59 : decode cX0_actionOfFirstMatch 59 = .ok (.ireturn, 1) := by decide +kernel
theorem dX0_numberTests_0 : decode cX0_numberTests 0 = .ok (.aload_n 0, 1) := by decide +kernel
theorem dX0_numberTests_1 : decode cX0_numberTests 1 = .ok (.iload_n 1, 1) := by decide +kernel
theorem dX0_numberTests_2 : decode cX0_numberTests 2 = .ok (.invokevirtual 119, 3) := by decide +kernel
theorem dX0_numberTests_5 : decode cX0_numberTests 5 = .ok (.astore_n 2, 1) := by decide +kernel
theorem dX0_numberTests_6 : decode cX0_numberTests 6 = .ok (.aload_n 2, 1) := by decide +kernel
theorem dX0_numberTests_7 : decode cX0_numberTests 7 = .ok (.ifnonnull 7, 3) := by decide +kernel
theorem dX0_numberTests_10 : decode cX0_numberTests 10 = .ok (.iconst 0, 1) := by decide +kernel
theorem dX0_numberTests_11 : decode cX0_numberTests 11 = .ok (.goto 7, 3) := by decide +kernel
theorem dX0_numberTests_14 : decode cX0_numberTests 14 = .ok (.aload_n 2, 1) := by decide +kernel
theorem dX0_numberTests_15 : decode cX0_numberTests 15 = .ok (.getfield 133, 3) := by decide +kernel
theorem dX0_numberTests_18 : decode cX0_numberTests 18 = .ok (.ireturn, 1) := by decide +kernel
theorem dX0_mostRuleTests_0 : decode cX0_mostRuleTests 0 = .ok (.iconst 0, 1) := by decide +kernel
theorem dX0_mostRuleTests_1 : decode cX0_mostRuleTests 1 = .ok (.istore_n 2, 1) := by decide +kernel
theorem dX0_mostRuleTests_2 : decode cX0_mostRuleTests 2 = .ok (.iconst 0, 1) := by decide +kernel
theorem dX0_mostRuleTests_3 : decode cX0_mostRuleTests 3 = .ok (.istore_n 3, 1) := by decide +kernel
theorem dX0_mostRuleTests_4 : decode cX0_mostRuleTests 4 = .ok (.iload_n 3, 1) := by decide +kernel
theorem dX0_mostRuleTests_5 : decode cX0_mostRuleTests 5 = .ok (.aload_n 0, 1) := by decide +kernel
theorem dX0_mostRuleTests_6 : decode cX0_mostRuleTests 6 = .ok (.getfield 18, 3) := by decide +kernel
theorem dX0_mostRuleTests_9 : decode cX0_mostRuleTests 9 = .ok (.invokevirtual 21, 3) := by decide +kernel
theorem dX0_mostRuleTests_12 : decode cX0_mostRuleTests 12 = .ok (.if_icmp .ge 44, 3) := by decide +kernel
theorem dX0_mostRuleTests_15 : decode cX0_mostRuleTests 15 = .ok (.aload_n 0, 1) := by decide +kernel
theorem dX0_mostRuleTests_16 : decode cX0_mostRuleTests 16 = .ok (.getfield 18, 3) := by decide +kernel
theorem dX0_mostRuleTests_19 : decode cX0_mostRuleTests 19 = .ok (.iload_n 3, 1) := by decide +kernel
theorem dX0_mostRuleTests_20 : decode cX0_mostRuleTests 20 = .ok (.invokevirtual 33, 3) := by decide +kernel
theorem dX0_mostRuleTests_23 : decode cX0_mostRuleTests 23 = .ok (.checkcast 36, 3) := by decide +kernel
theorem dX0_mostRuleTests_26 : decode cX0_mostRuleTests 26 = .ok (.getfield 87, 3) := by decide +kernel
theorem dX0_mostRuleTests_29 : decode cX0_mostRuleTests 29 = .ok (.iload_n 1, 1) := by decide +kernel
theorem dX0_mostRuleTests_30 : decode cX0_mostRuleTests 30 = .ok (.if_icmp .ne 20, 3) := by decide +kernel
theorem dX0_mostRuleTests_33 : decode cX0_mostRuleTests 33 = .ok (.iload_n 2, 1) := by decide +kernel
theorem dX0_mostRuleTests_34 : decode cX0_mostRuleTests 34 = .ok (.aload_n 0, 1) := by decide +kernel
theorem dX0_mostRuleTests_35 : decode cX0_mostRuleTests 35 = .ok (.getfield 18, 3) := by decide +kernel
theorem dX0_mostRuleTests_38 : decode cX0_mostRuleTests 38 = .ok (.iload_n 3, 1) := by decide +kernel
theorem dX0_mostRuleTests_39 : decode cX0_mostRuleTests 39 = .ok (.invokevirtual 33, 3) := by decide +kernel
theorem dX0_mostRuleTests_42 : decode cX0_mostRuleTests 42 = .ok (.checkcast 36, 3) := by decide +kernel
theorem dX0_mostRuleTests_45 : decode cX0_mostRuleTests 45 = .ok (.invokevirtual 136, 3) := by decide +kernel
theorem dX0_mostRuleTests_48 : decode cX0_mostRuleTests 48 = .ok (.iadd, 1) := by decide +kernel
theorem dX0_mostRuleTests_49 : decode cX0_mostRuleTests 49 = .ok (.istore_n 2, 1) := by decide +kernel
theorem dX0_mostRuleTests_50 : decode cX0_mostRuleTests 50 = .ok (.iinc 3 1, 3) := by decide +kernel
theorem dX0_mostRuleTests_53 : decode cX0_mostRuleTests 53 = .ok (.goto (-49), 3) := by decide +kernel
theorem dX0_mostRuleTests_56 : decode cX0_mostRuleTests 56 = .ok (.iload_n 2, 1) := by decide +kernel
theorem dX0_mostRuleTests_57 : decode cX0_mostRuleTests 57 = .ok (.ireturn, 1) := by decide +kernel
theorem dX0_lastTest_0 : decode cX0_lastTest 0 = .ok (.aload_n 0, 1) := by decide +kernel
theorem dX0_lastTest_1 : decode cX0_lastTest 1 = .ok (.getfield 69, 3) := by decide +kernel
theorem dX0_lastTest_4 : decode cX0_lastTest 4 = .ok (.astore_n 2, 1) := by decide +kernel
theorem dX0_lastTest_5 : decode cX0_lastTest 5 = .ok (.aload_n 0, 1) := by decide +kernel
theorem dX0_lastTest_6 : decode cX0_lastTest 6 = .ok (.getfield 69, 3) := by decide +kernel
theorem dX0_lastTest_9 : decode cX0_lastTest 9 = .ok (.astore_n 3, 1) := by decide +kernel
theorem dX0_lastTest_10 : decode cX0_lastTest 10 = .ok (.aload_n 3, 1) := by decide +kernel
theorem dX0_lastTest_11 : decode cX0_lastTest 11 = .ok (.ifnull 14, 3) := by decide +kernel
theorem dX0_lastTest_14 : decode cX0_lastTest 14 = .ok (.aload_n 3, 1) := by decide +kernel
theorem dX0_lastTest_15 : decode cX0_lastTest 15 = .ok (.astore_n 2, 1) := by decide +kernel
theorem dX0_lastTest_16 : decode cX0_lastTest 16 = .ok (.aload_n 3, 1) := by decide +kernel
theorem dX0_lastTest_17 : decode cX0_lastTest 17 = .ok (.iload_n 1, 1) := by decide +kernel
theorem dX0_lastTest_18 : decode cX0_lastTest 18 = .ok (.invokevirtual 139, 3) := by decide +kernel
theorem dX0_lastTest_21 : decode cX0_lastTest 21 = .ok (.astore_n 3, 1) := by decide +kernel
theorem dX0_lastTest_22 : decode cX0_lastTest 22 = .ok (.goto (-12), 3) := by decide +kernel
theorem dX0_lastTest_25 : decode cX0_lastTest 25 = .ok (.aload_n 2, 1) := by decide +kernel
theorem dX0_lastTest_26 : decode cX0_lastTest 26 = .ok (.areturn, 1) := by decide +kernel
theorem dX1_init_0 : decode cX1_init 0 = .ok (.aload_n 0, 1) := by decide +kernel
theorem dX1_init_1 : decode cX1_init 1 = .ok (.invokespecial 1, 3) := by decide +kernel
theorem dX1_init_4 : decode cX1_init 4 = .ok (.aload_n 0, 1) := by decide +kernel
theorem dX1_init_5 : decode cX1_init 5 = .ok (.iload_n 1, 1) := by decide +kernel
theorem dX1_init_6 : decode cX1_init 6 = .ok (.putfield 7, 3) := by decide +kernel
theorem dX1_init_9 : decode cX1_init 9 = .ok (.aload_n 0, 1) := by decide +kernel
theorem dX1_init_10 : decode cX1_init 10 = .ok (.iload_n 2, 1) := by decide +kernel
theorem dX1_init_11 : decode cX1_init 11 = .ok (.putfield 13, 3) := by decide +kernel
theorem dX1_init_14 : decode cX1_init 14 = .ok (.aload_n 0, 1) := by decide +kernel
theorem dX1_init_15 : decode cX1_init 15 = .ok (.aload_n 3, 1) := by decide +kernel
theorem dX1_init_16 : decode cX1_init 16 = .ok (.putfield 16, 3) := by decide +kernel
theorem dX1_init_19 : decode cX1_init 19 = .ok (.aload_n 0, 1) := by decide +kernel
theorem dX1_init_20 : decode cX1_init 20 = .ok (.aload 4, 2) := by decide +kernel
theorem dX1_init_22 : decode cX1_init 22 = .ok (.putfield 20, 3) := by decide +kernel
theorem dX1_init_25 : decode cX1_init 25 = .ok (.return_, 1) := by decide +kernel
theorem dX1_towards_0 : decode cX1_towards 0 = .ok (.iload_n 1, 1) := by decide +kernel
theorem dX1_towards_1 : decode cX1_towards 1 = .ok (.aload_n 0, 1) := by decide +kernel
theorem dX1_towards_2 : decode cX1_towards 2 = .ok (.getfield 7, 3) := by decide +kernel
theorem dX1_towards_5 : decode cX1_towards 5 = .ok (.if_icmp .ne 5, 3) := by decide +kernel
theorem dX1_towards_8 : decode cX1_towards 8 = .ok (.aconst_null, 1) := by decide +kernel
theorem dX1_towards_9 : decode cX1_towards 9 = .ok (.areturn, 1) := by decide +kernel
theorem dX1_towards_10 : decode cX1_towards 10 = .ok (.iload_n 1, 1) := by decide +kernel
theorem dX1_towards_11 : decode cX1_towards 11 = .ok (.aload_n 0, 1) := by decide +kernel
theorem dX1_towards_12 : decode cX1_towards 12 = .ok (.getfield 7, 3) := by decide +kernel
theorem dX1_towards_15 : decode cX1_towards 15 = .ok (.if_icmp .ge 10, 3) := by decide +kernel
theorem dX1_towards_18 : decode cX1_towards 18 = .ok (.aload_n 0, 1) := by decide +kernel
theorem dX1_towards_19 : decode cX1_towards 19 = .ok (.getfield 16, 3) := by decide +kernel
theorem dX1_towards_22 : decode cX1_towards 22 = .ok (.goto 7, 3) := by decide +kernel
theorem dX1_towards_25 : decode cX1_towards 25 = .ok (.aload_n 0, 1) := by decide +kernel
theorem dX1_towards_26 : decode cX1_towards 26 = .ok (.getfield 20, 3) := by decide +kernel
theorem dX1_towards_29 : decode cX1_towards 29 = .ok (.areturn, 1) := by decide +kernel
theorem dX2_init_0 : decode cX2_init 0 = .ok (.aload_n 0, 1) := by decide +kernel
theorem dX2_init_1 : decode cX2_init 1 = .ok (.invokespecial 3, 3) := by decide +kernel
theorem dX2_init_4 : decode cX2_init 4 = .ok (.aload_n 0, 1) := by decide +kernel
theorem dX2_init_5 : decode cX2_init 5 = .ok (.bipush 10, 2) := by decide +kernel
theorem dX2_init_7 : decode cX2_init 7 = .ok (.newarray .int, 2) := by decide +kernel
theorem dX2_init_9 : decode cX2_init 9 = .ok (.putfield 9, 3) := by decide +kernel
theorem dX2_init_12 : decode cX2_init 12 = .ok (.aload_n 0, 1) := by decide +kernel
theorem dX2_init_13 : decode cX2_init 13 = .ok (.bipush 10, 2) := by decide +kernel
theorem dX2_init_15 : decode cX2_init 15 = .ok (.newarray .int, 2) := by decide +kernel
theorem dX2_init_17 : decode cX2_init 17 = .ok (.putfield 15, 3) := by decide +kernel
theorem dX2_init_20 : decode cX2_init 20 = .ok (.aload_n 0, 1) := by decide +kernel
theorem dX2_init_21 : decode cX2_init 21 = .ok (.bipush 11, 2) := by decide +kernel
theorem dX2_init_23 : decode cX2_init 23 = .ok (.bipush 11, 2) := by decide +kernel
theorem dX2_init_25 : decode cX2_init 25 = .ok (.multianewarray 18 2, 4) := by decide +kernel
theorem dX2_init_29 : decode cX2_init 29 = .ok (.putfield 20, 3) := by decide +kernel
theorem dX2_init_32 : decode cX2_init 32 = .ok (.aload_n 0, 1) := by decide +kernel
theorem dX2_init_33 : decode cX2_init 33 = .ok (.bipush 11, 2) := by decide +kernel
theorem dX2_init_35 : decode cX2_init 35 = .ok (.bipush 11, 2) := by decide +kernel
theorem dX2_init_37 : decode cX2_init 37 = .ok (.multianewarray 18 2, 4) := by decide +kernel
theorem dX2_init_41 : decode cX2_init 41 = .ok (.putfield 23, 3) := by decide +kernel
theorem dX2_init_44 : decode cX2_init 44 = .ok (.return_, 1) := by decide +kernel
theorem dX2_startAnew_0 : decode cX2_startAnew 0 = .ok (.aload_n 0, 1) := by decide +kernel
theorem dX2_startAnew_1 : decode cX2_startAnew 1 = .ok (.iconst 0, 1) := by decide +kernel
theorem dX2_startAnew_2 : decode cX2_startAnew 2 = .ok (.putfield 26, 3) := by decide +kernel
theorem dX2_startAnew_5 : decode cX2_startAnew 5 = .ok (.return_, 1) := by decide +kernel
theorem dX2_take_0 : decode cX2_take 0 = .ok (.aload_n 0, 1) := by decide +kernel
theorem dX2_take_1 : decode cX2_take 1 = .ok (.getfield 26, 3) := by decide +kernel
theorem dX2_take_4 : decode cX2_take 4 = .ok (.bipush 10, 2) := by decide +kernel
theorem dX2_take_6 : decode cX2_take 6 = .ok (.if_icmp .ge 33, 3) := by decide +kernel
theorem dX2_take_9 : decode cX2_take 9 = .ok (.aload_n 0, 1) := by decide +kernel
theorem dX2_take_10 : decode cX2_take 10 = .ok (.getfield 9, 3) := by decide +kernel
theorem dX2_take_13 : decode cX2_take 13 = .ok (.aload_n 0, 1) := by decide +kernel
theorem dX2_take_14 : decode cX2_take 14 = .ok (.getfield 26, 3) := by decide +kernel
theorem dX2_take_17 : decode cX2_take 17 = .ok (.iload_n 1, 1) := by decide +kernel
theorem dX2_take_18 : decode cX2_take 18 = .ok (.iastore, 1) := by decide +kernel
theorem dX2_take_19 : decode cX2_take 19 = .ok (.aload_n 0, 1) := by decide +kernel
theorem dX2_take_20 : decode cX2_take 20 = .ok (.getfield 15, 3) := by decide +kernel
theorem dX2_take_23 : decode cX2_take 23 = .ok (.aload_n 0, 1) := by decide +kernel
theorem dX2_take_24 : decode cX2_take 24 = .ok (.getfield 26, 3) := by decide +kernel
theorem dX2_take_27 : decode cX2_take 27 = .ok (.iload_n 2, 1) := by decide +kernel
theorem dX2_take_28 : decode cX2_take 28 = .ok (.iastore, 1) := by decide +kernel
theorem dX2_take_29 : decode cX2_take 29 = .ok (.aload_n 0, 1) := by decide +kernel
theorem dX2_take_30 : decode cX2_take 30 = .ok (.dup, 1) := by decide +kernel
theorem dX2_take_31 : decode cX2_take 31 = .ok (.getfield 26, 3) := by decide +kernel
theorem dX2_take_34 : decode cX2_take 34 = .ok (.iconst 1, 1) := by decide +kernel
theorem dX2_take_35 : decode cX2_take 35 = .ok (.iadd, 1) := by decide +kernel
theorem dX2_take_36 : decode cX2_take 36 = .ok (.putfield 26, 3) := by decide +kernel
theorem dX2_take_39 : decode cX2_take 39 = .ok (.return_, 1) := by decide +kernel
theorem dX2_weighAllTrees_0 : decode cX2_weighAllTrees 0 = .ok (.iconst 1, 1) := by decide +kernel
theorem dX2_weighAllTrees_1 : decode cX2_weighAllTrees 1 = .ok (.istore_n 1, 1) := by decide +kernel
theorem dX2_weighAllTrees_2 : decode cX2_weighAllTrees 2 = .ok (.iload_n 1, 1) := by decide +kernel
theorem dX2_weighAllTrees_3 : decode cX2_weighAllTrees 3 = .ok (.aload_n 0, 1) := by decide +kernel
theorem dX2_weighAllTrees_4 : decode cX2_weighAllTrees 4 = .ok (.getfield 26, 3) := by decide +kernel
theorem dX2_weighAllTrees_7 : decode cX2_weighAllTrees 7 = .ok (.if_icmp .gt 35, 3) := by decide +kernel
theorem dX2_weighAllTrees_10 : decode cX2_weighAllTrees 10 = .ok (.iconst 0, 1) := by decide +kernel
theorem dX2_weighAllTrees_11 : decode cX2_weighAllTrees 11 = .ok (.istore_n 2, 1) := by decide +kernel
theorem dX2_weighAllTrees_12 : decode cX2_weighAllTrees 12 = .ok (.iload_n 2, 1) := by decide +kernel
theorem dX2_weighAllTrees_13 : decode cX2_weighAllTrees 13 = .ok (.iload_n 1, 1) := by decide +kernel
theorem dX2_weighAllTrees_14 : decode cX2_weighAllTrees 14 = .ok (.iadd, 1) := by decide +kernel
theorem dX2_weighAllTrees_15 : decode cX2_weighAllTrees 15 = .ok (.aload_n 0, 1) := by decide +kernel
theorem dX2_weighAllTrees_16 : decode cX2_weighAllTrees 16 = .ok (.getfield 26, 3) := by decide +kernel
theorem dX2_weighAllTrees_19 : decode cX2_weighAllTrees 19 = .ok (.if_icmp .gt 17, 3) := by decide +kernel
theorem dX2_weighAllTrees_22 : decode cX2_weighAllTrees 22 = .ok (.aload_n 0, 1) := by decide +kernel
theorem dX2_weighAllTrees_23 : decode cX2_weighAllTrees 23 = .ok (.iload_n 2, 1) := by decide +kernel
theorem dX2_weighAllTrees_24 : decode cX2_weighAllTrees 24 = .ok (.iload_n 2, 1) := by decide +kernel
theorem dX2_weighAllTrees_25 : decode cX2_weighAllTrees 25 = .ok (.iload_n 1, 1) := by decide +kernel
theorem dX2_weighAllTrees_26 : decode cX2_weighAllTrees 26 = .ok (.iadd, 1) := by decide +kernel
theorem dX2_weighAllTrees_27 : decode cX2_weighAllTrees 27 = .ok (.invokevirtual 30, 3) := by decide +kernel
theorem dX2_weighAllTrees_30 : decode cX2_weighAllTrees 30 = .ok (.iinc 2 1, 3) := by decide +kernel
theorem dX2_weighAllTrees_33 : decode cX2_weighAllTrees 33 = .ok (.goto (-21), 3) := by decide +kernel
theorem dX2_weighAllTrees_36 : decode cX2_weighAllTrees 36 = .ok (.iinc 1 1, 3) := by decide +kernel
theorem dX2_weighAllTrees_39 : decode cX2_weighAllTrees 39 = .ok (.goto (-37), 3) := by decide +kernel
theorem dX2_weighAllTrees_42 : decode cX2_weighAllTrees 42 = .ok (.return_, 1) := by decide +kernel
theorem dX2_weighTrees_0 : decode cX2_weighTrees 0 = .ok (.iload_n 1, 1) := by decide +kernel
theorem dX2_weighTrees_1 : decode cX2_weighTrees 1 = .ok (.istore_n 3, 1) := by decide +kernel
theorem dX2_weighTrees_2 : decode cX2_weighTrees 2 = .ok (.iload_n 1, 1) := by decide +kernel
theorem dX2_weighTrees_3 : decode cX2_weighTrees 3 = .ok (.iconst 1, 1) := by decide +kernel
theorem dX2_weighTrees_4 : decode cX2_weighTrees 4 = .ok (.iadd, 1) := by decide +kernel
theorem dX2_weighTrees_5 : decode cX2_weighTrees 5 = .ok (.istore 4, 2) := by decide +kernel
theorem dX2_weighTrees_7 : decode cX2_weighTrees 7 = .ok (.iload 4, 2) := by decide +kernel
theorem dX2_weighTrees_9 : decode cX2_weighTrees 9 = .ok (.iload_n 2, 1) := by decide +kernel
theorem dX2_weighTrees_10 : decode cX2_weighTrees 10 = .ok (.if_icmp .ge 30, 3) := by decide +kernel
theorem dX2_weighTrees_13 : decode cX2_weighTrees 13 = .ok (.aload_n 0, 1) := by decide +kernel
theorem dX2_weighTrees_14 : decode cX2_weighTrees 14 = .ok (.iload_n 1, 1) := by decide +kernel
theorem dX2_weighTrees_15 : decode cX2_weighTrees 15 = .ok (.iload_n 2, 1) := by decide +kernel
theorem dX2_weighTrees_16 : decode cX2_weighTrees 16 = .ok (.iload 4, 2) := by decide +kernel
theorem dX2_weighTrees_18 : decode cX2_weighTrees 18 = .ok (.invokevirtual 34, 3) := by decide +kernel
theorem dX2_weighTrees_21 : decode cX2_weighTrees 21 = .ok (.aload_n 0, 1) := by decide +kernel
theorem dX2_weighTrees_22 : decode cX2_weighTrees 22 = .ok (.iload_n 1, 1) := by decide +kernel
theorem dX2_weighTrees_23 : decode cX2_weighTrees 23 = .ok (.iload_n 2, 1) := by decide +kernel
theorem dX2_weighTrees_24 : decode cX2_weighTrees 24 = .ok (.iload_n 3, 1) := by decide +kernel
theorem dX2_weighTrees_25 : decode cX2_weighTrees 25 = .ok (.invokevirtual 34, 3) := by decide +kernel
theorem dX2_weighTrees_28 : decode cX2_weighTrees 28 = .ok (.if_icmp .ge 6, 3) := by decide +kernel
theorem dX2_weighTrees_31 : decode cX2_weighTrees 31 = .ok (.iload 4, 2) := by decide +kernel
theorem dX2_weighTrees_33 : decode cX2_weighTrees 33 = .ok (.istore_n 3, 1) := by decide +kernel
theorem dX2_weighTrees_34 : decode cX2_weighTrees 34 = .ok (.iinc 4 1, 3) := by decide +kernel
theorem dX2_weighTrees_37 : decode cX2_weighTrees 37 = .ok (.goto (-30), 3) := by decide +kernel
theorem dX2_weighTrees_40 : decode cX2_weighTrees 40 = .ok (.aload_n 0, 1) := by decide +kernel
theorem dX2_weighTrees_41 : decode cX2_weighTrees 41 = .ok (.getfield 23, 3) := by decide +kernel
theorem dX2_weighTrees_44 : decode cX2_weighTrees 44 = .ok (.iload_n 1, 1) := by decide +kernel
theorem dX2_weighTrees_45 : decode cX2_weighTrees 45 = .ok (.aaload, 1) := by decide +kernel
theorem dX2_weighTrees_46 : decode cX2_weighTrees 46 = .ok (.iload_n 2, 1) := by decide +kernel
theorem dX2_weighTrees_47 : decode cX2_weighTrees 47 = .ok (.iload_n 3, 1) := by decide +kernel
theorem dX2_weighTrees_48 : decode cX2_weighTrees 48 = .ok (.iastore, 1) := by decide +kernel
theorem dX2_weighTrees_49 : decode cX2_weighTrees 49 = .ok (.aload_n 0, 1) := by decide +kernel
theorem dX2_weighTrees_50 : decode cX2_weighTrees 50 = .ok (.getfield 20, 3) := by decide +kernel
theorem dX2_weighTrees_53 : decode cX2_weighTrees 53 = .ok (.iload_n 1, 1) := by decide +kernel
theorem dX2_weighTrees_54 : decode cX2_weighTrees 54 = .ok (.aaload, 1) := by decide +kernel
theorem dX2_weighTrees_55 : decode cX2_weighTrees 55 = .ok (.iload_n 2, 1) := by decide +kernel
theorem dX2_weighTrees_56 : decode cX2_weighTrees 56 = .ok (.aload_n 0, 1) := by decide +kernel
theorem dX2_weighTrees_57 : decode cX2_weighTrees 57 = .ok (.iload_n 1, 1) := by decide +kernel
theorem dX2_weighTrees_58 : decode cX2_weighTrees 58 = .ok (.iload_n 2, 1) := by decide +kernel
theorem dX2_weighTrees_59 : decode cX2_weighTrees 59 = .ok (.iload_n 3, 1) := by decide +kernel
theorem dX2_weighTrees_60 : decode cX2_weighTrees 60 = .ok (.invokevirtual 34, 3) := by decide +kernel
theorem dX2_weighTrees_63 : decode cX2_weighTrees 63 = .ok (.aload_n 0, 1) := by decide +kernel
theorem dX2_weighTrees_64 : decode cX2_weighTrees 64 = .ok (.iload_n 1, 1) := by decide +kernel
theorem dX2_weighTrees_65 : decode cX2_weighTrees 65 = .ok (.iload_n 2, 1) := by decide +kernel
theorem dX2_weighTrees_66 : decode cX2_weighTrees 66 = .ok (.invokevirtual 38, 3) := by decide +kernel
theorem dX2_weighTrees_69 : decode cX2_weighTrees 69 = .ok (.iadd, 1) := by decide +kernel
theorem dX2_weighTrees_70 : decode cX2_weighTrees 70 = .ok (.iastore, 1) := by decide +kernel
theorem dX2_weighTrees_71 : decode cX2_weighTrees 71 = .ok (.return_, 1) := by decide +kernel
theorem dX2_costBelow_0 : decode cX2_costBelow 0 = .ok (.aload_n 0, 1) := by decide +kernel
theorem dX2_costBelow_1 : decode cX2_costBelow 1 = .ok (.getfield 20, 3) := by decide +kernel
theorem dX2_costBelow_4 : decode cX2_costBelow 4 = .ok (.iload_n 1, 1) := by decide +kernel
theorem dX2_costBelow_5 : decode cX2_costBelow 5 = .ok (.aaload, 1) := by decide +kernel
theorem dX2_costBelow_6 : decode cX2_costBelow 6 = .ok (.iload_n 3, 1) := by decide +kernel
theorem dX2_costBelow_7 : decode cX2_costBelow 7 = .ok (.iaload, 1) := by decide +kernel
theorem dX2_costBelow_8 : decode cX2_costBelow 8 = .ok (.aload_n 0, 1) := by decide +kernel
theorem dX2_costBelow_9 : decode cX2_costBelow 9 = .ok (.getfield 20, 3) := by decide +kernel
theorem dX2_costBelow_12 : decode cX2_costBelow 12 = .ok (.iload_n 3, 1) := by decide +kernel
theorem dX2_costBelow_13 : decode cX2_costBelow 13 = .ok (.iconst 1, 1) := by decide +kernel
theorem dX2_costBelow_14 : decode cX2_costBelow 14 = .ok (.iadd, 1) := by decide +kernel
theorem dX2_costBelow_15 : decode cX2_costBelow 15 = .ok (.aaload, 1) := by decide +kernel
theorem dX2_costBelow_16 : decode cX2_costBelow 16 = .ok (.iload_n 2, 1) := by decide +kernel
theorem dX2_costBelow_17 : decode cX2_costBelow 17 = .ok (.iaload, 1) := by decide +kernel
theorem dX2_costBelow_18 : decode cX2_costBelow 18 = .ok (.iadd, 1) := by decide +kernel
theorem dX2_costBelow_19 : decode cX2_costBelow 19 = .ok (.ireturn, 1) := by decide +kernel
theorem dX2_weightOf_0 : decode cX2_weightOf 0 = .ok (.iconst 0, 1) := by decide +kernel
theorem dX2_weightOf_1 : decode cX2_weightOf 1 = .ok (.istore_n 3, 1) := by decide +kernel
theorem dX2_weightOf_2 : decode cX2_weightOf 2 = .ok (.iload_n 1, 1) := by decide +kernel
theorem dX2_weightOf_3 : decode cX2_weightOf 3 = .ok (.istore 4, 2) := by decide +kernel
theorem dX2_weightOf_5 : decode cX2_weightOf 5 = .ok (.iload 4, 2) := by decide +kernel
theorem dX2_weightOf_7 : decode cX2_weightOf 7 = .ok (.iload_n 2, 1) := by decide +kernel
theorem dX2_weightOf_8 : decode cX2_weightOf 8 = .ok (.if_icmp .ge 19, 3) := by decide +kernel
theorem dX2_weightOf_11 : decode cX2_weightOf 11 = .ok (.iload_n 3, 1) := by decide +kernel
theorem dX2_weightOf_12 : decode cX2_weightOf 12 = .ok (.aload_n 0, 1) := by decide +kernel
theorem dX2_weightOf_13 : decode cX2_weightOf 13 = .ok (.getfield 15, 3) := by decide +kernel
theorem dX2_weightOf_16 : decode cX2_weightOf 16 = .ok (.iload 4, 2) := by decide +kernel
theorem dX2_weightOf_18 : decode cX2_weightOf 18 = .ok (.iaload, 1) := by decide +kernel
theorem dX2_weightOf_19 : decode cX2_weightOf 19 = .ok (.iadd, 1) := by decide +kernel
theorem dX2_weightOf_20 : decode cX2_weightOf 20 = .ok (.istore_n 3, 1) := by decide +kernel
theorem dX2_weightOf_21 : decode cX2_weightOf 21 = .ok (.iinc 4 1, 3) := by decide +kernel
theorem dX2_weightOf_24 : decode cX2_weightOf 24 = .ok (.goto (-19), 3) := by decide +kernel
theorem dX2_weightOf_27 : decode cX2_weightOf 27 = .ok (.iload_n 3, 1) := by decide +kernel
theorem dX2_weightOf_28 : decode cX2_weightOf 28 = .ok (.ireturn, 1) := by decide +kernel
theorem dX2_leastCost_0 : decode cX2_leastCost 0 = .ok (.aload_n 0, 1) := by decide +kernel
theorem dX2_leastCost_1 : decode cX2_leastCost 1 = .ok (.getfield 20, 3) := by decide +kernel
theorem dX2_leastCost_4 : decode cX2_leastCost 4 = .ok (.iconst 0, 1) := by decide +kernel
theorem dX2_leastCost_5 : decode cX2_leastCost 5 = .ok (.aaload, 1) := by decide +kernel
theorem dX2_leastCost_6 : decode cX2_leastCost 6 = .ok (.aload_n 0, 1) := by decide +kernel
theorem dX2_leastCost_7 : decode cX2_leastCost 7 = .ok (.getfield 26, 3) := by decide +kernel
theorem dX2_leastCost_10 : decode cX2_leastCost 10 = .ok (.iaload, 1) := by decide +kernel
theorem dX2_leastCost_11 : decode cX2_leastCost 11 = .ok (.ireturn, 1) := by decide +kernel
theorem dX2_bestTree_0 : decode cX2_bestTree 0 = .ok (.aload_n 0, 1) := by decide +kernel
theorem dX2_bestTree_1 : decode cX2_bestTree 1 = .ok (.iconst 0, 1) := by decide +kernel
theorem dX2_bestTree_2 : decode cX2_bestTree 2 = .ok (.aload_n 0, 1) := by decide +kernel
theorem dX2_bestTree_3 : decode cX2_bestTree 3 = .ok (.getfield 26, 3) := by decide +kernel
theorem dX2_bestTree_6 : decode cX2_bestTree 6 = .ok (.iconst 1, 1) := by decide +kernel
theorem dX2_bestTree_7 : decode cX2_bestTree 7 = .ok (.invokestatic 42, 3) := by decide +kernel
theorem dX2_bestTree_10 : decode cX2_bestTree 10 = .ok (.areturn, 1) := by decide +kernel
theorem dX2_grow_0 : decode cX2_grow 0 = .ok (.iload_n 1, 1) := by decide +kernel
theorem dX2_grow_1 : decode cX2_grow 1 = .ok (.iload_n 2, 1) := by decide +kernel
theorem dX2_grow_2 : decode cX2_grow 2 = .ok (.if_icmp .ge 9, 3) := by decide +kernel
theorem dX2_grow_5 : decode cX2_grow 5 = .ok (.iload_n 3, 1) := by decide +kernel
theorem dX2_grow_6 : decode cX2_grow 6 = .ok (.bipush 10, 2) := by decide +kernel
theorem dX2_grow_8 : decode cX2_grow 8 = .ok (.if_icmp .le 5, 3) := by decide +kernel
theorem dX2_grow_11 : decode cX2_grow 11 = .ok (.aconst_null, 1) := by decide +kernel
theorem dX2_grow_12 : decode cX2_grow 12 = .ok (.areturn, 1) := by decide +kernel
theorem dX2_grow_13 : decode cX2_grow 13 = .ok (.aload_n 0, 1) := by decide +kernel
theorem dX2_grow_14 : decode cX2_grow 14 = .ok (.getfield 23, 3) := by decide +kernel
theorem dX2_grow_17 : decode cX2_grow 17 = .ok (.iload_n 1, 1) := by decide +kernel
theorem dX2_grow_18 : decode cX2_grow 18 = .ok (.aaload, 1) := by decide +kernel
theorem dX2_grow_19 : decode cX2_grow 19 = .ok (.iload_n 2, 1) := by decide +kernel
theorem dX2_grow_20 : decode cX2_grow 20 = .ok (.iaload, 1) := by decide +kernel
theorem dX2_grow_21 : decode cX2_grow 21 = .ok (.istore 4, 2) := by decide +kernel
theorem dX2_grow_23 : decode cX2_grow 23 = .ok (.new 46, 3) := by decide +kernel
theorem dX2_grow_26 : decode cX2_grow 26 = .ok (.dup, 1) := by decide +kernel
theorem dX2_grow_27 : decode cX2_grow 27 = .ok (.aload_n 0, 1) := by decide +kernel
theorem dX2_grow_28 : decode cX2_grow 28 = .ok (.getfield 9, 3) := by decide +kernel
theorem dX2_grow_31 : decode cX2_grow 31 = .ok (.iload 4, 2) := by decide +kernel
theorem dX2_grow_33 : decode cX2_grow 33 = .ok (.iaload, 1) := by decide +kernel
theorem dX2_grow_34 : decode cX2_grow 34 = .ok (.iload_n 3, 1) := by decide +kernel
theorem dX2_grow_35 : decode cX2_grow 35 = .ok (.aload_n 0, 1) := by decide +kernel
theorem dX2_grow_36 : decode cX2_grow 36 = .ok (.iload_n 1, 1) := by decide +kernel
theorem dX2_grow_37 : decode cX2_grow 37 = .ok (.iload 4, 2) := by decide +kernel
theorem dX2_grow_39 : decode cX2_grow 39 = .ok (.iload_n 3, 1) := by decide +kernel
theorem dX2_grow_40 : decode cX2_grow 40 = .ok (.iconst 1, 1) := by decide +kernel
theorem dX2_grow_41 : decode cX2_grow 41 = .ok (.iadd, 1) := by decide +kernel
theorem dX2_grow_42 : decode cX2_grow 42 = .ok (.invokestatic 42, 3) := by decide +kernel
theorem dX2_grow_45 : decode cX2_grow 45 = .ok (.aload_n 0, 1) := by decide +kernel
theorem dX2_grow_46 : decode cX2_grow 46 = .ok (.iload 4, 2) := by decide +kernel
theorem dX2_grow_48 : decode cX2_grow 48 = .ok (.iconst 1, 1) := by decide +kernel
theorem dX2_grow_49 : decode cX2_grow 49 = .ok (.iadd, 1) := by decide +kernel
theorem dX2_grow_50 : decode cX2_grow 50 = .ok (.iload_n 2, 1) := by decide +kernel
theorem dX2_grow_51 : decode cX2_grow 51 = .ok (.iload_n 3, 1) := by decide +kernel
theorem dX2_grow_52 : decode cX2_grow 52 = .ok (.iconst 1, 1) := by decide +kernel
theorem dX2_grow_53 : decode cX2_grow 53 = .ok (.iadd, 1) := by decide +kernel
theorem dX2_grow_54 : decode cX2_grow 54 = .ok (.invokestatic 42, 3) := by decide +kernel
theorem dX2_grow_57 : decode cX2_grow 57 = .ok (.invokespecial 48, 3) := by decide +kernel
theorem dX2_grow_60 : decode cX2_grow 60 = .ok (.areturn, 1) := by decide +kernel
theorem dX3_init_0 : decode cX3_init 0 = .ok (.aload_n 0, 1) := by decide +kernel
theorem dX3_init_1 : decode cX3_init 1 = .ok (.invokespecial 3, 3) := by decide +kernel
theorem dX3_init_4 : decode cX3_init 4 = .ok (.aload_n 0, 1) := by decide +kernel
theorem dX3_init_5 : decode cX3_init 5 = .ok (.iload_n 1, 1) := by decide +kernel
theorem dX3_init_6 : decode cX3_init 6 = .ok (.putfield 9, 3) := by decide +kernel
theorem dX3_init_9 : decode cX3_init 9 = .ok (.aload_n 0, 1) := by decide +kernel
theorem dX3_init_10 : decode cX3_init 10 = .ok (.iload_n 2, 1) := by decide +kernel
theorem dX3_init_11 : decode cX3_init 11 = .ok (.putfield 15, 3) := by decide +kernel
theorem dX3_init_14 : decode cX3_init 14 = .ok (.aload_n 0, 1) := by decide +kernel
theorem dX3_init_15 : decode cX3_init 15 = .ok (.lload_n 3, 1) := by decide +kernel
theorem dX3_init_16 : decode cX3_init 16 = .ok (.putfield 18, 3) := by decide +kernel
theorem dX3_init_19 : decode cX3_init 19 = .ok (.aload_n 0, 1) := by decide +kernel
theorem dX3_init_20 : decode cX3_init 20 = .ok (.lload 5, 2) := by decide +kernel
theorem dX3_init_22 : decode cX3_init 22 = .ok (.putfield 22, 3) := by decide +kernel
theorem dX3_init_25 : decode cX3_init 25 = .ok (.aload_n 0, 1) := by decide +kernel
theorem dX3_init_26 : decode cX3_init 26 = .ok (.iload 7, 2) := by decide +kernel
theorem dX3_init_28 : decode cX3_init 28 = .ok (.putfield 25, 3) := by decide +kernel
theorem dX3_init_31 : decode cX3_init 31 = .ok (.return_, 1) := by decide +kernel
theorem dX3_matches_0 : decode cX3_matches 0 = .ok (.aload_n 0, 1) := by decide +kernel
theorem dX3_matches_1 : decode cX3_matches 1 = .ok (.lload_n 1, 1) := by decide +kernel
theorem dX3_matches_2 : decode cX3_matches 2 = .ok (.lload_n 3, 1) := by decide +kernel
theorem dX3_matches_3 : decode cX3_matches 3 = .ok (.invokevirtual 28, 3) := by decide +kernel
theorem dX3_matches_6 : decode cX3_matches 6 = .ok (.aload_n 0, 1) := by decide +kernel
theorem dX3_matches_7 : decode cX3_matches 7 = .ok (.getfield 18, 3) := by decide +kernel
theorem dX3_matches_10 : decode cX3_matches 10 = .ok (.land, 1) := by decide +kernel
theorem dX3_matches_11 : decode cX3_matches 11 = .ok (.aload_n 0, 1) := by decide +kernel
theorem dX3_matches_12 : decode cX3_matches 12 = .ok (.getfield 22, 3) := by decide +kernel
theorem dX3_matches_15 : decode cX3_matches 15 = .ok (.lcmp, 1) := by decide +kernel
theorem dX3_matches_16 : decode cX3_matches 16 = .ok (.ifCond .ne 7, 3) := by decide +kernel
theorem dX3_matches_19 : decode cX3_matches 19 = .ok (.iconst 1, 1) := by decide +kernel
theorem dX3_matches_20 : decode cX3_matches 20 = .ok (.goto 4, 3) := by decide +kernel
theorem dX3_matches_23 : decode cX3_matches 23 = .ok (.iconst 0, 1) := by decide +kernel
theorem dX3_matches_24 : decode cX3_matches 24 = .ok (.ireturn, 1) := by decide +kernel
theorem dX3_canNeverMatch_0 : decode cX3_canNeverMatch 0 = .ok (.aload_n 0, 1) := by decide +kernel
theorem dX3_canNeverMatch_1 : decode cX3_canNeverMatch 1 = .ok (.getfield 22, 3) := by decide +kernel
theorem dX3_canNeverMatch_4 : decode cX3_canNeverMatch 4 = .ok (.aload_n 0, 1) := by decide +kernel
theorem dX3_canNeverMatch_5 : decode cX3_canNeverMatch 5 = .ok (.getfield 18, 3) := by decide +kernel
theorem dX3_canNeverMatch_8 : decode cX3_canNeverMatch 8 = .ok (.ldc2_w 32, 3) := by decide +kernel
theorem dX3_canNeverMatch_11 : decode cX3_canNeverMatch 11 = .ok (.lxor, 1) := by decide +kernel
theorem dX3_canNeverMatch_12 : decode cX3_canNeverMatch 12 = .ok (.land, 1) := by decide +kernel
theorem dX3_canNeverMatch_13 : decode cX3_canNeverMatch 13 = .ok (.lconst 0, 1) := by decide +kernel
theorem dX3_canNeverMatch_14 : decode cX3_canNeverMatch 14 = .ok (.lcmp, 1) := by decide +kernel
theorem dX3_canNeverMatch_15 : decode cX3_canNeverMatch 15 = .ok (.ifCond .eq 7, 3) := by decide +kernel
theorem dX3_canNeverMatch_18 : decode cX3_canNeverMatch 18 = .ok (.iconst 1, 1) := by decide +kernel
theorem dX3_canNeverMatch_19 : decode cX3_canNeverMatch 19 = .ok (.goto 4, 3) := by decide +kernel
theorem dX3_canNeverMatch_22 : decode cX3_canNeverMatch 22 = .ok (.iconst 0, 1) := by decide +kernel
theorem dX3_canNeverMatch_23 : decode cX3_canNeverMatch 23 = .ok (.ireturn, 1) := by decide +kernel
theorem dX3_covers_0 : decode cX3_covers 0 = .ok (.aload_n 0, 1) := by decide +kernel
theorem dX3_covers_1 : decode cX3_covers 1 = .ok (.getfield 9, 3) := by decide +kernel
theorem dX3_covers_4 : decode cX3_covers 4 = .ok (.aload_n 1, 1) := by decide +kernel
theorem dX3_covers_5 : decode cX3_covers 5 = .ok (.getfield 9, 3) := by decide +kernel
theorem dX3_covers_8 : decode cX3_covers 8 = .ok (.if_icmp .eq 5, 3) := by decide +kernel
theorem dX3_covers_11 : decode cX3_covers 11 = .ok (.iconst 0, 1) := by decide +kernel
theorem dX3_covers_12 : decode cX3_covers 12 = .ok (.ireturn, 1) := by decide +kernel
theorem dX3_covers_13 : decode cX3_covers 13 = .ok (.aload_n 0, 1) := by decide +kernel
theorem dX3_covers_14 : decode cX3_covers 14 = .ok (.getfield 18, 3) := by decide +kernel
theorem dX3_covers_17 : decode cX3_covers 17 = .ok (.lconst 0, 1) := by decide +kernel
theorem dX3_covers_18 : decode cX3_covers 18 = .ok (.lcmp, 1) := by decide +kernel
theorem dX3_covers_19 : decode cX3_covers 19 = .ok (.ifCond .ne 14, 3) := by decide +kernel
theorem dX3_covers_22 : decode cX3_covers 22 = .ok (.aload_n 0, 1) := by decide +kernel
theorem dX3_covers_23 : decode cX3_covers 23 = .ok (.getfield 22, 3) := by decide +kernel
theorem dX3_covers_26 : decode cX3_covers 26 = .ok (.lconst 0, 1) := by decide +kernel
theorem dX3_covers_27 : decode cX3_covers 27 = .ok (.lcmp, 1) := by decide +kernel
theorem dX3_covers_28 : decode cX3_covers 28 = .ok (.ifCond .ne 5, 3) := by decide +kernel
theorem dX3_covers_31 : decode cX3_covers 31 = .ok (.iconst 1, 1) := by decide +kernel
theorem dX3_covers_32 : decode cX3_covers 32 = .ok (.ireturn, 1) := by decide +kernel
theorem dX3_covers_33 : decode cX3_covers 33 = .ok (.aload_n 0, 1) := by decide +kernel
theorem dX3_covers_34 : decode cX3_covers 34 = .ok (.getfield 15, 3) := by decide +kernel
theorem dX3_covers_37 : decode cX3_covers 37 = .ok (.aload_n 1, 1) := by decide +kernel
theorem dX3_covers_38 : decode cX3_covers 38 = .ok (.getfield 15, 3) := by decide +kernel
theorem dX3_covers_41 : decode cX3_covers 41 = .ok (.if_icmp .ne 42, 3) := by decide +kernel
theorem dX3_covers_44 : decode cX3_covers 44 = .ok (.aload_n 0, 1) := by decide +kernel
theorem dX3_covers_45 : decode cX3_covers 45 = .ok (.getfield 18, 3) := by decide +kernel
theorem dX3_covers_48 : decode cX3_covers 48 = .ok (.aload_n 1, 1) := by decide +kernel
theorem dX3_covers_49 : decode cX3_covers 49 = .ok (.getfield 18, 3) := by decide +kernel
theorem dX3_covers_52 : decode cX3_covers 52 = .ok (.ldc2_w 32, 3) := by decide +kernel
theorem dX3_covers_55 : decode cX3_covers 55 = .ok (.lxor, 1) := by decide +kernel
theorem dX3_covers_56 : decode cX3_covers 56 = .ok (.land, 1) := by decide +kernel
theorem dX3_covers_57 : decode cX3_covers 57 = .ok (.lconst 0, 1) := by decide +kernel
theorem dX3_covers_58 : decode cX3_covers 58 = .ok (.lcmp, 1) := by decide +kernel
theorem dX3_covers_59 : decode cX3_covers 59 = .ok (.ifCond .ne 24, 3) := by decide +kernel
theorem dX3_covers_62 : decode cX3_covers 62 = .ok (.aload_n 1, 1) := by decide +kernel
theorem dX3_covers_63 : decode cX3_covers 63 = .ok (.getfield 22, 3) := by decide +kernel
theorem dX3_covers_66 : decode cX3_covers 66 = .ok (.aload_n 0, 1) := by decide +kernel
theorem dX3_covers_67 : decode cX3_covers 67 = .ok (.getfield 18, 3) := by decide +kernel
theorem dX3_covers_70 : decode cX3_covers 70 = .ok (.land, 1) := by decide +kernel
theorem dX3_covers_71 : decode cX3_covers 71 = .ok (.aload_n 0, 1) := by decide +kernel
theorem dX3_covers_72 : decode cX3_covers 72 = .ok (.getfield 22, 3) := by decide +kernel
theorem dX3_covers_75 : decode cX3_covers 75 = .ok (.lcmp, 1) := by decide +kernel
theorem dX3_covers_76 : decode cX3_covers 76 = .ok (.ifCond .ne 7, 3) := by decide +kernel
theorem dX3_covers_79 : decode cX3_covers 79 = .ok (.iconst 1, 1) := by decide +kernel
theorem dX3_covers_80 : decode cX3_covers 80 = .ok (.goto 4, 3) := by decide +kernel
theorem dX3_covers_83 : decode cX3_covers 83 = .ok (.iconst 0, 1) := by decide +kernel
theorem dX3_covers_84 : decode cX3_covers 84 = .ok (.ireturn, 1) := by decide +kernel
theorem dX3_testsFor_0 : decode cX3_testsFor 0 = .ok (.aload_n 0, 1) := by decide +kernel
theorem dX3_testsFor_1 : decode cX3_testsFor 1 = .ok (.lload_n 1, 1) := by decide +kernel
theorem dX3_testsFor_2 : decode cX3_testsFor 2 = .ok (.lload_n 3, 1) := by decide +kernel
theorem dX3_testsFor_3 : decode cX3_testsFor 3 = .ok (.invokevirtual 28, 3) := by decide +kernel
theorem dX3_testsFor_6 : decode cX3_testsFor 6 = .ok (.aload_n 0, 1) := by decide +kernel
theorem dX3_testsFor_7 : decode cX3_testsFor 7 = .ok (.getfield 18, 3) := by decide +kernel
theorem dX3_testsFor_10 : decode cX3_testsFor 10 = .ok (.land, 1) := by decide +kernel
theorem dX3_testsFor_11 : decode cX3_testsFor 11 = .ok (.aload_n 0, 1) := by decide +kernel
theorem dX3_testsFor_12 : decode cX3_testsFor 12 = .ok (.getfield 22, 3) := by decide +kernel
theorem dX3_testsFor_15 : decode cX3_testsFor 15 = .ok (.lxor, 1) := by decide +kernel
theorem dX3_testsFor_16 : decode cX3_testsFor 16 = .ok (.ldc2_w 34, 3) := by decide +kernel
theorem dX3_testsFor_19 : decode cX3_testsFor 19 = .ok (.land, 1) := by decide +kernel
theorem dX3_testsFor_20 : decode cX3_testsFor 20 = .ok (.lconst 0, 1) := by decide +kernel
theorem dX3_testsFor_21 : decode cX3_testsFor 21 = .ok (.lcmp, 1) := by decide +kernel
theorem dX3_testsFor_22 : decode cX3_testsFor 22 = .ok (.ifCond .eq 7, 3) := by decide +kernel
theorem dX3_testsFor_25 : decode cX3_testsFor 25 = .ok (.iconst 1, 1) := by decide +kernel
theorem dX3_testsFor_26 : decode cX3_testsFor 26 = .ok (.goto 4, 3) := by decide +kernel
theorem dX3_testsFor_29 : decode cX3_testsFor 29 = .ok (.iconst 0, 1) := by decide +kernel
theorem dX3_testsFor_30 : decode cX3_testsFor 30 = .ok (.istore 5, 2) := by decide +kernel
theorem dX3_testsFor_32 : decode cX3_testsFor 32 = .ok (.iload 5, 2) := by decide +kernel
theorem dX3_testsFor_34 : decode cX3_testsFor 34 = .ok (.ifCond .eq 10, 3) := by decide +kernel
theorem dX3_testsFor_37 : decode cX3_testsFor 37 = .ok (.aload_n 0, 1) := by decide +kernel
theorem dX3_testsFor_38 : decode cX3_testsFor 38 = .ok (.invokevirtual 36, 3) := by decide +kernel
theorem dX3_testsFor_41 : decode cX3_testsFor 41 = .ok (.goto 7, 3) := by decide +kernel
theorem dX3_testsFor_44 : decode cX3_testsFor 44 = .ok (.aload_n 0, 1) := by decide +kernel
theorem dX3_testsFor_45 : decode cX3_testsFor 45 = .ok (.invokevirtual 40, 3) := by decide +kernel
theorem dX3_testsFor_48 : decode cX3_testsFor 48 = .ok (.ireturn, 1) := by decide +kernel
theorem dX3_mostTests_0 : decode cX3_mostTests 0 = .ok (.aload_n 0, 1) := by decide +kernel
theorem dX3_mostTests_1 : decode cX3_mostTests 1 = .ok (.invokevirtual 36, 3) := by decide +kernel
theorem dX3_mostTests_4 : decode cX3_mostTests 4 = .ok (.aload_n 0, 1) := by decide +kernel
theorem dX3_mostTests_5 : decode cX3_mostTests 5 = .ok (.invokevirtual 43, 3) := by decide +kernel
theorem dX3_mostTests_8 : decode cX3_mostTests 8 = .ok (.iadd, 1) := by decide +kernel
theorem dX3_mostTests_9 : decode cX3_mostTests 9 = .ok (.ireturn, 1) := by decide +kernel
theorem dX3_lowerTests_0 : decode cX3_lowerTests 0 = .ok (.aload_n 0, 1) := by decide +kernel
theorem dX3_lowerTests_1 : decode cX3_lowerTests 1 = .ok (.getfield 18, 3) := by decide +kernel
theorem dX3_lowerTests_4 : decode cX3_lowerTests 4 = .ok (.ldc2_w 34, 3) := by decide +kernel
theorem dX3_lowerTests_7 : decode cX3_lowerTests 7 = .ok (.land, 1) := by decide +kernel
theorem dX3_lowerTests_8 : decode cX3_lowerTests 8 = .ok (.lconst 0, 1) := by decide +kernel
theorem dX3_lowerTests_9 : decode cX3_lowerTests 9 = .ok (.lcmp, 1) := by decide +kernel
theorem dX3_lowerTests_10 : decode cX3_lowerTests 10 = .ok (.ifCond .eq 7, 3) := by decide +kernel
theorem dX3_lowerTests_13 : decode cX3_lowerTests 13 = .ok (.iconst 1, 1) := by decide +kernel
theorem dX3_lowerTests_14 : decode cX3_lowerTests 14 = .ok (.goto 4, 3) := by decide +kernel
theorem dX3_lowerTests_17 : decode cX3_lowerTests 17 = .ok (.iconst 0, 1) := by decide +kernel
theorem dX3_lowerTests_18 : decode cX3_lowerTests 18 = .ok (.ireturn, 1) := by decide +kernel
theorem dX3_upperTests_0 : decode cX3_upperTests 0 = .ok (.aload_n 0, 1) := by decide +kernel
theorem dX3_upperTests_1 : decode cX3_upperTests 1 = .ok (.getfield 18, 3) := by decide +kernel
theorem dX3_upperTests_4 : decode cX3_upperTests 4 = .ok (.ldc2_w 46, 3) := by decide +kernel
theorem dX3_upperTests_7 : decode cX3_upperTests 7 = .ok (.land, 1) := by decide +kernel
theorem dX3_upperTests_8 : decode cX3_upperTests 8 = .ok (.lconst 0, 1) := by decide +kernel
theorem dX3_upperTests_9 : decode cX3_upperTests 9 = .ok (.lcmp, 1) := by decide +kernel
theorem dX3_upperTests_10 : decode cX3_upperTests 10 = .ok (.ifCond .eq 7, 3) := by decide +kernel
theorem dX3_upperTests_13 : decode cX3_upperTests 13 = .ok (.iconst 1, 1) := by decide +kernel
theorem dX3_upperTests_14 : decode cX3_upperTests 14 = .ok (.goto 4, 3) := by decide +kernel
theorem dX3_upperTests_17 : decode cX3_upperTests 17 = .ok (.iconst 0, 1) := by decide +kernel
theorem dX3_upperTests_18 : decode cX3_upperTests 18 = .ok (.ireturn, 1) := by decide +kernel
theorem dX3_argumentOf_0 : decode cX3_argumentOf 0 = .ok (.aload_n 0, 1) := by decide +kernel
theorem dX3_argumentOf_1 : decode cX3_argumentOf 1 = .ok (.getfield 15, 3) := by decide +kernel
theorem dX3_argumentOf_4 : decode cX3_argumentOf 4 = .ok (.ifCond .ne 7, 3) := by decide +kernel
theorem dX3_argumentOf_7 : decode cX3_argumentOf 7 = .ok (.lload_n 1, 1) := by decide +kernel
theorem dX3_argumentOf_8 : decode cX3_argumentOf 8 = .ok (.goto 4, 3) := by decide +kernel
theorem dX3_argumentOf_11 : decode cX3_argumentOf 11 = .ok (.lload_n 3, 1) := by decide +kernel
theorem dX3_argumentOf_12 : decode cX3_argumentOf 12 = .ok (.lreturn, 1) := by decide +kernel
end
section
theorem dX4_init_0 : decode cX4_init 0 = .ok (.aload_n 0, 1) := by decide +kernel
theorem dX4_init_1 : decode cX4_init 1 = .ok (.invokespecial 1, 3) := by decide +kernel
theorem dX4_init_4 : decode cX4_init 4 = .ok (.aload_n 0, 1) := by decide +kernel
theorem dX4_init_5 : decode cX4_init 5 = .ok (.iconst 4, 1) := by decide +kernel
theorem dX4_init_6 : decode cX4_init 6 = .ok (.anewarray 9, 3) := by decide +kernel
theorem dX4_init_9 : decode cX4_init 9 = .ok (.putfield 11, 3) := by decide +kernel
theorem dX4_init_12 : decode cX4_init 12 = .ok (.aload_n 0, 1) := by decide +kernel
theorem dX4_init_13 : decode cX4_init 13 = .ok (.bipush 32, 2) := by decide +kernel
theorem dX4_init_15 : decode cX4_init 15 = .ok (.newarray .int, 2) := by decide +kernel
theorem dX4_init_17 : decode cX4_init 17 = .ok (.putfield 15, 3) := by decide +kernel
theorem dX4_init_20 : decode cX4_init 20 = .ok (.aload_n 0, 1) := by decide +kernel
theorem dX4_init_21 : decode cX4_init 21 = .ok (.new 19, 3) := by decide +kernel
theorem dX4_init_24 : decode cX4_init 24 = .ok (.dup, 1) := by decide +kernel
theorem dX4_init_25 : decode cX4_init 25 = .ok (.invokespecial 21, 3) := by decide +kernel
theorem dX4_init_28 : decode cX4_init 28 = .ok (.putfield 22, 3) := by decide +kernel
theorem dX4_init_31 : decode cX4_init 31 = .ok (.iconst 0, 1) := by decide +kernel
theorem dX4_init_32 : decode cX4_init 32 = .ok (.istore_n 1, 1) := by decide +kernel
theorem dX4_init_33 : decode cX4_init 33 = .ok (.iload_n 1, 1) := by decide +kernel
theorem dX4_init_34 : decode cX4_init 34 = .ok (.iconst 4, 1) := by decide +kernel
theorem dX4_init_35 : decode cX4_init 35 = .ok (.if_icmp .ge 22, 3) := by decide +kernel
theorem dX4_init_38 : decode cX4_init 38 = .ok (.aload_n 0, 1) := by decide +kernel
theorem dX4_init_39 : decode cX4_init 39 = .ok (.getfield 11, 3) := by decide +kernel
theorem dX4_init_42 : decode cX4_init 42 = .ok (.iload_n 1, 1) := by decide +kernel
theorem dX4_init_43 : decode cX4_init 43 = .ok (.new 9, 3) := by decide +kernel
theorem dX4_init_46 : decode cX4_init 46 = .ok (.dup, 1) := by decide +kernel
theorem dX4_init_47 : decode cX4_init 47 = .ok (.invokespecial 26, 3) := by decide +kernel
theorem dX4_init_50 : decode cX4_init 50 = .ok (.aastore, 1) := by decide +kernel
theorem dX4_init_51 : decode cX4_init 51 = .ok (.iinc 1 1, 3) := by decide +kernel
theorem dX4_init_54 : decode cX4_init 54 = .ok (.goto (-21), 3) := by decide +kernel
theorem dX4_init_57 : decode cX4_init 57 = .ok (.return_, 1) := by decide +kernel
theorem dX4_add_0 : decode cX4_add 0 = .ok (.iload_n 1, 1) := by decide +kernel
theorem dX4_add_1 : decode cX4_add 1 = .ok (.invokestatic 27, 3) := by decide +kernel
theorem dX4_add_4 : decode cX4_add 4 = .ok (.iload_n 2, 1) := by decide +kernel
theorem dX4_add_5 : decode cX4_add 5 = .ok (.invokestatic 31, 3) := by decide +kernel
theorem dX4_add_8 : decode cX4_add 8 = .ok (.iload_n 3, 1) := by decide +kernel
theorem dX4_add_9 : decode cX4_add 9 = .ok (.ifCond .lt 8, 3) := by decide +kernel
theorem dX4_add_12 : decode cX4_add 12 = .ok (.iload_n 3, 1) := by decide +kernel
theorem dX4_add_13 : decode cX4_add 13 = .ok (.iconst 2, 1) := by decide +kernel
theorem dX4_add_14 : decode cX4_add 14 = .ok (.if_icmp .lt 13, 3) := by decide +kernel
theorem dX4_add_17 : decode cX4_add 17 = .ok (.new 34, 3) := by decide +kernel
theorem dX4_add_20 : decode cX4_add 20 = .ok (.dup, 1) := by decide +kernel
theorem dX4_add_21 : decode cX4_add 21 = .ok (.ldc 36, 2) := by decide +kernel
theorem dX4_add_23 : decode cX4_add 23 = .ok (.invokespecial 38, 3) := by decide +kernel
theorem dX4_add_26 : decode cX4_add 26 = .ok (.athrow, 1) := by decide +kernel
theorem dX4_add_27 : decode cX4_add 27 = .ok (.iload 8, 2) := by decide +kernel
theorem dX4_add_29 : decode cX4_add 29 = .ok (.invokestatic 41, 3) := by decide +kernel
theorem dX4_add_32 : decode cX4_add 32 = .ok (.aload_n 0, 1) := by decide +kernel
theorem dX4_add_33 : decode cX4_add 33 = .ok (.getfield 11, 3) := by decide +kernel
theorem dX4_add_36 : decode cX4_add 36 = .ok (.iload_n 1, 1) := by decide +kernel
theorem dX4_add_37 : decode cX4_add 37 = .ok (.aaload, 1) := by decide +kernel
theorem dX4_add_38 : decode cX4_add 38 = .ok (.invokevirtual 44, 3) := by decide +kernel
theorem dX4_add_41 : decode cX4_add 41 = .ok (.ifCond .eq 13, 3) := by decide +kernel
theorem dX4_add_44 : decode cX4_add 44 = .ok (.new 48, 3) := by decide +kernel
theorem dX4_add_47 : decode cX4_add 47 = .ok (.dup, 1) := by decide +kernel
theorem dX4_add_48 : decode cX4_add 48 = .ok (.ldc 50, 2) := by decide +kernel
theorem dX4_add_50 : decode cX4_add 50 = .ok (.invokespecial 52, 3) := by decide +kernel
theorem dX4_add_53 : decode cX4_add 53 = .ok (.athrow, 1) := by decide +kernel
theorem dX4_add_54 : decode cX4_add 54 = .ok (.aload_n 0, 1) := by decide +kernel
theorem dX4_add_55 : decode cX4_add 55 = .ok (.iconst 0, 1) := by decide +kernel
theorem dX4_add_56 : decode cX4_add 56 = .ok (.putfield 53, 3) := by decide +kernel
theorem dX4_add_59 : decode cX4_add 59 = .ok (.aload_n 0, 1) := by decide +kernel
theorem dX4_add_60 : decode cX4_add 60 = .ok (.getfield 11, 3) := by decide +kernel
theorem dX4_add_63 : decode cX4_add 63 = .ok (.iload_n 1, 1) := by decide +kernel
theorem dX4_add_64 : decode cX4_add 64 = .ok (.aaload, 1) := by decide +kernel
theorem dX4_add_65 : decode cX4_add 65 = .ok (.new 57, 3) := by decide +kernel
theorem dX4_add_68 : decode cX4_add 68 = .ok (.dup, 1) := by decide +kernel
theorem dX4_add_69 : decode cX4_add 69 = .ok (.iload_n 2, 1) := by decide +kernel
theorem dX4_add_70 : decode cX4_add 70 = .ok (.iload_n 3, 1) := by decide +kernel
theorem dX4_add_71 : decode cX4_add 71 = .ok (.lload 4, 2) := by decide +kernel
theorem dX4_add_73 : decode cX4_add 73 = .ok (.lload 6, 2) := by decide +kernel
theorem dX4_add_75 : decode cX4_add 75 = .ok (.iload 8, 2) := by decide +kernel
theorem dX4_add_77 : decode cX4_add 77 = .ok (.invokespecial 59, 3) := by decide +kernel
theorem dX4_add_80 : decode cX4_add 80 = .ok (.invokevirtual 62, 3) := by decide +kernel
theorem dX4_add_83 : decode cX4_add 83 = .ok (.ireturn, 1) := by decide +kernel
theorem dX4_remove_0 : decode cX4_remove 0 = .ok (.iload_n 1, 1) := by decide +kernel
theorem dX4_remove_1 : decode cX4_remove 1 = .ok (.invokestatic 27, 3) := by decide +kernel
theorem dX4_remove_4 : decode cX4_remove 4 = .ok (.aload_n 0, 1) := by decide +kernel
theorem dX4_remove_5 : decode cX4_remove 5 = .ok (.iload_n 1, 1) := by decide +kernel
theorem dX4_remove_6 : decode cX4_remove 6 = .ok (.iload_n 2, 1) := by decide +kernel
theorem dX4_remove_7 : decode cX4_remove 7 = .ok (.invokevirtual 66, 3) := by decide +kernel
theorem dX4_remove_10 : decode cX4_remove 10 = .ok (.aload_n 0, 1) := by decide +kernel
theorem dX4_remove_11 : decode cX4_remove 11 = .ok (.iconst 0, 1) := by decide +kernel
theorem dX4_remove_12 : decode cX4_remove 12 = .ok (.putfield 53, 3) := by decide +kernel
theorem dX4_remove_15 : decode cX4_remove 15 = .ok (.aload_n 0, 1) := by decide +kernel
theorem dX4_remove_16 : decode cX4_remove 16 = .ok (.getfield 11, 3) := by decide +kernel
theorem dX4_remove_19 : decode cX4_remove 19 = .ok (.iload_n 1, 1) := by decide +kernel
theorem dX4_remove_20 : decode cX4_remove 20 = .ok (.aaload, 1) := by decide +kernel
theorem dX4_remove_21 : decode cX4_remove 21 = .ok (.iload_n 2, 1) := by decide +kernel
theorem dX4_remove_22 : decode cX4_remove 22 = .ok (.invokevirtual 70, 3) := by decide +kernel
theorem dX4_remove_25 : decode cX4_remove 25 = .ok (.ireturn, 1) := by decide +kernel
theorem dX4_setDefault_0 : decode cX4_setDefault 0 = .ok (.iload_n 1, 1) := by decide +kernel
theorem dX4_setDefault_1 : decode cX4_setDefault 1 = .ok (.invokestatic 27, 3) := by decide +kernel
theorem dX4_setDefault_4 : decode cX4_setDefault 4 = .ok (.iload_n 2, 1) := by decide +kernel
theorem dX4_setDefault_5 : decode cX4_setDefault 5 = .ok (.invokestatic 41, 3) := by decide +kernel
theorem dX4_setDefault_8 : decode cX4_setDefault 8 = .ok (.aload_n 0, 1) := by decide +kernel
theorem dX4_setDefault_9 : decode cX4_setDefault 9 = .ok (.getfield 11, 3) := by decide +kernel
theorem dX4_setDefault_12 : decode cX4_setDefault 12 = .ok (.iload_n 1, 1) := by decide +kernel
theorem dX4_setDefault_13 : decode cX4_setDefault 13 = .ok (.aaload, 1) := by decide +kernel
theorem dX4_setDefault_14 : decode cX4_setDefault 14 = .ok (.getfield 74, 3) := by decide +kernel
theorem dX4_setDefault_17 : decode cX4_setDefault 17 = .ok (.istore_n 3, 1) := by decide +kernel
theorem dX4_setDefault_18 : decode cX4_setDefault 18 = .ok (.iload_n 2, 1) := by decide +kernel
theorem dX4_setDefault_19 : decode cX4_setDefault 19 = .ok (.iload_n 3, 1) := by decide +kernel
theorem dX4_setDefault_20 : decode cX4_setDefault 20 = .ok (.if_icmp .eq 18, 3) := by decide +kernel
theorem dX4_setDefault_23 : decode cX4_setDefault 23 = .ok (.aload_n 0, 1) := by decide +kernel
theorem dX4_setDefault_24 : decode cX4_setDefault 24 = .ok (.getfield 11, 3) := by decide +kernel
theorem dX4_setDefault_27 : decode cX4_setDefault 27 = .ok (.iload_n 1, 1) := by decide +kernel
theorem dX4_setDefault_28 : decode cX4_setDefault 28 = .ok (.aaload, 1) := by decide +kernel
theorem dX4_setDefault_29 : decode cX4_setDefault 29 = .ok (.iload_n 2, 1) := by decide +kernel
theorem dX4_setDefault_30 : decode cX4_setDefault 30 = .ok (.putfield 74, 3) := by decide +kernel
theorem dX4_setDefault_33 : decode cX4_setDefault 33 = .ok (.aload_n 0, 1) := by decide +kernel
theorem dX4_setDefault_34 : decode cX4_setDefault 34 = .ok (.iconst 0, 1) := by decide +kernel
theorem dX4_setDefault_35 : decode cX4_setDefault 35 = .ok (.putfield 53, 3) := by decide +kernel
theorem dX4_setDefault_38 : decode cX4_setDefault 38 = .ok (.iload_n 3, 1) := by decide +kernel
theorem dX4_setDefault_39 : decode cX4_setDefault 39 = .ok (.ireturn, 1) := by decide +kernel
theorem dX4_setFrequency_0 : decode cX4_setFrequency 0 = .ok (.iload_n 1, 1) := by decide +kernel
theorem dX4_setFrequency_1 : decode cX4_setFrequency 1 = .ok (.invokestatic 31, 3) := by decide +kernel
theorem dX4_setFrequency_4 : decode cX4_setFrequency 4 = .ok (.iload_n 2, 1) := by decide +kernel
theorem dX4_setFrequency_5 : decode cX4_setFrequency 5 = .ok (.ifCond .lt 10, 3) := by decide +kernel
theorem dX4_setFrequency_8 : decode cX4_setFrequency 8 = .ok (.iload_n 2, 1) := by decide +kernel
theorem dX4_setFrequency_9 : decode cX4_setFrequency 9 = .ok (.sipush 1000, 3) := by decide +kernel
theorem dX4_setFrequency_12 : decode cX4_setFrequency 12 = .ok (.if_icmp .le 13, 3) := by decide +kernel
theorem dX4_setFrequency_15 : decode cX4_setFrequency 15 = .ok (.new 34, 3) := by decide +kernel
theorem dX4_setFrequency_18 : decode cX4_setFrequency 18 = .ok (.dup, 1) := by decide +kernel
theorem dX4_setFrequency_19 : decode cX4_setFrequency 19 = .ok (.ldc 78, 2) := by decide +kernel
theorem dX4_setFrequency_21 : decode cX4_setFrequency 21 = .ok (.invokespecial 38, 3) := by decide +kernel
theorem dX4_setFrequency_24 : decode cX4_setFrequency 24 = .ok (.athrow, 1) := by decide +kernel
theorem dX4_setFrequency_25 : decode cX4_setFrequency 25 = .ok (.aload_n 0, 1) := by decide +kernel
theorem dX4_setFrequency_26 : decode cX4_setFrequency 26 = .ok (.getfield 15, 3) := by decide +kernel
theorem dX4_setFrequency_29 : decode cX4_setFrequency 29 = .ok (.iload_n 1, 1) := by decide +kernel
theorem dX4_setFrequency_30 : decode cX4_setFrequency 30 = .ok (.iaload, 1) := by decide +kernel
theorem dX4_setFrequency_31 : decode cX4_setFrequency 31 = .ok (.istore_n 3, 1) := by decide +kernel
theorem dX4_setFrequency_32 : decode cX4_setFrequency 32 = .ok (.iload_n 2, 1) := by decide +kernel
theorem dX4_setFrequency_33 : decode cX4_setFrequency 33 = .ok (.iload_n 3, 1) := by decide +kernel
theorem dX4_setFrequency_34 : decode cX4_setFrequency 34 = .ok (.if_icmp .eq 15, 3) := by decide +kernel
theorem dX4_setFrequency_37 : decode cX4_setFrequency 37 = .ok (.aload_n 0, 1) := by decide +kernel
theorem dX4_setFrequency_38 : decode cX4_setFrequency 38 = .ok (.getfield 15, 3) := by decide +kernel
theorem dX4_setFrequency_41 : decode cX4_setFrequency 41 = .ok (.iload_n 1, 1) := by decide +kernel
theorem dX4_setFrequency_42 : decode cX4_setFrequency 42 = .ok (.iload_n 2, 1) := by decide +kernel
theorem dX4_setFrequency_43 : decode cX4_setFrequency 43 = .ok (.iastore, 1) := by decide +kernel
theorem dX4_setFrequency_44 : decode cX4_setFrequency 44 = .ok (.aload_n 0, 1) := by decide +kernel
theorem dX4_setFrequency_45 : decode cX4_setFrequency 45 = .ok (.iconst 0, 1) := by decide +kernel
theorem dX4_setFrequency_46 : decode cX4_setFrequency 46 = .ok (.putfield 53, 3) := by decide +kernel
theorem dX4_setFrequency_49 : decode cX4_setFrequency 49 = .ok (.iload_n 3, 1) := by decide +kernel
theorem dX4_setFrequency_50 : decode cX4_setFrequency 50 = .ok (.ireturn, 1) := by decide +kernel
theorem dX4_rules_0 : decode cX4_rules 0 = .ok (.iload_n 1, 1) := by decide +kernel
theorem dX4_rules_1 : decode cX4_rules 1 = .ok (.invokestatic 27, 3) := by decide +kernel
theorem dX4_rules_4 : decode cX4_rules 4 = .ok (.aload_n 0, 1) := by decide +kernel
theorem dX4_rules_5 : decode cX4_rules 5 = .ok (.getfield 11, 3) := by decide +kernel
theorem dX4_rules_8 : decode cX4_rules 8 = .ok (.iload_n 1, 1) := by decide +kernel
theorem dX4_rules_9 : decode cX4_rules 9 = .ok (.aaload, 1) := by decide +kernel
theorem dX4_rules_10 : decode cX4_rules 10 = .ok (.getfield 80, 3) := by decide +kernel
theorem dX4_rules_13 : decode cX4_rules 13 = .ok (.invokevirtual 84, 3) := by decide +kernel
theorem dX4_rules_16 : decode cX4_rules 16 = .ok (.ireturn, 1) := by decide +kernel
theorem dX4_hider_0 : decode cX4_hider 0 = .ok (.iload_n 1, 1) := by decide +kernel
theorem dX4_hider_1 : decode cX4_hider 1 = .ok (.invokestatic 27, 3) := by decide +kernel
theorem dX4_hider_4 : decode cX4_hider 4 = .ok (.aload_n 0, 1) := by decide +kernel
theorem dX4_hider_5 : decode cX4_hider 5 = .ok (.iload_n 1, 1) := by decide +kernel
theorem dX4_hider_6 : decode cX4_hider 6 = .ok (.iload_n 2, 1) := by decide +kernel
theorem dX4_hider_7 : decode cX4_hider 7 = .ok (.invokevirtual 66, 3) := by decide +kernel
theorem dX4_hider_10 : decode cX4_hider 10 = .ok (.aload_n 0, 1) := by decide +kernel
theorem dX4_hider_11 : decode cX4_hider 11 = .ok (.getfield 11, 3) := by decide +kernel
theorem dX4_hider_14 : decode cX4_hider 14 = .ok (.iload_n 1, 1) := by decide +kernel
theorem dX4_hider_15 : decode cX4_hider 15 = .ok (.aaload, 1) := by decide +kernel
theorem dX4_hider_16 : decode cX4_hider 16 = .ok (.iload_n 2, 1) := by decide +kernel
theorem dX4_hider_17 : decode cX4_hider 17 = .ok (.invokevirtual 90, 3) := by decide +kernel
theorem dX4_hider_20 : decode cX4_hider 20 = .ok (.ireturn, 1) := by decide +kernel
theorem dX4_compile_0 : decode cX4_compile 0 = .ok (.iload_n 1, 1) := by decide +kernel
theorem dX4_compile_1 : decode cX4_compile 1 = .ok (.ifCond .lt 10, 3) := by decide +kernel
theorem dX4_compile_4 : decode cX4_compile 4 = .ok (.iload_n 1, 1) := by decide +kernel
theorem dX4_compile_5 : decode cX4_compile 5 = .ok (.sipush 1000, 3) := by decide +kernel
theorem dX4_compile_8 : decode cX4_compile 8 = .ok (.if_icmp .le 13, 3) := by decide +kernel
theorem dX4_compile_11 : decode cX4_compile 11 = .ok (.new 34, 3) := by decide +kernel
theorem dX4_compile_14 : decode cX4_compile 14 = .ok (.dup, 1) := by decide +kernel
theorem dX4_compile_15 : decode cX4_compile 15 = .ok (.ldc 93, 2) := by decide +kernel
theorem dX4_compile_17 : decode cX4_compile 17 = .ok (.invokespecial 38, 3) := by decide +kernel
theorem dX4_compile_20 : decode cX4_compile 20 = .ok (.athrow, 1) := by decide +kernel
theorem dX4_compile_21 : decode cX4_compile 21 = .ok (.aload_n 0, 1) := by decide +kernel
theorem dX4_compile_22 : decode cX4_compile 22 = .ok (.getfield 53, 3) := by decide +kernel
theorem dX4_compile_25 : decode cX4_compile 25 = .ok (.ifCond .ne 7, 3) := by decide +kernel
theorem dX4_compile_28 : decode cX4_compile 28 = .ok (.aload_n 0, 1) := by decide +kernel
theorem dX4_compile_29 : decode cX4_compile 29 = .ok (.invokevirtual 95, 3) := by decide +kernel
theorem dX4_compile_32 : decode cX4_compile 32 = .ok (.aload_n 0, 1) := by decide +kernel
theorem dX4_compile_33 : decode cX4_compile 33 = .ok (.invokevirtual 98, 3) := by decide +kernel
theorem dX4_compile_36 : decode cX4_compile 36 = .ok (.istore_n 2, 1) := by decide +kernel
theorem dX4_compile_37 : decode cX4_compile 37 = .ok (.iload_n 2, 1) := by decide +kernel
theorem dX4_compile_38 : decode cX4_compile 38 = .ok (.iload_n 1, 1) := by decide +kernel
theorem dX4_compile_39 : decode cX4_compile 39 = .ok (.if_icmp .le 5, 3) := by decide +kernel
theorem dX4_compile_42 : decode cX4_compile 42 = .ok (.iconst (-1), 1) := by decide +kernel
theorem dX4_compile_43 : decode cX4_compile 43 = .ok (.ireturn, 1) := by decide +kernel
theorem dX4_compile_44 : decode cX4_compile 44 = .ok (.aload_n 0, 1) := by decide +kernel
theorem dX4_compile_45 : decode cX4_compile 45 = .ok (.iconst 1, 1) := by decide +kernel
theorem dX4_compile_46 : decode cX4_compile 46 = .ok (.putfield 53, 3) := by decide +kernel
theorem dX4_compile_49 : decode cX4_compile 49 = .ok (.iload_n 2, 1) := by decide +kernel
theorem dX4_compile_50 : decode cX4_compile 50 = .ok (.ireturn, 1) := by decide +kernel
theorem dX4_isCompiled_0 : decode cX4_isCompiled 0 = .ok (.aload_n 0, 1) := by decide +kernel
theorem dX4_isCompiled_1 : decode cX4_isCompiled 1 = .ok (.getfield 53, 3) := by decide +kernel
theorem dX4_isCompiled_4 : decode cX4_isCompiled 4 = .ok (.ireturn, 1) := by decide +kernel
theorem dX4_test_0 : decode cX4_test 0 = .ok (.iload_n 1, 1) := by decide +kernel
theorem dX4_test_1 : decode cX4_test 1 = .ok (.invokestatic 27, 3) := by decide +kernel
theorem dX4_test_4 : decode cX4_test 4 = .ok (.iload_n 2, 1) := by decide +kernel
theorem dX4_test_5 : decode cX4_test 5 = .ok (.iconst 1, 1) := by decide +kernel
theorem dX4_test_6 : decode cX4_test 6 = .ok (.if_icmp .ge 13, 3) := by decide +kernel
theorem dX4_test_9 : decode cX4_test 9 = .ok (.new 34, 3) := by decide +kernel
theorem dX4_test_12 : decode cX4_test 12 = .ok (.dup, 1) := by decide +kernel
theorem dX4_test_13 : decode cX4_test 13 = .ok (.ldc 101, 2) := by decide +kernel
theorem dX4_test_15 : decode cX4_test 15 = .ok (.invokespecial 38, 3) := by decide +kernel
theorem dX4_test_18 : decode cX4_test 18 = .ok (.athrow, 1) := by decide +kernel
theorem dX4_test_19 : decode cX4_test 19 = .ok (.aload_n 0, 1) := by decide +kernel
theorem dX4_test_20 : decode cX4_test 20 = .ok (.invokevirtual 103, 3) := by decide +kernel
theorem dX4_test_23 : decode cX4_test 23 = .ok (.aload_n 0, 1) := by decide +kernel
theorem dX4_test_24 : decode cX4_test 24 = .ok (.getfield 11, 3) := by decide +kernel
theorem dX4_test_27 : decode cX4_test 27 = .ok (.iload_n 1, 1) := by decide +kernel
theorem dX4_test_28 : decode cX4_test 28 = .ok (.aaload, 1) := by decide +kernel
theorem dX4_test_29 : decode cX4_test 29 = .ok (.iload_n 2, 1) := by decide +kernel
theorem dX4_test_30 : decode cX4_test 30 = .ok (.invokevirtual 106, 3) := by decide +kernel
theorem dX4_test_33 : decode cX4_test 33 = .ok (.ireturn, 1) := by decide +kernel
theorem dX4_cost_0 : decode cX4_cost 0 = .ok (.iload_n 1, 1) := by decide +kernel
theorem dX4_cost_1 : decode cX4_cost 1 = .ok (.invokestatic 27, 3) := by decide +kernel
theorem dX4_cost_4 : decode cX4_cost 4 = .ok (.aload_n 0, 1) := by decide +kernel
theorem dX4_cost_5 : decode cX4_cost 5 = .ok (.invokevirtual 103, 3) := by decide +kernel
theorem dX4_cost_8 : decode cX4_cost 8 = .ok (.aload_n 0, 1) := by decide +kernel
theorem dX4_cost_9 : decode cX4_cost 9 = .ok (.getfield 11, 3) := by decide +kernel
theorem dX4_cost_12 : decode cX4_cost 12 = .ok (.iload_n 1, 1) := by decide +kernel
theorem dX4_cost_13 : decode cX4_cost 13 = .ok (.aaload, 1) := by decide +kernel
theorem dX4_cost_14 : decode cX4_cost 14 = .ok (.getfield 109, 3) := by decide +kernel
theorem dX4_cost_17 : decode cX4_cost 17 = .ok (.ireturn, 1) := by decide +kernel
theorem dX4_worst_0 : decode cX4_worst 0 = .ok (.iload_n 1, 1) := by decide +kernel
theorem dX4_worst_1 : decode cX4_worst 1 = .ok (.invokestatic 27, 3) := by decide +kernel
theorem dX4_worst_4 : decode cX4_worst 4 = .ok (.aload_n 0, 1) := by decide +kernel
theorem dX4_worst_5 : decode cX4_worst 5 = .ok (.invokevirtual 103, 3) := by decide +kernel
theorem dX4_worst_8 : decode cX4_worst 8 = .ok (.aload_n 0, 1) := by decide +kernel
theorem dX4_worst_9 : decode cX4_worst 9 = .ok (.getfield 11, 3) := by decide +kernel
theorem dX4_worst_12 : decode cX4_worst 12 = .ok (.iload_n 1, 1) := by decide +kernel
theorem dX4_worst_13 : decode cX4_worst 13 = .ok (.aaload, 1) := by decide +kernel
theorem dX4_worst_14 : decode cX4_worst 14 = .ok (.invokevirtual 112, 3) := by decide +kernel
theorem dX4_worst_17 : decode cX4_worst 17 = .ok (.ireturn, 1) := by decide +kernel
theorem dX4_judge_0 : decode cX4_judge 0 = .ok (.iload_n 1, 1) := by decide +kernel
theorem dX4_judge_1 : decode cX4_judge 1 = .ok (.invokestatic 31, 3) := by decide +kernel
theorem dX4_judge_4 : decode cX4_judge 4 = .ok (.aload_n 0, 1) := by decide +kernel
theorem dX4_judge_5 : decode cX4_judge 5 = .ok (.invokevirtual 103, 3) := by decide +kernel
theorem dX4_judge_8 : decode cX4_judge 8 = .ok (.iconst 0, 1) := by decide +kernel
theorem dX4_judge_9 : decode cX4_judge 9 = .ok (.istore 6, 2) := by decide +kernel
theorem dX4_judge_11 : decode cX4_judge 11 = .ok (.aload_n 0, 1) := by decide +kernel
theorem dX4_judge_12 : decode cX4_judge 12 = .ok (.getfield 11, 3) := by decide +kernel
theorem dX4_judge_15 : decode cX4_judge 15 = .ok (.astore 7, 2) := by decide +kernel
theorem dX4_judge_17 : decode cX4_judge 17 = .ok (.aload 7, 2) := by decide +kernel
theorem dX4_judge_19 : decode cX4_judge 19 = .ok (.arraylength, 1) := by decide +kernel
theorem dX4_judge_20 : decode cX4_judge 20 = .ok (.istore 8, 2) := by decide +kernel
theorem dX4_judge_22 : decode cX4_judge 22 = .ok (.iconst 0, 1) := by decide +kernel
theorem dX4_judge_23 : decode cX4_judge 23 = .ok (.istore 9, 2) := by decide +kernel
theorem dX4_judge_25 : decode cX4_judge 25 = .ok (.iload 9, 2) := by decide +kernel
theorem dX4_judge_27 : decode cX4_judge 27 = .ok (.iload 8, 2) := by decide +kernel
theorem dX4_judge_29 : decode cX4_judge 29 = .ok (.if_icmp .ge 32, 3) := by decide +kernel
theorem dX4_judge_32 : decode cX4_judge 32 = .ok (.aload 7, 2) := by decide +kernel
theorem dX4_judge_34 : decode cX4_judge 34 = .ok (.iload 9, 2) := by decide +kernel
theorem dX4_judge_36 : decode cX4_judge 36 = .ok (.aaload, 1) := by decide +kernel
theorem dX4_judge_37 : decode cX4_judge 37 = .ok (.astore 10, 2) := by decide +kernel
theorem dX4_judge_39 : decode cX4_judge 39 = .ok (.iload 6, 2) := by decide +kernel
theorem dX4_judge_41 : decode cX4_judge 41 = .ok (.aload 10, 2) := by decide +kernel
theorem dX4_judge_43 : decode cX4_judge 43 = .ok (.iload_n 1, 1) := by decide +kernel
theorem dX4_judge_44 : decode cX4_judge 44 = .ok (.lload_n 2, 1) := by decide +kernel
theorem dX4_judge_45 : decode cX4_judge 45 = .ok (.lload 4, 2) := by decide +kernel
theorem dX4_judge_47 : decode cX4_judge 47 = .ok (.invokevirtual 115, 3) := by decide +kernel
theorem dX4_judge_50 : decode cX4_judge 50 = .ok (.invokestatic 119, 3) := by decide +kernel
theorem dX4_judge_53 : decode cX4_judge 53 = .ok (.istore 6, 2) := by decide +kernel
theorem dX4_judge_55 : decode cX4_judge 55 = .ok (.iinc 9 1, 3) := by decide +kernel
theorem dX4_judge_58 : decode cX4_judge 58 = .ok (.goto (-33), 3) := by decide +kernel
theorem dX4_judge_61 : decode cX4_judge 61 = .ok (.iload 6, 2) := by decide +kernel
theorem dX4_judge_63 : decode cX4_judge 63 = .ok (.ireturn, 1) := by decide +kernel
theorem dX4_judgeByRules_0 : decode cX4_judgeByRules 0 = .ok (.iload_n 1, 1) := by decide +kernel
theorem dX4_judgeByRules_1 : decode cX4_judgeByRules 1 = .ok (.invokestatic 31, 3) := by decide +kernel
theorem dX4_judgeByRules_4 : decode cX4_judgeByRules 4 = .ok (.iconst 0, 1) := by decide +kernel
theorem dX4_judgeByRules_5 : decode cX4_judgeByRules 5 = .ok (.istore 6, 2) := by decide +kernel
theorem dX4_judgeByRules_7 : decode cX4_judgeByRules 7 = .ok (.aload_n 0, 1) := by decide +kernel
theorem dX4_judgeByRules_8 : decode cX4_judgeByRules 8 = .ok (.getfield 11, 3) := by decide +kernel
theorem dX4_judgeByRules_11 : decode cX4_judgeByRules 11 = .ok (.astore 7, 2) := by decide +kernel
theorem dX4_judgeByRules_13 : decode cX4_judgeByRules 13 = .ok (.aload 7, 2) := by decide +kernel
theorem dX4_judgeByRules_15 : decode cX4_judgeByRules 15 = .ok (.arraylength, 1) := by decide +kernel
theorem dX4_judgeByRules_16 : decode cX4_judgeByRules 16 = .ok (.istore 8, 2) := by decide +kernel
theorem dX4_judgeByRules_18 : decode cX4_judgeByRules 18 = .ok (.iconst 0, 1) := by decide +kernel
theorem dX4_judgeByRules_19 : decode cX4_judgeByRules 19 = .ok (.istore 9, 2) := by decide +kernel
theorem dX4_judgeByRules_21 : decode cX4_judgeByRules 21 = .ok (.iload 9, 2) := by decide +kernel
theorem dX4_judgeByRules_23 : decode cX4_judgeByRules 23 = .ok (.iload 8, 2) := by decide +kernel
theorem dX4_judgeByRules_25 : decode cX4_judgeByRules 25 = .ok (.if_icmp .ge 32, 3) := by decide +kernel
theorem dX4_judgeByRules_28 : decode cX4_judgeByRules 28 = .ok (.aload 7, 2) := by decide +kernel
theorem dX4_judgeByRules_30 : decode cX4_judgeByRules 30 = .ok (.iload 9, 2) := by decide +kernel
theorem dX4_judgeByRules_32 : decode cX4_judgeByRules 32 = .ok (.aaload, 1) := by decide +kernel
theorem dX4_judgeByRules_33 : decode cX4_judgeByRules 33 = .ok (.astore 10, 2) := by decide +kernel
theorem dX4_judgeByRules_35 : decode cX4_judgeByRules 35 = .ok (.iload 6, 2) := by decide +kernel
theorem dX4_judgeByRules_37 : decode cX4_judgeByRules 37 = .ok (.aload 10, 2) := by decide +kernel
theorem dX4_judgeByRules_39 : decode cX4_judgeByRules 39 = .ok (.iload_n 1, 1) := by decide +kernel
theorem dX4_judgeByRules_40 : decode cX4_judgeByRules 40 = .ok (.lload_n 2, 1) := by decide +kernel
theorem dX4_judgeByRules_41 : decode cX4_judgeByRules 41 = .ok (.lload 4, 2) := by decide +kernel
theorem dX4_judgeByRules_43 : decode cX4_judgeByRules 43 = .ok (.invokevirtual 125, 3) := by decide +kernel
theorem dX4_judgeByRules_46 : decode cX4_judgeByRules 46 = .ok (.invokestatic 119, 3) := by decide +kernel
theorem dX4_judgeByRules_49 : decode cX4_judgeByRules 49 = .ok (.istore 6, 2) := by decide +kernel
theorem dX4_judgeByRules_51 : decode cX4_judgeByRules 51 = .ok (.iinc 9 1, 3) := by decide +kernel
theorem dX4_judgeByRules_54 : decode cX4_judgeByRules 54 = .ok (.goto (-33), 3) := by decide +kernel
theorem dX4_judgeByRules_57 : decode cX4_judgeByRules 57 = .ok (.iload 6, 2) := by decide +kernel
theorem dX4_judgeByRules_59 : decode cX4_judgeByRules 59 = .ok (.ireturn, 1) := by decide +kernel
theorem dX4_path_0 : decode cX4_path 0 = .ok (.iload_n 1, 1) := by decide +kernel
theorem dX4_path_1 : decode cX4_path 1 = .ok (.invokestatic 31, 3) := by decide +kernel
theorem dX4_path_4 : decode cX4_path 4 = .ok (.aload_n 0, 1) := by decide +kernel
theorem dX4_path_5 : decode cX4_path 5 = .ok (.invokevirtual 103, 3) := by decide +kernel
theorem dX4_path_8 : decode cX4_path 8 = .ok (.iconst 0, 1) := by decide +kernel
theorem dX4_path_9 : decode cX4_path 9 = .ok (.istore 6, 2) := by decide +kernel
theorem dX4_path_11 : decode cX4_path 11 = .ok (.aload_n 0, 1) := by decide +kernel
theorem dX4_path_12 : decode cX4_path 12 = .ok (.getfield 11, 3) := by decide +kernel
theorem dX4_path_15 : decode cX4_path 15 = .ok (.astore 7, 2) := by decide +kernel
theorem dX4_path_17 : decode cX4_path 17 = .ok (.aload 7, 2) := by decide +kernel
theorem dX4_path_19 : decode cX4_path 19 = .ok (.arraylength, 1) := by decide +kernel
theorem dX4_path_20 : decode cX4_path 20 = .ok (.istore 8, 2) := by decide +kernel
theorem dX4_path_22 : decode cX4_path 22 = .ok (.iconst 0, 1) := by decide +kernel
theorem dX4_path_23 : decode cX4_path 23 = .ok (.istore 9, 2) := by decide +kernel
theorem dX4_path_25 : decode cX4_path 25 = .ok (.iload 9, 2) := by decide +kernel
theorem dX4_path_27 : decode cX4_path 27 = .ok (.iload 8, 2) := by decide +kernel
theorem dX4_path_29 : decode cX4_path 29 = .ok (.if_icmp .ge 30, 3) := by decide +kernel
theorem dX4_path_32 : decode cX4_path 32 = .ok (.aload 7, 2) := by decide +kernel
theorem dX4_path_34 : decode cX4_path 34 = .ok (.iload 9, 2) := by decide +kernel
theorem dX4_path_36 : decode cX4_path 36 = .ok (.aaload, 1) := by decide +kernel
theorem dX4_path_37 : decode cX4_path 37 = .ok (.astore 10, 2) := by decide +kernel
theorem dX4_path_39 : decode cX4_path 39 = .ok (.iload 6, 2) := by decide +kernel
theorem dX4_path_41 : decode cX4_path 41 = .ok (.aload 10, 2) := by decide +kernel
theorem dX4_path_43 : decode cX4_path 43 = .ok (.iload_n 1, 1) := by decide +kernel
theorem dX4_path_44 : decode cX4_path 44 = .ok (.lload_n 2, 1) := by decide +kernel
theorem dX4_path_45 : decode cX4_path 45 = .ok (.lload 4, 2) := by decide +kernel
theorem dX4_path_47 : decode cX4_path 47 = .ok (.invokevirtual 128, 3) := by decide +kernel
theorem dX4_path_50 : decode cX4_path 50 = .ok (.iadd, 1) := by decide +kernel
theorem dX4_path_51 : decode cX4_path 51 = .ok (.istore 6, 2) := by decide +kernel
theorem dX4_path_53 : decode cX4_path 53 = .ok (.iinc 9 1, 3) := by decide +kernel
theorem dX4_path_56 : decode cX4_path 56 = .ok (.goto (-31), 3) := by decide +kernel
theorem dX4_path_59 : decode cX4_path 59 = .ok (.iload 6, 2) := by decide +kernel
theorem dX4_path_61 : decode cX4_path 61 = .ok (.ireturn, 1) := by decide +kernel
theorem dX4_actionOf_0 : decode cX4_actionOf 0 = .ok (.iload_n 1, 1) := by decide +kernel
theorem dX4_actionOf_1 : decode cX4_actionOf 1 = .ok (.invokestatic 27, 3) := by decide +kernel
theorem dX4_actionOf_4 : decode cX4_actionOf 4 = .ok (.iload_n 2, 1) := by decide +kernel
theorem dX4_actionOf_5 : decode cX4_actionOf 5 = .ok (.invokestatic 31, 3) := by decide +kernel
theorem dX4_actionOf_8 : decode cX4_actionOf 8 = .ok (.aload_n 0, 1) := by decide +kernel
theorem dX4_actionOf_9 : decode cX4_actionOf 9 = .ok (.getfield 11, 3) := by decide +kernel
theorem dX4_actionOf_12 : decode cX4_actionOf 12 = .ok (.iload_n 1, 1) := by decide +kernel
theorem dX4_actionOf_13 : decode cX4_actionOf 13 = .ok (.aaload, 1) := by decide +kernel
theorem dX4_actionOf_14 : decode cX4_actionOf 14 = .ok (.iload_n 2, 1) := by decide +kernel
theorem dX4_actionOf_15 : decode cX4_actionOf 15 = .ok (.lload_n 3, 1) := by decide +kernel
theorem dX4_actionOf_16 : decode cX4_actionOf 16 = .ok (.lload 5, 2) := by decide +kernel
theorem dX4_actionOf_18 : decode cX4_actionOf 18 = .ok (.invokevirtual 125, 3) := by decide +kernel
theorem dX4_actionOf_21 : decode cX4_actionOf 21 = .ok (.ireturn, 1) := by decide +kernel
theorem dX4_planTrees_0 : decode cX4_planTrees 0 = .ok (.aload_n 0, 1) := by decide +kernel
theorem dX4_planTrees_1 : decode cX4_planTrees 1 = .ok (.getfield 11, 3) := by decide +kernel
theorem dX4_planTrees_4 : decode cX4_planTrees 4 = .ok (.astore_n 1, 1) := by decide +kernel
theorem dX4_planTrees_5 : decode cX4_planTrees 5 = .ok (.aload_n 1, 1) := by decide +kernel
theorem dX4_planTrees_6 : decode cX4_planTrees 6 = .ok (.arraylength, 1) := by decide +kernel
theorem dX4_planTrees_7 : decode cX4_planTrees 7 = .ok (.istore_n 2, 1) := by decide +kernel
theorem dX4_planTrees_8 : decode cX4_planTrees 8 = .ok (.iconst 0, 1) := by decide +kernel
theorem dX4_planTrees_9 : decode cX4_planTrees 9 = .ok (.istore_n 3, 1) := by decide +kernel
theorem dX4_planTrees_10 : decode cX4_planTrees 10 = .ok (.iload_n 3, 1) := by decide +kernel
theorem dX4_planTrees_11 : decode cX4_planTrees 11 = .ok (.iload_n 2, 1) := by decide +kernel
theorem dX4_planTrees_12 : decode cX4_planTrees 12 = .ok (.if_icmp .ge 27, 3) := by decide +kernel
theorem dX4_planTrees_15 : decode cX4_planTrees 15 = .ok (.aload_n 1, 1) := by decide +kernel
theorem dX4_planTrees_16 : decode cX4_planTrees 16 = .ok (.iload_n 3, 1) := by decide +kernel
theorem dX4_planTrees_17 : decode cX4_planTrees 17 = .ok (.aaload, 1) := by decide +kernel
theorem dX4_planTrees_18 : decode cX4_planTrees 18 = .ok (.astore 4, 2) := by decide +kernel
theorem dX4_planTrees_20 : decode cX4_planTrees 20 = .ok (.aload 4, 2) := by decide +kernel
theorem dX4_planTrees_22 : decode cX4_planTrees 22 = .ok (.aload_n 0, 1) := by decide +kernel
theorem dX4_planTrees_23 : decode cX4_planTrees 23 = .ok (.getfield 22, 3) := by decide +kernel
theorem dX4_planTrees_26 : decode cX4_planTrees 26 = .ok (.aload_n 0, 1) := by decide +kernel
theorem dX4_planTrees_27 : decode cX4_planTrees 27 = .ok (.getfield 15, 3) := by decide +kernel
theorem dX4_planTrees_30 : decode cX4_planTrees 30 = .ok (.invokevirtual 131, 3) := by decide +kernel
theorem dX4_planTrees_33 : decode cX4_planTrees 33 = .ok (.iinc 3 1, 3) := by decide +kernel
theorem dX4_planTrees_36 : decode cX4_planTrees 36 = .ok (.goto (-26), 3) := by decide +kernel
theorem dX4_planTrees_39 : decode cX4_planTrees 39 = .ok (.return_, 1) := by decide +kernel
theorem dX4_worstPathOfAll_0 : decode cX4_worstPathOfAll 0 = .ok (.iconst 0, 1) := by decide +kernel
theorem dX4_worstPathOfAll_1 : decode cX4_worstPathOfAll 1 = .ok (.istore_n 1, 1) := by decide +kernel
theorem dX4_worstPathOfAll_2 : decode cX4_worstPathOfAll 2 = .ok (.aload_n 0, 1) := by decide +kernel
theorem dX4_worstPathOfAll_3 : decode cX4_worstPathOfAll 3 = .ok (.getfield 11, 3) := by decide +kernel
theorem dX4_worstPathOfAll_6 : decode cX4_worstPathOfAll 6 = .ok (.astore_n 2, 1) := by decide +kernel
theorem dX4_worstPathOfAll_7 : decode cX4_worstPathOfAll 7 = .ok (.aload_n 2, 1) := by decide +kernel
theorem dX4_worstPathOfAll_8 : decode cX4_worstPathOfAll 8 = .ok (.arraylength, 1) := by decide +kernel
theorem dX4_worstPathOfAll_9 : decode cX4_worstPathOfAll 9 = .ok (.istore_n 3, 1) := by decide +kernel
theorem dX4_worstPathOfAll_10 : decode cX4_worstPathOfAll 10 = .ok (.iconst 0, 1) := by decide +kernel
theorem dX4_worstPathOfAll_11 : decode cX4_worstPathOfAll 11 = .ok (.istore 4, 2) := by decide +kernel
theorem dX4_worstPathOfAll_13 : decode cX4_worstPathOfAll 13 = .ok (.iload 4, 2) := by decide +kernel
theorem dX4_worstPathOfAll_15 : decode cX4_worstPathOfAll 15 = .ok (.iload_n 3, 1) := by decide +kernel
theorem dX4_worstPathOfAll_16 : decode cX4_worstPathOfAll 16 = .ok (.if_icmp .ge 23, 3) := by decide +kernel
theorem dX4_worstPathOfAll_19 : decode cX4_worstPathOfAll 19 = .ok (.aload_n 2, 1) := by decide +kernel
theorem dX4_worstPathOfAll_20 : decode cX4_worstPathOfAll 20 = .ok (.iload 4, 2) := by decide +kernel
theorem dX4_worstPathOfAll_22 : decode cX4_worstPathOfAll 22 = .ok (.aaload, 1) := by decide +kernel
theorem dX4_worstPathOfAll_23 : decode cX4_worstPathOfAll 23 = .ok (.astore 5, 2) := by decide +kernel
theorem dX4_worstPathOfAll_25 : decode cX4_worstPathOfAll 25 = .ok (.iload_n 1, 1) := by decide +kernel
theorem dX4_worstPathOfAll_26 : decode cX4_worstPathOfAll 26 = .ok (.aload 5, 2) := by decide +kernel
theorem dX4_worstPathOfAll_28 : decode cX4_worstPathOfAll 28 = .ok (.invokevirtual 112, 3) := by decide +kernel
theorem dX4_worstPathOfAll_31 : decode cX4_worstPathOfAll 31 = .ok (.iadd, 1) := by decide +kernel
theorem dX4_worstPathOfAll_32 : decode cX4_worstPathOfAll 32 = .ok (.istore_n 1, 1) := by decide +kernel
theorem dX4_worstPathOfAll_33 : decode cX4_worstPathOfAll 33 = .ok (.iinc 4 1, 3) := by decide +kernel
theorem dX4_worstPathOfAll_36 : decode cX4_worstPathOfAll 36 = .ok (.goto (-23), 3) := by decide +kernel
theorem dX4_worstPathOfAll_39 : decode cX4_worstPathOfAll 39 = .ok (.iload_n 1, 1) := by decide +kernel
theorem dX4_worstPathOfAll_40 : decode cX4_worstPathOfAll 40 = .ok (.ireturn, 1) := by decide +kernel
theorem dX4_requireFilter_0 : decode cX4_requireFilter 0 = .ok (.iload_n 0, 1) := by decide +kernel
theorem dX4_requireFilter_1 : decode cX4_requireFilter 1 = .ok (.ifCond .lt 8, 3) := by decide +kernel
theorem dX4_requireFilter_4 : decode cX4_requireFilter 4 = .ok (.iload_n 0, 1) := by decide +kernel
theorem dX4_requireFilter_5 : decode cX4_requireFilter 5 = .ok (.iconst 4, 1) := by decide +kernel
theorem dX4_requireFilter_6 : decode cX4_requireFilter 6 = .ok (.if_icmp .lt 13, 3) := by decide +kernel
theorem dX4_requireFilter_9 : decode cX4_requireFilter 9 = .ok (.new 34, 3) := by decide +kernel
theorem dX4_requireFilter_12 : decode cX4_requireFilter 12 = .ok (.dup, 1) := by decide +kernel
theorem dX4_requireFilter_13 : decode cX4_requireFilter 13 = .ok (.ldc 135, 2) := by decide +kernel
theorem dX4_requireFilter_15 : decode cX4_requireFilter 15 = .ok (.invokespecial 38, 3) := by decide +kernel
theorem dX4_requireFilter_18 : decode cX4_requireFilter 18 = .ok (.athrow, 1) := by decide +kernel
theorem dX4_requireFilter_19 : decode cX4_requireFilter 19 = .ok (.return_, 1) := by decide +kernel
theorem dX4_requireNumber_0 : decode cX4_requireNumber 0 = .ok (.iload_n 0, 1) := by decide +kernel
theorem dX4_requireNumber_1 : decode cX4_requireNumber 1 = .ok (.ifCond .lt 9, 3) := by decide +kernel
theorem dX4_requireNumber_4 : decode cX4_requireNumber 4 = .ok (.iload_n 0, 1) := by decide +kernel
theorem dX4_requireNumber_5 : decode cX4_requireNumber 5 = .ok (.bipush 32, 2) := by decide +kernel
theorem dX4_requireNumber_7 : decode cX4_requireNumber 7 = .ok (.if_icmp .lt 13, 3) := by decide +kernel
theorem dX4_requireNumber_10 : decode cX4_requireNumber 10 = .ok (.new 34, 3) := by decide +kernel
theorem dX4_requireNumber_13 : decode cX4_requireNumber 13 = .ok (.dup, 1) := by decide +kernel
theorem dX4_requireNumber_14 : decode cX4_requireNumber 14 = .ok (.ldc 137, 2) := by decide +kernel
theorem dX4_requireNumber_16 : decode cX4_requireNumber 16 = .ok (.invokespecial 38, 3) := by decide +kernel
theorem dX4_requireNumber_19 : decode cX4_requireNumber 19 = .ok (.athrow, 1) := by decide +kernel
theorem dX4_requireNumber_20 : decode cX4_requireNumber 20 = .ok (.return_, 1) := by decide +kernel
theorem dX4_requireAction_0 : decode cX4_requireAction 0 = .ok (.iload_n 0, 1) := by decide +kernel
theorem dX4_requireAction_1 : decode cX4_requireAction 1 = .ok (.ifCond .lt 9, 3) := by decide +kernel
theorem dX4_requireAction_4 : decode cX4_requireAction 4 = .ok (.iload_n 0, 1) := by decide +kernel
theorem dX4_requireAction_5 : decode cX4_requireAction 5 = .ok (.bipush 7, 2) := by decide +kernel
theorem dX4_requireAction_7 : decode cX4_requireAction 7 = .ok (.if_icmp .lt 13, 3) := by decide +kernel
theorem dX4_requireAction_10 : decode cX4_requireAction 10 = .ok (.new 34, 3) := by decide +kernel
theorem dX4_requireAction_13 : decode cX4_requireAction 13 = .ok (.dup, 1) := by decide +kernel
theorem dX4_requireAction_14 : decode cX4_requireAction 14 = .ok (.ldc 139, 2) := by decide +kernel
theorem dX4_requireAction_16 : decode cX4_requireAction 16 = .ok (.invokespecial 38, 3) := by decide +kernel
theorem dX4_requireAction_19 : decode cX4_requireAction 19 = .ok (.athrow, 1) := by decide +kernel
theorem dX4_requireAction_20 : decode cX4_requireAction 20 = .ok (.return_, 1) := by decide +kernel
theorem dX4_requireRule_0 : decode cX4_requireRule 0 = .ok (.iload_n 2, 1) := by decide +kernel
theorem dX4_requireRule_1 : decode cX4_requireRule 1 = .ok (.ifCond .lt 19, 3) := by decide +kernel
theorem dX4_requireRule_4 : decode cX4_requireRule 4 = .ok (.iload_n 2, 1) := by decide +kernel
theorem dX4_requireRule_5 : decode cX4_requireRule 5 = .ok (.aload_n 0, 1) := by decide +kernel
theorem dX4_requireRule_6 : decode cX4_requireRule 6 = .ok (.getfield 11, 3) := by decide +kernel
theorem dX4_requireRule_9 : decode cX4_requireRule 9 = .ok (.iload_n 1, 1) := by decide +kernel
theorem dX4_requireRule_10 : decode cX4_requireRule 10 = .ok (.aaload, 1) := by decide +kernel
theorem dX4_requireRule_11 : decode cX4_requireRule 11 = .ok (.getfield 80, 3) := by decide +kernel
theorem dX4_requireRule_14 : decode cX4_requireRule 14 = .ok (.invokevirtual 84, 3) := by decide +kernel
theorem dX4_requireRule_17 : decode cX4_requireRule 17 = .ok (.if_icmp .lt 13, 3) := by decide +kernel
theorem dX4_requireRule_20 : decode cX4_requireRule 20 = .ok (.new 141, 3) := by decide +kernel
theorem dX4_requireRule_23 : decode cX4_requireRule 23 = .ok (.dup, 1) := by decide +kernel
theorem dX4_requireRule_24 : decode cX4_requireRule 24 = .ok (.ldc 143, 2) := by decide +kernel
theorem dX4_requireRule_26 : decode cX4_requireRule 26 = .ok (.invokespecial 145, 3) := by decide +kernel
theorem dX4_requireRule_29 : decode cX4_requireRule 29 = .ok (.athrow, 1) := by decide +kernel
theorem dX4_requireRule_30 : decode cX4_requireRule 30 = .ok (.return_, 1) := by decide +kernel
theorem dX4_requireCompiled_0 : decode cX4_requireCompiled 0 = .ok (.aload_n 0, 1) := by decide +kernel
theorem dX4_requireCompiled_1 : decode cX4_requireCompiled 1 = .ok (.getfield 53, 3) := by decide +kernel
theorem dX4_requireCompiled_4 : decode cX4_requireCompiled 4 = .ok (.ifCond .ne 13, 3) := by decide +kernel
theorem dX4_requireCompiled_7 : decode cX4_requireCompiled 7 = .ok (.new 48, 3) := by decide +kernel
theorem dX4_requireCompiled_10 : decode cX4_requireCompiled 10 = .ok (.dup, 1) := by decide +kernel
theorem dX4_requireCompiled_11 : decode cX4_requireCompiled 11 = .ok (.ldc 146, 2) := by decide +kernel
theorem dX4_requireCompiled_13 : decode cX4_requireCompiled 13 = .ok (.invokespecial 52, 3) := by decide +kernel
theorem dX4_requireCompiled_16 : decode cX4_requireCompiled 16 = .ok (.athrow, 1) := by decide +kernel
theorem dX4_requireCompiled_17 : decode cX4_requireCompiled 17 = .ok (.return_, 1) := by decide +kernel
end
section
theorem dX5_init_0 : decode cX5_init 0 = .ok (.aload_n 0, 1) := by decide +kernel
theorem dX5_init_1 : decode cX5_init 1 = .ok (.invokespecial 1, 3) := by decide +kernel
theorem dX5_init_4 : decode cX5_init 4 = .ok (.aload_n 0, 1) := by decide +kernel
theorem dX5_init_5 : decode cX5_init 5 = .ok (.bipush 40, 2) := by decide +kernel
theorem dX5_init_7 : decode cX5_init 7 = .ok (.newarray .int, 2) := by decide +kernel
theorem dX5_init_9 : decode cX5_init 9 = .ok (.putfield 7, 3) := by decide +kernel
theorem dX5_init_12 : decode cX5_init 12 = .ok (.aload_n 0, 1) := by decide +kernel
theorem dX5_init_13 : decode cX5_init 13 = .ok (.bipush 40, 2) := by decide +kernel
theorem dX5_init_15 : decode cX5_init 15 = .ok (.newarray .int, 2) := by decide +kernel
theorem dX5_init_17 : decode cX5_init 17 = .ok (.putfield 13, 3) := by decide +kernel
theorem dX5_init_20 : decode cX5_init 20 = .ok (.aload_n 0, 1) := by decide +kernel
theorem dX5_init_21 : decode cX5_init 21 = .ok (.bipush 40, 2) := by decide +kernel
theorem dX5_init_23 : decode cX5_init 23 = .ok (.newarray .long, 2) := by decide +kernel
theorem dX5_init_25 : decode cX5_init 25 = .ok (.putfield 16, 3) := by decide +kernel
theorem dX5_init_28 : decode cX5_init 28 = .ok (.aload_n 0, 1) := by decide +kernel
theorem dX5_init_29 : decode cX5_init 29 = .ok (.bipush 40, 2) := by decide +kernel
theorem dX5_init_31 : decode cX5_init 31 = .ok (.newarray .long, 2) := by decide +kernel
theorem dX5_init_33 : decode cX5_init 33 = .ok (.putfield 20, 3) := by decide +kernel
theorem dX5_init_36 : decode cX5_init 36 = .ok (.aload_n 0, 1) := by decide +kernel
theorem dX5_init_37 : decode cX5_init 37 = .ok (.bipush 40, 2) := by decide +kernel
theorem dX5_init_39 : decode cX5_init 39 = .ok (.newarray .int, 2) := by decide +kernel
theorem dX5_init_41 : decode cX5_init 41 = .ok (.putfield 23, 3) := by decide +kernel
theorem dX5_init_44 : decode cX5_init 44 = .ok (.aload_n 0, 1) := by decide +kernel
theorem dX5_init_45 : decode cX5_init 45 = .ok (.iconst 4, 1) := by decide +kernel
theorem dX5_init_46 : decode cX5_init 46 = .ok (.newarray .int, 2) := by decide +kernel
theorem dX5_init_48 : decode cX5_init 48 = .ok (.putfield 26, 3) := by decide +kernel
theorem dX5_init_51 : decode cX5_init 51 = .ok (.aload_n 0, 1) := by decide +kernel
theorem dX5_init_52 : decode cX5_init 52 = .ok (.iconst 4, 1) := by decide +kernel
theorem dX5_init_53 : decode cX5_init 53 = .ok (.newarray .int, 2) := by decide +kernel
theorem dX5_init_55 : decode cX5_init 55 = .ok (.putfield 29, 3) := by decide +kernel
theorem dX5_init_58 : decode cX5_init 58 = .ok (.aload_n 0, 1) := by decide +kernel
theorem dX5_init_59 : decode cX5_init 59 = .ok (.bipush 32, 2) := by decide +kernel
theorem dX5_init_61 : decode cX5_init 61 = .ok (.newarray .int, 2) := by decide +kernel
theorem dX5_init_63 : decode cX5_init 63 = .ok (.putfield 32, 3) := by decide +kernel
theorem dX5_init_66 : decode cX5_init 66 = .ok (.aload_n 0, 1) := by decide +kernel
theorem dX5_init_67 : decode cX5_init 67 = .ok (.bipush 10, 2) := by decide +kernel
theorem dX5_init_69 : decode cX5_init 69 = .ok (.newarray .int, 2) := by decide +kernel
theorem dX5_init_71 : decode cX5_init 71 = .ok (.putfield 35, 3) := by decide +kernel
theorem dX5_init_74 : decode cX5_init 74 = .ok (.aload_n 0, 1) := by decide +kernel
theorem dX5_init_75 : decode cX5_init 75 = .ok (.bipush 100, 2) := by decide +kernel
theorem dX5_init_77 : decode cX5_init 77 = .ok (.newarray .int, 2) := by decide +kernel
theorem dX5_init_79 : decode cX5_init 79 = .ok (.putfield 38, 3) := by decide +kernel
theorem dX5_init_82 : decode cX5_init 82 = .ok (.aload_n 0, 1) := by decide +kernel
theorem dX5_init_83 : decode cX5_init 83 = .ok (.bipush 100, 2) := by decide +kernel
theorem dX5_init_85 : decode cX5_init 85 = .ok (.newarray .int, 2) := by decide +kernel
theorem dX5_init_87 : decode cX5_init 87 = .ok (.putfield 41, 3) := by decide +kernel
theorem dX5_init_90 : decode cX5_init 90 = .ok (.return_, 1) := by decide +kernel
theorem dX5_thrown_0 : decode cX5_thrown 0 = .ok (.aload_n 0, 1) := by decide +kernel
theorem dX5_thrown_1 : decode cX5_thrown 1 = .ok (.getfield 44, 3) := by decide +kernel
theorem dX5_thrown_4 : decode cX5_thrown 4 = .ok (.ireturn, 1) := by decide +kernel
theorem dX5_goesWell_0 : decode cX5_goesWell 0 = .ok (.aload_n 0, 1) := by decide +kernel
theorem dX5_goesWell_1 : decode cX5_goesWell 1 = .ok (.iload_n 1, 1) := by decide +kernel
theorem dX5_goesWell_2 : decode cX5_goesWell 2 = .ok (.putfield 44, 3) := by decide +kernel
theorem dX5_goesWell_5 : decode cX5_goesWell 5 = .ok (.iload_n 1, 1) := by decide +kernel
theorem dX5_goesWell_6 : decode cX5_goesWell 6 = .ok (.ifCond .ne 7, 3) := by decide +kernel
theorem dX5_goesWell_9 : decode cX5_goesWell 9 = .ok (.iconst 1, 1) := by decide +kernel
theorem dX5_goesWell_10 : decode cX5_goesWell 10 = .ok (.goto 4, 3) := by decide +kernel
theorem dX5_goesWell_13 : decode cX5_goesWell 13 = .ok (.iconst 0, 1) := by decide +kernel
theorem dX5_goesWell_14 : decode cX5_goesWell 14 = .ok (.ireturn, 1) := by decide +kernel
theorem dX5_in_0 : decode cX5_in 0 = .ok (.iload_n 0, 1) := by decide +kernel
theorem dX5_in_1 : decode cX5_in 1 = .ok (.iload_n 1, 1) := by decide +kernel
theorem dX5_in_2 : decode cX5_in 2 = .ok (.if_icmp .lt 12, 3) := by decide +kernel
theorem dX5_in_5 : decode cX5_in 5 = .ok (.iload_n 0, 1) := by decide +kernel
theorem dX5_in_6 : decode cX5_in 6 = .ok (.iload_n 2, 1) := by decide +kernel
theorem dX5_in_7 : decode cX5_in 7 = .ok (.if_icmp .gt 7, 3) := by decide +kernel
theorem dX5_in_10 : decode cX5_in 10 = .ok (.iconst 1, 1) := by decide +kernel
theorem dX5_in_11 : decode cX5_in 11 = .ok (.goto 4, 3) := by decide +kernel
theorem dX5_in_14 : decode cX5_in 14 = .ok (.iconst 0, 1) := by decide +kernel
theorem dX5_in_15 : decode cX5_in 15 = .ok (.ireturn, 1) := by decide +kernel
theorem dX5_isFilter_0 : decode cX5_isFilter 0 = .ok (.iload_n 0, 1) := by decide +kernel
theorem dX5_isFilter_1 : decode cX5_isFilter 1 = .ok (.iconst 0, 1) := by decide +kernel
theorem dX5_isFilter_2 : decode cX5_isFilter 2 = .ok (.iconst 3, 1) := by decide +kernel
theorem dX5_isFilter_3 : decode cX5_isFilter 3 = .ok (.invokestatic 48, 3) := by decide +kernel
theorem dX5_isFilter_6 : decode cX5_isFilter 6 = .ok (.ireturn, 1) := by decide +kernel
theorem dX5_isNumber_0 : decode cX5_isNumber 0 = .ok (.iload_n 0, 1) := by decide +kernel
theorem dX5_isNumber_1 : decode cX5_isNumber 1 = .ok (.iconst 0, 1) := by decide +kernel
theorem dX5_isNumber_2 : decode cX5_isNumber 2 = .ok (.bipush 31, 2) := by decide +kernel
theorem dX5_isNumber_4 : decode cX5_isNumber 4 = .ok (.invokestatic 48, 3) := by decide +kernel
theorem dX5_isNumber_7 : decode cX5_isNumber 7 = .ok (.ireturn, 1) := by decide +kernel
theorem dX5_isRule_0 : decode cX5_isRule 0 = .ok (.iload_n 1, 1) := by decide +kernel
theorem dX5_isRule_1 : decode cX5_isRule 1 = .ok (.invokestatic 52, 3) := by decide +kernel
theorem dX5_isRule_4 : decode cX5_isRule 4 = .ok (.ifCond .eq 23, 3) := by decide +kernel
theorem dX5_isRule_7 : decode cX5_isRule 7 = .ok (.iload_n 2, 1) := by decide +kernel
theorem dX5_isRule_8 : decode cX5_isRule 8 = .ok (.iconst 0, 1) := by decide +kernel
theorem dX5_isRule_9 : decode cX5_isRule 9 = .ok (.aload_n 0, 1) := by decide +kernel
theorem dX5_isRule_10 : decode cX5_isRule 10 = .ok (.getfield 26, 3) := by decide +kernel
theorem dX5_isRule_13 : decode cX5_isRule 13 = .ok (.iload_n 1, 1) := by decide +kernel
theorem dX5_isRule_14 : decode cX5_isRule 14 = .ok (.iaload, 1) := by decide +kernel
theorem dX5_isRule_15 : decode cX5_isRule 15 = .ok (.iconst 1, 1) := by decide +kernel
theorem dX5_isRule_16 : decode cX5_isRule 16 = .ok (.isub, 1) := by decide +kernel
theorem dX5_isRule_17 : decode cX5_isRule 17 = .ok (.invokestatic 48, 3) := by decide +kernel
theorem dX5_isRule_20 : decode cX5_isRule 20 = .ok (.ifCond .eq 7, 3) := by decide +kernel
theorem dX5_isRule_23 : decode cX5_isRule 23 = .ok (.iconst 1, 1) := by decide +kernel
theorem dX5_isRule_24 : decode cX5_isRule 24 = .ok (.goto 4, 3) := by decide +kernel
theorem dX5_isRule_27 : decode cX5_isRule 27 = .ok (.iconst 0, 1) := by decide +kernel
theorem dX5_isRule_28 : decode cX5_isRule 28 = .ok (.ireturn, 1) := by decide +kernel
theorem dX5_add_0 : decode cX5_add 0 = .ok (.iload_n 1, 1) := by decide +kernel
theorem dX5_add_1 : decode cX5_add 1 = .ok (.invokestatic 52, 3) := by decide +kernel
theorem dX5_add_4 : decode cX5_add 4 = .ok (.ifCond .eq 34, 3) := by decide +kernel
theorem dX5_add_7 : decode cX5_add 7 = .ok (.iload_n 2, 1) := by decide +kernel
theorem dX5_add_8 : decode cX5_add 8 = .ok (.invokestatic 56, 3) := by decide +kernel
theorem dX5_add_11 : decode cX5_add 11 = .ok (.ifCond .eq 27, 3) := by decide +kernel
theorem dX5_add_14 : decode cX5_add 14 = .ok (.iload_n 3, 1) := by decide +kernel
theorem dX5_add_15 : decode cX5_add 15 = .ok (.iconst 0, 1) := by decide +kernel
theorem dX5_add_16 : decode cX5_add 16 = .ok (.iconst 1, 1) := by decide +kernel
theorem dX5_add_17 : decode cX5_add 17 = .ok (.invokestatic 48, 3) := by decide +kernel
theorem dX5_add_20 : decode cX5_add 20 = .ok (.ifCond .eq 18, 3) := by decide +kernel
theorem dX5_add_23 : decode cX5_add 23 = .ok (.iload 8, 2) := by decide +kernel
theorem dX5_add_25 : decode cX5_add 25 = .ok (.iconst 0, 1) := by decide +kernel
theorem dX5_add_26 : decode cX5_add 26 = .ok (.bipush 6, 2) := by decide +kernel
theorem dX5_add_28 : decode cX5_add 28 = .ok (.invokestatic 48, 3) := by decide +kernel
theorem dX5_add_31 : decode cX5_add 31 = .ok (.ifCond .eq 7, 3) := by decide +kernel
theorem dX5_add_34 : decode cX5_add 34 = .ok (.iconst 1, 1) := by decide +kernel
theorem dX5_add_35 : decode cX5_add 35 = .ok (.goto 4, 3) := by decide +kernel
theorem dX5_add_38 : decode cX5_add 38 = .ok (.iconst 0, 1) := by decide +kernel
theorem dX5_add_39 : decode cX5_add 39 = .ok (.istore 9, 2) := by decide +kernel
theorem dX5_add_41 : decode cX5_add 41 = .ok (.aload_n 0, 1) := by decide +kernel
theorem dX5_add_42 : decode cX5_add 42 = .ok (.iload 9, 2) := by decide +kernel
theorem dX5_add_44 : decode cX5_add 44 = .ok (.ifCond .ne 7, 3) := by decide +kernel
theorem dX5_add_47 : decode cX5_add 47 = .ok (.iconst 1, 1) := by decide +kernel
theorem dX5_add_48 : decode cX5_add 48 = .ok (.goto 19, 3) := by decide +kernel
theorem dX5_add_51 : decode cX5_add 51 = .ok (.aload_n 0, 1) := by decide +kernel
theorem dX5_add_52 : decode cX5_add 52 = .ok (.getfield 26, 3) := by decide +kernel
theorem dX5_add_55 : decode cX5_add 55 = .ok (.iload_n 1, 1) := by decide +kernel
theorem dX5_add_56 : decode cX5_add 56 = .ok (.iaload, 1) := by decide +kernel
theorem dX5_add_57 : decode cX5_add 57 = .ok (.bipush 10, 2) := by decide +kernel
theorem dX5_add_59 : decode cX5_add 59 = .ok (.if_icmp .ne 7, 3) := by decide +kernel
theorem dX5_add_62 : decode cX5_add 62 = .ok (.iconst 2, 1) := by decide +kernel
theorem dX5_add_63 : decode cX5_add 63 = .ok (.goto 4, 3) := by decide +kernel
theorem dX5_add_66 : decode cX5_add 66 = .ok (.iconst 0, 1) := by decide +kernel
theorem dX5_add_67 : decode cX5_add 67 = .ok (.invokevirtual 59, 3) := by decide +kernel
theorem dX5_add_70 : decode cX5_add 70 = .ok (.ifCond .ne 5, 3) := by decide +kernel
theorem dX5_add_73 : decode cX5_add 73 = .ok (.iconst 0, 1) := by decide +kernel
theorem dX5_add_74 : decode cX5_add 74 = .ok (.ireturn, 1) := by decide +kernel
theorem dX5_add_75 : decode cX5_add 75 = .ok (.bipush 10, 2) := by decide +kernel
theorem dX5_add_77 : decode cX5_add 77 = .ok (.iload_n 1, 1) := by decide +kernel
theorem dX5_add_78 : decode cX5_add 78 = .ok (.imul, 1) := by decide +kernel
theorem dX5_add_79 : decode cX5_add 79 = .ok (.aload_n 0, 1) := by decide +kernel
theorem dX5_add_80 : decode cX5_add 80 = .ok (.getfield 26, 3) := by decide +kernel
theorem dX5_add_83 : decode cX5_add 83 = .ok (.iload_n 1, 1) := by decide +kernel
theorem dX5_add_84 : decode cX5_add 84 = .ok (.iaload, 1) := by decide +kernel
theorem dX5_add_85 : decode cX5_add 85 = .ok (.iadd, 1) := by decide +kernel
theorem dX5_add_86 : decode cX5_add 86 = .ok (.istore 10, 2) := by decide +kernel
theorem dX5_add_88 : decode cX5_add 88 = .ok (.aload_n 0, 1) := by decide +kernel
theorem dX5_add_89 : decode cX5_add 89 = .ok (.getfield 7, 3) := by decide +kernel
theorem dX5_add_92 : decode cX5_add 92 = .ok (.iload 10, 2) := by decide +kernel
theorem dX5_add_94 : decode cX5_add 94 = .ok (.iload_n 2, 1) := by decide +kernel
theorem dX5_add_95 : decode cX5_add 95 = .ok (.iastore, 1) := by decide +kernel
theorem dX5_add_96 : decode cX5_add 96 = .ok (.aload_n 0, 1) := by decide +kernel
theorem dX5_add_97 : decode cX5_add 97 = .ok (.getfield 13, 3) := by decide +kernel
theorem dX5_add_100 : decode cX5_add 100 = .ok (.iload 10, 2) := by decide +kernel
theorem dX5_add_102 : decode cX5_add 102 = .ok (.iload_n 3, 1) := by decide +kernel
theorem dX5_add_103 : decode cX5_add 103 = .ok (.iastore, 1) := by decide +kernel
theorem dX5_add_104 : decode cX5_add 104 = .ok (.aload_n 0, 1) := by decide +kernel
theorem dX5_add_105 : decode cX5_add 105 = .ok (.getfield 16, 3) := by decide +kernel
theorem dX5_add_108 : decode cX5_add 108 = .ok (.iload 10, 2) := by decide +kernel
theorem dX5_add_110 : decode cX5_add 110 = .ok (.lload 4, 2) := by decide +kernel
theorem dX5_add_112 : decode cX5_add 112 = .ok (.lastore, 1) := by decide +kernel
theorem dX5_add_113 : decode cX5_add 113 = .ok (.aload_n 0, 1) := by decide +kernel
theorem dX5_add_114 : decode cX5_add 114 = .ok (.getfield 20, 3) := by decide +kernel
theorem dX5_add_117 : decode cX5_add 117 = .ok (.iload 10, 2) := by decide +kernel
theorem dX5_add_119 : decode cX5_add 119 = .ok (.lload 6, 2) := by decide +kernel
theorem dX5_add_121 : decode cX5_add 121 = .ok (.lastore, 1) := by decide +kernel
theorem dX5_add_122 : decode cX5_add 122 = .ok (.aload_n 0, 1) := by decide +kernel
theorem dX5_add_123 : decode cX5_add 123 = .ok (.getfield 23, 3) := by decide +kernel
theorem dX5_add_126 : decode cX5_add 126 = .ok (.iload 10, 2) := by decide +kernel
theorem dX5_add_128 : decode cX5_add 128 = .ok (.iload 8, 2) := by decide +kernel
theorem dX5_add_130 : decode cX5_add 130 = .ok (.iastore, 1) := by decide +kernel
theorem dX5_add_131 : decode cX5_add 131 = .ok (.aload_n 0, 1) := by decide +kernel
theorem dX5_add_132 : decode cX5_add 132 = .ok (.getfield 26, 3) := by decide +kernel
theorem dX5_add_135 : decode cX5_add 135 = .ok (.iload_n 1, 1) := by decide +kernel
theorem dX5_add_136 : decode cX5_add 136 = .ok (.dup2, 1) := by decide +kernel
theorem dX5_add_137 : decode cX5_add 137 = .ok (.iaload, 1) := by decide +kernel
theorem dX5_add_138 : decode cX5_add 138 = .ok (.iconst 1, 1) := by decide +kernel
theorem dX5_add_139 : decode cX5_add 139 = .ok (.iadd, 1) := by decide +kernel
theorem dX5_add_140 : decode cX5_add 140 = .ok (.iastore, 1) := by decide +kernel
theorem dX5_add_141 : decode cX5_add 141 = .ok (.aload_n 0, 1) := by decide +kernel
theorem dX5_add_142 : decode cX5_add 142 = .ok (.iconst 0, 1) := by decide +kernel
theorem dX5_add_143 : decode cX5_add 143 = .ok (.putfield 62, 3) := by decide +kernel
theorem dX5_add_146 : decode cX5_add 146 = .ok (.aload_n 0, 1) := by decide +kernel
theorem dX5_add_147 : decode cX5_add 147 = .ok (.getfield 26, 3) := by decide +kernel
theorem dX5_add_150 : decode cX5_add 150 = .ok (.iload_n 1, 1) := by decide +kernel
theorem dX5_add_151 : decode cX5_add 151 = .ok (.iaload, 1) := by decide +kernel
theorem dX5_add_152 : decode cX5_add 152 = .ok (.iconst 1, 1) := by decide +kernel
theorem dX5_add_153 : decode cX5_add 153 = .ok (.isub, 1) := by decide +kernel
theorem dX5_add_154 : decode cX5_add 154 = .ok (.ireturn, 1) := by decide +kernel
theorem dX5_remove_0 : decode cX5_remove 0 = .ok (.aload_n 0, 1) := by decide +kernel
theorem dX5_remove_1 : decode cX5_remove 1 = .ok (.iload_n 1, 1) := by decide +kernel
theorem dX5_remove_2 : decode cX5_remove 2 = .ok (.invokestatic 52, 3) := by decide +kernel
theorem dX5_remove_5 : decode cX5_remove 5 = .ok (.ifCond .ne 7, 3) := by decide +kernel
theorem dX5_remove_8 : decode cX5_remove 8 = .ok (.iconst 1, 1) := by decide +kernel
theorem dX5_remove_9 : decode cX5_remove 9 = .ok (.goto 17, 3) := by decide +kernel
theorem dX5_remove_12 : decode cX5_remove 12 = .ok (.aload_n 0, 1) := by decide +kernel
theorem dX5_remove_13 : decode cX5_remove 13 = .ok (.iload_n 1, 1) := by decide +kernel
theorem dX5_remove_14 : decode cX5_remove 14 = .ok (.iload_n 2, 1) := by decide +kernel
theorem dX5_remove_15 : decode cX5_remove 15 = .ok (.invokevirtual 66, 3) := by decide +kernel
theorem dX5_remove_18 : decode cX5_remove 18 = .ok (.ifCond .eq 7, 3) := by decide +kernel
theorem dX5_remove_21 : decode cX5_remove 21 = .ok (.iconst 0, 1) := by decide +kernel
theorem dX5_remove_22 : decode cX5_remove 22 = .ok (.goto 4, 3) := by decide +kernel
theorem dX5_remove_25 : decode cX5_remove 25 = .ok (.iconst 2, 1) := by decide +kernel
theorem dX5_remove_26 : decode cX5_remove 26 = .ok (.invokevirtual 59, 3) := by decide +kernel
theorem dX5_remove_29 : decode cX5_remove 29 = .ok (.ifCond .ne 5, 3) := by decide +kernel
theorem dX5_remove_32 : decode cX5_remove 32 = .ok (.iconst 0, 1) := by decide +kernel
theorem dX5_remove_33 : decode cX5_remove 33 = .ok (.ireturn, 1) := by decide +kernel
theorem dX5_remove_34 : decode cX5_remove 34 = .ok (.aload_n 0, 1) := by decide +kernel
theorem dX5_remove_35 : decode cX5_remove 35 = .ok (.getfield 26, 3) := by decide +kernel
theorem dX5_remove_38 : decode cX5_remove 38 = .ok (.iload_n 1, 1) := by decide +kernel
theorem dX5_remove_39 : decode cX5_remove 39 = .ok (.dup2, 1) := by decide +kernel
theorem dX5_remove_40 : decode cX5_remove 40 = .ok (.iaload, 1) := by decide +kernel
theorem dX5_remove_41 : decode cX5_remove 41 = .ok (.iconst 1, 1) := by decide +kernel
theorem dX5_remove_42 : decode cX5_remove 42 = .ok (.isub, 1) := by decide +kernel
theorem dX5_remove_43 : decode cX5_remove 43 = .ok (.iastore, 1) := by decide +kernel
theorem dX5_remove_44 : decode cX5_remove 44 = .ok (.bipush 10, 2) := by decide +kernel
theorem dX5_remove_46 : decode cX5_remove 46 = .ok (.iload_n 1, 1) := by decide +kernel
theorem dX5_remove_47 : decode cX5_remove 47 = .ok (.imul, 1) := by decide +kernel
theorem dX5_remove_48 : decode cX5_remove 48 = .ok (.iload_n 2, 1) := by decide +kernel
theorem dX5_remove_49 : decode cX5_remove 49 = .ok (.iadd, 1) := by decide +kernel
theorem dX5_remove_50 : decode cX5_remove 50 = .ok (.istore_n 3, 1) := by decide +kernel
theorem dX5_remove_51 : decode cX5_remove 51 = .ok (.iload_n 3, 1) := by decide +kernel
theorem dX5_remove_52 : decode cX5_remove 52 = .ok (.bipush 10, 2) := by decide +kernel
theorem dX5_remove_54 : decode cX5_remove 54 = .ok (.iload_n 1, 1) := by decide +kernel
theorem dX5_remove_55 : decode cX5_remove 55 = .ok (.imul, 1) := by decide +kernel
theorem dX5_remove_56 : decode cX5_remove 56 = .ok (.aload_n 0, 1) := by decide +kernel
theorem dX5_remove_57 : decode cX5_remove 57 = .ok (.getfield 26, 3) := by decide +kernel
theorem dX5_remove_60 : decode cX5_remove 60 = .ok (.iload_n 1, 1) := by decide +kernel
theorem dX5_remove_61 : decode cX5_remove 61 = .ok (.iaload, 1) := by decide +kernel
theorem dX5_remove_62 : decode cX5_remove 62 = .ok (.iadd, 1) := by decide +kernel
theorem dX5_remove_63 : decode cX5_remove 63 = .ok (.if_icmp .ge 79, 3) := by decide +kernel
theorem dX5_remove_66 : decode cX5_remove 66 = .ok (.aload_n 0, 1) := by decide +kernel
theorem dX5_remove_67 : decode cX5_remove 67 = .ok (.getfield 7, 3) := by decide +kernel
theorem dX5_remove_70 : decode cX5_remove 70 = .ok (.iload_n 3, 1) := by decide +kernel
theorem dX5_remove_71 : decode cX5_remove 71 = .ok (.aload_n 0, 1) := by decide +kernel
theorem dX5_remove_72 : decode cX5_remove 72 = .ok (.getfield 7, 3) := by decide +kernel
theorem dX5_remove_75 : decode cX5_remove 75 = .ok (.iload_n 3, 1) := by decide +kernel
theorem dX5_remove_76 : decode cX5_remove 76 = .ok (.iconst 1, 1) := by decide +kernel
theorem dX5_remove_77 : decode cX5_remove 77 = .ok (.iadd, 1) := by decide +kernel
theorem dX5_remove_78 : decode cX5_remove 78 = .ok (.iaload, 1) := by decide +kernel
theorem dX5_remove_79 : decode cX5_remove 79 = .ok (.iastore, 1) := by decide +kernel
theorem dX5_remove_80 : decode cX5_remove 80 = .ok (.aload_n 0, 1) := by decide +kernel
theorem dX5_remove_81 : decode cX5_remove 81 = .ok (.getfield 13, 3) := by decide +kernel
theorem dX5_remove_84 : decode cX5_remove 84 = .ok (.iload_n 3, 1) := by decide +kernel
theorem dX5_remove_85 : decode cX5_remove 85 = .ok (.aload_n 0, 1) := by decide +kernel
theorem dX5_remove_86 : decode cX5_remove 86 = .ok (.getfield 13, 3) := by decide +kernel
theorem dX5_remove_89 : decode cX5_remove 89 = .ok (.iload_n 3, 1) := by decide +kernel
theorem dX5_remove_90 : decode cX5_remove 90 = .ok (.iconst 1, 1) := by decide +kernel
theorem dX5_remove_91 : decode cX5_remove 91 = .ok (.iadd, 1) := by decide +kernel
theorem dX5_remove_92 : decode cX5_remove 92 = .ok (.iaload, 1) := by decide +kernel
theorem dX5_remove_93 : decode cX5_remove 93 = .ok (.iastore, 1) := by decide +kernel
theorem dX5_remove_94 : decode cX5_remove 94 = .ok (.aload_n 0, 1) := by decide +kernel
theorem dX5_remove_95 : decode cX5_remove 95 = .ok (.getfield 16, 3) := by decide +kernel
theorem dX5_remove_98 : decode cX5_remove 98 = .ok (.iload_n 3, 1) := by decide +kernel
theorem dX5_remove_99 : decode cX5_remove 99 = .ok (.aload_n 0, 1) := by decide +kernel
theorem dX5_remove_100 : decode cX5_remove 100 = .ok (.getfield 16, 3) := by decide +kernel
theorem dX5_remove_103 : decode cX5_remove 103 = .ok (.iload_n 3, 1) := by decide +kernel
theorem dX5_remove_104 : decode cX5_remove 104 = .ok (.iconst 1, 1) := by decide +kernel
theorem dX5_remove_105 : decode cX5_remove 105 = .ok (.iadd, 1) := by decide +kernel
theorem dX5_remove_106 : decode cX5_remove 106 = .ok (.laload, 1) := by decide +kernel
theorem dX5_remove_107 : decode cX5_remove 107 = .ok (.lastore, 1) := by decide +kernel
theorem dX5_remove_108 : decode cX5_remove 108 = .ok (.aload_n 0, 1) := by decide +kernel
theorem dX5_remove_109 : decode cX5_remove 109 = .ok (.getfield 20, 3) := by decide +kernel
theorem dX5_remove_112 : decode cX5_remove 112 = .ok (.iload_n 3, 1) := by decide +kernel
theorem dX5_remove_113 : decode cX5_remove 113 = .ok (.aload_n 0, 1) := by decide +kernel
theorem dX5_remove_114 : decode cX5_remove 114 = .ok (.getfield 20, 3) := by decide +kernel
theorem dX5_remove_117 : decode cX5_remove 117 = .ok (.iload_n 3, 1) := by decide +kernel
theorem dX5_remove_118 : decode cX5_remove 118 = .ok (.iconst 1, 1) := by decide +kernel
theorem dX5_remove_119 : decode cX5_remove 119 = .ok (.iadd, 1) := by decide +kernel
theorem dX5_remove_120 : decode cX5_remove 120 = .ok (.laload, 1) := by decide +kernel
theorem dX5_remove_121 : decode cX5_remove 121 = .ok (.lastore, 1) := by decide +kernel
theorem dX5_remove_122 : decode cX5_remove 122 = .ok (.aload_n 0, 1) := by decide +kernel
theorem dX5_remove_123 : decode cX5_remove 123 = .ok (.getfield 23, 3) := by decide +kernel
theorem dX5_remove_126 : decode cX5_remove 126 = .ok (.iload_n 3, 1) := by decide +kernel
theorem dX5_remove_127 : decode cX5_remove 127 = .ok (.aload_n 0, 1) := by decide +kernel
theorem dX5_remove_128 : decode cX5_remove 128 = .ok (.getfield 23, 3) := by decide +kernel
theorem dX5_remove_131 : decode cX5_remove 131 = .ok (.iload_n 3, 1) := by decide +kernel
theorem dX5_remove_132 : decode cX5_remove 132 = .ok (.iconst 1, 1) := by decide +kernel
theorem dX5_remove_133 : decode cX5_remove 133 = .ok (.iadd, 1) := by decide +kernel
theorem dX5_remove_134 : decode cX5_remove 134 = .ok (.iaload, 1) := by decide +kernel
theorem dX5_remove_135 : decode cX5_remove 135 = .ok (.iastore, 1) := by decide +kernel
theorem dX5_remove_136 : decode cX5_remove 136 = .ok (.iinc 3 1, 3) := by decide +kernel
theorem dX5_remove_139 : decode cX5_remove 139 = .ok (.goto (-88), 3) := by decide +kernel
theorem dX5_remove_142 : decode cX5_remove 142 = .ok (.aload_n 0, 1) := by decide +kernel
theorem dX5_remove_143 : decode cX5_remove 143 = .ok (.iconst 0, 1) := by decide +kernel
theorem dX5_remove_144 : decode cX5_remove 144 = .ok (.putfield 62, 3) := by decide +kernel
theorem dX5_remove_147 : decode cX5_remove 147 = .ok (.aload_n 0, 1) := by decide +kernel
theorem dX5_remove_148 : decode cX5_remove 148 = .ok (.getfield 26, 3) := by decide +kernel
theorem dX5_remove_151 : decode cX5_remove 151 = .ok (.iload_n 1, 1) := by decide +kernel
theorem dX5_remove_152 : decode cX5_remove 152 = .ok (.iaload, 1) := by decide +kernel
theorem dX5_remove_153 : decode cX5_remove 153 = .ok (.ireturn, 1) := by decide +kernel
theorem dX5_setDefault_0 : decode cX5_setDefault 0 = .ok (.aload_n 0, 1) := by decide +kernel
theorem dX5_setDefault_1 : decode cX5_setDefault 1 = .ok (.iload_n 1, 1) := by decide +kernel
theorem dX5_setDefault_2 : decode cX5_setDefault 2 = .ok (.invokestatic 52, 3) := by decide +kernel
theorem dX5_setDefault_5 : decode cX5_setDefault 5 = .ok (.ifCond .eq 17, 3) := by decide +kernel
theorem dX5_setDefault_8 : decode cX5_setDefault 8 = .ok (.iload_n 2, 1) := by decide +kernel
theorem dX5_setDefault_9 : decode cX5_setDefault 9 = .ok (.iconst 0, 1) := by decide +kernel
theorem dX5_setDefault_10 : decode cX5_setDefault 10 = .ok (.bipush 6, 2) := by decide +kernel
theorem dX5_setDefault_12 : decode cX5_setDefault 12 = .ok (.invokestatic 48, 3) := by decide +kernel
theorem dX5_setDefault_15 : decode cX5_setDefault 15 = .ok (.ifCond .eq 7, 3) := by decide +kernel
theorem dX5_setDefault_18 : decode cX5_setDefault 18 = .ok (.iconst 0, 1) := by decide +kernel
theorem dX5_setDefault_19 : decode cX5_setDefault 19 = .ok (.goto 4, 3) := by decide +kernel
theorem dX5_setDefault_22 : decode cX5_setDefault 22 = .ok (.iconst 1, 1) := by decide +kernel
theorem dX5_setDefault_23 : decode cX5_setDefault 23 = .ok (.invokevirtual 59, 3) := by decide +kernel
theorem dX5_setDefault_26 : decode cX5_setDefault 26 = .ok (.ifCond .ne 5, 3) := by decide +kernel
theorem dX5_setDefault_29 : decode cX5_setDefault 29 = .ok (.iconst 0, 1) := by decide +kernel
theorem dX5_setDefault_30 : decode cX5_setDefault 30 = .ok (.ireturn, 1) := by decide +kernel
theorem dX5_setDefault_31 : decode cX5_setDefault 31 = .ok (.aload_n 0, 1) := by decide +kernel
theorem dX5_setDefault_32 : decode cX5_setDefault 32 = .ok (.getfield 29, 3) := by decide +kernel
theorem dX5_setDefault_35 : decode cX5_setDefault 35 = .ok (.iload_n 1, 1) := by decide +kernel
theorem dX5_setDefault_36 : decode cX5_setDefault 36 = .ok (.iaload, 1) := by decide +kernel
theorem dX5_setDefault_37 : decode cX5_setDefault 37 = .ok (.istore_n 3, 1) := by decide +kernel
theorem dX5_setDefault_38 : decode cX5_setDefault 38 = .ok (.aload_n 0, 1) := by decide +kernel
theorem dX5_setDefault_39 : decode cX5_setDefault 39 = .ok (.getfield 29, 3) := by decide +kernel
theorem dX5_setDefault_42 : decode cX5_setDefault 42 = .ok (.iload_n 1, 1) := by decide +kernel
theorem dX5_setDefault_43 : decode cX5_setDefault 43 = .ok (.iload_n 2, 1) := by decide +kernel
theorem dX5_setDefault_44 : decode cX5_setDefault 44 = .ok (.iastore, 1) := by decide +kernel
theorem dX5_setDefault_45 : decode cX5_setDefault 45 = .ok (.aload_n 0, 1) := by decide +kernel
theorem dX5_setDefault_46 : decode cX5_setDefault 46 = .ok (.aload_n 0, 1) := by decide +kernel
theorem dX5_setDefault_47 : decode cX5_setDefault 47 = .ok (.getfield 62, 3) := by decide +kernel
theorem dX5_setDefault_50 : decode cX5_setDefault 50 = .ok (.ifCond .eq 12, 3) := by decide +kernel
theorem dX5_setDefault_53 : decode cX5_setDefault 53 = .ok (.iload_n 3, 1) := by decide +kernel
theorem dX5_setDefault_54 : decode cX5_setDefault 54 = .ok (.iload_n 2, 1) := by decide +kernel
theorem dX5_setDefault_55 : decode cX5_setDefault 55 = .ok (.if_icmp .ne 7, 3) := by decide +kernel
theorem dX5_setDefault_58 : decode cX5_setDefault 58 = .ok (.iconst 1, 1) := by decide +kernel
theorem dX5_setDefault_59 : decode cX5_setDefault 59 = .ok (.goto 4, 3) := by decide +kernel
theorem dX5_setDefault_62 : decode cX5_setDefault 62 = .ok (.iconst 0, 1) := by decide +kernel
theorem dX5_setDefault_63 : decode cX5_setDefault 63 = .ok (.putfield 62, 3) := by decide +kernel
theorem dX5_setDefault_66 : decode cX5_setDefault 66 = .ok (.iload_n 3, 1) := by decide +kernel
theorem dX5_setDefault_67 : decode cX5_setDefault 67 = .ok (.ireturn, 1) := by decide +kernel
theorem dX5_setFrequency_0 : decode cX5_setFrequency 0 = .ok (.aload_n 0, 1) := by decide +kernel
theorem dX5_setFrequency_1 : decode cX5_setFrequency 1 = .ok (.iload_n 1, 1) := by decide +kernel
theorem dX5_setFrequency_2 : decode cX5_setFrequency 2 = .ok (.invokestatic 56, 3) := by decide +kernel
theorem dX5_setFrequency_5 : decode cX5_setFrequency 5 = .ok (.ifCond .eq 18, 3) := by decide +kernel
theorem dX5_setFrequency_8 : decode cX5_setFrequency 8 = .ok (.iload_n 2, 1) := by decide +kernel
theorem dX5_setFrequency_9 : decode cX5_setFrequency 9 = .ok (.iconst 0, 1) := by decide +kernel
theorem dX5_setFrequency_10 : decode cX5_setFrequency 10 = .ok (.sipush 1000, 3) := by decide +kernel
theorem dX5_setFrequency_13 : decode cX5_setFrequency 13 = .ok (.invokestatic 48, 3) := by decide +kernel
theorem dX5_setFrequency_16 : decode cX5_setFrequency 16 = .ok (.ifCond .eq 7, 3) := by decide +kernel
theorem dX5_setFrequency_19 : decode cX5_setFrequency 19 = .ok (.iconst 0, 1) := by decide +kernel
theorem dX5_setFrequency_20 : decode cX5_setFrequency 20 = .ok (.goto 4, 3) := by decide +kernel
theorem dX5_setFrequency_23 : decode cX5_setFrequency 23 = .ok (.iconst 1, 1) := by decide +kernel
theorem dX5_setFrequency_24 : decode cX5_setFrequency 24 = .ok (.invokevirtual 59, 3) := by decide +kernel
theorem dX5_setFrequency_27 : decode cX5_setFrequency 27 = .ok (.ifCond .ne 5, 3) := by decide +kernel
theorem dX5_setFrequency_30 : decode cX5_setFrequency 30 = .ok (.iconst 0, 1) := by decide +kernel
theorem dX5_setFrequency_31 : decode cX5_setFrequency 31 = .ok (.ireturn, 1) := by decide +kernel
theorem dX5_setFrequency_32 : decode cX5_setFrequency 32 = .ok (.aload_n 0, 1) := by decide +kernel
theorem dX5_setFrequency_33 : decode cX5_setFrequency 33 = .ok (.getfield 32, 3) := by decide +kernel
theorem dX5_setFrequency_36 : decode cX5_setFrequency 36 = .ok (.iload_n 1, 1) := by decide +kernel
theorem dX5_setFrequency_37 : decode cX5_setFrequency 37 = .ok (.iaload, 1) := by decide +kernel
theorem dX5_setFrequency_38 : decode cX5_setFrequency 38 = .ok (.istore_n 3, 1) := by decide +kernel
theorem dX5_setFrequency_39 : decode cX5_setFrequency 39 = .ok (.aload_n 0, 1) := by decide +kernel
theorem dX5_setFrequency_40 : decode cX5_setFrequency 40 = .ok (.getfield 32, 3) := by decide +kernel
theorem dX5_setFrequency_43 : decode cX5_setFrequency 43 = .ok (.iload_n 1, 1) := by decide +kernel
theorem dX5_setFrequency_44 : decode cX5_setFrequency 44 = .ok (.iload_n 2, 1) := by decide +kernel
theorem dX5_setFrequency_45 : decode cX5_setFrequency 45 = .ok (.iastore, 1) := by decide +kernel
theorem dX5_setFrequency_46 : decode cX5_setFrequency 46 = .ok (.aload_n 0, 1) := by decide +kernel
theorem dX5_setFrequency_47 : decode cX5_setFrequency 47 = .ok (.aload_n 0, 1) := by decide +kernel
theorem dX5_setFrequency_48 : decode cX5_setFrequency 48 = .ok (.getfield 62, 3) := by decide +kernel
theorem dX5_setFrequency_51 : decode cX5_setFrequency 51 = .ok (.ifCond .eq 12, 3) := by decide +kernel
theorem dX5_setFrequency_54 : decode cX5_setFrequency 54 = .ok (.iload_n 3, 1) := by decide +kernel
theorem dX5_setFrequency_55 : decode cX5_setFrequency 55 = .ok (.iload_n 2, 1) := by decide +kernel
theorem dX5_setFrequency_56 : decode cX5_setFrequency 56 = .ok (.if_icmp .ne 7, 3) := by decide +kernel
theorem dX5_setFrequency_59 : decode cX5_setFrequency 59 = .ok (.iconst 1, 1) := by decide +kernel
theorem dX5_setFrequency_60 : decode cX5_setFrequency 60 = .ok (.goto 4, 3) := by decide +kernel
theorem dX5_setFrequency_63 : decode cX5_setFrequency 63 = .ok (.iconst 0, 1) := by decide +kernel
theorem dX5_setFrequency_64 : decode cX5_setFrequency 64 = .ok (.putfield 62, 3) := by decide +kernel
theorem dX5_setFrequency_67 : decode cX5_setFrequency 67 = .ok (.iload_n 3, 1) := by decide +kernel
theorem dX5_setFrequency_68 : decode cX5_setFrequency 68 = .ok (.ireturn, 1) := by decide +kernel
theorem dX5_rules_0 : decode cX5_rules 0 = .ok (.aload_n 0, 1) := by decide +kernel
theorem dX5_rules_1 : decode cX5_rules 1 = .ok (.iload_n 1, 1) := by decide +kernel
theorem dX5_rules_2 : decode cX5_rules 2 = .ok (.invokestatic 52, 3) := by decide +kernel
theorem dX5_rules_5 : decode cX5_rules 5 = .ok (.ifCond .eq 7, 3) := by decide +kernel
theorem dX5_rules_8 : decode cX5_rules 8 = .ok (.iconst 0, 1) := by decide +kernel
theorem dX5_rules_9 : decode cX5_rules 9 = .ok (.goto 4, 3) := by decide +kernel
theorem dX5_rules_12 : decode cX5_rules 12 = .ok (.iconst 1, 1) := by decide +kernel
theorem dX5_rules_13 : decode cX5_rules 13 = .ok (.invokevirtual 59, 3) := by decide +kernel
theorem dX5_rules_16 : decode cX5_rules 16 = .ok (.ifCond .eq 12, 3) := by decide +kernel
theorem dX5_rules_19 : decode cX5_rules 19 = .ok (.aload_n 0, 1) := by decide +kernel
theorem dX5_rules_20 : decode cX5_rules 20 = .ok (.getfield 26, 3) := by decide +kernel
theorem dX5_rules_23 : decode cX5_rules 23 = .ok (.iload_n 1, 1) := by decide +kernel
theorem dX5_rules_24 : decode cX5_rules 24 = .ok (.iaload, 1) := by decide +kernel
theorem dX5_rules_25 : decode cX5_rules 25 = .ok (.goto 4, 3) := by decide +kernel
theorem dX5_rules_28 : decode cX5_rules 28 = .ok (.iconst 0, 1) := by decide +kernel
theorem dX5_rules_29 : decode cX5_rules 29 = .ok (.ireturn, 1) := by decide +kernel
theorem dX5_hides_0 : decode cX5_hides 0 = .ok (.aload_n 0, 1) := by decide +kernel
theorem dX5_hides_1 : decode cX5_hides 1 = .ok (.getfield 7, 3) := by decide +kernel
theorem dX5_hides_4 : decode cX5_hides 4 = .ok (.iload_n 1, 1) := by decide +kernel
theorem dX5_hides_5 : decode cX5_hides 5 = .ok (.iaload, 1) := by decide +kernel
theorem dX5_hides_6 : decode cX5_hides 6 = .ok (.aload_n 0, 1) := by decide +kernel
theorem dX5_hides_7 : decode cX5_hides 7 = .ok (.getfield 7, 3) := by decide +kernel
theorem dX5_hides_10 : decode cX5_hides 10 = .ok (.iload_n 2, 1) := by decide +kernel
theorem dX5_hides_11 : decode cX5_hides 11 = .ok (.iaload, 1) := by decide +kernel
theorem dX5_hides_12 : decode cX5_hides 12 = .ok (.if_icmp .eq 5, 3) := by decide +kernel
theorem dX5_hides_15 : decode cX5_hides 15 = .ok (.iconst 0, 1) := by decide +kernel
theorem dX5_hides_16 : decode cX5_hides 16 = .ok (.ireturn, 1) := by decide +kernel
theorem dX5_hides_17 : decode cX5_hides 17 = .ok (.aload_n 0, 1) := by decide +kernel
theorem dX5_hides_18 : decode cX5_hides 18 = .ok (.getfield 16, 3) := by decide +kernel
theorem dX5_hides_21 : decode cX5_hides 21 = .ok (.iload_n 1, 1) := by decide +kernel
theorem dX5_hides_22 : decode cX5_hides 22 = .ok (.laload, 1) := by decide +kernel
theorem dX5_hides_23 : decode cX5_hides 23 = .ok (.lconst 0, 1) := by decide +kernel
theorem dX5_hides_24 : decode cX5_hides 24 = .ok (.lcmp, 1) := by decide +kernel
theorem dX5_hides_25 : decode cX5_hides 25 = .ok (.ifCond .ne 16, 3) := by decide +kernel
theorem dX5_hides_28 : decode cX5_hides 28 = .ok (.aload_n 0, 1) := by decide +kernel
theorem dX5_hides_29 : decode cX5_hides 29 = .ok (.getfield 20, 3) := by decide +kernel
theorem dX5_hides_32 : decode cX5_hides 32 = .ok (.iload_n 1, 1) := by decide +kernel
theorem dX5_hides_33 : decode cX5_hides 33 = .ok (.laload, 1) := by decide +kernel
theorem dX5_hides_34 : decode cX5_hides 34 = .ok (.lconst 0, 1) := by decide +kernel
theorem dX5_hides_35 : decode cX5_hides 35 = .ok (.lcmp, 1) := by decide +kernel
theorem dX5_hides_36 : decode cX5_hides 36 = .ok (.ifCond .ne 5, 3) := by decide +kernel
theorem dX5_hides_39 : decode cX5_hides 39 = .ok (.iconst 1, 1) := by decide +kernel
theorem dX5_hides_40 : decode cX5_hides 40 = .ok (.ireturn, 1) := by decide +kernel
theorem dX5_hides_41 : decode cX5_hides 41 = .ok (.aload_n 0, 1) := by decide +kernel
theorem dX5_hides_42 : decode cX5_hides 42 = .ok (.getfield 16, 3) := by decide +kernel
theorem dX5_hides_45 : decode cX5_hides 45 = .ok (.iload_n 1, 1) := by decide +kernel
theorem dX5_hides_46 : decode cX5_hides 46 = .ok (.laload, 1) := by decide +kernel
theorem dX5_hides_47 : decode cX5_hides 47 = .ok (.aload_n 0, 1) := by decide +kernel
theorem dX5_hides_48 : decode cX5_hides 48 = .ok (.getfield 16, 3) := by decide +kernel
theorem dX5_hides_51 : decode cX5_hides 51 = .ok (.iload_n 2, 1) := by decide +kernel
theorem dX5_hides_52 : decode cX5_hides 52 = .ok (.laload, 1) := by decide +kernel
theorem dX5_hides_53 : decode cX5_hides 53 = .ok (.ldc2_w 70, 3) := by decide +kernel
theorem dX5_hides_56 : decode cX5_hides 56 = .ok (.lxor, 1) := by decide +kernel
theorem dX5_hides_57 : decode cX5_hides 57 = .ok (.land, 1) := by decide +kernel
theorem dX5_hides_58 : decode cX5_hides 58 = .ok (.lconst 0, 1) := by decide +kernel
theorem dX5_hides_59 : decode cX5_hides 59 = .ok (.lcmp, 1) := by decide +kernel
theorem dX5_hides_60 : decode cX5_hides 60 = .ok (.ifCond .ne 30, 3) := by decide +kernel
theorem dX5_hides_63 : decode cX5_hides 63 = .ok (.aload_n 0, 1) := by decide +kernel
theorem dX5_hides_64 : decode cX5_hides 64 = .ok (.getfield 20, 3) := by decide +kernel
theorem dX5_hides_67 : decode cX5_hides 67 = .ok (.iload_n 2, 1) := by decide +kernel
theorem dX5_hides_68 : decode cX5_hides 68 = .ok (.laload, 1) := by decide +kernel
theorem dX5_hides_69 : decode cX5_hides 69 = .ok (.aload_n 0, 1) := by decide +kernel
theorem dX5_hides_70 : decode cX5_hides 70 = .ok (.getfield 16, 3) := by decide +kernel
theorem dX5_hides_73 : decode cX5_hides 73 = .ok (.iload_n 1, 1) := by decide +kernel
theorem dX5_hides_74 : decode cX5_hides 74 = .ok (.laload, 1) := by decide +kernel
theorem dX5_hides_75 : decode cX5_hides 75 = .ok (.land, 1) := by decide +kernel
theorem dX5_hides_76 : decode cX5_hides 76 = .ok (.aload_n 0, 1) := by decide +kernel
theorem dX5_hides_77 : decode cX5_hides 77 = .ok (.getfield 20, 3) := by decide +kernel
theorem dX5_hides_80 : decode cX5_hides 80 = .ok (.iload_n 1, 1) := by decide +kernel
theorem dX5_hides_81 : decode cX5_hides 81 = .ok (.laload, 1) := by decide +kernel
theorem dX5_hides_82 : decode cX5_hides 82 = .ok (.lcmp, 1) := by decide +kernel
theorem dX5_hides_83 : decode cX5_hides 83 = .ok (.ifCond .ne 7, 3) := by decide +kernel
theorem dX5_hides_86 : decode cX5_hides 86 = .ok (.iconst 1, 1) := by decide +kernel
theorem dX5_hides_87 : decode cX5_hides 87 = .ok (.goto 4, 3) := by decide +kernel
theorem dX5_hides_90 : decode cX5_hides 90 = .ok (.iconst 0, 1) := by decide +kernel
theorem dX5_hides_91 : decode cX5_hides 91 = .ok (.istore_n 3, 1) := by decide +kernel
theorem dX5_hides_92 : decode cX5_hides 92 = .ok (.aload_n 0, 1) := by decide +kernel
theorem dX5_hides_93 : decode cX5_hides 93 = .ok (.getfield 13, 3) := by decide +kernel
theorem dX5_hides_96 : decode cX5_hides 96 = .ok (.iload_n 1, 1) := by decide +kernel
theorem dX5_hides_97 : decode cX5_hides 97 = .ok (.iaload, 1) := by decide +kernel
theorem dX5_hides_98 : decode cX5_hides 98 = .ok (.aload_n 0, 1) := by decide +kernel
theorem dX5_hides_99 : decode cX5_hides 99 = .ok (.getfield 13, 3) := by decide +kernel
theorem dX5_hides_102 : decode cX5_hides 102 = .ok (.iload_n 2, 1) := by decide +kernel
theorem dX5_hides_103 : decode cX5_hides 103 = .ok (.iaload, 1) := by decide +kernel
theorem dX5_hides_104 : decode cX5_hides 104 = .ok (.if_icmp .ne 11, 3) := by decide +kernel
theorem dX5_hides_107 : decode cX5_hides 107 = .ok (.iload_n 3, 1) := by decide +kernel
theorem dX5_hides_108 : decode cX5_hides 108 = .ok (.ifCond .eq 7, 3) := by decide +kernel
theorem dX5_hides_111 : decode cX5_hides 111 = .ok (.iconst 1, 1) := by decide +kernel
theorem dX5_hides_112 : decode cX5_hides 112 = .ok (.goto 4, 3) := by decide +kernel
theorem dX5_hides_115 : decode cX5_hides 115 = .ok (.iconst 0, 1) := by decide +kernel
theorem dX5_hides_116 : decode cX5_hides 116 = .ok (.ireturn, 1) := by decide +kernel
theorem dX5_hiderOf_0 : decode cX5_hiderOf 0 = .ok (.bipush 10, 2) := by decide +kernel
theorem dX5_hiderOf_2 : decode cX5_hiderOf 2 = .ok (.iload_n 1, 1) := by decide +kernel
theorem dX5_hiderOf_3 : decode cX5_hiderOf 3 = .ok (.imul, 1) := by decide +kernel
theorem dX5_hiderOf_4 : decode cX5_hiderOf 4 = .ok (.iload_n 2, 1) := by decide +kernel
theorem dX5_hiderOf_5 : decode cX5_hiderOf 5 = .ok (.iadd, 1) := by decide +kernel
theorem dX5_hiderOf_6 : decode cX5_hiderOf 6 = .ok (.istore_n 3, 1) := by decide +kernel
theorem dX5_hiderOf_7 : decode cX5_hiderOf 7 = .ok (.aload_n 0, 1) := by decide +kernel
theorem dX5_hiderOf_8 : decode cX5_hiderOf 8 = .ok (.getfield 20, 3) := by decide +kernel
theorem dX5_hiderOf_11 : decode cX5_hiderOf 11 = .ok (.iload_n 3, 1) := by decide +kernel
theorem dX5_hiderOf_12 : decode cX5_hiderOf 12 = .ok (.laload, 1) := by decide +kernel
theorem dX5_hiderOf_13 : decode cX5_hiderOf 13 = .ok (.aload_n 0, 1) := by decide +kernel
theorem dX5_hiderOf_14 : decode cX5_hiderOf 14 = .ok (.getfield 16, 3) := by decide +kernel
theorem dX5_hiderOf_17 : decode cX5_hiderOf 17 = .ok (.iload_n 3, 1) := by decide +kernel
theorem dX5_hiderOf_18 : decode cX5_hiderOf 18 = .ok (.laload, 1) := by decide +kernel
theorem dX5_hiderOf_19 : decode cX5_hiderOf 19 = .ok (.ldc2_w 70, 3) := by decide +kernel
theorem dX5_hiderOf_22 : decode cX5_hiderOf 22 = .ok (.lxor, 1) := by decide +kernel
theorem dX5_hiderOf_23 : decode cX5_hiderOf 23 = .ok (.land, 1) := by decide +kernel
theorem dX5_hiderOf_24 : decode cX5_hiderOf 24 = .ok (.lconst 0, 1) := by decide +kernel
theorem dX5_hiderOf_25 : decode cX5_hiderOf 25 = .ok (.lcmp, 1) := by decide +kernel
theorem dX5_hiderOf_26 : decode cX5_hiderOf 26 = .ok (.ifCond .eq 5, 3) := by decide +kernel
theorem dX5_hiderOf_29 : decode cX5_hiderOf 29 = .ok (.iload_n 2, 1) := by decide +kernel
theorem dX5_hiderOf_30 : decode cX5_hiderOf 30 = .ok (.ireturn, 1) := by decide +kernel
theorem dX5_hiderOf_31 : decode cX5_hiderOf 31 = .ok (.iconst 0, 1) := by decide +kernel
theorem dX5_hiderOf_32 : decode cX5_hiderOf 32 = .ok (.istore 4, 2) := by decide +kernel
theorem dX5_hiderOf_34 : decode cX5_hiderOf 34 = .ok (.iload 4, 2) := by decide +kernel
theorem dX5_hiderOf_36 : decode cX5_hiderOf 36 = .ok (.iload_n 2, 1) := by decide +kernel
theorem dX5_hiderOf_37 : decode cX5_hiderOf 37 = .ok (.if_icmp .ge 27, 3) := by decide +kernel
theorem dX5_hiderOf_40 : decode cX5_hiderOf 40 = .ok (.aload_n 0, 1) := by decide +kernel
theorem dX5_hiderOf_41 : decode cX5_hiderOf 41 = .ok (.bipush 10, 2) := by decide +kernel
theorem dX5_hiderOf_43 : decode cX5_hiderOf 43 = .ok (.iload_n 1, 1) := by decide +kernel
theorem dX5_hiderOf_44 : decode cX5_hiderOf 44 = .ok (.imul, 1) := by decide +kernel
theorem dX5_hiderOf_45 : decode cX5_hiderOf 45 = .ok (.iload 4, 2) := by decide +kernel
theorem dX5_hiderOf_47 : decode cX5_hiderOf 47 = .ok (.iadd, 1) := by decide +kernel
theorem dX5_hiderOf_48 : decode cX5_hiderOf 48 = .ok (.iload_n 3, 1) := by decide +kernel
theorem dX5_hiderOf_49 : decode cX5_hiderOf 49 = .ok (.invokevirtual 72, 3) := by decide +kernel
theorem dX5_hiderOf_52 : decode cX5_hiderOf 52 = .ok (.ifCond .eq 6, 3) := by decide +kernel
theorem dX5_hiderOf_55 : decode cX5_hiderOf 55 = .ok (.iload 4, 2) := by decide +kernel
theorem dX5_hiderOf_57 : decode cX5_hiderOf 57 = .ok (.ireturn, 1) := by decide +kernel
theorem dX5_hiderOf_58 : decode cX5_hiderOf 58 = .ok (.iinc 4 1, 3) := by decide +kernel
theorem dX5_hiderOf_61 : decode cX5_hiderOf 61 = .ok (.goto (-27), 3) := by decide +kernel
theorem dX5_hiderOf_64 : decode cX5_hiderOf 64 = .ok (.iconst (-1), 1) := by decide +kernel
theorem dX5_hiderOf_65 : decode cX5_hiderOf 65 = .ok (.ireturn, 1) := by decide +kernel
theorem dX5_hider_0 : decode cX5_hider 0 = .ok (.aload_n 0, 1) := by decide +kernel
theorem dX5_hider_1 : decode cX5_hider 1 = .ok (.iload_n 1, 1) := by decide +kernel
theorem dX5_hider_2 : decode cX5_hider 2 = .ok (.invokestatic 52, 3) := by decide +kernel
theorem dX5_hider_5 : decode cX5_hider 5 = .ok (.ifCond .ne 7, 3) := by decide +kernel
theorem dX5_hider_8 : decode cX5_hider 8 = .ok (.iconst 1, 1) := by decide +kernel
theorem dX5_hider_9 : decode cX5_hider 9 = .ok (.goto 17, 3) := by decide +kernel
theorem dX5_hider_12 : decode cX5_hider 12 = .ok (.aload_n 0, 1) := by decide +kernel
theorem dX5_hider_13 : decode cX5_hider 13 = .ok (.iload_n 1, 1) := by decide +kernel
theorem dX5_hider_14 : decode cX5_hider 14 = .ok (.iload_n 2, 1) := by decide +kernel
theorem dX5_hider_15 : decode cX5_hider 15 = .ok (.invokevirtual 66, 3) := by decide +kernel
theorem dX5_hider_18 : decode cX5_hider 18 = .ok (.ifCond .eq 7, 3) := by decide +kernel
theorem dX5_hider_21 : decode cX5_hider 21 = .ok (.iconst 0, 1) := by decide +kernel
theorem dX5_hider_22 : decode cX5_hider 22 = .ok (.goto 4, 3) := by decide +kernel
theorem dX5_hider_25 : decode cX5_hider 25 = .ok (.iconst 2, 1) := by decide +kernel
theorem dX5_hider_26 : decode cX5_hider 26 = .ok (.invokevirtual 59, 3) := by decide +kernel
theorem dX5_hider_29 : decode cX5_hider 29 = .ok (.ifCond .eq 12, 3) := by decide +kernel
theorem dX5_hider_32 : decode cX5_hider 32 = .ok (.aload_n 0, 1) := by decide +kernel
theorem dX5_hider_33 : decode cX5_hider 33 = .ok (.iload_n 1, 1) := by decide +kernel
theorem dX5_hider_34 : decode cX5_hider 34 = .ok (.iload_n 2, 1) := by decide +kernel
theorem dX5_hider_35 : decode cX5_hider 35 = .ok (.invokevirtual 75, 3) := by decide +kernel
theorem dX5_hider_38 : decode cX5_hider 38 = .ok (.goto 4, 3) := by decide +kernel
theorem dX5_hider_41 : decode cX5_hider 41 = .ok (.iconst 0, 1) := by decide +kernel
theorem dX5_hider_42 : decode cX5_hider 42 = .ok (.ireturn, 1) := by decide +kernel
theorem dX5_hasNumber_0 : decode cX5_hasNumber 0 = .ok (.iconst 0, 1) := by decide +kernel
theorem dX5_hasNumber_1 : decode cX5_hasNumber 1 = .ok (.istore_n 3, 1) := by decide +kernel
theorem dX5_hasNumber_2 : decode cX5_hasNumber 2 = .ok (.iconst 0, 1) := by decide +kernel
theorem dX5_hasNumber_3 : decode cX5_hasNumber 3 = .ok (.istore 4, 2) := by decide +kernel
theorem dX5_hasNumber_5 : decode cX5_hasNumber 5 = .ok (.iload 4, 2) := by decide +kernel
theorem dX5_hasNumber_7 : decode cX5_hasNumber 7 = .ok (.aload_n 0, 1) := by decide +kernel
theorem dX5_hasNumber_8 : decode cX5_hasNumber 8 = .ok (.getfield 26, 3) := by decide +kernel
theorem dX5_hasNumber_11 : decode cX5_hasNumber 11 = .ok (.iload_n 1, 1) := by decide +kernel
theorem dX5_hasNumber_12 : decode cX5_hasNumber 12 = .ok (.iaload, 1) := by decide +kernel
theorem dX5_hasNumber_13 : decode cX5_hasNumber 13 = .ok (.if_icmp .ge 46, 3) := by decide +kernel
theorem dX5_hasNumber_16 : decode cX5_hasNumber 16 = .ok (.iload_n 3, 1) := by decide +kernel
theorem dX5_hasNumber_17 : decode cX5_hasNumber 17 = .ok (.ifCond .ne 30, 3) := by decide +kernel
theorem dX5_hasNumber_20 : decode cX5_hasNumber 20 = .ok (.aload_n 0, 1) := by decide +kernel
theorem dX5_hasNumber_21 : decode cX5_hasNumber 21 = .ok (.getfield 7, 3) := by decide +kernel
theorem dX5_hasNumber_24 : decode cX5_hasNumber 24 = .ok (.bipush 10, 2) := by decide +kernel
theorem dX5_hasNumber_26 : decode cX5_hasNumber 26 = .ok (.iload_n 1, 1) := by decide +kernel
theorem dX5_hasNumber_27 : decode cX5_hasNumber 27 = .ok (.imul, 1) := by decide +kernel
theorem dX5_hasNumber_28 : decode cX5_hasNumber 28 = .ok (.iload 4, 2) := by decide +kernel
theorem dX5_hasNumber_30 : decode cX5_hasNumber 30 = .ok (.iadd, 1) := by decide +kernel
theorem dX5_hasNumber_31 : decode cX5_hasNumber 31 = .ok (.iaload, 1) := by decide +kernel
theorem dX5_hasNumber_32 : decode cX5_hasNumber 32 = .ok (.iload_n 2, 1) := by decide +kernel
theorem dX5_hasNumber_33 : decode cX5_hasNumber 33 = .ok (.if_icmp .ne 18, 3) := by decide +kernel
theorem dX5_hasNumber_36 : decode cX5_hasNumber 36 = .ok (.aload_n 0, 1) := by decide +kernel
theorem dX5_hasNumber_37 : decode cX5_hasNumber 37 = .ok (.iload_n 1, 1) := by decide +kernel
theorem dX5_hasNumber_38 : decode cX5_hasNumber 38 = .ok (.iload 4, 2) := by decide +kernel
theorem dX5_hasNumber_40 : decode cX5_hasNumber 40 = .ok (.invokevirtual 75, 3) := by decide +kernel
theorem dX5_hasNumber_43 : decode cX5_hasNumber 43 = .ok (.iconst (-1), 1) := by decide +kernel
theorem dX5_hasNumber_44 : decode cX5_hasNumber 44 = .ok (.if_icmp .ne 7, 3) := by decide +kernel
theorem dX5_hasNumber_47 : decode cX5_hasNumber 47 = .ok (.iconst 1, 1) := by decide +kernel
theorem dX5_hasNumber_48 : decode cX5_hasNumber 48 = .ok (.goto 4, 3) := by decide +kernel
theorem dX5_hasNumber_51 : decode cX5_hasNumber 51 = .ok (.iconst 0, 1) := by decide +kernel
theorem dX5_hasNumber_52 : decode cX5_hasNumber 52 = .ok (.istore_n 3, 1) := by decide +kernel
theorem dX5_hasNumber_53 : decode cX5_hasNumber 53 = .ok (.iinc 4 1, 3) := by decide +kernel
theorem dX5_hasNumber_56 : decode cX5_hasNumber 56 = .ok (.goto (-51), 3) := by decide +kernel
theorem dX5_hasNumber_59 : decode cX5_hasNumber 59 = .ok (.iload_n 3, 1) := by decide +kernel
theorem dX5_hasNumber_60 : decode cX5_hasNumber 60 = .ok (.ireturn, 1) := by decide +kernel
theorem dX5_costOf_0 : decode cX5_costOf 0 = .ok (.iload_n 1, 1) := by decide +kernel
theorem dX5_costOf_1 : decode cX5_costOf 1 = .ok (.iload_n 2, 1) := by decide +kernel
theorem dX5_costOf_2 : decode cX5_costOf 2 = .ok (.if_icmp .le 7, 3) := by decide +kernel
theorem dX5_costOf_5 : decode cX5_costOf 5 = .ok (.iconst 0, 1) := by decide +kernel
theorem dX5_costOf_6 : decode cX5_costOf 6 = .ok (.goto 14, 3) := by decide +kernel
theorem dX5_costOf_9 : decode cX5_costOf 9 = .ok (.aload_n 0, 1) := by decide +kernel
theorem dX5_costOf_10 : decode cX5_costOf 10 = .ok (.getfield 38, 3) := by decide +kernel
theorem dX5_costOf_13 : decode cX5_costOf 13 = .ok (.bipush 10, 2) := by decide +kernel
theorem dX5_costOf_15 : decode cX5_costOf 15 = .ok (.iload_n 1, 1) := by decide +kernel
theorem dX5_costOf_16 : decode cX5_costOf 16 = .ok (.imul, 1) := by decide +kernel
theorem dX5_costOf_17 : decode cX5_costOf 17 = .ok (.iload_n 2, 1) := by decide +kernel
theorem dX5_costOf_18 : decode cX5_costOf 18 = .ok (.iadd, 1) := by decide +kernel
theorem dX5_costOf_19 : decode cX5_costOf 19 = .ok (.iaload, 1) := by decide +kernel
theorem dX5_costOf_20 : decode cX5_costOf 20 = .ok (.ireturn, 1) := by decide +kernel
theorem dX5_lay_0 : decode cX5_lay 0 = .ok (.aload_n 0, 1) := by decide +kernel
theorem dX5_lay_1 : decode cX5_lay 1 = .ok (.iconst 0, 1) := by decide +kernel
theorem dX5_lay_2 : decode cX5_lay 2 = .ok (.putfield 79, 3) := by decide +kernel
theorem dX5_lay_5 : decode cX5_lay 5 = .ok (.iconst 0, 1) := by decide +kernel
theorem dX5_lay_6 : decode cX5_lay 6 = .ok (.istore_n 2, 1) := by decide +kernel
theorem dX5_lay_7 : decode cX5_lay 7 = .ok (.iload_n 2, 1) := by decide +kernel
theorem dX5_lay_8 : decode cX5_lay 8 = .ok (.bipush 32, 2) := by decide +kernel
theorem dX5_lay_10 : decode cX5_lay 10 = .ok (.if_icmp .ge 38, 3) := by decide +kernel
theorem dX5_lay_13 : decode cX5_lay 13 = .ok (.aload_n 0, 1) := by decide +kernel
theorem dX5_lay_14 : decode cX5_lay 14 = .ok (.iload_n 1, 1) := by decide +kernel
theorem dX5_lay_15 : decode cX5_lay 15 = .ok (.iload_n 2, 1) := by decide +kernel
theorem dX5_lay_16 : decode cX5_lay 16 = .ok (.invokevirtual 82, 3) := by decide +kernel
theorem dX5_lay_19 : decode cX5_lay 19 = .ok (.ifCond .eq 23, 3) := by decide +kernel
theorem dX5_lay_22 : decode cX5_lay 22 = .ok (.aload_n 0, 1) := by decide +kernel
theorem dX5_lay_23 : decode cX5_lay 23 = .ok (.getfield 35, 3) := by decide +kernel
theorem dX5_lay_26 : decode cX5_lay 26 = .ok (.aload_n 0, 1) := by decide +kernel
theorem dX5_lay_27 : decode cX5_lay 27 = .ok (.getfield 79, 3) := by decide +kernel
theorem dX5_lay_30 : decode cX5_lay 30 = .ok (.iload_n 2, 1) := by decide +kernel
theorem dX5_lay_31 : decode cX5_lay 31 = .ok (.iastore, 1) := by decide +kernel
theorem dX5_lay_32 : decode cX5_lay 32 = .ok (.aload_n 0, 1) := by decide +kernel
theorem dX5_lay_33 : decode cX5_lay 33 = .ok (.dup, 1) := by decide +kernel
theorem dX5_lay_34 : decode cX5_lay 34 = .ok (.getfield 79, 3) := by decide +kernel
theorem dX5_lay_37 : decode cX5_lay 37 = .ok (.iconst 1, 1) := by decide +kernel
theorem dX5_lay_38 : decode cX5_lay 38 = .ok (.iadd, 1) := by decide +kernel
theorem dX5_lay_39 : decode cX5_lay 39 = .ok (.putfield 79, 3) := by decide +kernel
theorem dX5_lay_42 : decode cX5_lay 42 = .ok (.iinc 2 1, 3) := by decide +kernel
theorem dX5_lay_45 : decode cX5_lay 45 = .ok (.goto (-38), 3) := by decide +kernel
theorem dX5_lay_48 : decode cX5_lay 48 = .ok (.iconst 1, 1) := by decide +kernel
theorem dX5_lay_49 : decode cX5_lay 49 = .ok (.istore_n 2, 1) := by decide +kernel
theorem dX5_lay_50 : decode cX5_lay 50 = .ok (.iload_n 2, 1) := by decide +kernel
theorem dX5_lay_51 : decode cX5_lay 51 = .ok (.aload_n 0, 1) := by decide +kernel
theorem dX5_lay_52 : decode cX5_lay 52 = .ok (.getfield 79, 3) := by decide +kernel
theorem dX5_lay_55 : decode cX5_lay 55 = .ok (.if_icmp .gt 37, 3) := by decide +kernel
theorem dX5_lay_58 : decode cX5_lay 58 = .ok (.iconst 0, 1) := by decide +kernel
theorem dX5_lay_59 : decode cX5_lay 59 = .ok (.istore_n 3, 1) := by decide +kernel
theorem dX5_lay_60 : decode cX5_lay 60 = .ok (.iload_n 3, 1) := by decide +kernel
theorem dX5_lay_61 : decode cX5_lay 61 = .ok (.iload_n 2, 1) := by decide +kernel
theorem dX5_lay_62 : decode cX5_lay 62 = .ok (.iadd, 1) := by decide +kernel
theorem dX5_lay_63 : decode cX5_lay 63 = .ok (.aload_n 0, 1) := by decide +kernel
theorem dX5_lay_64 : decode cX5_lay 64 = .ok (.getfield 79, 3) := by decide +kernel
theorem dX5_lay_67 : decode cX5_lay 67 = .ok (.if_icmp .gt 19, 3) := by decide +kernel
theorem dX5_lay_70 : decode cX5_lay 70 = .ok (.aload_n 0, 1) := by decide +kernel
theorem dX5_lay_71 : decode cX5_lay 71 = .ok (.iload_n 3, 1) := by decide +kernel
theorem dX5_lay_72 : decode cX5_lay 72 = .ok (.iload_n 3, 1) := by decide +kernel
theorem dX5_lay_73 : decode cX5_lay 73 = .ok (.iload_n 2, 1) := by decide +kernel
theorem dX5_lay_74 : decode cX5_lay 74 = .ok (.iadd, 1) := by decide +kernel
theorem dX5_lay_75 : decode cX5_lay 75 = .ok (.iconst 1, 1) := by decide +kernel
theorem dX5_lay_76 : decode cX5_lay 76 = .ok (.isub, 1) := by decide +kernel
theorem dX5_lay_77 : decode cX5_lay 77 = .ok (.invokevirtual 85, 3) := by decide +kernel
theorem dX5_lay_80 : decode cX5_lay 80 = .ok (.iinc 3 1, 3) := by decide +kernel
theorem dX5_lay_83 : decode cX5_lay 83 = .ok (.goto (-23), 3) := by decide +kernel
theorem dX5_lay_86 : decode cX5_lay 86 = .ok (.iinc 2 1, 3) := by decide +kernel
theorem dX5_lay_89 : decode cX5_lay 89 = .ok (.goto (-39), 3) := by decide +kernel
theorem dX5_lay_92 : decode cX5_lay 92 = .ok (.return_, 1) := by decide +kernel
theorem dX5_layPart_0 : decode cX5_layPart 0 = .ok (.iconst 0, 1) := by decide +kernel
theorem dX5_layPart_1 : decode cX5_layPart 1 = .ok (.istore_n 3, 1) := by decide +kernel
theorem dX5_layPart_2 : decode cX5_layPart 2 = .ok (.iconst (-1), 1) := by decide +kernel
theorem dX5_layPart_3 : decode cX5_layPart 3 = .ok (.istore 4, 2) := by decide +kernel
theorem dX5_layPart_5 : decode cX5_layPart 5 = .ok (.iload_n 1, 1) := by decide +kernel
theorem dX5_layPart_6 : decode cX5_layPart 6 = .ok (.istore 5, 2) := by decide +kernel
theorem dX5_layPart_8 : decode cX5_layPart 8 = .ok (.iload 5, 2) := by decide +kernel
theorem dX5_layPart_10 : decode cX5_layPart 10 = .ok (.iload_n 2, 1) := by decide +kernel
theorem dX5_layPart_11 : decode cX5_layPart 11 = .ok (.if_icmp .gt 77, 3) := by decide +kernel
theorem dX5_layPart_14 : decode cX5_layPart 14 = .ok (.iload_n 3, 1) := by decide +kernel
theorem dX5_layPart_15 : decode cX5_layPart 15 = .ok (.aload_n 0, 1) := by decide +kernel
theorem dX5_layPart_16 : decode cX5_layPart 16 = .ok (.getfield 32, 3) := by decide +kernel
theorem dX5_layPart_19 : decode cX5_layPart 19 = .ok (.aload_n 0, 1) := by decide +kernel
theorem dX5_layPart_20 : decode cX5_layPart 20 = .ok (.getfield 35, 3) := by decide +kernel
theorem dX5_layPart_23 : decode cX5_layPart 23 = .ok (.iload 5, 2) := by decide +kernel
theorem dX5_layPart_25 : decode cX5_layPart 25 = .ok (.iaload, 1) := by decide +kernel
theorem dX5_layPart_26 : decode cX5_layPart 26 = .ok (.iaload, 1) := by decide +kernel
theorem dX5_layPart_27 : decode cX5_layPart 27 = .ok (.iconst 1, 1) := by decide +kernel
theorem dX5_layPart_28 : decode cX5_layPart 28 = .ok (.iadd, 1) := by decide +kernel
theorem dX5_layPart_29 : decode cX5_layPart 29 = .ok (.iadd, 1) := by decide +kernel
theorem dX5_layPart_30 : decode cX5_layPart 30 = .ok (.istore_n 3, 1) := by decide +kernel
theorem dX5_layPart_31 : decode cX5_layPart 31 = .ok (.aload_n 0, 1) := by decide +kernel
theorem dX5_layPart_32 : decode cX5_layPart 32 = .ok (.iload_n 1, 1) := by decide +kernel
theorem dX5_layPart_33 : decode cX5_layPart 33 = .ok (.iload 5, 2) := by decide +kernel
theorem dX5_layPart_35 : decode cX5_layPart 35 = .ok (.iconst 1, 1) := by decide +kernel
theorem dX5_layPart_36 : decode cX5_layPart 36 = .ok (.isub, 1) := by decide +kernel
theorem dX5_layPart_37 : decode cX5_layPart 37 = .ok (.invokevirtual 89, 3) := by decide +kernel
end
section
theorem dX5_layPart_40 : decode cX5_layPart 40 = .ok (.aload_n 0, 1) := by decide +kernel
theorem dX5_layPart_41 : decode cX5_layPart 41 = .ok (.iload 5, 2) := by decide +kernel
theorem dX5_layPart_43 : decode cX5_layPart 43 = .ok (.iconst 1, 1) := by decide +kernel
theorem dX5_layPart_44 : decode cX5_layPart 44 = .ok (.iadd, 1) := by decide +kernel
theorem dX5_layPart_45 : decode cX5_layPart 45 = .ok (.iload_n 2, 1) := by decide +kernel
theorem dX5_layPart_46 : decode cX5_layPart 46 = .ok (.invokevirtual 89, 3) := by decide +kernel
theorem dX5_layPart_49 : decode cX5_layPart 49 = .ok (.iadd, 1) := by decide +kernel
theorem dX5_layPart_50 : decode cX5_layPart 50 = .ok (.istore 6, 2) := by decide +kernel
theorem dX5_layPart_52 : decode cX5_layPart 52 = .ok (.iload 4, 2) := by decide +kernel
theorem dX5_layPart_54 : decode cX5_layPart 54 = .ok (.iconst (-1), 1) := by decide +kernel
theorem dX5_layPart_55 : decode cX5_layPart 55 = .ok (.if_icmp .eq 10, 3) := by decide +kernel
theorem dX5_layPart_58 : decode cX5_layPart 58 = .ok (.iload 6, 2) := by decide +kernel
theorem dX5_layPart_60 : decode cX5_layPart 60 = .ok (.iload 4, 2) := by decide +kernel
theorem dX5_layPart_62 : decode cX5_layPart 62 = .ok (.if_icmp .ge 20, 3) := by decide +kernel
theorem dX5_layPart_65 : decode cX5_layPart 65 = .ok (.iload 6, 2) := by decide +kernel
theorem dX5_layPart_67 : decode cX5_layPart 67 = .ok (.istore 4, 2) := by decide +kernel
theorem dX5_layPart_69 : decode cX5_layPart 69 = .ok (.aload_n 0, 1) := by decide +kernel
theorem dX5_layPart_70 : decode cX5_layPart 70 = .ok (.getfield 41, 3) := by decide +kernel
theorem dX5_layPart_73 : decode cX5_layPart 73 = .ok (.bipush 10, 2) := by decide +kernel
theorem dX5_layPart_75 : decode cX5_layPart 75 = .ok (.iload_n 1, 1) := by decide +kernel
theorem dX5_layPart_76 : decode cX5_layPart 76 = .ok (.imul, 1) := by decide +kernel
theorem dX5_layPart_77 : decode cX5_layPart 77 = .ok (.iload_n 2, 1) := by decide +kernel
theorem dX5_layPart_78 : decode cX5_layPart 78 = .ok (.iadd, 1) := by decide +kernel
theorem dX5_layPart_79 : decode cX5_layPart 79 = .ok (.iload 5, 2) := by decide +kernel
theorem dX5_layPart_81 : decode cX5_layPart 81 = .ok (.iastore, 1) := by decide +kernel
theorem dX5_layPart_82 : decode cX5_layPart 82 = .ok (.iinc 5 1, 3) := by decide +kernel
theorem dX5_layPart_85 : decode cX5_layPart 85 = .ok (.goto (-77), 3) := by decide +kernel
theorem dX5_layPart_88 : decode cX5_layPart 88 = .ok (.aload_n 0, 1) := by decide +kernel
theorem dX5_layPart_89 : decode cX5_layPart 89 = .ok (.getfield 38, 3) := by decide +kernel
theorem dX5_layPart_92 : decode cX5_layPart 92 = .ok (.bipush 10, 2) := by decide +kernel
theorem dX5_layPart_94 : decode cX5_layPart 94 = .ok (.iload_n 1, 1) := by decide +kernel
theorem dX5_layPart_95 : decode cX5_layPart 95 = .ok (.imul, 1) := by decide +kernel
theorem dX5_layPart_96 : decode cX5_layPart 96 = .ok (.iload_n 2, 1) := by decide +kernel
theorem dX5_layPart_97 : decode cX5_layPart 97 = .ok (.iadd, 1) := by decide +kernel
theorem dX5_layPart_98 : decode cX5_layPart 98 = .ok (.iload 4, 2) := by decide +kernel
theorem dX5_layPart_100 : decode cX5_layPart 100 = .ok (.iload_n 3, 1) := by decide +kernel
theorem dX5_layPart_101 : decode cX5_layPart 101 = .ok (.iadd, 1) := by decide +kernel
theorem dX5_layPart_102 : decode cX5_layPart 102 = .ok (.iastore, 1) := by decide +kernel
theorem dX5_layPart_103 : decode cX5_layPart 103 = .ok (.return_, 1) := by decide +kernel
theorem dX5_testsOf_0 : decode cX5_testsOf 0 = .ok (.iconst 0, 1) := by decide +kernel
theorem dX5_testsOf_1 : decode cX5_testsOf 1 = .ok (.istore_n 2, 1) := by decide +kernel
theorem dX5_testsOf_2 : decode cX5_testsOf 2 = .ok (.aload_n 0, 1) := by decide +kernel
theorem dX5_testsOf_3 : decode cX5_testsOf 3 = .ok (.getfield 79, 3) := by decide +kernel
theorem dX5_testsOf_6 : decode cX5_testsOf 6 = .ok (.iconst 1, 1) := by decide +kernel
theorem dX5_testsOf_7 : decode cX5_testsOf 7 = .ok (.isub, 1) := by decide +kernel
theorem dX5_testsOf_8 : decode cX5_testsOf 8 = .ok (.istore_n 3, 1) := by decide +kernel
theorem dX5_testsOf_9 : decode cX5_testsOf 9 = .ok (.iconst 0, 1) := by decide +kernel
theorem dX5_testsOf_10 : decode cX5_testsOf 10 = .ok (.istore 4, 2) := by decide +kernel
theorem dX5_testsOf_12 : decode cX5_testsOf 12 = .ok (.iload_n 2, 1) := by decide +kernel
theorem dX5_testsOf_13 : decode cX5_testsOf 13 = .ok (.iload_n 3, 1) := by decide +kernel
theorem dX5_testsOf_14 : decode cX5_testsOf 14 = .ok (.if_icmp .gt 60, 3) := by decide +kernel
theorem dX5_testsOf_17 : decode cX5_testsOf 17 = .ok (.aload_n 0, 1) := by decide +kernel
theorem dX5_testsOf_18 : decode cX5_testsOf 18 = .ok (.getfield 41, 3) := by decide +kernel
theorem dX5_testsOf_21 : decode cX5_testsOf 21 = .ok (.bipush 10, 2) := by decide +kernel
theorem dX5_testsOf_23 : decode cX5_testsOf 23 = .ok (.iload_n 2, 1) := by decide +kernel
theorem dX5_testsOf_24 : decode cX5_testsOf 24 = .ok (.imul, 1) := by decide +kernel
theorem dX5_testsOf_25 : decode cX5_testsOf 25 = .ok (.iload_n 3, 1) := by decide +kernel
theorem dX5_testsOf_26 : decode cX5_testsOf 26 = .ok (.iadd, 1) := by decide +kernel
theorem dX5_testsOf_27 : decode cX5_testsOf 27 = .ok (.iaload, 1) := by decide +kernel
theorem dX5_testsOf_28 : decode cX5_testsOf 28 = .ok (.istore 5, 2) := by decide +kernel
theorem dX5_testsOf_30 : decode cX5_testsOf 30 = .ok (.iinc 4 1, 3) := by decide +kernel
theorem dX5_testsOf_33 : decode cX5_testsOf 33 = .ok (.aload_n 0, 1) := by decide +kernel
theorem dX5_testsOf_34 : decode cX5_testsOf 34 = .ok (.getfield 35, 3) := by decide +kernel
theorem dX5_testsOf_37 : decode cX5_testsOf 37 = .ok (.iload 5, 2) := by decide +kernel
theorem dX5_testsOf_39 : decode cX5_testsOf 39 = .ok (.iaload, 1) := by decide +kernel
theorem dX5_testsOf_40 : decode cX5_testsOf 40 = .ok (.iload_n 1, 1) := by decide +kernel
theorem dX5_testsOf_41 : decode cX5_testsOf 41 = .ok (.if_icmp .ne 6, 3) := by decide +kernel
theorem dX5_testsOf_44 : decode cX5_testsOf 44 = .ok (.iload 4, 2) := by decide +kernel
theorem dX5_testsOf_46 : decode cX5_testsOf 46 = .ok (.ireturn, 1) := by decide +kernel
theorem dX5_testsOf_47 : decode cX5_testsOf 47 = .ok (.iload_n 1, 1) := by decide +kernel
theorem dX5_testsOf_48 : decode cX5_testsOf 48 = .ok (.aload_n 0, 1) := by decide +kernel
theorem dX5_testsOf_49 : decode cX5_testsOf 49 = .ok (.getfield 35, 3) := by decide +kernel
theorem dX5_testsOf_52 : decode cX5_testsOf 52 = .ok (.iload 5, 2) := by decide +kernel
theorem dX5_testsOf_54 : decode cX5_testsOf 54 = .ok (.iaload, 1) := by decide +kernel
theorem dX5_testsOf_55 : decode cX5_testsOf 55 = .ok (.if_icmp .ge 11, 3) := by decide +kernel
theorem dX5_testsOf_58 : decode cX5_testsOf 58 = .ok (.iload 5, 2) := by decide +kernel
theorem dX5_testsOf_60 : decode cX5_testsOf 60 = .ok (.iconst 1, 1) := by decide +kernel
theorem dX5_testsOf_61 : decode cX5_testsOf 61 = .ok (.isub, 1) := by decide +kernel
theorem dX5_testsOf_62 : decode cX5_testsOf 62 = .ok (.istore_n 3, 1) := by decide +kernel
theorem dX5_testsOf_63 : decode cX5_testsOf 63 = .ok (.goto 8, 3) := by decide +kernel
theorem dX5_testsOf_66 : decode cX5_testsOf 66 = .ok (.iload 5, 2) := by decide +kernel
theorem dX5_testsOf_68 : decode cX5_testsOf 68 = .ok (.iconst 1, 1) := by decide +kernel
theorem dX5_testsOf_69 : decode cX5_testsOf 69 = .ok (.iadd, 1) := by decide +kernel
theorem dX5_testsOf_70 : decode cX5_testsOf 70 = .ok (.istore_n 2, 1) := by decide +kernel
theorem dX5_testsOf_71 : decode cX5_testsOf 71 = .ok (.goto (-59), 3) := by decide +kernel
theorem dX5_testsOf_74 : decode cX5_testsOf 74 = .ok (.iload 4, 2) := by decide +kernel
theorem dX5_testsOf_76 : decode cX5_testsOf 76 = .ok (.ireturn, 1) := by decide +kernel
theorem dX5_halvesOf_0 : decode cX5_halvesOf 0 = .ok (.lload_n 0, 1) := by decide +kernel
theorem dX5_halvesOf_1 : decode cX5_halvesOf 1 = .ok (.ldc2_w 92, 3) := by decide +kernel
theorem dX5_halvesOf_4 : decode cX5_halvesOf 4 = .ok (.land, 1) := by decide +kernel
theorem dX5_halvesOf_5 : decode cX5_halvesOf 5 = .ok (.lconst 0, 1) := by decide +kernel
theorem dX5_halvesOf_6 : decode cX5_halvesOf 6 = .ok (.lcmp, 1) := by decide +kernel
theorem dX5_halvesOf_7 : decode cX5_halvesOf 7 = .ok (.ifCond .eq 7, 3) := by decide +kernel
theorem dX5_halvesOf_10 : decode cX5_halvesOf 10 = .ok (.iconst 1, 1) := by decide +kernel
theorem dX5_halvesOf_11 : decode cX5_halvesOf 11 = .ok (.goto 4, 3) := by decide +kernel
theorem dX5_halvesOf_14 : decode cX5_halvesOf 14 = .ok (.iconst 0, 1) := by decide +kernel
theorem dX5_halvesOf_15 : decode cX5_halvesOf 15 = .ok (.lload_n 0, 1) := by decide +kernel
theorem dX5_halvesOf_16 : decode cX5_halvesOf 16 = .ok (.bipush 32, 2) := by decide +kernel
theorem dX5_halvesOf_18 : decode cX5_halvesOf 18 = .ok (.lushr, 1) := by decide +kernel
theorem dX5_halvesOf_19 : decode cX5_halvesOf 19 = .ok (.lconst 0, 1) := by decide +kernel
theorem dX5_halvesOf_20 : decode cX5_halvesOf 20 = .ok (.lcmp, 1) := by decide +kernel
theorem dX5_halvesOf_21 : decode cX5_halvesOf 21 = .ok (.ifCond .eq 7, 3) := by decide +kernel
theorem dX5_halvesOf_24 : decode cX5_halvesOf 24 = .ok (.iconst 1, 1) := by decide +kernel
theorem dX5_halvesOf_25 : decode cX5_halvesOf 25 = .ok (.goto 4, 3) := by decide +kernel
theorem dX5_halvesOf_28 : decode cX5_halvesOf 28 = .ok (.iconst 0, 1) := by decide +kernel
theorem dX5_halvesOf_29 : decode cX5_halvesOf 29 = .ok (.iadd, 1) := by decide +kernel
theorem dX5_halvesOf_30 : decode cX5_halvesOf 30 = .ok (.ireturn, 1) := by decide +kernel
theorem dX5_halves_0 : decode cX5_halves 0 = .ok (.iconst 0, 1) := by decide +kernel
theorem dX5_halves_1 : decode cX5_halves 1 = .ok (.istore_n 3, 1) := by decide +kernel
theorem dX5_halves_2 : decode cX5_halves 2 = .ok (.iconst 0, 1) := by decide +kernel
theorem dX5_halves_3 : decode cX5_halves 3 = .ok (.istore 4, 2) := by decide +kernel
theorem dX5_halves_5 : decode cX5_halves 5 = .ok (.iload 4, 2) := by decide +kernel
theorem dX5_halves_7 : decode cX5_halves 7 = .ok (.aload_n 0, 1) := by decide +kernel
theorem dX5_halves_8 : decode cX5_halves 8 = .ok (.getfield 26, 3) := by decide +kernel
theorem dX5_halves_11 : decode cX5_halves 11 = .ok (.iload_n 1, 1) := by decide +kernel
theorem dX5_halves_12 : decode cX5_halves 12 = .ok (.iaload, 1) := by decide +kernel
theorem dX5_halves_13 : decode cX5_halves 13 = .ok (.if_icmp .ge 67, 3) := by decide +kernel
theorem dX5_halves_16 : decode cX5_halves 16 = .ok (.bipush 10, 2) := by decide +kernel
theorem dX5_halves_18 : decode cX5_halves 18 = .ok (.iload_n 1, 1) := by decide +kernel
theorem dX5_halves_19 : decode cX5_halves 19 = .ok (.imul, 1) := by decide +kernel
theorem dX5_halves_20 : decode cX5_halves 20 = .ok (.iload 4, 2) := by decide +kernel
theorem dX5_halves_22 : decode cX5_halves 22 = .ok (.iadd, 1) := by decide +kernel
theorem dX5_halves_23 : decode cX5_halves 23 = .ok (.istore 5, 2) := by decide +kernel
theorem dX5_halves_25 : decode cX5_halves 25 = .ok (.aload_n 0, 1) := by decide +kernel
theorem dX5_halves_26 : decode cX5_halves 26 = .ok (.getfield 7, 3) := by decide +kernel
theorem dX5_halves_29 : decode cX5_halves 29 = .ok (.iload 5, 2) := by decide +kernel
theorem dX5_halves_31 : decode cX5_halves 31 = .ok (.iaload, 1) := by decide +kernel
theorem dX5_halves_32 : decode cX5_halves 32 = .ok (.iload_n 2, 1) := by decide +kernel
theorem dX5_halves_33 : decode cX5_halves 33 = .ok (.if_icmp .ne 41, 3) := by decide +kernel
theorem dX5_halves_36 : decode cX5_halves 36 = .ok (.aload_n 0, 1) := by decide +kernel
theorem dX5_halves_37 : decode cX5_halves 37 = .ok (.iload_n 1, 1) := by decide +kernel
theorem dX5_halves_38 : decode cX5_halves 38 = .ok (.iload 4, 2) := by decide +kernel
theorem dX5_halves_40 : decode cX5_halves 40 = .ok (.invokevirtual 75, 3) := by decide +kernel
theorem dX5_halves_43 : decode cX5_halves 43 = .ok (.iconst (-1), 1) := by decide +kernel
theorem dX5_halves_44 : decode cX5_halves 44 = .ok (.if_icmp .ne 30, 3) := by decide +kernel
theorem dX5_halves_47 : decode cX5_halves 47 = .ok (.iload_n 3, 1) := by decide +kernel
theorem dX5_halves_48 : decode cX5_halves 48 = .ok (.aload_n 0, 1) := by decide +kernel
theorem dX5_halves_49 : decode cX5_halves 49 = .ok (.getfield 16, 3) := by decide +kernel
theorem dX5_halves_52 : decode cX5_halves 52 = .ok (.iload 5, 2) := by decide +kernel
theorem dX5_halves_54 : decode cX5_halves 54 = .ok (.laload, 1) := by decide +kernel
theorem dX5_halves_55 : decode cX5_halves 55 = .ok (.invokestatic 94, 3) := by decide +kernel
theorem dX5_halves_58 : decode cX5_halves 58 = .ok (.iadd, 1) := by decide +kernel
theorem dX5_halves_59 : decode cX5_halves 59 = .ok (.istore_n 3, 1) := by decide +kernel
theorem dX5_halves_60 : decode cX5_halves 60 = .ok (.aload_n 0, 1) := by decide +kernel
theorem dX5_halves_61 : decode cX5_halves 61 = .ok (.getfield 16, 3) := by decide +kernel
theorem dX5_halves_64 : decode cX5_halves 64 = .ok (.iload 5, 2) := by decide +kernel
theorem dX5_halves_66 : decode cX5_halves 66 = .ok (.laload, 1) := by decide +kernel
theorem dX5_halves_67 : decode cX5_halves 67 = .ok (.lconst 0, 1) := by decide +kernel
theorem dX5_halves_68 : decode cX5_halves 68 = .ok (.lcmp, 1) := by decide +kernel
theorem dX5_halves_69 : decode cX5_halves 69 = .ok (.ifCond .ne 5, 3) := by decide +kernel
theorem dX5_halves_72 : decode cX5_halves 72 = .ok (.iload_n 3, 1) := by decide +kernel
theorem dX5_halves_73 : decode cX5_halves 73 = .ok (.ireturn, 1) := by decide +kernel
theorem dX5_halves_74 : decode cX5_halves 74 = .ok (.iinc 4 1, 3) := by decide +kernel
theorem dX5_halves_77 : decode cX5_halves 77 = .ok (.goto (-72), 3) := by decide +kernel
theorem dX5_halves_80 : decode cX5_halves 80 = .ok (.iload_n 3, 1) := by decide +kernel
theorem dX5_halves_81 : decode cX5_halves 81 = .ok (.ireturn, 1) := by decide +kernel
theorem dX5_worstOf_0 : decode cX5_worstOf 0 = .ok (.aload_n 0, 1) := by decide +kernel
theorem dX5_worstOf_1 : decode cX5_worstOf 1 = .ok (.iload_n 1, 1) := by decide +kernel
theorem dX5_worstOf_2 : decode cX5_worstOf 2 = .ok (.invokevirtual 98, 3) := by decide +kernel
theorem dX5_worstOf_5 : decode cX5_worstOf 5 = .ok (.iconst 0, 1) := by decide +kernel
theorem dX5_worstOf_6 : decode cX5_worstOf 6 = .ok (.istore_n 2, 1) := by decide +kernel
theorem dX5_worstOf_7 : decode cX5_worstOf 7 = .ok (.iconst 0, 1) := by decide +kernel
theorem dX5_worstOf_8 : decode cX5_worstOf 8 = .ok (.istore_n 3, 1) := by decide +kernel
theorem dX5_worstOf_9 : decode cX5_worstOf 9 = .ok (.iload_n 3, 1) := by decide +kernel
theorem dX5_worstOf_10 : decode cX5_worstOf 10 = .ok (.bipush 32, 2) := by decide +kernel
theorem dX5_worstOf_12 : decode cX5_worstOf 12 = .ok (.if_icmp .ge 36, 3) := by decide +kernel
theorem dX5_worstOf_15 : decode cX5_worstOf 15 = .ok (.aload_n 0, 1) := by decide +kernel
theorem dX5_worstOf_16 : decode cX5_worstOf 16 = .ok (.iload_n 3, 1) := by decide +kernel
theorem dX5_worstOf_17 : decode cX5_worstOf 17 = .ok (.invokevirtual 102, 3) := by decide +kernel
theorem dX5_worstOf_20 : decode cX5_worstOf 20 = .ok (.aload_n 0, 1) := by decide +kernel
theorem dX5_worstOf_21 : decode cX5_worstOf 21 = .ok (.iload_n 1, 1) := by decide +kernel
theorem dX5_worstOf_22 : decode cX5_worstOf 22 = .ok (.iload_n 3, 1) := by decide +kernel
theorem dX5_worstOf_23 : decode cX5_worstOf 23 = .ok (.invokevirtual 106, 3) := by decide +kernel
theorem dX5_worstOf_26 : decode cX5_worstOf 26 = .ok (.iadd, 1) := by decide +kernel
theorem dX5_worstOf_27 : decode cX5_worstOf 27 = .ok (.istore 4, 2) := by decide +kernel
theorem dX5_worstOf_29 : decode cX5_worstOf 29 = .ok (.iload 4, 2) := by decide +kernel
theorem dX5_worstOf_31 : decode cX5_worstOf 31 = .ok (.iload_n 2, 1) := by decide +kernel
theorem dX5_worstOf_32 : decode cX5_worstOf 32 = .ok (.if_icmp .le 8, 3) := by decide +kernel
theorem dX5_worstOf_35 : decode cX5_worstOf 35 = .ok (.iload 4, 2) := by decide +kernel
theorem dX5_worstOf_37 : decode cX5_worstOf 37 = .ok (.goto 4, 3) := by decide +kernel
theorem dX5_worstOf_40 : decode cX5_worstOf 40 = .ok (.iload_n 2, 1) := by decide +kernel
theorem dX5_worstOf_41 : decode cX5_worstOf 41 = .ok (.istore_n 2, 1) := by decide +kernel
theorem dX5_worstOf_42 : decode cX5_worstOf 42 = .ok (.iinc 3 1, 3) := by decide +kernel
theorem dX5_worstOf_45 : decode cX5_worstOf 45 = .ok (.goto (-36), 3) := by decide +kernel
theorem dX5_worstOf_48 : decode cX5_worstOf 48 = .ok (.iload_n 2, 1) := by decide +kernel
theorem dX5_worstOf_49 : decode cX5_worstOf 49 = .ok (.ireturn, 1) := by decide +kernel
theorem dX5_compile_0 : decode cX5_compile 0 = .ok (.aload_n 0, 1) := by decide +kernel
theorem dX5_compile_1 : decode cX5_compile 1 = .ok (.iload_n 1, 1) := by decide +kernel
theorem dX5_compile_2 : decode cX5_compile 2 = .ok (.iconst 0, 1) := by decide +kernel
theorem dX5_compile_3 : decode cX5_compile 3 = .ok (.sipush 1000, 3) := by decide +kernel
theorem dX5_compile_6 : decode cX5_compile 6 = .ok (.invokestatic 48, 3) := by decide +kernel
theorem dX5_compile_9 : decode cX5_compile 9 = .ok (.ifCond .eq 7, 3) := by decide +kernel
theorem dX5_compile_12 : decode cX5_compile 12 = .ok (.iconst 0, 1) := by decide +kernel
theorem dX5_compile_13 : decode cX5_compile 13 = .ok (.goto 4, 3) := by decide +kernel
theorem dX5_compile_16 : decode cX5_compile 16 = .ok (.iconst 1, 1) := by decide +kernel
theorem dX5_compile_17 : decode cX5_compile 17 = .ok (.invokevirtual 59, 3) := by decide +kernel
theorem dX5_compile_20 : decode cX5_compile 20 = .ok (.ifCond .ne 5, 3) := by decide +kernel
theorem dX5_compile_23 : decode cX5_compile 23 = .ok (.iconst 0, 1) := by decide +kernel
theorem dX5_compile_24 : decode cX5_compile 24 = .ok (.ireturn, 1) := by decide +kernel
theorem dX5_compile_25 : decode cX5_compile 25 = .ok (.iconst 0, 1) := by decide +kernel
theorem dX5_compile_26 : decode cX5_compile 26 = .ok (.istore_n 2, 1) := by decide +kernel
theorem dX5_compile_27 : decode cX5_compile 27 = .ok (.iconst 0, 1) := by decide +kernel
theorem dX5_compile_28 : decode cX5_compile 28 = .ok (.istore_n 3, 1) := by decide +kernel
theorem dX5_compile_29 : decode cX5_compile 29 = .ok (.iload_n 3, 1) := by decide +kernel
theorem dX5_compile_30 : decode cX5_compile 30 = .ok (.iconst 4, 1) := by decide +kernel
theorem dX5_compile_31 : decode cX5_compile 31 = .ok (.if_icmp .ge 17, 3) := by decide +kernel
theorem dX5_compile_34 : decode cX5_compile 34 = .ok (.iload_n 2, 1) := by decide +kernel
theorem dX5_compile_35 : decode cX5_compile 35 = .ok (.aload_n 0, 1) := by decide +kernel
theorem dX5_compile_36 : decode cX5_compile 36 = .ok (.iload_n 3, 1) := by decide +kernel
theorem dX5_compile_37 : decode cX5_compile 37 = .ok (.invokevirtual 109, 3) := by decide +kernel
theorem dX5_compile_40 : decode cX5_compile 40 = .ok (.iadd, 1) := by decide +kernel
theorem dX5_compile_41 : decode cX5_compile 41 = .ok (.istore_n 2, 1) := by decide +kernel
theorem dX5_compile_42 : decode cX5_compile 42 = .ok (.iinc 3 1, 3) := by decide +kernel
theorem dX5_compile_45 : decode cX5_compile 45 = .ok (.goto (-16), 3) := by decide +kernel
theorem dX5_compile_48 : decode cX5_compile 48 = .ok (.aload_n 0, 1) := by decide +kernel
theorem dX5_compile_49 : decode cX5_compile 49 = .ok (.aload_n 0, 1) := by decide +kernel
theorem dX5_compile_50 : decode cX5_compile 50 = .ok (.getfield 62, 3) := by decide +kernel
theorem dX5_compile_53 : decode cX5_compile 53 = .ok (.ifCond .ne 8, 3) := by decide +kernel
theorem dX5_compile_56 : decode cX5_compile 56 = .ok (.iload_n 2, 1) := by decide +kernel
theorem dX5_compile_57 : decode cX5_compile 57 = .ok (.iload_n 1, 1) := by decide +kernel
theorem dX5_compile_58 : decode cX5_compile 58 = .ok (.if_icmp .gt 7, 3) := by decide +kernel
theorem dX5_compile_61 : decode cX5_compile 61 = .ok (.iconst 1, 1) := by decide +kernel
theorem dX5_compile_62 : decode cX5_compile 62 = .ok (.goto 4, 3) := by decide +kernel
theorem dX5_compile_65 : decode cX5_compile 65 = .ok (.iconst 0, 1) := by decide +kernel
theorem dX5_compile_66 : decode cX5_compile 66 = .ok (.putfield 62, 3) := by decide +kernel
theorem dX5_compile_69 : decode cX5_compile 69 = .ok (.iload_n 2, 1) := by decide +kernel
theorem dX5_compile_70 : decode cX5_compile 70 = .ok (.iload_n 1, 1) := by decide +kernel
theorem dX5_compile_71 : decode cX5_compile 71 = .ok (.if_icmp .gt 7, 3) := by decide +kernel
theorem dX5_compile_74 : decode cX5_compile 74 = .ok (.iload_n 2, 1) := by decide +kernel
theorem dX5_compile_75 : decode cX5_compile 75 = .ok (.goto 4, 3) := by decide +kernel
theorem dX5_compile_78 : decode cX5_compile 78 = .ok (.iconst (-1), 1) := by decide +kernel
theorem dX5_compile_79 : decode cX5_compile 79 = .ok (.ireturn, 1) := by decide +kernel
theorem dX5_isCompiled_0 : decode cX5_isCompiled 0 = .ok (.aload_n 0, 1) := by decide +kernel
theorem dX5_isCompiled_1 : decode cX5_isCompiled 1 = .ok (.iconst 0, 1) := by decide +kernel
theorem dX5_isCompiled_2 : decode cX5_isCompiled 2 = .ok (.putfield 44, 3) := by decide +kernel
theorem dX5_isCompiled_5 : decode cX5_isCompiled 5 = .ok (.aload_n 0, 1) := by decide +kernel
theorem dX5_isCompiled_6 : decode cX5_isCompiled 6 = .ok (.getfield 62, 3) := by decide +kernel
theorem dX5_isCompiled_9 : decode cX5_isCompiled 9 = .ok (.ireturn, 1) := by decide +kernel
theorem dX5_test_0 : decode cX5_test 0 = .ok (.iload_n 1, 1) := by decide +kernel
theorem dX5_test_1 : decode cX5_test 1 = .ok (.invokestatic 52, 3) := by decide +kernel
theorem dX5_test_4 : decode cX5_test 4 = .ok (.ifCond .eq 12, 3) := by decide +kernel
theorem dX5_test_7 : decode cX5_test 7 = .ok (.iload_n 2, 1) := by decide +kernel
theorem dX5_test_8 : decode cX5_test 8 = .ok (.iconst 1, 1) := by decide +kernel
theorem dX5_test_9 : decode cX5_test 9 = .ok (.if_icmp .lt 7, 3) := by decide +kernel
theorem dX5_test_12 : decode cX5_test 12 = .ok (.iconst 1, 1) := by decide +kernel
theorem dX5_test_13 : decode cX5_test 13 = .ok (.goto 4, 3) := by decide +kernel
theorem dX5_test_16 : decode cX5_test 16 = .ok (.iconst 0, 1) := by decide +kernel
theorem dX5_test_17 : decode cX5_test 17 = .ok (.istore_n 3, 1) := by decide +kernel
theorem dX5_test_18 : decode cX5_test 18 = .ok (.aload_n 0, 1) := by decide +kernel
theorem dX5_test_19 : decode cX5_test 19 = .ok (.iload_n 3, 1) := by decide +kernel
theorem dX5_test_20 : decode cX5_test 20 = .ok (.ifCond .ne 7, 3) := by decide +kernel
theorem dX5_test_23 : decode cX5_test 23 = .ok (.iconst 1, 1) := by decide +kernel
theorem dX5_test_24 : decode cX5_test 24 = .ok (.goto 15, 3) := by decide +kernel
theorem dX5_test_27 : decode cX5_test 27 = .ok (.aload_n 0, 1) := by decide +kernel
theorem dX5_test_28 : decode cX5_test 28 = .ok (.getfield 62, 3) := by decide +kernel
theorem dX5_test_31 : decode cX5_test 31 = .ok (.ifCond .eq 7, 3) := by decide +kernel
theorem dX5_test_34 : decode cX5_test 34 = .ok (.iconst 0, 1) := by decide +kernel
theorem dX5_test_35 : decode cX5_test 35 = .ok (.goto 4, 3) := by decide +kernel
theorem dX5_test_38 : decode cX5_test 38 = .ok (.iconst 2, 1) := by decide +kernel
theorem dX5_test_39 : decode cX5_test 39 = .ok (.invokevirtual 59, 3) := by decide +kernel
theorem dX5_test_42 : decode cX5_test 42 = .ok (.ifCond .ne 5, 3) := by decide +kernel
theorem dX5_test_45 : decode cX5_test 45 = .ok (.iconst 0, 1) := by decide +kernel
theorem dX5_test_46 : decode cX5_test 46 = .ok (.ireturn, 1) := by decide +kernel
theorem dX5_test_47 : decode cX5_test 47 = .ok (.aload_n 0, 1) := by decide +kernel
theorem dX5_test_48 : decode cX5_test 48 = .ok (.iload_n 1, 1) := by decide +kernel
theorem dX5_test_49 : decode cX5_test 49 = .ok (.invokevirtual 98, 3) := by decide +kernel
theorem dX5_test_52 : decode cX5_test 52 = .ok (.iconst 0, 1) := by decide +kernel
theorem dX5_test_53 : decode cX5_test 53 = .ok (.istore 4, 2) := by decide +kernel
theorem dX5_test_55 : decode cX5_test 55 = .ok (.aload_n 0, 1) := by decide +kernel
theorem dX5_test_56 : decode cX5_test 56 = .ok (.getfield 79, 3) := by decide +kernel
theorem dX5_test_59 : decode cX5_test 59 = .ok (.iconst 1, 1) := by decide +kernel
theorem dX5_test_60 : decode cX5_test 60 = .ok (.isub, 1) := by decide +kernel
theorem dX5_test_61 : decode cX5_test 61 = .ok (.istore 5, 2) := by decide +kernel
theorem dX5_test_63 : decode cX5_test 63 = .ok (.iload_n 2, 1) := by decide +kernel
theorem dX5_test_64 : decode cX5_test 64 = .ok (.istore 6, 2) := by decide +kernel
theorem dX5_test_66 : decode cX5_test 66 = .ok (.iload 6, 2) := by decide +kernel
theorem dX5_test_68 : decode cX5_test 68 = .ok (.iconst 1, 1) := by decide +kernel
theorem dX5_test_69 : decode cX5_test 69 = .ok (.if_icmp .le 71, 3) := by decide +kernel
theorem dX5_test_72 : decode cX5_test 72 = .ok (.iload 4, 2) := by decide +kernel
theorem dX5_test_74 : decode cX5_test 74 = .ok (.iload 5, 2) := by decide +kernel
theorem dX5_test_76 : decode cX5_test 76 = .ok (.if_icmp .gt 64, 3) := by decide +kernel
theorem dX5_test_79 : decode cX5_test 79 = .ok (.aload_n 0, 1) := by decide +kernel
theorem dX5_test_80 : decode cX5_test 80 = .ok (.getfield 41, 3) := by decide +kernel
theorem dX5_test_83 : decode cX5_test 83 = .ok (.bipush 10, 2) := by decide +kernel
theorem dX5_test_85 : decode cX5_test 85 = .ok (.iload 4, 2) := by decide +kernel
theorem dX5_test_87 : decode cX5_test 87 = .ok (.imul, 1) := by decide +kernel
theorem dX5_test_88 : decode cX5_test 88 = .ok (.iload 5, 2) := by decide +kernel
theorem dX5_test_90 : decode cX5_test 90 = .ok (.iadd, 1) := by decide +kernel
theorem dX5_test_91 : decode cX5_test 91 = .ok (.iaload, 1) := by decide +kernel
theorem dX5_test_92 : decode cX5_test 92 = .ok (.istore 7, 2) := by decide +kernel
theorem dX5_test_94 : decode cX5_test 94 = .ok (.iload 6, 2) := by decide +kernel
theorem dX5_test_96 : decode cX5_test 96 = .ok (.iconst 2, 1) := by decide +kernel
theorem dX5_test_97 : decode cX5_test 97 = .ok (.irem, 1) := by decide +kernel
theorem dX5_test_98 : decode cX5_test 98 = .ok (.ifCond .ne 10, 3) := by decide +kernel
theorem dX5_test_101 : decode cX5_test 101 = .ok (.iload 7, 2) := by decide +kernel
theorem dX5_test_103 : decode cX5_test 103 = .ok (.iconst 1, 1) := by decide +kernel
theorem dX5_test_104 : decode cX5_test 104 = .ok (.isub, 1) := by decide +kernel
theorem dX5_test_105 : decode cX5_test 105 = .ok (.goto 5, 3) := by decide +kernel
theorem dX5_test_108 : decode cX5_test 108 = .ok (.iload 5, 2) := by decide +kernel
theorem dX5_test_110 : decode cX5_test 110 = .ok (.istore 5, 2) := by decide +kernel
theorem dX5_test_112 : decode cX5_test 112 = .ok (.iload 6, 2) := by decide +kernel
theorem dX5_test_114 : decode cX5_test 114 = .ok (.iconst 2, 1) := by decide +kernel
theorem dX5_test_115 : decode cX5_test 115 = .ok (.irem, 1) := by decide +kernel
theorem dX5_test_116 : decode cX5_test 116 = .ok (.iconst 1, 1) := by decide +kernel
theorem dX5_test_117 : decode cX5_test 117 = .ok (.if_icmp .ne 10, 3) := by decide +kernel
theorem dX5_test_120 : decode cX5_test 120 = .ok (.iload 7, 2) := by decide +kernel
theorem dX5_test_122 : decode cX5_test 122 = .ok (.iconst 1, 1) := by decide +kernel
theorem dX5_test_123 : decode cX5_test 123 = .ok (.iadd, 1) := by decide +kernel
theorem dX5_test_124 : decode cX5_test 124 = .ok (.goto 5, 3) := by decide +kernel
theorem dX5_test_127 : decode cX5_test 127 = .ok (.iload 4, 2) := by decide +kernel
theorem dX5_test_129 : decode cX5_test 129 = .ok (.istore 4, 2) := by decide +kernel
theorem dX5_test_131 : decode cX5_test 131 = .ok (.iload 6, 2) := by decide +kernel
theorem dX5_test_133 : decode cX5_test 133 = .ok (.iconst 2, 1) := by decide +kernel
theorem dX5_test_134 : decode cX5_test 134 = .ok (.idiv, 1) := by decide +kernel
theorem dX5_test_135 : decode cX5_test 135 = .ok (.istore 6, 2) := by decide +kernel
theorem dX5_test_137 : decode cX5_test 137 = .ok (.goto (-71), 3) := by decide +kernel
theorem dX5_test_140 : decode cX5_test 140 = .ok (.iload 4, 2) := by decide +kernel
theorem dX5_test_142 : decode cX5_test 142 = .ok (.iload 5, 2) := by decide +kernel
theorem dX5_test_144 : decode cX5_test 144 = .ok (.if_icmp .gt 24, 3) := by decide +kernel
theorem dX5_test_147 : decode cX5_test 147 = .ok (.aload_n 0, 1) := by decide +kernel
theorem dX5_test_148 : decode cX5_test 148 = .ok (.getfield 35, 3) := by decide +kernel
theorem dX5_test_151 : decode cX5_test 151 = .ok (.aload_n 0, 1) := by decide +kernel
theorem dX5_test_152 : decode cX5_test 152 = .ok (.getfield 41, 3) := by decide +kernel
theorem dX5_test_155 : decode cX5_test 155 = .ok (.bipush 10, 2) := by decide +kernel
theorem dX5_test_157 : decode cX5_test 157 = .ok (.iload 4, 2) := by decide +kernel
theorem dX5_test_159 : decode cX5_test 159 = .ok (.imul, 1) := by decide +kernel
theorem dX5_test_160 : decode cX5_test 160 = .ok (.iload 5, 2) := by decide +kernel
theorem dX5_test_162 : decode cX5_test 162 = .ok (.iadd, 1) := by decide +kernel
theorem dX5_test_163 : decode cX5_test 163 = .ok (.iaload, 1) := by decide +kernel
theorem dX5_test_164 : decode cX5_test 164 = .ok (.iaload, 1) := by decide +kernel
theorem dX5_test_165 : decode cX5_test 165 = .ok (.goto 4, 3) := by decide +kernel
theorem dX5_test_168 : decode cX5_test 168 = .ok (.iconst (-1), 1) := by decide +kernel
theorem dX5_test_169 : decode cX5_test 169 = .ok (.ireturn, 1) := by decide +kernel
theorem dX5_cost_0 : decode cX5_cost 0 = .ok (.aload_n 0, 1) := by decide +kernel
theorem dX5_cost_1 : decode cX5_cost 1 = .ok (.iload_n 1, 1) := by decide +kernel
theorem dX5_cost_2 : decode cX5_cost 2 = .ok (.invokestatic 52, 3) := by decide +kernel
theorem dX5_cost_5 : decode cX5_cost 5 = .ok (.ifCond .ne 7, 3) := by decide +kernel
theorem dX5_cost_8 : decode cX5_cost 8 = .ok (.iconst 1, 1) := by decide +kernel
theorem dX5_cost_9 : decode cX5_cost 9 = .ok (.goto 15, 3) := by decide +kernel
theorem dX5_cost_12 : decode cX5_cost 12 = .ok (.aload_n 0, 1) := by decide +kernel
theorem dX5_cost_13 : decode cX5_cost 13 = .ok (.getfield 62, 3) := by decide +kernel
theorem dX5_cost_16 : decode cX5_cost 16 = .ok (.ifCond .eq 7, 3) := by decide +kernel
theorem dX5_cost_19 : decode cX5_cost 19 = .ok (.iconst 0, 1) := by decide +kernel
theorem dX5_cost_20 : decode cX5_cost 20 = .ok (.goto 4, 3) := by decide +kernel
theorem dX5_cost_23 : decode cX5_cost 23 = .ok (.iconst 2, 1) := by decide +kernel
theorem dX5_cost_24 : decode cX5_cost 24 = .ok (.invokevirtual 59, 3) := by decide +kernel
theorem dX5_cost_27 : decode cX5_cost 27 = .ok (.ifCond .ne 5, 3) := by decide +kernel
theorem dX5_cost_30 : decode cX5_cost 30 = .ok (.iconst 0, 1) := by decide +kernel
theorem dX5_cost_31 : decode cX5_cost 31 = .ok (.ireturn, 1) := by decide +kernel
theorem dX5_cost_32 : decode cX5_cost 32 = .ok (.aload_n 0, 1) := by decide +kernel
theorem dX5_cost_33 : decode cX5_cost 33 = .ok (.iload_n 1, 1) := by decide +kernel
theorem dX5_cost_34 : decode cX5_cost 34 = .ok (.invokevirtual 98, 3) := by decide +kernel
theorem dX5_cost_37 : decode cX5_cost 37 = .ok (.aload_n 0, 1) := by decide +kernel
theorem dX5_cost_38 : decode cX5_cost 38 = .ok (.iconst 0, 1) := by decide +kernel
theorem dX5_cost_39 : decode cX5_cost 39 = .ok (.aload_n 0, 1) := by decide +kernel
theorem dX5_cost_40 : decode cX5_cost 40 = .ok (.getfield 79, 3) := by decide +kernel
theorem dX5_cost_43 : decode cX5_cost 43 = .ok (.iconst 1, 1) := by decide +kernel
theorem dX5_cost_44 : decode cX5_cost 44 = .ok (.isub, 1) := by decide +kernel
theorem dX5_cost_45 : decode cX5_cost 45 = .ok (.invokevirtual 89, 3) := by decide +kernel
theorem dX5_cost_48 : decode cX5_cost 48 = .ok (.ireturn, 1) := by decide +kernel
theorem dX5_worst_0 : decode cX5_worst 0 = .ok (.aload_n 0, 1) := by decide +kernel
theorem dX5_worst_1 : decode cX5_worst 1 = .ok (.iload_n 1, 1) := by decide +kernel
theorem dX5_worst_2 : decode cX5_worst 2 = .ok (.invokestatic 52, 3) := by decide +kernel
theorem dX5_worst_5 : decode cX5_worst 5 = .ok (.ifCond .ne 7, 3) := by decide +kernel
theorem dX5_worst_8 : decode cX5_worst 8 = .ok (.iconst 1, 1) := by decide +kernel
theorem dX5_worst_9 : decode cX5_worst 9 = .ok (.goto 15, 3) := by decide +kernel
theorem dX5_worst_12 : decode cX5_worst 12 = .ok (.aload_n 0, 1) := by decide +kernel
theorem dX5_worst_13 : decode cX5_worst 13 = .ok (.getfield 62, 3) := by decide +kernel
theorem dX5_worst_16 : decode cX5_worst 16 = .ok (.ifCond .eq 7, 3) := by decide +kernel
theorem dX5_worst_19 : decode cX5_worst 19 = .ok (.iconst 0, 1) := by decide +kernel
theorem dX5_worst_20 : decode cX5_worst 20 = .ok (.goto 4, 3) := by decide +kernel
theorem dX5_worst_23 : decode cX5_worst 23 = .ok (.iconst 2, 1) := by decide +kernel
theorem dX5_worst_24 : decode cX5_worst 24 = .ok (.invokevirtual 59, 3) := by decide +kernel
theorem dX5_worst_27 : decode cX5_worst 27 = .ok (.ifCond .eq 11, 3) := by decide +kernel
theorem dX5_worst_30 : decode cX5_worst 30 = .ok (.aload_n 0, 1) := by decide +kernel
theorem dX5_worst_31 : decode cX5_worst 31 = .ok (.iload_n 1, 1) := by decide +kernel
theorem dX5_worst_32 : decode cX5_worst 32 = .ok (.invokevirtual 109, 3) := by decide +kernel
theorem dX5_worst_35 : decode cX5_worst 35 = .ok (.goto 4, 3) := by decide +kernel
theorem dX5_worst_38 : decode cX5_worst 38 = .ok (.iconst 0, 1) := by decide +kernel
theorem dX5_worst_39 : decode cX5_worst 39 = .ok (.ireturn, 1) := by decide +kernel
theorem dX5_matches_0 : decode cX5_matches 0 = .ok (.aload_n 0, 1) := by decide +kernel
theorem dX5_matches_1 : decode cX5_matches 1 = .ok (.getfield 13, 3) := by decide +kernel
theorem dX5_matches_4 : decode cX5_matches 4 = .ok (.iload_n 1, 1) := by decide +kernel
theorem dX5_matches_5 : decode cX5_matches 5 = .ok (.iaload, 1) := by decide +kernel
theorem dX5_matches_6 : decode cX5_matches 6 = .ok (.ifCond .ne 7, 3) := by decide +kernel
theorem dX5_matches_9 : decode cX5_matches 9 = .ok (.lload_n 3, 1) := by decide +kernel
theorem dX5_matches_10 : decode cX5_matches 10 = .ok (.goto 5, 3) := by decide +kernel
theorem dX5_matches_13 : decode cX5_matches 13 = .ok (.lload 5, 2) := by decide +kernel
theorem dX5_matches_15 : decode cX5_matches 15 = .ok (.lstore 7, 2) := by decide +kernel
theorem dX5_matches_17 : decode cX5_matches 17 = .ok (.aload_n 0, 1) := by decide +kernel
theorem dX5_matches_18 : decode cX5_matches 18 = .ok (.getfield 7, 3) := by decide +kernel
theorem dX5_matches_21 : decode cX5_matches 21 = .ok (.iload_n 1, 1) := by decide +kernel
theorem dX5_matches_22 : decode cX5_matches 22 = .ok (.iaload, 1) := by decide +kernel
theorem dX5_matches_23 : decode cX5_matches 23 = .ok (.iload_n 2, 1) := by decide +kernel
theorem dX5_matches_24 : decode cX5_matches 24 = .ok (.if_icmp .ne 26, 3) := by decide +kernel
theorem dX5_matches_27 : decode cX5_matches 27 = .ok (.lload 7, 2) := by decide +kernel
theorem dX5_matches_29 : decode cX5_matches 29 = .ok (.aload_n 0, 1) := by decide +kernel
theorem dX5_matches_30 : decode cX5_matches 30 = .ok (.getfield 16, 3) := by decide +kernel
theorem dX5_matches_33 : decode cX5_matches 33 = .ok (.iload_n 1, 1) := by decide +kernel
theorem dX5_matches_34 : decode cX5_matches 34 = .ok (.laload, 1) := by decide +kernel
theorem dX5_matches_35 : decode cX5_matches 35 = .ok (.land, 1) := by decide +kernel
theorem dX5_matches_36 : decode cX5_matches 36 = .ok (.aload_n 0, 1) := by decide +kernel
theorem dX5_matches_37 : decode cX5_matches 37 = .ok (.getfield 20, 3) := by decide +kernel
theorem dX5_matches_40 : decode cX5_matches 40 = .ok (.iload_n 1, 1) := by decide +kernel
theorem dX5_matches_41 : decode cX5_matches 41 = .ok (.laload, 1) := by decide +kernel
theorem dX5_matches_42 : decode cX5_matches 42 = .ok (.lcmp, 1) := by decide +kernel
theorem dX5_matches_43 : decode cX5_matches 43 = .ok (.ifCond .ne 7, 3) := by decide +kernel
theorem dX5_matches_46 : decode cX5_matches 46 = .ok (.iconst 1, 1) := by decide +kernel
theorem dX5_matches_47 : decode cX5_matches 47 = .ok (.goto 4, 3) := by decide +kernel
theorem dX5_matches_50 : decode cX5_matches 50 = .ok (.iconst 0, 1) := by decide +kernel
theorem dX5_matches_51 : decode cX5_matches 51 = .ok (.ireturn, 1) := by decide +kernel
theorem dX5_judgeBy_0 : decode cX5_judgeBy 0 = .ok (.iconst 0, 1) := by decide +kernel
theorem dX5_judgeBy_1 : decode cX5_judgeBy 1 = .ok (.istore 7, 2) := by decide +kernel
theorem dX5_judgeBy_3 : decode cX5_judgeBy 3 = .ok (.iload 7, 2) := by decide +kernel
theorem dX5_judgeBy_5 : decode cX5_judgeBy 5 = .ok (.aload_n 0, 1) := by decide +kernel
theorem dX5_judgeBy_6 : decode cX5_judgeBy 6 = .ok (.getfield 26, 3) := by decide +kernel
theorem dX5_judgeBy_9 : decode cX5_judgeBy 9 = .ok (.iload_n 1, 1) := by decide +kernel
theorem dX5_judgeBy_10 : decode cX5_judgeBy 10 = .ok (.iaload, 1) := by decide +kernel
theorem dX5_judgeBy_11 : decode cX5_judgeBy 11 = .ok (.if_icmp .ge 40, 3) := by decide +kernel
theorem dX5_judgeBy_14 : decode cX5_judgeBy 14 = .ok (.aload_n 0, 1) := by decide +kernel
theorem dX5_judgeBy_15 : decode cX5_judgeBy 15 = .ok (.bipush 10, 2) := by decide +kernel
theorem dX5_judgeBy_17 : decode cX5_judgeBy 17 = .ok (.iload_n 1, 1) := by decide +kernel
theorem dX5_judgeBy_18 : decode cX5_judgeBy 18 = .ok (.imul, 1) := by decide +kernel
theorem dX5_judgeBy_19 : decode cX5_judgeBy 19 = .ok (.iload 7, 2) := by decide +kernel
theorem dX5_judgeBy_21 : decode cX5_judgeBy 21 = .ok (.iadd, 1) := by decide +kernel
theorem dX5_judgeBy_22 : decode cX5_judgeBy 22 = .ok (.iload_n 2, 1) := by decide +kernel
theorem dX5_judgeBy_23 : decode cX5_judgeBy 23 = .ok (.lload_n 3, 1) := by decide +kernel
theorem dX5_judgeBy_24 : decode cX5_judgeBy 24 = .ok (.lload 5, 2) := by decide +kernel
theorem dX5_judgeBy_26 : decode cX5_judgeBy 26 = .ok (.invokevirtual 112, 3) := by decide +kernel
theorem dX5_judgeBy_29 : decode cX5_judgeBy 29 = .ok (.ifCond .eq 16, 3) := by decide +kernel
theorem dX5_judgeBy_32 : decode cX5_judgeBy 32 = .ok (.aload_n 0, 1) := by decide +kernel
theorem dX5_judgeBy_33 : decode cX5_judgeBy 33 = .ok (.getfield 23, 3) := by decide +kernel
theorem dX5_judgeBy_36 : decode cX5_judgeBy 36 = .ok (.bipush 10, 2) := by decide +kernel
theorem dX5_judgeBy_38 : decode cX5_judgeBy 38 = .ok (.iload_n 1, 1) := by decide +kernel
theorem dX5_judgeBy_39 : decode cX5_judgeBy 39 = .ok (.imul, 1) := by decide +kernel
theorem dX5_judgeBy_40 : decode cX5_judgeBy 40 = .ok (.iload 7, 2) := by decide +kernel
theorem dX5_judgeBy_42 : decode cX5_judgeBy 42 = .ok (.iadd, 1) := by decide +kernel
theorem dX5_judgeBy_43 : decode cX5_judgeBy 43 = .ok (.iaload, 1) := by decide +kernel
theorem dX5_judgeBy_44 : decode cX5_judgeBy 44 = .ok (.ireturn, 1) := by decide +kernel
theorem dX5_judgeBy_45 : decode cX5_judgeBy 45 = .ok (.iinc 7 1, 3) := by decide +kernel
theorem dX5_judgeBy_48 : decode cX5_judgeBy 48 = .ok (.goto (-45), 3) := by decide +kernel
theorem dX5_judgeBy_51 : decode cX5_judgeBy 51 = .ok (.aload_n 0, 1) := by decide +kernel
theorem dX5_judgeBy_52 : decode cX5_judgeBy 52 = .ok (.getfield 29, 3) := by decide +kernel
theorem dX5_judgeBy_55 : decode cX5_judgeBy 55 = .ok (.iload_n 1, 1) := by decide +kernel
theorem dX5_judgeBy_56 : decode cX5_judgeBy 56 = .ok (.iaload, 1) := by decide +kernel
theorem dX5_judgeBy_57 : decode cX5_judgeBy 57 = .ok (.ireturn, 1) := by decide +kernel
theorem dX5_strictest_0 : decode cX5_strictest 0 = .ok (.iconst 0, 1) := by decide +kernel
theorem dX5_strictest_1 : decode cX5_strictest 1 = .ok (.istore 6, 2) := by decide +kernel
theorem dX5_strictest_3 : decode cX5_strictest 3 = .ok (.iconst 0, 1) := by decide +kernel
theorem dX5_strictest_4 : decode cX5_strictest 4 = .ok (.istore 7, 2) := by decide +kernel
theorem dX5_strictest_6 : decode cX5_strictest 6 = .ok (.iload 7, 2) := by decide +kernel
theorem dX5_strictest_8 : decode cX5_strictest 8 = .ok (.iconst 4, 1) := by decide +kernel
theorem dX5_strictest_9 : decode cX5_strictest 9 = .ok (.if_icmp .ge 37, 3) := by decide +kernel
theorem dX5_strictest_12 : decode cX5_strictest 12 = .ok (.aload_n 0, 1) := by decide +kernel
theorem dX5_strictest_13 : decode cX5_strictest 13 = .ok (.iload 7, 2) := by decide +kernel
theorem dX5_strictest_15 : decode cX5_strictest 15 = .ok (.iload_n 1, 1) := by decide +kernel
theorem dX5_strictest_16 : decode cX5_strictest 16 = .ok (.lload_n 2, 1) := by decide +kernel
theorem dX5_strictest_17 : decode cX5_strictest 17 = .ok (.lload 4, 2) := by decide +kernel
theorem dX5_strictest_19 : decode cX5_strictest 19 = .ok (.invokevirtual 116, 3) := by decide +kernel
theorem dX5_strictest_22 : decode cX5_strictest 22 = .ok (.istore 8, 2) := by decide +kernel
theorem dX5_strictest_24 : decode cX5_strictest 24 = .ok (.iload 8, 2) := by decide +kernel
theorem dX5_strictest_26 : decode cX5_strictest 26 = .ok (.iload 6, 2) := by decide +kernel
theorem dX5_strictest_28 : decode cX5_strictest 28 = .ok (.if_icmp .le 8, 3) := by decide +kernel
theorem dX5_strictest_31 : decode cX5_strictest 31 = .ok (.iload 8, 2) := by decide +kernel
theorem dX5_strictest_33 : decode cX5_strictest 33 = .ok (.goto 5, 3) := by decide +kernel
theorem dX5_strictest_36 : decode cX5_strictest 36 = .ok (.iload 6, 2) := by decide +kernel
theorem dX5_strictest_38 : decode cX5_strictest 38 = .ok (.istore 6, 2) := by decide +kernel
theorem dX5_strictest_40 : decode cX5_strictest 40 = .ok (.iinc 7 1, 3) := by decide +kernel
theorem dX5_strictest_43 : decode cX5_strictest 43 = .ok (.goto (-37), 3) := by decide +kernel
theorem dX5_strictest_46 : decode cX5_strictest 46 = .ok (.iload 6, 2) := by decide +kernel
theorem dX5_strictest_48 : decode cX5_strictest 48 = .ok (.ireturn, 1) := by decide +kernel
theorem dX5_judge_0 : decode cX5_judge 0 = .ok (.aload_n 0, 1) := by decide +kernel
theorem dX5_judge_1 : decode cX5_judge 1 = .ok (.iload_n 1, 1) := by decide +kernel
theorem dX5_judge_2 : decode cX5_judge 2 = .ok (.invokestatic 56, 3) := by decide +kernel
theorem dX5_judge_5 : decode cX5_judge 5 = .ok (.ifCond .ne 7, 3) := by decide +kernel
theorem dX5_judge_8 : decode cX5_judge 8 = .ok (.iconst 1, 1) := by decide +kernel
theorem dX5_judge_9 : decode cX5_judge 9 = .ok (.goto 15, 3) := by decide +kernel
theorem dX5_judge_12 : decode cX5_judge 12 = .ok (.aload_n 0, 1) := by decide +kernel
theorem dX5_judge_13 : decode cX5_judge 13 = .ok (.getfield 62, 3) := by decide +kernel
theorem dX5_judge_16 : decode cX5_judge 16 = .ok (.ifCond .eq 7, 3) := by decide +kernel
theorem dX5_judge_19 : decode cX5_judge 19 = .ok (.iconst 0, 1) := by decide +kernel
theorem dX5_judge_20 : decode cX5_judge 20 = .ok (.goto 4, 3) := by decide +kernel
theorem dX5_judge_23 : decode cX5_judge 23 = .ok (.iconst 2, 1) := by decide +kernel
theorem dX5_judge_24 : decode cX5_judge 24 = .ok (.invokevirtual 59, 3) := by decide +kernel
theorem dX5_judge_27 : decode cX5_judge 27 = .ok (.ifCond .eq 14, 3) := by decide +kernel
theorem dX5_judge_30 : decode cX5_judge 30 = .ok (.aload_n 0, 1) := by decide +kernel
theorem dX5_judge_31 : decode cX5_judge 31 = .ok (.iload_n 1, 1) := by decide +kernel
theorem dX5_judge_32 : decode cX5_judge 32 = .ok (.lload_n 2, 1) := by decide +kernel
theorem dX5_judge_33 : decode cX5_judge 33 = .ok (.lload 4, 2) := by decide +kernel
theorem dX5_judge_35 : decode cX5_judge 35 = .ok (.invokevirtual 120, 3) := by decide +kernel
theorem dX5_judge_38 : decode cX5_judge 38 = .ok (.goto 4, 3) := by decide +kernel
theorem dX5_judge_41 : decode cX5_judge 41 = .ok (.iconst 0, 1) := by decide +kernel
theorem dX5_judge_42 : decode cX5_judge 42 = .ok (.ireturn, 1) := by decide +kernel
theorem dX5_judgeByRules_0 : decode cX5_judgeByRules 0 = .ok (.aload_n 0, 1) := by decide +kernel
theorem dX5_judgeByRules_1 : decode cX5_judgeByRules 1 = .ok (.iload_n 1, 1) := by decide +kernel
theorem dX5_judgeByRules_2 : decode cX5_judgeByRules 2 = .ok (.invokestatic 56, 3) := by decide +kernel
theorem dX5_judgeByRules_5 : decode cX5_judgeByRules 5 = .ok (.ifCond .eq 7, 3) := by decide +kernel
theorem dX5_judgeByRules_8 : decode cX5_judgeByRules 8 = .ok (.iconst 0, 1) := by decide +kernel
theorem dX5_judgeByRules_9 : decode cX5_judgeByRules 9 = .ok (.goto 4, 3) := by decide +kernel
theorem dX5_judgeByRules_12 : decode cX5_judgeByRules 12 = .ok (.iconst 1, 1) := by decide +kernel
theorem dX5_judgeByRules_13 : decode cX5_judgeByRules 13 = .ok (.invokevirtual 59, 3) := by decide +kernel
theorem dX5_judgeByRules_16 : decode cX5_judgeByRules 16 = .ok (.ifCond .eq 14, 3) := by decide +kernel
theorem dX5_judgeByRules_19 : decode cX5_judgeByRules 19 = .ok (.aload_n 0, 1) := by decide +kernel
theorem dX5_judgeByRules_20 : decode cX5_judgeByRules 20 = .ok (.iload_n 1, 1) := by decide +kernel
theorem dX5_judgeByRules_21 : decode cX5_judgeByRules 21 = .ok (.lload_n 2, 1) := by decide +kernel
theorem dX5_judgeByRules_22 : decode cX5_judgeByRules 22 = .ok (.lload 4, 2) := by decide +kernel
theorem dX5_judgeByRules_24 : decode cX5_judgeByRules 24 = .ok (.invokevirtual 120, 3) := by decide +kernel
theorem dX5_judgeByRules_27 : decode cX5_judgeByRules 27 = .ok (.goto 4, 3) := by decide +kernel
theorem dX5_judgeByRules_30 : decode cX5_judgeByRules 30 = .ok (.iconst 0, 1) := by decide +kernel
theorem dX5_judgeByRules_31 : decode cX5_judgeByRules 31 = .ok (.ireturn, 1) := by decide +kernel
theorem dX5_halvesMade_0 : decode cX5_halvesMade 0 = .ok (.iconst 0, 1) := by decide +kernel
theorem dX5_halvesMade_1 : decode cX5_halvesMade 1 = .ok (.istore 7, 2) := by decide +kernel
theorem dX5_halvesMade_3 : decode cX5_halvesMade 3 = .ok (.iconst 0, 1) := by decide +kernel
theorem dX5_halvesMade_4 : decode cX5_halvesMade 4 = .ok (.istore 8, 2) := by decide +kernel
theorem dX5_halvesMade_6 : decode cX5_halvesMade 6 = .ok (.iload 8, 2) := by decide +kernel
theorem dX5_halvesMade_8 : decode cX5_halvesMade 8 = .ok (.aload_n 0, 1) := by decide +kernel
theorem dX5_halvesMade_9 : decode cX5_halvesMade 9 = .ok (.getfield 26, 3) := by decide +kernel
theorem dX5_halvesMade_12 : decode cX5_halvesMade 12 = .ok (.iload_n 1, 1) := by decide +kernel
theorem dX5_halvesMade_13 : decode cX5_halvesMade 13 = .ok (.iaload, 1) := by decide +kernel
theorem dX5_halvesMade_14 : decode cX5_halvesMade 14 = .ok (.if_icmp .ge 126, 3) := by decide +kernel
theorem dX5_halvesMade_17 : decode cX5_halvesMade 17 = .ok (.bipush 10, 2) := by decide +kernel
theorem dX5_halvesMade_19 : decode cX5_halvesMade 19 = .ok (.iload_n 1, 1) := by decide +kernel
theorem dX5_halvesMade_20 : decode cX5_halvesMade 20 = .ok (.imul, 1) := by decide +kernel
theorem dX5_halvesMade_21 : decode cX5_halvesMade 21 = .ok (.iload 8, 2) := by decide +kernel
theorem dX5_halvesMade_23 : decode cX5_halvesMade 23 = .ok (.iadd, 1) := by decide +kernel
theorem dX5_halvesMade_24 : decode cX5_halvesMade 24 = .ok (.istore 9, 2) := by decide +kernel
theorem dX5_halvesMade_26 : decode cX5_halvesMade 26 = .ok (.aload_n 0, 1) := by decide +kernel
theorem dX5_halvesMade_27 : decode cX5_halvesMade 27 = .ok (.getfield 7, 3) := by decide +kernel
theorem dX5_halvesMade_30 : decode cX5_halvesMade 30 = .ok (.iload 9, 2) := by decide +kernel
theorem dX5_halvesMade_32 : decode cX5_halvesMade 32 = .ok (.iaload, 1) := by decide +kernel
theorem dX5_halvesMade_33 : decode cX5_halvesMade 33 = .ok (.iload_n 2, 1) := by decide +kernel
theorem dX5_halvesMade_34 : decode cX5_halvesMade 34 = .ok (.if_icmp .ne 100, 3) := by decide +kernel
theorem dX5_halvesMade_37 : decode cX5_halvesMade 37 = .ok (.aload_n 0, 1) := by decide +kernel
theorem dX5_halvesMade_38 : decode cX5_halvesMade 38 = .ok (.iload_n 1, 1) := by decide +kernel
theorem dX5_halvesMade_39 : decode cX5_halvesMade 39 = .ok (.iload 8, 2) := by decide +kernel
theorem dX5_halvesMade_41 : decode cX5_halvesMade 41 = .ok (.invokevirtual 75, 3) := by decide +kernel
theorem dX5_halvesMade_44 : decode cX5_halvesMade 44 = .ok (.iconst (-1), 1) := by decide +kernel
theorem dX5_halvesMade_45 : decode cX5_halvesMade 45 = .ok (.if_icmp .ne 89, 3) := by decide +kernel
theorem dX5_halvesMade_48 : decode cX5_halvesMade 48 = .ok (.aload_n 0, 1) := by decide +kernel
theorem dX5_halvesMade_49 : decode cX5_halvesMade 49 = .ok (.getfield 13, 3) := by decide +kernel
theorem dX5_halvesMade_52 : decode cX5_halvesMade 52 = .ok (.iload 9, 2) := by decide +kernel
theorem dX5_halvesMade_54 : decode cX5_halvesMade 54 = .ok (.iaload, 1) := by decide +kernel
theorem dX5_halvesMade_55 : decode cX5_halvesMade 55 = .ok (.ifCond .ne 7, 3) := by decide +kernel
theorem dX5_halvesMade_58 : decode cX5_halvesMade 58 = .ok (.lload_n 3, 1) := by decide +kernel
theorem dX5_halvesMade_59 : decode cX5_halvesMade 59 = .ok (.goto 5, 3) := by decide +kernel
theorem dX5_halvesMade_62 : decode cX5_halvesMade 62 = .ok (.lload 5, 2) := by decide +kernel
theorem dX5_halvesMade_64 : decode cX5_halvesMade 64 = .ok (.aload_n 0, 1) := by decide +kernel
theorem dX5_halvesMade_65 : decode cX5_halvesMade 65 = .ok (.getfield 16, 3) := by decide +kernel
theorem dX5_halvesMade_68 : decode cX5_halvesMade 68 = .ok (.iload 9, 2) := by decide +kernel
theorem dX5_halvesMade_70 : decode cX5_halvesMade 70 = .ok (.laload, 1) := by decide +kernel
theorem dX5_halvesMade_71 : decode cX5_halvesMade 71 = .ok (.land, 1) := by decide +kernel
theorem dX5_halvesMade_72 : decode cX5_halvesMade 72 = .ok (.aload_n 0, 1) := by decide +kernel
theorem dX5_halvesMade_73 : decode cX5_halvesMade 73 = .ok (.getfield 20, 3) := by decide +kernel
theorem dX5_halvesMade_76 : decode cX5_halvesMade 76 = .ok (.iload 9, 2) := by decide +kernel
theorem dX5_halvesMade_78 : decode cX5_halvesMade 78 = .ok (.laload, 1) := by decide +kernel
theorem dX5_halvesMade_79 : decode cX5_halvesMade 79 = .ok (.lxor, 1) := by decide +kernel
theorem dX5_halvesMade_80 : decode cX5_halvesMade 80 = .ok (.lstore 10, 2) := by decide +kernel
theorem dX5_halvesMade_82 : decode cX5_halvesMade 82 = .ok (.lload 10, 2) := by decide +kernel
theorem dX5_halvesMade_84 : decode cX5_halvesMade 84 = .ok (.ldc2_w 92, 3) := by decide +kernel
theorem dX5_halvesMade_87 : decode cX5_halvesMade 87 = .ok (.land, 1) := by decide +kernel
theorem dX5_halvesMade_88 : decode cX5_halvesMade 88 = .ok (.lconst 0, 1) := by decide +kernel
theorem dX5_halvesMade_89 : decode cX5_halvesMade 89 = .ok (.lcmp, 1) := by decide +kernel
theorem dX5_halvesMade_90 : decode cX5_halvesMade 90 = .ok (.ifCond .eq 7, 3) := by decide +kernel
theorem dX5_halvesMade_93 : decode cX5_halvesMade 93 = .ok (.iconst 1, 1) := by decide +kernel
theorem dX5_halvesMade_94 : decode cX5_halvesMade 94 = .ok (.goto 4, 3) := by decide +kernel
theorem dX5_halvesMade_97 : decode cX5_halvesMade 97 = .ok (.iconst 0, 1) := by decide +kernel
theorem dX5_halvesMade_98 : decode cX5_halvesMade 98 = .ok (.istore 12, 2) := by decide +kernel
theorem dX5_halvesMade_100 : decode cX5_halvesMade 100 = .ok (.iload 7, 2) := by decide +kernel
theorem dX5_halvesMade_102 : decode cX5_halvesMade 102 = .ok (.iload 12, 2) := by decide +kernel
theorem dX5_halvesMade_104 : decode cX5_halvesMade 104 = .ok (.ifCond .eq 7, 3) := by decide +kernel
theorem dX5_halvesMade_107 : decode cX5_halvesMade 107 = .ok (.iconst 1, 1) := by decide +kernel
theorem dX5_halvesMade_108 : decode cX5_halvesMade 108 = .ok (.goto 13, 3) := by decide +kernel
theorem dX5_halvesMade_111 : decode cX5_halvesMade 111 = .ok (.aload_n 0, 1) := by decide +kernel
theorem dX5_halvesMade_112 : decode cX5_halvesMade 112 = .ok (.getfield 16, 3) := by decide +kernel
theorem dX5_halvesMade_115 : decode cX5_halvesMade 115 = .ok (.iload 9, 2) := by decide +kernel
theorem dX5_halvesMade_117 : decode cX5_halvesMade 117 = .ok (.laload, 1) := by decide +kernel
theorem dX5_halvesMade_118 : decode cX5_halvesMade 118 = .ok (.invokestatic 94, 3) := by decide +kernel
theorem dX5_halvesMade_121 : decode cX5_halvesMade 121 = .ok (.iadd, 1) := by decide +kernel
theorem dX5_halvesMade_122 : decode cX5_halvesMade 122 = .ok (.istore 7, 2) := by decide +kernel
theorem dX5_halvesMade_124 : decode cX5_halvesMade 124 = .ok (.lload 10, 2) := by decide +kernel
theorem dX5_halvesMade_126 : decode cX5_halvesMade 126 = .ok (.lconst 0, 1) := by decide +kernel
theorem dX5_halvesMade_127 : decode cX5_halvesMade 127 = .ok (.lcmp, 1) := by decide +kernel
theorem dX5_halvesMade_128 : decode cX5_halvesMade 128 = .ok (.ifCond .ne 6, 3) := by decide +kernel
theorem dX5_halvesMade_131 : decode cX5_halvesMade 131 = .ok (.iload 7, 2) := by decide +kernel
theorem dX5_halvesMade_133 : decode cX5_halvesMade 133 = .ok (.ireturn, 1) := by decide +kernel
theorem dX5_halvesMade_134 : decode cX5_halvesMade 134 = .ok (.iinc 8 1, 3) := by decide +kernel
theorem dX5_halvesMade_137 : decode cX5_halvesMade 137 = .ok (.goto (-131), 3) := by decide +kernel
theorem dX5_halvesMade_140 : decode cX5_halvesMade 140 = .ok (.iload 7, 2) := by decide +kernel
theorem dX5_halvesMade_142 : decode cX5_halvesMade 142 = .ok (.ireturn, 1) := by decide +kernel
theorem dX5_path_0 : decode cX5_path 0 = .ok (.aload_n 0, 1) := by decide +kernel
theorem dX5_path_1 : decode cX5_path 1 = .ok (.iload_n 1, 1) := by decide +kernel
theorem dX5_path_2 : decode cX5_path 2 = .ok (.invokestatic 56, 3) := by decide +kernel
theorem dX5_path_5 : decode cX5_path 5 = .ok (.ifCond .ne 7, 3) := by decide +kernel
theorem dX5_path_8 : decode cX5_path 8 = .ok (.iconst 1, 1) := by decide +kernel
theorem dX5_path_9 : decode cX5_path 9 = .ok (.goto 15, 3) := by decide +kernel
theorem dX5_path_12 : decode cX5_path 12 = .ok (.aload_n 0, 1) := by decide +kernel
theorem dX5_path_13 : decode cX5_path 13 = .ok (.getfield 62, 3) := by decide +kernel
theorem dX5_path_16 : decode cX5_path 16 = .ok (.ifCond .eq 7, 3) := by decide +kernel
theorem dX5_path_19 : decode cX5_path 19 = .ok (.iconst 0, 1) := by decide +kernel
theorem dX5_path_20 : decode cX5_path 20 = .ok (.goto 4, 3) := by decide +kernel
theorem dX5_path_23 : decode cX5_path 23 = .ok (.iconst 2, 1) := by decide +kernel
theorem dX5_path_24 : decode cX5_path 24 = .ok (.invokevirtual 59, 3) := by decide +kernel
theorem dX5_path_27 : decode cX5_path 27 = .ok (.ifCond .ne 5, 3) := by decide +kernel
theorem dX5_path_30 : decode cX5_path 30 = .ok (.iconst 0, 1) := by decide +kernel
theorem dX5_path_31 : decode cX5_path 31 = .ok (.ireturn, 1) := by decide +kernel
theorem dX5_path_32 : decode cX5_path 32 = .ok (.iconst 0, 1) := by decide +kernel
theorem dX5_path_33 : decode cX5_path 33 = .ok (.istore 6, 2) := by decide +kernel
theorem dX5_path_35 : decode cX5_path 35 = .ok (.iconst 0, 1) := by decide +kernel
theorem dX5_path_36 : decode cX5_path 36 = .ok (.istore 7, 2) := by decide +kernel
theorem dX5_path_38 : decode cX5_path 38 = .ok (.iload 7, 2) := by decide +kernel
theorem dX5_path_40 : decode cX5_path 40 = .ok (.iconst 4, 1) := by decide +kernel
theorem dX5_path_41 : decode cX5_path 41 = .ok (.if_icmp .ge 36, 3) := by decide +kernel
theorem dX5_path_44 : decode cX5_path 44 = .ok (.aload_n 0, 1) := by decide +kernel
theorem dX5_path_45 : decode cX5_path 45 = .ok (.iload 7, 2) := by decide +kernel
theorem dX5_path_47 : decode cX5_path 47 = .ok (.invokevirtual 98, 3) := by decide +kernel
theorem dX5_path_50 : decode cX5_path 50 = .ok (.iload 6, 2) := by decide +kernel
theorem dX5_path_52 : decode cX5_path 52 = .ok (.aload_n 0, 1) := by decide +kernel
theorem dX5_path_53 : decode cX5_path 53 = .ok (.iload_n 1, 1) := by decide +kernel
theorem dX5_path_54 : decode cX5_path 54 = .ok (.invokevirtual 102, 3) := by decide +kernel
theorem dX5_path_57 : decode cX5_path 57 = .ok (.aload_n 0, 1) := by decide +kernel
theorem dX5_path_58 : decode cX5_path 58 = .ok (.iload 7, 2) := by decide +kernel
theorem dX5_path_60 : decode cX5_path 60 = .ok (.iload_n 1, 1) := by decide +kernel
theorem dX5_path_61 : decode cX5_path 61 = .ok (.lload_n 2, 1) := by decide +kernel
theorem dX5_path_62 : decode cX5_path 62 = .ok (.lload 4, 2) := by decide +kernel
theorem dX5_path_64 : decode cX5_path 64 = .ok (.invokevirtual 124, 3) := by decide +kernel
theorem dX5_path_67 : decode cX5_path 67 = .ok (.iadd, 1) := by decide +kernel
theorem dX5_path_68 : decode cX5_path 68 = .ok (.iadd, 1) := by decide +kernel
theorem dX5_path_69 : decode cX5_path 69 = .ok (.istore 6, 2) := by decide +kernel
theorem dX5_path_71 : decode cX5_path 71 = .ok (.iinc 7 1, 3) := by decide +kernel
theorem dX5_path_74 : decode cX5_path 74 = .ok (.goto (-36), 3) := by decide +kernel
theorem dX5_path_77 : decode cX5_path 77 = .ok (.iload 6, 2) := by decide +kernel
theorem dX5_path_79 : decode cX5_path 79 = .ok (.ireturn, 1) := by decide +kernel
theorem dX5_actionOf_0 : decode cX5_actionOf 0 = .ok (.aload_n 0, 1) := by decide +kernel
theorem dX5_actionOf_1 : decode cX5_actionOf 1 = .ok (.iload_n 1, 1) := by decide +kernel
theorem dX5_actionOf_2 : decode cX5_actionOf 2 = .ok (.invokestatic 52, 3) := by decide +kernel
theorem dX5_actionOf_5 : decode cX5_actionOf 5 = .ok (.ifCond .eq 14, 3) := by decide +kernel
theorem dX5_actionOf_8 : decode cX5_actionOf 8 = .ok (.iload_n 2, 1) := by decide +kernel
theorem dX5_actionOf_9 : decode cX5_actionOf 9 = .ok (.invokestatic 56, 3) := by decide +kernel
theorem dX5_actionOf_12 : decode cX5_actionOf 12 = .ok (.ifCond .eq 7, 3) := by decide +kernel
theorem dX5_actionOf_15 : decode cX5_actionOf 15 = .ok (.iconst 0, 1) := by decide +kernel
theorem dX5_actionOf_16 : decode cX5_actionOf 16 = .ok (.goto 4, 3) := by decide +kernel
theorem dX5_actionOf_19 : decode cX5_actionOf 19 = .ok (.iconst 1, 1) := by decide +kernel
theorem dX5_actionOf_20 : decode cX5_actionOf 20 = .ok (.invokevirtual 59, 3) := by decide +kernel
theorem dX5_actionOf_23 : decode cX5_actionOf 23 = .ok (.ifCond .eq 15, 3) := by decide +kernel
theorem dX5_actionOf_26 : decode cX5_actionOf 26 = .ok (.aload_n 0, 1) := by decide +kernel
theorem dX5_actionOf_27 : decode cX5_actionOf 27 = .ok (.iload_n 1, 1) := by decide +kernel
theorem dX5_actionOf_28 : decode cX5_actionOf 28 = .ok (.iload_n 2, 1) := by decide +kernel
theorem dX5_actionOf_29 : decode cX5_actionOf 29 = .ok (.lload_n 3, 1) := by decide +kernel
theorem dX5_actionOf_30 : decode cX5_actionOf 30 = .ok (.lload 5, 2) := by decide +kernel
theorem dX5_actionOf_32 : decode cX5_actionOf 32 = .ok (.invokevirtual 116, 3) := by decide +kernel
theorem dX5_actionOf_35 : decode cX5_actionOf 35 = .ok (.goto 4, 3) := by decide +kernel
theorem dX5_actionOf_38 : decode cX5_actionOf 38 = .ok (.iconst 0, 1) := by decide +kernel
theorem dX5_actionOf_39 : decode cX5_actionOf 39 = .ok (.ireturn, 1) := by decide +kernel
end
section
theorem dJ9_max_7cf53_0 : decode cJ9_max_7cf53 0 = .ok (.iload_n 0, 1) := by decide +kernel
theorem dJ9_max_7cf53_1 : decode cJ9_max_7cf53 1 = .ok (.iload_n 1, 1) := by decide +kernel
theorem dJ9_max_7cf53_2 : decode cJ9_max_7cf53 2 = .ok (.if_icmp .lt 7, 3) := by decide +kernel
theorem dJ9_max_7cf53_5 : decode cJ9_max_7cf53 5 = .ok (.iload_n 0, 1) := by decide +kernel
theorem dJ9_max_7cf53_6 : decode cJ9_max_7cf53 6 = .ok (.goto 4, 3) := by decide +kernel
theorem dJ9_max_7cf53_9 : decode cJ9_max_7cf53 9 = .ok (.iload_n 1, 1) := by decide +kernel
theorem dJ9_max_7cf53_10 : decode cJ9_max_7cf53 10 = .ok (.ireturn, 1) := by decide +kernel
theorem dJ9_min_7cf53_0 : decode cJ9_min_7cf53 0 = .ok (.iload_n 0, 1) := by decide +kernel
theorem dJ9_min_7cf53_1 : decode cJ9_min_7cf53 1 = .ok (.iload_n 1, 1) := by decide +kernel
theorem dJ9_min_7cf53_2 : decode cJ9_min_7cf53 2 = .ok (.if_icmp .gt 7, 3) := by decide +kernel
theorem dJ9_min_7cf53_5 : decode cJ9_min_7cf53 5 = .ok (.iload_n 0, 1) := by decide +kernel
theorem dJ9_min_7cf53_6 : decode cJ9_min_7cf53 6 = .ok (.goto 4, 3) := by decide +kernel
theorem dJ9_min_7cf53_9 : decode cJ9_min_7cf53 9 = .ok (.iload_n 1, 1) := by decide +kernel
theorem dJ9_min_7cf53_10 : decode cJ9_min_7cf53 10 = .ok (.ireturn, 1) := by decide +kernel
theorem dJxa1e45_init_da8c8_0 : decode cJxa1e45_init_da8c8 0 = .ok (.aload_n 0, 1) := by decide +kernel
theorem dJxa1e45_init_da8c8_1 : decode cJxa1e45_init_da8c8 1 = .ok (.invokespecial 1, 3) := by decide +kernel
theorem dJxa1e45_init_da8c8_4 : decode cJxa1e45_init_da8c8 4 = .ok (.return_, 1) := by decide +kernel
theorem dJxc12de_init_da8c8_0 : decode cJxc12de_init_da8c8 0 = .ok (.aload_n 0, 1) := by decide +kernel
theorem dJxc12de_init_da8c8_1 : decode cJxc12de_init_da8c8 1 = .ok (.invokespecial 1, 3) := by decide +kernel
theorem dJxc12de_init_da8c8_4 : decode cJxc12de_init_da8c8 4 = .ok (.aload_n 0, 1) := by decide +kernel
theorem dJxc12de_init_da8c8_5 : decode cJxc12de_init_da8c8 5 = .ok (.iconst 0, 1) := by decide +kernel
theorem dJxc12de_init_da8c8_6 : decode cJxc12de_init_da8c8 6 = .ok (.putfield 7, 3) := by decide +kernel
theorem dJxc12de_init_da8c8_9 : decode cJxc12de_init_da8c8 9 = .ok (.return_, 1) := by decide +kernel
theorem dJx4a65c_init_da8c8_0 : decode cJx4a65c_init_da8c8 0 = .ok (.aload_n 0, 1) := by decide +kernel
theorem dJx4a65c_init_da8c8_1 : decode cJx4a65c_init_da8c8 1 = .ok (.invokespecial 1, 3) := by decide +kernel
theorem dJx4a65c_init_da8c8_4 : decode cJx4a65c_init_da8c8 4 = .ok (.aload_n 0, 1) := by decide +kernel
theorem dJx4a65c_init_da8c8_5 : decode cJx4a65c_init_da8c8 5 = .ok (.getstatic 39, 3) := by decide +kernel
theorem dJx4a65c_init_da8c8_8 : decode cJx4a65c_init_da8c8 8 = .ok (.putfield 9, 3) := by decide +kernel
theorem dJx4a65c_init_da8c8_11 : decode cJx4a65c_init_da8c8 11 = .ok (.return_, 1) := by decide +kernel
theorem dJx4a65c_grow_92f84_0 : decode cJx4a65c_grow_92f84 0 = .ok (.aload_n 0, 1) := by decide +kernel
theorem dJx4a65c_grow_92f84_1 : decode cJx4a65c_grow_92f84 1 = .ok (.getfield 9, 3) := by decide +kernel
theorem dJx4a65c_grow_92f84_4 : decode cJx4a65c_grow_92f84 4 = .ok (.arraylength, 1) := by decide +kernel
theorem dJx4a65c_grow_92f84_5 : decode cJx4a65c_grow_92f84 5 = .ok (.istore_n 2, 1) := by decide +kernel
theorem dJx4a65c_grow_92f84_6 : decode cJx4a65c_grow_92f84 6 = .ok (.iload_n 2, 1) := by decide +kernel
theorem dJx4a65c_grow_92f84_7 : decode cJx4a65c_grow_92f84 7 = .ok (.ifCond .gt 13, 3) := by decide +kernel
theorem dJx4a65c_grow_92f84_10 : decode cJx4a65c_grow_92f84 10 = .ok (.aload_n 0, 1) := by decide +kernel
theorem dJx4a65c_grow_92f84_11 : decode cJx4a65c_grow_92f84 11 = .ok (.getfield 9, 3) := by decide +kernel
theorem dJx4a65c_grow_92f84_14 : decode cJx4a65c_grow_92f84 14 = .ok (.getstatic 39, 3) := by decide +kernel
theorem dJx4a65c_grow_92f84_17 : decode cJx4a65c_grow_92f84 17 = .ok (.if_acmp .eq 28, 3) := by decide +kernel
theorem dJx4a65c_grow_92f84_20 : decode cJx4a65c_grow_92f84 20 = .ok (.iload_n 2, 1) := by decide +kernel
theorem dJx4a65c_grow_92f84_21 : decode cJx4a65c_grow_92f84 21 = .ok (.iload_n 1, 1) := by decide +kernel
theorem dJx4a65c_grow_92f84_22 : decode cJx4a65c_grow_92f84 22 = .ok (.iload_n 2, 1) := by decide +kernel
theorem dJx4a65c_grow_92f84_23 : decode cJx4a65c_grow_92f84 23 = .ok (.isub, 1) := by decide +kernel
theorem dJx4a65c_grow_92f84_24 : decode cJx4a65c_grow_92f84 24 = .ok (.iload_n 2, 1) := by decide +kernel
theorem dJx4a65c_grow_92f84_25 : decode cJx4a65c_grow_92f84 25 = .ok (.iconst 1, 1) := by decide +kernel
theorem dJx4a65c_grow_92f84_26 : decode cJx4a65c_grow_92f84 26 = .ok (.ishr, 1) := by decide +kernel
theorem dJx4a65c_grow_92f84_27 : decode cJx4a65c_grow_92f84 27 = .ok (.invokestatic 73, 3) := by decide +kernel
theorem dJx4a65c_grow_92f84_30 : decode cJx4a65c_grow_92f84 30 = .ok (.istore_n 3, 1) := by decide +kernel
theorem dJx4a65c_grow_92f84_31 : decode cJx4a65c_grow_92f84 31 = .ok (.aload_n 0, 1) := by decide +kernel
theorem dJx4a65c_grow_92f84_32 : decode cJx4a65c_grow_92f84 32 = .ok (.aload_n 0, 1) := by decide +kernel
theorem dJx4a65c_grow_92f84_33 : decode cJx4a65c_grow_92f84 33 = .ok (.getfield 9, 3) := by decide +kernel
theorem dJx4a65c_grow_92f84_36 : decode cJx4a65c_grow_92f84 36 = .ok (.iload_n 3, 1) := by decide +kernel
theorem dJx4a65c_grow_92f84_37 : decode cJx4a65c_grow_92f84 37 = .ok (.invokestatic 66, 3) := by decide +kernel
theorem dJx4a65c_grow_92f84_40 : decode cJx4a65c_grow_92f84 40 = .ok (.dup_x1, 1) := by decide +kernel
theorem dJx4a65c_grow_92f84_41 : decode cJx4a65c_grow_92f84 41 = .ok (.putfield 9, 3) := by decide +kernel
theorem dJx4a65c_grow_92f84_44 : decode cJx4a65c_grow_92f84 44 = .ok (.areturn, 1) := by decide +kernel
theorem dJx4a65c_grow_92f84_45 : decode cJx4a65c_grow_92f84 45 = .ok (.aload_n 0, 1) := by decide +kernel
theorem dJx4a65c_grow_92f84_46 : decode cJx4a65c_grow_92f84 46 = .ok (.bipush 10, 2) := by decide +kernel
theorem dJx4a65c_grow_92f84_48 : decode cJx4a65c_grow_92f84 48 = .ok (.iload_n 1, 1) := by decide +kernel
theorem dJx4a65c_grow_92f84_49 : decode cJx4a65c_grow_92f84 49 = .ok (.invokestatic 79, 3) := by decide +kernel
theorem dJx4a65c_grow_92f84_52 : decode cJx4a65c_grow_92f84 52 = .ok (.anewarray 7, 3) := by decide +kernel
theorem dJx4a65c_grow_92f84_55 : decode cJx4a65c_grow_92f84 55 = .ok (.dup_x1, 1) := by decide +kernel
theorem dJx4a65c_grow_92f84_56 : decode cJx4a65c_grow_92f84 56 = .ok (.putfield 9, 3) := by decide +kernel
theorem dJx4a65c_grow_92f84_59 : decode cJx4a65c_grow_92f84 59 = .ok (.areturn, 1) := by decide +kernel
theorem dJx4a65c_grow_d5877_0 : decode cJx4a65c_grow_d5877 0 = .ok (.aload_n 0, 1) := by decide +kernel
theorem dJx4a65c_grow_d5877_1 : decode cJx4a65c_grow_d5877 1 = .ok (.aload_n 0, 1) := by decide +kernel
theorem dJx4a65c_grow_d5877_2 : decode cJx4a65c_grow_d5877 2 = .ok (.getfield 48, 3) := by decide +kernel
theorem dJx4a65c_grow_d5877_5 : decode cJx4a65c_grow_d5877 5 = .ok (.iconst 1, 1) := by decide +kernel
theorem dJx4a65c_grow_d5877_6 : decode cJx4a65c_grow_d5877 6 = .ok (.iadd, 1) := by decide +kernel
theorem dJx4a65c_grow_d5877_7 : decode cJx4a65c_grow_d5877 7 = .ok (.invokevirtual 69, 3) := by decide +kernel
theorem dJx4a65c_grow_d5877_10 : decode cJx4a65c_grow_d5877 10 = .ok (.areturn, 1) := by decide +kernel
theorem dJx4a65c_size_8abf5_0 : decode cJx4a65c_size_8abf5 0 = .ok (.aload_n 0, 1) := by decide +kernel
theorem dJx4a65c_size_8abf5_1 : decode cJx4a65c_size_8abf5 1 = .ok (.getfield 48, 3) := by decide +kernel
theorem dJx4a65c_size_8abf5_4 : decode cJx4a65c_size_8abf5 4 = .ok (.ireturn, 1) := by decide +kernel
theorem dJx4a65c_elementData_915e3_0 : decode cJx4a65c_elementData_915e3 0 = .ok (.aload_n 0, 1) := by decide +kernel
theorem dJx4a65c_elementData_915e3_1 : decode cJx4a65c_elementData_915e3 1 = .ok (.getfield 9, 3) := by decide +kernel
theorem dJx4a65c_elementData_915e3_4 : decode cJx4a65c_elementData_915e3 4 = .ok (.iload_n 1, 1) := by decide +kernel
theorem dJx4a65c_elementData_915e3_5 : decode cJx4a65c_elementData_915e3 5 = .ok (.aaload, 1) := by decide +kernel
theorem dJx4a65c_elementData_915e3_6 : decode cJx4a65c_elementData_915e3 6 = .ok (.areturn, 1) := by decide +kernel
theorem dJx4a65c_get_915e3_0 : decode cJx4a65c_get_915e3 0 = .ok (.iload_n 1, 1) := by decide +kernel
theorem dJx4a65c_get_915e3_1 : decode cJx4a65c_get_915e3 1 = .ok (.aload_n 0, 1) := by decide +kernel
theorem dJx4a65c_get_915e3_2 : decode cJx4a65c_get_915e3 2 = .ok (.getfield 48, 3) := by decide +kernel
theorem dJx4a65c_get_915e3_5 : decode cJx4a65c_get_915e3 5 = .ok (.invokestatic 118, 3) := by decide +kernel
theorem dJx4a65c_get_915e3_8 : decode cJx4a65c_get_915e3 8 = .ok (.pop, 1) := by decide +kernel
theorem dJx4a65c_get_915e3_9 : decode cJx4a65c_get_915e3 9 = .ok (.aload_n 0, 1) := by decide +kernel
theorem dJx4a65c_get_915e3_10 : decode cJx4a65c_get_915e3 10 = .ok (.iload_n 1, 1) := by decide +kernel
theorem dJx4a65c_get_915e3_11 : decode cJx4a65c_get_915e3 11 = .ok (.invokevirtual 123, 3) := by decide +kernel
theorem dJx4a65c_get_915e3_14 : decode cJx4a65c_get_915e3 14 = .ok (.areturn, 1) := by decide +kernel
theorem dJx4a65c_add_72be8_0 : decode cJx4a65c_add_72be8 0 = .ok (.iload_n 3, 1) := by decide +kernel
theorem dJx4a65c_add_72be8_1 : decode cJx4a65c_add_72be8 1 = .ok (.aload_n 2, 1) := by decide +kernel
theorem dJx4a65c_add_72be8_2 : decode cJx4a65c_add_72be8 2 = .ok (.arraylength, 1) := by decide +kernel
theorem dJx4a65c_add_72be8_3 : decode cJx4a65c_add_72be8 3 = .ok (.if_icmp .ne 8, 3) := by decide +kernel
theorem dJx4a65c_add_72be8_6 : decode cJx4a65c_add_72be8 6 = .ok (.aload_n 0, 1) := by decide +kernel
theorem dJx4a65c_add_72be8_7 : decode cJx4a65c_add_72be8 7 = .ok (.invokevirtual 129, 3) := by decide +kernel
theorem dJx4a65c_add_72be8_10 : decode cJx4a65c_add_72be8 10 = .ok (.astore_n 2, 1) := by decide +kernel
theorem dJx4a65c_add_72be8_11 : decode cJx4a65c_add_72be8 11 = .ok (.aload_n 2, 1) := by decide +kernel
theorem dJx4a65c_add_72be8_12 : decode cJx4a65c_add_72be8 12 = .ok (.iload_n 3, 1) := by decide +kernel
theorem dJx4a65c_add_72be8_13 : decode cJx4a65c_add_72be8 13 = .ok (.aload_n 1, 1) := by decide +kernel
theorem dJx4a65c_add_72be8_14 : decode cJx4a65c_add_72be8 14 = .ok (.aastore, 1) := by decide +kernel
theorem dJx4a65c_add_72be8_15 : decode cJx4a65c_add_72be8 15 = .ok (.aload_n 0, 1) := by decide +kernel
theorem dJx4a65c_add_72be8_16 : decode cJx4a65c_add_72be8 16 = .ok (.iload_n 3, 1) := by decide +kernel
theorem dJx4a65c_add_72be8_17 : decode cJx4a65c_add_72be8 17 = .ok (.iconst 1, 1) := by decide +kernel
theorem dJx4a65c_add_72be8_18 : decode cJx4a65c_add_72be8 18 = .ok (.iadd, 1) := by decide +kernel
theorem dJx4a65c_add_72be8_19 : decode cJx4a65c_add_72be8 19 = .ok (.putfield 48, 3) := by decide +kernel
theorem dJx4a65c_add_72be8_22 : decode cJx4a65c_add_72be8 22 = .ok (.return_, 1) := by decide +kernel
theorem dJx4a65c_add_9ea2d_0 : decode cJx4a65c_add_9ea2d 0 = .ok (.aload_n 0, 1) := by decide +kernel
theorem dJx4a65c_add_9ea2d_1 : decode cJx4a65c_add_9ea2d 1 = .ok (.dup, 1) := by decide +kernel
theorem dJx4a65c_add_9ea2d_2 : decode cJx4a65c_add_9ea2d 2 = .ok (.getfield 63, 3) := by decide +kernel
theorem dJx4a65c_add_9ea2d_5 : decode cJx4a65c_add_9ea2d 5 = .ok (.iconst 1, 1) := by decide +kernel
theorem dJx4a65c_add_9ea2d_6 : decode cJx4a65c_add_9ea2d 6 = .ok (.iadd, 1) := by decide +kernel
theorem dJx4a65c_add_9ea2d_7 : decode cJx4a65c_add_9ea2d 7 = .ok (.putfield 63, 3) := by decide +kernel
theorem dJx4a65c_add_9ea2d_10 : decode cJx4a65c_add_9ea2d 10 = .ok (.aload_n 0, 1) := by decide +kernel
theorem dJx4a65c_add_9ea2d_11 : decode cJx4a65c_add_9ea2d 11 = .ok (.aload_n 1, 1) := by decide +kernel
theorem dJx4a65c_add_9ea2d_12 : decode cJx4a65c_add_9ea2d 12 = .ok (.aload_n 0, 1) := by decide +kernel
theorem dJx4a65c_add_9ea2d_13 : decode cJx4a65c_add_9ea2d 13 = .ok (.getfield 9, 3) := by decide +kernel
theorem dJx4a65c_add_9ea2d_16 : decode cJx4a65c_add_9ea2d 16 = .ok (.aload_n 0, 1) := by decide +kernel
theorem dJx4a65c_add_9ea2d_17 : decode cJx4a65c_add_9ea2d 17 = .ok (.getfield 48, 3) := by decide +kernel
theorem dJx4a65c_add_9ea2d_20 : decode cJx4a65c_add_9ea2d 20 = .ok (.invokevirtual 131, 3) := by decide +kernel
theorem dJx4a65c_add_9ea2d_23 : decode cJx4a65c_add_9ea2d 23 = .ok (.iconst 1, 1) := by decide +kernel
theorem dJx4a65c_add_9ea2d_24 : decode cJx4a65c_add_9ea2d 24 = .ok (.ireturn, 1) := by decide +kernel
theorem dJx4a65c_remove_915e3_0 : decode cJx4a65c_remove_915e3 0 = .ok (.iload_n 1, 1) := by decide +kernel
theorem dJx4a65c_remove_915e3_1 : decode cJx4a65c_remove_915e3 1 = .ok (.aload_n 0, 1) := by decide +kernel
theorem dJx4a65c_remove_915e3_2 : decode cJx4a65c_remove_915e3 2 = .ok (.getfield 48, 3) := by decide +kernel
theorem dJx4a65c_remove_915e3_5 : decode cJx4a65c_remove_915e3 5 = .ok (.invokestatic 118, 3) := by decide +kernel
theorem dJx4a65c_remove_915e3_8 : decode cJx4a65c_remove_915e3 8 = .ok (.pop, 1) := by decide +kernel
theorem dJx4a65c_remove_915e3_9 : decode cJx4a65c_remove_915e3 9 = .ok (.aload_n 0, 1) := by decide +kernel
theorem dJx4a65c_remove_915e3_10 : decode cJx4a65c_remove_915e3 10 = .ok (.getfield 9, 3) := by decide +kernel
theorem dJx4a65c_remove_915e3_13 : decode cJx4a65c_remove_915e3 13 = .ok (.astore_n 2, 1) := by decide +kernel
theorem dJx4a65c_remove_915e3_14 : decode cJx4a65c_remove_915e3 14 = .ok (.aload_n 2, 1) := by decide +kernel
theorem dJx4a65c_remove_915e3_15 : decode cJx4a65c_remove_915e3 15 = .ok (.iload_n 1, 1) := by decide +kernel
theorem dJx4a65c_remove_915e3_16 : decode cJx4a65c_remove_915e3 16 = .ok (.aaload, 1) := by decide +kernel
theorem dJx4a65c_remove_915e3_17 : decode cJx4a65c_remove_915e3 17 = .ok (.astore_n 3, 1) := by decide +kernel
theorem dJx4a65c_remove_915e3_18 : decode cJx4a65c_remove_915e3 18 = .ok (.aload_n 0, 1) := by decide +kernel
theorem dJx4a65c_remove_915e3_19 : decode cJx4a65c_remove_915e3 19 = .ok (.aload_n 2, 1) := by decide +kernel
theorem dJx4a65c_remove_915e3_20 : decode cJx4a65c_remove_915e3 20 = .ok (.iload_n 1, 1) := by decide +kernel
theorem dJx4a65c_remove_915e3_21 : decode cJx4a65c_remove_915e3 21 = .ok (.invokevirtual 144, 3) := by decide +kernel
theorem dJx4a65c_remove_915e3_24 : decode cJx4a65c_remove_915e3 24 = .ok (.aload_n 3, 1) := by decide +kernel
theorem dJx4a65c_remove_915e3_25 : decode cJx4a65c_remove_915e3 25 = .ok (.areturn, 1) := by decide +kernel
theorem dJx4a65c_fastRemove_b59b0_0 : decode cJx4a65c_fastRemove_b59b0 0 = .ok (.aload_n 0, 1) := by decide +kernel
theorem dJx4a65c_fastRemove_b59b0_1 : decode cJx4a65c_fastRemove_b59b0 1 = .ok (.dup, 1) := by decide +kernel
theorem dJx4a65c_fastRemove_b59b0_2 : decode cJx4a65c_fastRemove_b59b0 2 = .ok (.getfield 63, 3) := by decide +kernel
theorem dJx4a65c_fastRemove_b59b0_5 : decode cJx4a65c_fastRemove_b59b0 5 = .ok (.iconst 1, 1) := by decide +kernel
theorem dJx4a65c_fastRemove_b59b0_6 : decode cJx4a65c_fastRemove_b59b0 6 = .ok (.iadd, 1) := by decide +kernel
theorem dJx4a65c_fastRemove_b59b0_7 : decode cJx4a65c_fastRemove_b59b0 7 = .ok (.putfield 63, 3) := by decide +kernel
theorem dJx4a65c_fastRemove_b59b0_10 : decode cJx4a65c_fastRemove_b59b0 10 = .ok (.aload_n 0, 1) := by decide +kernel
theorem dJx4a65c_fastRemove_b59b0_11 : decode cJx4a65c_fastRemove_b59b0 11 = .ok (.getfield 48, 3) := by decide +kernel
theorem dJx4a65c_fastRemove_b59b0_14 : decode cJx4a65c_fastRemove_b59b0 14 = .ok (.iconst 1, 1) := by decide +kernel
theorem dJx4a65c_fastRemove_b59b0_15 : decode cJx4a65c_fastRemove_b59b0 15 = .ok (.isub, 1) := by decide +kernel
theorem dJx4a65c_fastRemove_b59b0_16 : decode cJx4a65c_fastRemove_b59b0 16 = .ok (.dup, 1) := by decide +kernel
theorem dJx4a65c_fastRemove_b59b0_17 : decode cJx4a65c_fastRemove_b59b0 17 = .ok (.istore_n 3, 1) := by decide +kernel
theorem dJx4a65c_fastRemove_b59b0_18 : decode cJx4a65c_fastRemove_b59b0 18 = .ok (.iload_n 2, 1) := by decide +kernel
theorem dJx4a65c_fastRemove_b59b0_19 : decode cJx4a65c_fastRemove_b59b0 19 = .ok (.if_icmp .le 15, 3) := by decide +kernel
theorem dJx4a65c_fastRemove_b59b0_22 : decode cJx4a65c_fastRemove_b59b0 22 = .ok (.aload_n 1, 1) := by decide +kernel
theorem dJx4a65c_fastRemove_b59b0_23 : decode cJx4a65c_fastRemove_b59b0 23 = .ok (.iload_n 2, 1) := by decide +kernel
theorem dJx4a65c_fastRemove_b59b0_24 : decode cJx4a65c_fastRemove_b59b0 24 = .ok (.iconst 1, 1) := by decide +kernel
theorem dJx4a65c_fastRemove_b59b0_25 : decode cJx4a65c_fastRemove_b59b0 25 = .ok (.iadd, 1) := by decide +kernel
theorem dJx4a65c_fastRemove_b59b0_26 : decode cJx4a65c_fastRemove_b59b0 26 = .ok (.aload_n 1, 1) := by decide +kernel
theorem dJx4a65c_fastRemove_b59b0_27 : decode cJx4a65c_fastRemove_b59b0 27 = .ok (.iload_n 2, 1) := by decide +kernel
theorem dJx4a65c_fastRemove_b59b0_28 : decode cJx4a65c_fastRemove_b59b0 28 = .ok (.iload_n 3, 1) := by decide +kernel
theorem dJx4a65c_fastRemove_b59b0_29 : decode cJx4a65c_fastRemove_b59b0 29 = .ok (.iload_n 2, 1) := by decide +kernel
theorem dJx4a65c_fastRemove_b59b0_30 : decode cJx4a65c_fastRemove_b59b0 30 = .ok (.isub, 1) := by decide +kernel
theorem dJx4a65c_fastRemove_b59b0_31 : decode cJx4a65c_fastRemove_b59b0 31 = .ok (.invokestatic 112, 3) := by decide +kernel
theorem dJx4a65c_fastRemove_b59b0_34 : decode cJx4a65c_fastRemove_b59b0 34 = .ok (.aload_n 1, 1) := by decide +kernel
theorem dJx4a65c_fastRemove_b59b0_35 : decode cJx4a65c_fastRemove_b59b0 35 = .ok (.aload_n 0, 1) := by decide +kernel
theorem dJx4a65c_fastRemove_b59b0_36 : decode cJx4a65c_fastRemove_b59b0 36 = .ok (.iload_n 3, 1) := by decide +kernel
theorem dJx4a65c_fastRemove_b59b0_37 : decode cJx4a65c_fastRemove_b59b0 37 = .ok (.dup_x1, 1) := by decide +kernel
theorem dJx4a65c_fastRemove_b59b0_38 : decode cJx4a65c_fastRemove_b59b0 38 = .ok (.putfield 48, 3) := by decide +kernel
theorem dJx4a65c_fastRemove_b59b0_41 : decode cJx4a65c_fastRemove_b59b0 41 = .ok (.aconst_null, 1) := by decide +kernel
theorem dJx4a65c_fastRemove_b59b0_42 : decode cJx4a65c_fastRemove_b59b0 42 = .ok (.aastore, 1) := by decide +kernel
theorem dJx4a65c_fastRemove_b59b0_43 : decode cJx4a65c_fastRemove_b59b0 43 = .ok (.return_, 1) := by decide +kernel
theorem dJx4a65c_clear_da8c8_0 : decode cJx4a65c_clear_da8c8 0 = .ok (.aload_n 0, 1) := by decide +kernel
theorem dJx4a65c_clear_da8c8_1 : decode cJx4a65c_clear_da8c8 1 = .ok (.dup, 1) := by decide +kernel
theorem dJx4a65c_clear_da8c8_2 : decode cJx4a65c_clear_da8c8 2 = .ok (.getfield 63, 3) := by decide +kernel
theorem dJx4a65c_clear_da8c8_5 : decode cJx4a65c_clear_da8c8 5 = .ok (.iconst 1, 1) := by decide +kernel
theorem dJx4a65c_clear_da8c8_6 : decode cJx4a65c_clear_da8c8 6 = .ok (.iadd, 1) := by decide +kernel
theorem dJx4a65c_clear_da8c8_7 : decode cJx4a65c_clear_da8c8 7 = .ok (.putfield 63, 3) := by decide +kernel
theorem dJx4a65c_clear_da8c8_10 : decode cJx4a65c_clear_da8c8 10 = .ok (.aload_n 0, 1) := by decide +kernel
theorem dJx4a65c_clear_da8c8_11 : decode cJx4a65c_clear_da8c8 11 = .ok (.getfield 9, 3) := by decide +kernel
theorem dJx4a65c_clear_da8c8_14 : decode cJx4a65c_clear_da8c8 14 = .ok (.astore_n 1, 1) := by decide +kernel
theorem dJx4a65c_clear_da8c8_15 : decode cJx4a65c_clear_da8c8 15 = .ok (.aload_n 0, 1) := by decide +kernel
theorem dJx4a65c_clear_da8c8_16 : decode cJx4a65c_clear_da8c8 16 = .ok (.getfield 48, 3) := by decide +kernel
theorem dJx4a65c_clear_da8c8_19 : decode cJx4a65c_clear_da8c8 19 = .ok (.istore_n 2, 1) := by decide +kernel
theorem dJx4a65c_clear_da8c8_20 : decode cJx4a65c_clear_da8c8 20 = .ok (.aload_n 0, 1) := by decide +kernel
theorem dJx4a65c_clear_da8c8_21 : decode cJx4a65c_clear_da8c8 21 = .ok (.iconst 0, 1) := by decide +kernel
theorem dJx4a65c_clear_da8c8_22 : decode cJx4a65c_clear_da8c8 22 = .ok (.dup_x1, 1) := by decide +kernel
theorem dJx4a65c_clear_da8c8_23 : decode cJx4a65c_clear_da8c8 23 = .ok (.putfield 48, 3) := by decide +kernel
theorem dJx4a65c_clear_da8c8_26 : decode cJx4a65c_clear_da8c8 26 = .ok (.istore_n 3, 1) := by decide +kernel
theorem dJx4a65c_clear_da8c8_27 : decode cJx4a65c_clear_da8c8 27 = .ok (.iload_n 3, 1) := by decide +kernel
theorem dJx4a65c_clear_da8c8_28 : decode cJx4a65c_clear_da8c8 28 = .ok (.iload_n 2, 1) := by decide +kernel
theorem dJx4a65c_clear_da8c8_29 : decode cJx4a65c_clear_da8c8 29 = .ok (.if_icmp .ge 13, 3) := by decide +kernel
theorem dJx4a65c_clear_da8c8_32 : decode cJx4a65c_clear_da8c8 32 = .ok (.aload_n 1, 1) := by decide +kernel
theorem dJx4a65c_clear_da8c8_33 : decode cJx4a65c_clear_da8c8 33 = .ok (.iload_n 3, 1) := by decide +kernel
theorem dJx4a65c_clear_da8c8_34 : decode cJx4a65c_clear_da8c8 34 = .ok (.aconst_null, 1) := by decide +kernel
theorem dJx4a65c_clear_da8c8_35 : decode cJx4a65c_clear_da8c8 35 = .ok (.aastore, 1) := by decide +kernel
theorem dJx4a65c_clear_da8c8_36 : decode cJx4a65c_clear_da8c8 36 = .ok (.iinc 3 1, 3) := by decide +kernel
theorem dJx4a65c_clear_da8c8_39 : decode cJx4a65c_clear_da8c8 39 = .ok (.goto (-12), 3) := by decide +kernel
theorem dJx4a65c_clear_da8c8_42 : decode cJx4a65c_clear_da8c8 42 = .ok (.return_, 1) := by decide +kernel
theorem dJ7_copyOf_1904c_0 : decode cJ7_copyOf_1904c 0 = .ok (.aload_n 0, 1) := by decide +kernel
theorem dJ7_copyOf_1904c_1 : decode cJ7_copyOf_1904c 1 = .ok (.iload_n 1, 1) := by decide +kernel
theorem dJ7_copyOf_1904c_2 : decode cJ7_copyOf_1904c 2 = .ok (.aload_n 0, 1) := by decide +kernel
theorem dJ7_copyOf_1904c_3 : decode cJ7_copyOf_1904c 3 = .ok (.invokevirtual 86, 3) := by decide +kernel
theorem dJ7_copyOf_1904c_6 : decode cJ7_copyOf_1904c 6 = .ok (.invokestatic 300, 3) := by decide +kernel
theorem dJ7_copyOf_1904c_9 : decode cJ7_copyOf_1904c 9 = .ok (.areturn, 1) := by decide +kernel
theorem dJ7_copyOf_6403c_0 : decode cJ7_copyOf_6403c 0 = .ok (.aload_n 2, 1) := by decide +kernel
theorem dJ7_copyOf_6403c_1 : decode cJ7_copyOf_6403c 1 = .ok (.ldc 110, 2) := by decide +kernel
theorem dJ7_copyOf_6403c_3 : decode cJ7_copyOf_6403c 3 = .ok (.if_acmp .ne 10, 3) := by decide +kernel
theorem dJ7_copyOf_6403c_6 : decode cJ7_copyOf_6403c 6 = .ok (.iload_n 1, 1) := by decide +kernel
theorem dJ7_copyOf_6403c_7 : decode cJ7_copyOf_6403c 7 = .ok (.anewarray 2, 3) := by decide +kernel
theorem dJ7_copyOf_6403c_10 : decode cJ7_copyOf_6403c 10 = .ok (.goto 14, 3) := by decide +kernel
theorem dJ7_copyOf_6403c_13 : decode cJ7_copyOf_6403c 13 = .ok (.aload_n 2, 1) := by decide +kernel
theorem dJ7_copyOf_6403c_14 : decode cJ7_copyOf_6403c 14 = .ok (.invokevirtual 90, 3) := by decide +kernel
theorem dJ7_copyOf_6403c_17 : decode cJ7_copyOf_6403c 17 = .ok (.iload_n 1, 1) := by decide +kernel
theorem dJ7_copyOf_6403c_18 : decode cJ7_copyOf_6403c 18 = .ok (.invokestatic 95, 3) := by decide +kernel
theorem dJ7_copyOf_6403c_21 : decode cJ7_copyOf_6403c 21 = .ok (.checkcast 110, 3) := by decide +kernel
theorem dJ7_copyOf_6403c_24 : decode cJ7_copyOf_6403c 24 = .ok (.astore_n 3, 1) := by decide +kernel
theorem dJ7_copyOf_6403c_25 : decode cJ7_copyOf_6403c 25 = .ok (.aload_n 0, 1) := by decide +kernel
theorem dJ7_copyOf_6403c_26 : decode cJ7_copyOf_6403c 26 = .ok (.iconst 0, 1) := by decide +kernel
theorem dJ7_copyOf_6403c_27 : decode cJ7_copyOf_6403c 27 = .ok (.aload_n 3, 1) := by decide +kernel
theorem dJ7_copyOf_6403c_28 : decode cJ7_copyOf_6403c 28 = .ok (.iconst 0, 1) := by decide +kernel
theorem dJ7_copyOf_6403c_29 : decode cJ7_copyOf_6403c 29 = .ok (.aload_n 0, 1) := by decide +kernel
theorem dJ7_copyOf_6403c_30 : decode cJ7_copyOf_6403c 30 = .ok (.arraylength, 1) := by decide +kernel
theorem dJ7_copyOf_6403c_31 : decode cJ7_copyOf_6403c 31 = .ok (.iload_n 1, 1) := by decide +kernel
theorem dJ7_copyOf_6403c_32 : decode cJ7_copyOf_6403c 32 = .ok (.invokestatic 304, 3) := by decide +kernel
theorem dJ7_copyOf_6403c_35 : decode cJ7_copyOf_6403c 35 = .ok (.invokestatic 150, 3) := by decide +kernel
theorem dJ7_copyOf_6403c_38 : decode cJ7_copyOf_6403c 38 = .ok (.aload_n 3, 1) := by decide +kernel
theorem dJ7_copyOf_6403c_39 : decode cJ7_copyOf_6403c 39 = .ok (.areturn, 1) := by decide +kernel
theorem dJ15_checkIndex_7cf53_0 : decode cJ15_checkIndex_7cf53 0 = .ok (.iload_n 0, 1) := by decide +kernel
theorem dJ15_checkIndex_7cf53_1 : decode cJ15_checkIndex_7cf53 1 = .ok (.iload_n 1, 1) := by decide +kernel
theorem dJ15_checkIndex_7cf53_2 : decode cJ15_checkIndex_7cf53 2 = .ok (.aconst_null, 1) := by decide +kernel
theorem dJ15_checkIndex_7cf53_3 : decode cJ15_checkIndex_7cf53 3 = .ok (.invokestatic 105, 3) := by decide +kernel
theorem dJ15_checkIndex_7cf53_6 : decode cJ15_checkIndex_7cf53 6 = .ok (.ireturn, 1) := by decide +kernel
theorem dJ8_newLength_cabcc_0 : decode cJ8_newLength_cabcc 0 = .ok (.iload_n 0, 1) := by decide +kernel
theorem dJ8_newLength_cabcc_1 : decode cJ8_newLength_cabcc 1 = .ok (.iload_n 1, 1) := by decide +kernel
theorem dJ8_newLength_cabcc_2 : decode cJ8_newLength_cabcc 2 = .ok (.iload_n 2, 1) := by decide +kernel
theorem dJ8_newLength_cabcc_3 : decode cJ8_newLength_cabcc 3 = .ok (.invokestatic 194, 3) := by decide +kernel
theorem dJ8_newLength_cabcc_6 : decode cJ8_newLength_cabcc 6 = .ok (.iadd, 1) := by decide +kernel
theorem dJ8_newLength_cabcc_7 : decode cJ8_newLength_cabcc 7 = .ok (.istore_n 3, 1) := by decide +kernel
theorem dJ8_newLength_cabcc_8 : decode cJ8_newLength_cabcc 8 = .ok (.iconst 0, 1) := by decide +kernel
theorem dJ8_newLength_cabcc_9 : decode cJ8_newLength_cabcc 9 = .ok (.iload_n 3, 1) := by decide +kernel
theorem dJ8_newLength_cabcc_10 : decode cJ8_newLength_cabcc 10 = .ok (.if_icmp .ge 11, 3) := by decide +kernel
theorem dJ8_newLength_cabcc_13 : decode cJ8_newLength_cabcc 13 = .ok (.iload_n 3, 1) := by decide +kernel
theorem dJ8_newLength_cabcc_14 : decode cJ8_newLength_cabcc 14 = .ok (.ldc 200, 2) := by decide +kernel
theorem dJ8_newLength_cabcc_16 : decode cJ8_newLength_cabcc 16 = .ok (.if_icmp .gt 5, 3) := by decide +kernel
theorem dJ8_newLength_cabcc_19 : decode cJ8_newLength_cabcc 19 = .ok (.iload_n 3, 1) := by decide +kernel
theorem dJ8_newLength_cabcc_20 : decode cJ8_newLength_cabcc 20 = .ok (.ireturn, 1) := by decide +kernel
theorem dJ8_newLength_cabcc_21 : decode cJ8_newLength_cabcc 21 = .ok (.iload_n 0, 1) := by decide +kernel
theorem dJ8_newLength_cabcc_22 : decode cJ8_newLength_cabcc 22 = .ok (.iload_n 1, 1) := by decide +kernel
theorem dJ8_newLength_cabcc_23 : decode cJ8_newLength_cabcc 23 = .ok (.invokestatic 201, 3) := by decide +kernel
theorem dJ8_newLength_cabcc_26 : decode cJ8_newLength_cabcc 26 = .ok (.ireturn, 1) := by decide +kernel
theorem dJ8_hugeLength_7cf53_0 : decode cJ8_hugeLength_7cf53 0 = .ok (.iload_n 0, 1) := by decide +kernel
theorem dJ8_hugeLength_7cf53_1 : decode cJ8_hugeLength_7cf53 1 = .ok (.iload_n 1, 1) := by decide +kernel
theorem dJ8_hugeLength_7cf53_2 : decode cJ8_hugeLength_7cf53 2 = .ok (.iadd, 1) := by decide +kernel
theorem dJ8_hugeLength_7cf53_3 : decode cJ8_hugeLength_7cf53 3 = .ok (.istore_n 2, 1) := by decide +kernel
theorem dJ8_hugeLength_7cf53_4 : decode cJ8_hugeLength_7cf53 4 = .ok (.iload_n 2, 1) := by decide +kernel
theorem dJ8_hugeLength_7cf53_5 : decode cJ8_hugeLength_7cf53 5 = .ok (.ifCond .ge 44, 3) := by decide +kernel
theorem dJ8_hugeLength_7cf53_8 : decode cJ8_hugeLength_7cf53 8 = .ok (.new 204, 3) := by decide +kernel
theorem dJ8_hugeLength_7cf53_11 : decode cJ8_hugeLength_7cf53 11 = .ok (.dup, 1) := by decide +kernel
theorem dJ8_hugeLength_7cf53_12 : decode cJ8_hugeLength_7cf53 12 = .ok (.new 89, 3) := by decide +kernel
theorem dJ8_hugeLength_7cf53_15 : decode cJ8_hugeLength_7cf53 15 = .ok (.dup, 1) := by decide +kernel
theorem dJ8_hugeLength_7cf53_16 : decode cJ8_hugeLength_7cf53 16 = .ok (.invokespecial 91, 3) := by decide +kernel
theorem dJ8_hugeLength_7cf53_19 : decode cJ8_hugeLength_7cf53 19 = .ok (.ldc 206, 2) := by decide +kernel
theorem dJ8_hugeLength_7cf53_21 : decode cJ8_hugeLength_7cf53 21 = .ok (.invokevirtual 94, 3) := by decide +kernel
theorem dJ8_hugeLength_7cf53_24 : decode cJ8_hugeLength_7cf53 24 = .ok (.iload_n 0, 1) := by decide +kernel
theorem dJ8_hugeLength_7cf53_25 : decode cJ8_hugeLength_7cf53 25 = .ok (.invokevirtual 98, 3) := by decide +kernel
theorem dJ8_hugeLength_7cf53_28 : decode cJ8_hugeLength_7cf53 28 = .ok (.ldc 208, 2) := by decide +kernel
theorem dJ8_hugeLength_7cf53_30 : decode cJ8_hugeLength_7cf53 30 = .ok (.invokevirtual 94, 3) := by decide +kernel
theorem dJ8_hugeLength_7cf53_33 : decode cJ8_hugeLength_7cf53 33 = .ok (.iload_n 1, 1) := by decide +kernel
theorem dJ8_hugeLength_7cf53_34 : decode cJ8_hugeLength_7cf53 34 = .ok (.invokevirtual 98, 3) := by decide +kernel
theorem dJ8_hugeLength_7cf53_37 : decode cJ8_hugeLength_7cf53 37 = .ok (.ldc 210, 2) := by decide +kernel
theorem dJ8_hugeLength_7cf53_39 : decode cJ8_hugeLength_7cf53 39 = .ok (.invokevirtual 94, 3) := by decide +kernel
theorem dJ8_hugeLength_7cf53_42 : decode cJ8_hugeLength_7cf53 42 = .ok (.invokevirtual 101, 3) := by decide +kernel
theorem dJ8_hugeLength_7cf53_45 : decode cJ8_hugeLength_7cf53 45 = .ok (.invokespecial 212, 3) := by decide +kernel
theorem dJ8_hugeLength_7cf53_48 : decode cJ8_hugeLength_7cf53 48 = .ok (.athrow, 1) := by decide +kernel
theorem dJ8_hugeLength_7cf53_49 : decode cJ8_hugeLength_7cf53 49 = .ok (.iload_n 2, 1) := by decide +kernel
theorem dJ8_hugeLength_7cf53_50 : decode cJ8_hugeLength_7cf53 50 = .ok (.ldc 200, 2) := by decide +kernel
theorem dJ8_hugeLength_7cf53_52 : decode cJ8_hugeLength_7cf53 52 = .ok (.if_icmp .gt 6, 3) := by decide +kernel
theorem dJ8_hugeLength_7cf53_55 : decode cJ8_hugeLength_7cf53 55 = .ok (.ldc 200, 2) := by decide +kernel
theorem dJ8_hugeLength_7cf53_57 : decode cJ8_hugeLength_7cf53 57 = .ok (.ireturn, 1) := by decide +kernel
theorem dJ8_hugeLength_7cf53_58 : decode cJ8_hugeLength_7cf53 58 = .ok (.iload_n 2, 1) := by decide +kernel
theorem dJ8_hugeLength_7cf53_59 : decode cJ8_hugeLength_7cf53 59 = .ok (.ireturn, 1) := by decide +kernel
theorem dJ3_checkIndex_8e157_0 : decode cJ3_checkIndex_8e157 0 = .ok (.iload_n 0, 1) := by decide +kernel
theorem dJ3_checkIndex_8e157_1 : decode cJ3_checkIndex_8e157 1 = .ok (.ifCond .lt 8, 3) := by decide +kernel
theorem dJ3_checkIndex_8e157_4 : decode cJ3_checkIndex_8e157 4 = .ok (.iload_n 0, 1) := by decide +kernel
theorem dJ3_checkIndex_8e157_5 : decode cJ3_checkIndex_8e157 5 = .ok (.iload_n 1, 1) := by decide +kernel
theorem dJ3_checkIndex_8e157_6 : decode cJ3_checkIndex_8e157 6 = .ok (.if_icmp .lt 10, 3) := by decide +kernel
theorem dJ3_checkIndex_8e157_9 : decode cJ3_checkIndex_8e157 9 = .ok (.aload_n 2, 1) := by decide +kernel
theorem dJ3_checkIndex_8e157_10 : decode cJ3_checkIndex_8e157 10 = .ok (.iload_n 0, 1) := by decide +kernel
theorem dJ3_checkIndex_8e157_11 : decode cJ3_checkIndex_8e157 11 = .ok (.iload_n 1, 1) := by decide +kernel
theorem dJ3_checkIndex_8e157_12 : decode cJ3_checkIndex_8e157 12 = .ok (.invokestatic 95, 3) := by decide +kernel
theorem dJ3_checkIndex_8e157_15 : decode cJ3_checkIndex_8e157 15 = .ok (.athrow, 1) := by decide +kernel
theorem dJ3_checkIndex_8e157_16 : decode cJ3_checkIndex_8e157 16 = .ok (.iload_n 0, 1) := by decide +kernel
theorem dJ3_checkIndex_8e157_17 : decode cJ3_checkIndex_8e157 17 = .ok (.ireturn, 1) := by decide +kernel
end
section
theorem dL_add_0 : decode cL_add 0 = .ok (.aload 9, 2) := by decide +kernel
theorem dL_add_2 : decode cL_add 2 = .ok (.iconst 0, 1) := by decide +kernel
theorem dL_add_3 : decode cL_add 3 = .ok (.aload_n 0, 1) := by decide +kernel
theorem dL_add_4 : decode cL_add 4 = .ok (.iload_n 1, 1) := by decide +kernel
theorem dL_add_5 : decode cL_add 5 = .ok (.iload_n 2, 1) := by decide +kernel
theorem dL_add_6 : decode cL_add 6 = .ok (.iload_n 3, 1) := by decide +kernel
theorem dL_add_7 : decode cL_add 7 = .ok (.lload 4, 2) := by decide +kernel
theorem dL_add_9 : decode cL_add 9 = .ok (.lload 6, 2) := by decide +kernel
theorem dL_add_11 : decode cL_add 11 = .ok (.iload 8, 2) := by decide +kernel
theorem dL_add_13 : decode cL_add 13 = .ok (.invokevirtual 7, 3) := by decide +kernel
theorem dL_add_16 : decode cL_add 16 = .ok (.i2l, 1) := by decide +kernel
theorem dL_add_17 : decode cL_add 17 = .ok (.lastore, 1) := by decide +kernel
theorem dL_add_18 : decode cL_add 18 = .ok (.goto 11, 3) := by decide +kernel
theorem dL_add_21 : decode cL_add 21 = .ok (.astore 10, 2) := by decide +kernel
theorem dL_add_23 : decode cL_add 23 = .ok (.iconst 1, 1) := by decide +kernel
theorem dL_add_24 : decode cL_add 24 = .ok (.ireturn, 1) := by decide +kernel
theorem dL_add_25 : decode cL_add 25 = .ok (.astore 10, 2) := by decide +kernel
theorem dL_add_27 : decode cL_add 27 = .ok (.iconst 2, 1) := by decide +kernel
theorem dL_add_28 : decode cL_add 28 = .ok (.ireturn, 1) := by decide +kernel
theorem dL_add_29 : decode cL_add 29 = .ok (.iconst 0, 1) := by decide +kernel
theorem dL_add_30 : decode cL_add 30 = .ok (.ireturn, 1) := by decide +kernel
theorem dL_remove_0 : decode cL_remove 0 = .ok (.aload_n 3, 1) := by decide +kernel
theorem dL_remove_1 : decode cL_remove 1 = .ok (.iconst 0, 1) := by decide +kernel
theorem dL_remove_2 : decode cL_remove 2 = .ok (.aload_n 0, 1) := by decide +kernel
theorem dL_remove_3 : decode cL_remove 3 = .ok (.iload_n 1, 1) := by decide +kernel
theorem dL_remove_4 : decode cL_remove 4 = .ok (.iload_n 2, 1) := by decide +kernel
theorem dL_remove_5 : decode cL_remove 5 = .ok (.invokevirtual 17, 3) := by decide +kernel
theorem dL_remove_8 : decode cL_remove 8 = .ok (.i2l, 1) := by decide +kernel
theorem dL_remove_9 : decode cL_remove 9 = .ok (.lastore, 1) := by decide +kernel
theorem dL_remove_10 : decode cL_remove 10 = .ok (.goto 11, 3) := by decide +kernel
theorem dL_remove_13 : decode cL_remove 13 = .ok (.astore 4, 2) := by decide +kernel
theorem dL_remove_15 : decode cL_remove 15 = .ok (.iconst 1, 1) := by decide +kernel
theorem dL_remove_16 : decode cL_remove 16 = .ok (.ireturn, 1) := by decide +kernel
theorem dL_remove_17 : decode cL_remove 17 = .ok (.astore 4, 2) := by decide +kernel
theorem dL_remove_19 : decode cL_remove 19 = .ok (.iconst 2, 1) := by decide +kernel
theorem dL_remove_20 : decode cL_remove 20 = .ok (.ireturn, 1) := by decide +kernel
theorem dL_remove_21 : decode cL_remove 21 = .ok (.iconst 0, 1) := by decide +kernel
theorem dL_remove_22 : decode cL_remove 22 = .ok (.ireturn, 1) := by decide +kernel
theorem dL_setDefault_0 : decode cL_setDefault 0 = .ok (.aload_n 3, 1) := by decide +kernel
theorem dL_setDefault_1 : decode cL_setDefault 1 = .ok (.iconst 0, 1) := by decide +kernel
theorem dL_setDefault_2 : decode cL_setDefault 2 = .ok (.aload_n 0, 1) := by decide +kernel
theorem dL_setDefault_3 : decode cL_setDefault 3 = .ok (.iload_n 1, 1) := by decide +kernel
theorem dL_setDefault_4 : decode cL_setDefault 4 = .ok (.iload_n 2, 1) := by decide +kernel
theorem dL_setDefault_5 : decode cL_setDefault 5 = .ok (.invokevirtual 23, 3) := by decide +kernel
theorem dL_setDefault_8 : decode cL_setDefault 8 = .ok (.i2l, 1) := by decide +kernel
theorem dL_setDefault_9 : decode cL_setDefault 9 = .ok (.lastore, 1) := by decide +kernel
theorem dL_setDefault_10 : decode cL_setDefault 10 = .ok (.goto 7, 3) := by decide +kernel
theorem dL_setDefault_13 : decode cL_setDefault 13 = .ok (.astore 4, 2) := by decide +kernel
theorem dL_setDefault_15 : decode cL_setDefault 15 = .ok (.iconst 1, 1) := by decide +kernel
theorem dL_setDefault_16 : decode cL_setDefault 16 = .ok (.ireturn, 1) := by decide +kernel
theorem dL_setDefault_17 : decode cL_setDefault 17 = .ok (.iconst 0, 1) := by decide +kernel
theorem dL_setDefault_18 : decode cL_setDefault 18 = .ok (.ireturn, 1) := by decide +kernel
theorem dL_setFrequency_0 : decode cL_setFrequency 0 = .ok (.aload_n 3, 1) := by decide +kernel
theorem dL_setFrequency_1 : decode cL_setFrequency 1 = .ok (.iconst 0, 1) := by decide +kernel
theorem dL_setFrequency_2 : decode cL_setFrequency 2 = .ok (.aload_n 0, 1) := by decide +kernel
theorem dL_setFrequency_3 : decode cL_setFrequency 3 = .ok (.iload_n 1, 1) := by decide +kernel
theorem dL_setFrequency_4 : decode cL_setFrequency 4 = .ok (.iload_n 2, 1) := by decide +kernel
theorem dL_setFrequency_5 : decode cL_setFrequency 5 = .ok (.invokevirtual 26, 3) := by decide +kernel
theorem dL_setFrequency_8 : decode cL_setFrequency 8 = .ok (.i2l, 1) := by decide +kernel
theorem dL_setFrequency_9 : decode cL_setFrequency 9 = .ok (.lastore, 1) := by decide +kernel
theorem dL_setFrequency_10 : decode cL_setFrequency 10 = .ok (.goto 7, 3) := by decide +kernel
theorem dL_setFrequency_13 : decode cL_setFrequency 13 = .ok (.astore 4, 2) := by decide +kernel
theorem dL_setFrequency_15 : decode cL_setFrequency 15 = .ok (.iconst 1, 1) := by decide +kernel
theorem dL_setFrequency_16 : decode cL_setFrequency 16 = .ok (.ireturn, 1) := by decide +kernel
theorem dL_setFrequency_17 : decode cL_setFrequency 17 = .ok (.iconst 0, 1) := by decide +kernel
theorem dL_setFrequency_18 : decode cL_setFrequency 18 = .ok (.ireturn, 1) := by decide +kernel
theorem dL_rules_0 : decode cL_rules 0 = .ok (.aload_n 2, 1) := by decide +kernel
theorem dL_rules_1 : decode cL_rules 1 = .ok (.iconst 0, 1) := by decide +kernel
theorem dL_rules_2 : decode cL_rules 2 = .ok (.aload_n 0, 1) := by decide +kernel
theorem dL_rules_3 : decode cL_rules 3 = .ok (.iload_n 1, 1) := by decide +kernel
theorem dL_rules_4 : decode cL_rules 4 = .ok (.invokevirtual 29, 3) := by decide +kernel
theorem dL_rules_7 : decode cL_rules 7 = .ok (.i2l, 1) := by decide +kernel
theorem dL_rules_8 : decode cL_rules 8 = .ok (.lastore, 1) := by decide +kernel
theorem dL_rules_9 : decode cL_rules 9 = .ok (.goto 6, 3) := by decide +kernel
theorem dL_rules_12 : decode cL_rules 12 = .ok (.astore_n 3, 1) := by decide +kernel
theorem dL_rules_13 : decode cL_rules 13 = .ok (.iconst 1, 1) := by decide +kernel
theorem dL_rules_14 : decode cL_rules 14 = .ok (.ireturn, 1) := by decide +kernel
theorem dL_rules_15 : decode cL_rules 15 = .ok (.iconst 0, 1) := by decide +kernel
theorem dL_rules_16 : decode cL_rules 16 = .ok (.ireturn, 1) := by decide +kernel
theorem dL_hider_0 : decode cL_hider 0 = .ok (.aload_n 3, 1) := by decide +kernel
theorem dL_hider_1 : decode cL_hider 1 = .ok (.iconst 0, 1) := by decide +kernel
theorem dL_hider_2 : decode cL_hider 2 = .ok (.aload_n 0, 1) := by decide +kernel
theorem dL_hider_3 : decode cL_hider 3 = .ok (.iload_n 1, 1) := by decide +kernel
theorem dL_hider_4 : decode cL_hider 4 = .ok (.iload_n 2, 1) := by decide +kernel
theorem dL_hider_5 : decode cL_hider 5 = .ok (.invokevirtual 33, 3) := by decide +kernel
theorem dL_hider_8 : decode cL_hider 8 = .ok (.i2l, 1) := by decide +kernel
theorem dL_hider_9 : decode cL_hider 9 = .ok (.lastore, 1) := by decide +kernel
theorem dL_hider_10 : decode cL_hider 10 = .ok (.goto 11, 3) := by decide +kernel
theorem dL_hider_13 : decode cL_hider 13 = .ok (.astore 4, 2) := by decide +kernel
theorem dL_hider_15 : decode cL_hider 15 = .ok (.iconst 1, 1) := by decide +kernel
theorem dL_hider_16 : decode cL_hider 16 = .ok (.ireturn, 1) := by decide +kernel
theorem dL_hider_17 : decode cL_hider 17 = .ok (.astore 4, 2) := by decide +kernel
theorem dL_hider_19 : decode cL_hider 19 = .ok (.iconst 2, 1) := by decide +kernel
theorem dL_hider_20 : decode cL_hider 20 = .ok (.ireturn, 1) := by decide +kernel
theorem dL_hider_21 : decode cL_hider 21 = .ok (.iconst 0, 1) := by decide +kernel
theorem dL_hider_22 : decode cL_hider 22 = .ok (.ireturn, 1) := by decide +kernel
theorem dL_compile_0 : decode cL_compile 0 = .ok (.aload_n 2, 1) := by decide +kernel
theorem dL_compile_1 : decode cL_compile 1 = .ok (.iconst 0, 1) := by decide +kernel
theorem dL_compile_2 : decode cL_compile 2 = .ok (.aload_n 0, 1) := by decide +kernel
theorem dL_compile_3 : decode cL_compile 3 = .ok (.iload_n 1, 1) := by decide +kernel
theorem dL_compile_4 : decode cL_compile 4 = .ok (.invokevirtual 36, 3) := by decide +kernel
theorem dL_compile_7 : decode cL_compile 7 = .ok (.i2l, 1) := by decide +kernel
theorem dL_compile_8 : decode cL_compile 8 = .ok (.lastore, 1) := by decide +kernel
theorem dL_compile_9 : decode cL_compile 9 = .ok (.goto 6, 3) := by decide +kernel
theorem dL_compile_12 : decode cL_compile 12 = .ok (.astore_n 3, 1) := by decide +kernel
theorem dL_compile_13 : decode cL_compile 13 = .ok (.iconst 1, 1) := by decide +kernel
theorem dL_compile_14 : decode cL_compile 14 = .ok (.ireturn, 1) := by decide +kernel
theorem dL_compile_15 : decode cL_compile 15 = .ok (.iconst 0, 1) := by decide +kernel
theorem dL_compile_16 : decode cL_compile 16 = .ok (.ireturn, 1) := by decide +kernel
theorem dL_test_0 : decode cL_test 0 = .ok (.aload_n 3, 1) := by decide +kernel
theorem dL_test_1 : decode cL_test 1 = .ok (.iconst 0, 1) := by decide +kernel
theorem dL_test_2 : decode cL_test 2 = .ok (.aload_n 0, 1) := by decide +kernel
theorem dL_test_3 : decode cL_test 3 = .ok (.iload_n 1, 1) := by decide +kernel
theorem dL_test_4 : decode cL_test 4 = .ok (.iload_n 2, 1) := by decide +kernel
theorem dL_test_5 : decode cL_test 5 = .ok (.invokevirtual 39, 3) := by decide +kernel
theorem dL_test_8 : decode cL_test 8 = .ok (.i2l, 1) := by decide +kernel
theorem dL_test_9 : decode cL_test 9 = .ok (.lastore, 1) := by decide +kernel
theorem dL_test_10 : decode cL_test 10 = .ok (.goto 11, 3) := by decide +kernel
theorem dL_test_13 : decode cL_test 13 = .ok (.astore 4, 2) := by decide +kernel
theorem dL_test_15 : decode cL_test 15 = .ok (.iconst 1, 1) := by decide +kernel
theorem dL_test_16 : decode cL_test 16 = .ok (.ireturn, 1) := by decide +kernel
theorem dL_test_17 : decode cL_test 17 = .ok (.astore 4, 2) := by decide +kernel
theorem dL_test_19 : decode cL_test 19 = .ok (.iconst 2, 1) := by decide +kernel
theorem dL_test_20 : decode cL_test 20 = .ok (.ireturn, 1) := by decide +kernel
theorem dL_test_21 : decode cL_test 21 = .ok (.iconst 0, 1) := by decide +kernel
theorem dL_test_22 : decode cL_test 22 = .ok (.ireturn, 1) := by decide +kernel
theorem dL_cost_0 : decode cL_cost 0 = .ok (.aload_n 2, 1) := by decide +kernel
theorem dL_cost_1 : decode cL_cost 1 = .ok (.iconst 0, 1) := by decide +kernel
theorem dL_cost_2 : decode cL_cost 2 = .ok (.aload_n 0, 1) := by decide +kernel
theorem dL_cost_3 : decode cL_cost 3 = .ok (.iload_n 1, 1) := by decide +kernel
theorem dL_cost_4 : decode cL_cost 4 = .ok (.invokevirtual 42, 3) := by decide +kernel
theorem dL_cost_7 : decode cL_cost 7 = .ok (.i2l, 1) := by decide +kernel
theorem dL_cost_8 : decode cL_cost 8 = .ok (.lastore, 1) := by decide +kernel
theorem dL_cost_9 : decode cL_cost 9 = .ok (.goto 9, 3) := by decide +kernel
theorem dL_cost_12 : decode cL_cost 12 = .ok (.astore_n 3, 1) := by decide +kernel
theorem dL_cost_13 : decode cL_cost 13 = .ok (.iconst 1, 1) := by decide +kernel
theorem dL_cost_14 : decode cL_cost 14 = .ok (.ireturn, 1) := by decide +kernel
theorem dL_cost_15 : decode cL_cost 15 = .ok (.astore_n 3, 1) := by decide +kernel
theorem dL_cost_16 : decode cL_cost 16 = .ok (.iconst 2, 1) := by decide +kernel
theorem dL_cost_17 : decode cL_cost 17 = .ok (.ireturn, 1) := by decide +kernel
theorem dL_cost_18 : decode cL_cost 18 = .ok (.iconst 0, 1) := by decide +kernel
theorem dL_cost_19 : decode cL_cost 19 = .ok (.ireturn, 1) := by decide +kernel
theorem dL_worst_0 : decode cL_worst 0 = .ok (.aload_n 2, 1) := by decide +kernel
theorem dL_worst_1 : decode cL_worst 1 = .ok (.iconst 0, 1) := by decide +kernel
theorem dL_worst_2 : decode cL_worst 2 = .ok (.aload_n 0, 1) := by decide +kernel
theorem dL_worst_3 : decode cL_worst 3 = .ok (.iload_n 1, 1) := by decide +kernel
theorem dL_worst_4 : decode cL_worst 4 = .ok (.invokevirtual 45, 3) := by decide +kernel
theorem dL_worst_7 : decode cL_worst 7 = .ok (.i2l, 1) := by decide +kernel
theorem dL_worst_8 : decode cL_worst 8 = .ok (.lastore, 1) := by decide +kernel
theorem dL_worst_9 : decode cL_worst 9 = .ok (.goto 9, 3) := by decide +kernel
theorem dL_worst_12 : decode cL_worst 12 = .ok (.astore_n 3, 1) := by decide +kernel
theorem dL_worst_13 : decode cL_worst 13 = .ok (.iconst 1, 1) := by decide +kernel
theorem dL_worst_14 : decode cL_worst 14 = .ok (.ireturn, 1) := by decide +kernel
theorem dL_worst_15 : decode cL_worst 15 = .ok (.astore_n 3, 1) := by decide +kernel
theorem dL_worst_16 : decode cL_worst 16 = .ok (.iconst 2, 1) := by decide +kernel
theorem dL_worst_17 : decode cL_worst 17 = .ok (.ireturn, 1) := by decide +kernel
theorem dL_worst_18 : decode cL_worst 18 = .ok (.iconst 0, 1) := by decide +kernel
theorem dL_worst_19 : decode cL_worst 19 = .ok (.ireturn, 1) := by decide +kernel
theorem dL_judge_0 : decode cL_judge 0 = .ok (.aload 6, 2) := by decide +kernel
theorem dL_judge_2 : decode cL_judge 2 = .ok (.iconst 0, 1) := by decide +kernel
theorem dL_judge_3 : decode cL_judge 3 = .ok (.aload_n 0, 1) := by decide +kernel
theorem dL_judge_4 : decode cL_judge 4 = .ok (.iload_n 1, 1) := by decide +kernel
theorem dL_judge_5 : decode cL_judge 5 = .ok (.lload_n 2, 1) := by decide +kernel
theorem dL_judge_6 : decode cL_judge 6 = .ok (.lload 4, 2) := by decide +kernel
theorem dL_judge_8 : decode cL_judge 8 = .ok (.invokevirtual 48, 3) := by decide +kernel
theorem dL_judge_11 : decode cL_judge 11 = .ok (.i2l, 1) := by decide +kernel
theorem dL_judge_12 : decode cL_judge 12 = .ok (.lastore, 1) := by decide +kernel
theorem dL_judge_13 : decode cL_judge 13 = .ok (.goto 11, 3) := by decide +kernel
theorem dL_judge_16 : decode cL_judge 16 = .ok (.astore 7, 2) := by decide +kernel
theorem dL_judge_18 : decode cL_judge 18 = .ok (.iconst 1, 1) := by decide +kernel
theorem dL_judge_19 : decode cL_judge 19 = .ok (.ireturn, 1) := by decide +kernel
theorem dL_judge_20 : decode cL_judge 20 = .ok (.astore 7, 2) := by decide +kernel
theorem dL_judge_22 : decode cL_judge 22 = .ok (.iconst 2, 1) := by decide +kernel
theorem dL_judge_23 : decode cL_judge 23 = .ok (.ireturn, 1) := by decide +kernel
theorem dL_judge_24 : decode cL_judge 24 = .ok (.iconst 0, 1) := by decide +kernel
theorem dL_judge_25 : decode cL_judge 25 = .ok (.ireturn, 1) := by decide +kernel
theorem dL_judgeByRules_0 : decode cL_judgeByRules 0 = .ok (.aload 6, 2) := by decide +kernel
theorem dL_judgeByRules_2 : decode cL_judgeByRules 2 = .ok (.iconst 0, 1) := by decide +kernel
theorem dL_judgeByRules_3 : decode cL_judgeByRules 3 = .ok (.aload_n 0, 1) := by decide +kernel
theorem dL_judgeByRules_4 : decode cL_judgeByRules 4 = .ok (.iload_n 1, 1) := by decide +kernel
theorem dL_judgeByRules_5 : decode cL_judgeByRules 5 = .ok (.lload_n 2, 1) := by decide +kernel
theorem dL_judgeByRules_6 : decode cL_judgeByRules 6 = .ok (.lload 4, 2) := by decide +kernel
theorem dL_judgeByRules_8 : decode cL_judgeByRules 8 = .ok (.invokevirtual 52, 3) := by decide +kernel
theorem dL_judgeByRules_11 : decode cL_judgeByRules 11 = .ok (.i2l, 1) := by decide +kernel
theorem dL_judgeByRules_12 : decode cL_judgeByRules 12 = .ok (.lastore, 1) := by decide +kernel
theorem dL_judgeByRules_13 : decode cL_judgeByRules 13 = .ok (.goto 7, 3) := by decide +kernel
theorem dL_judgeByRules_16 : decode cL_judgeByRules 16 = .ok (.astore 7, 2) := by decide +kernel
theorem dL_judgeByRules_18 : decode cL_judgeByRules 18 = .ok (.iconst 1, 1) := by decide +kernel
theorem dL_judgeByRules_19 : decode cL_judgeByRules 19 = .ok (.ireturn, 1) := by decide +kernel
theorem dL_judgeByRules_20 : decode cL_judgeByRules 20 = .ok (.iconst 0, 1) := by decide +kernel
theorem dL_judgeByRules_21 : decode cL_judgeByRules 21 = .ok (.ireturn, 1) := by decide +kernel
theorem dL_path_0 : decode cL_path 0 = .ok (.aload 6, 2) := by decide +kernel
theorem dL_path_2 : decode cL_path 2 = .ok (.iconst 0, 1) := by decide +kernel
theorem dL_path_3 : decode cL_path 3 = .ok (.aload_n 0, 1) := by decide +kernel
theorem dL_path_4 : decode cL_path 4 = .ok (.iload_n 1, 1) := by decide +kernel
theorem dL_path_5 : decode cL_path 5 = .ok (.lload_n 2, 1) := by decide +kernel
theorem dL_path_6 : decode cL_path 6 = .ok (.lload 4, 2) := by decide +kernel
theorem dL_path_8 : decode cL_path 8 = .ok (.invokevirtual 55, 3) := by decide +kernel
theorem dL_path_11 : decode cL_path 11 = .ok (.i2l, 1) := by decide +kernel
theorem dL_path_12 : decode cL_path 12 = .ok (.lastore, 1) := by decide +kernel
theorem dL_path_13 : decode cL_path 13 = .ok (.goto 11, 3) := by decide +kernel
theorem dL_path_16 : decode cL_path 16 = .ok (.astore 7, 2) := by decide +kernel
theorem dL_path_18 : decode cL_path 18 = .ok (.iconst 1, 1) := by decide +kernel
theorem dL_path_19 : decode cL_path 19 = .ok (.ireturn, 1) := by decide +kernel
theorem dL_path_20 : decode cL_path 20 = .ok (.astore 7, 2) := by decide +kernel
theorem dL_path_22 : decode cL_path 22 = .ok (.iconst 2, 1) := by decide +kernel
theorem dL_path_23 : decode cL_path 23 = .ok (.ireturn, 1) := by decide +kernel
theorem dL_path_24 : decode cL_path 24 = .ok (.iconst 0, 1) := by decide +kernel
theorem dL_path_25 : decode cL_path 25 = .ok (.ireturn, 1) := by decide +kernel
theorem dL_actionOf_0 : decode cL_actionOf 0 = .ok (.aload 7, 2) := by decide +kernel
theorem dL_actionOf_2 : decode cL_actionOf 2 = .ok (.iconst 0, 1) := by decide +kernel
theorem dL_actionOf_3 : decode cL_actionOf 3 = .ok (.aload_n 0, 1) := by decide +kernel
theorem dL_actionOf_4 : decode cL_actionOf 4 = .ok (.iload_n 1, 1) := by decide +kernel
theorem dL_actionOf_5 : decode cL_actionOf 5 = .ok (.iload_n 2, 1) := by decide +kernel
theorem dL_actionOf_6 : decode cL_actionOf 6 = .ok (.lload_n 3, 1) := by decide +kernel
theorem dL_actionOf_7 : decode cL_actionOf 7 = .ok (.lload 5, 2) := by decide +kernel
theorem dL_actionOf_9 : decode cL_actionOf 9 = .ok (.invokevirtual 58, 3) := by decide +kernel
theorem dL_actionOf_12 : decode cL_actionOf 12 = .ok (.i2l, 1) := by decide +kernel
theorem dL_actionOf_13 : decode cL_actionOf 13 = .ok (.lastore, 1) := by decide +kernel
theorem dL_actionOf_14 : decode cL_actionOf 14 = .ok (.goto 7, 3) := by decide +kernel
theorem dL_actionOf_17 : decode cL_actionOf 17 = .ok (.astore 8, 2) := by decide +kernel
theorem dL_actionOf_19 : decode cL_actionOf 19 = .ok (.iconst 1, 1) := by decide +kernel
theorem dL_actionOf_20 : decode cL_actionOf 20 = .ok (.ireturn, 1) := by decide +kernel
theorem dL_actionOf_21 : decode cL_actionOf 21 = .ok (.iconst 0, 1) := by decide +kernel
theorem dL_actionOf_22 : decode cL_actionOf 22 = .ok (.ireturn, 1) := by decide +kernel
end
section
theorem dL_law_0 : decode cL_law 0 = .ok (.new 8, 3) := by decide +kernel
theorem dL_law_3 : decode cL_law 3 = .ok (.dup, 1) := by decide +kernel
theorem dL_law_4 : decode cL_law 4 = .ok (.invokespecial 62, 3) := by decide +kernel
theorem dL_law_7 : decode cL_law 7 = .ok (.astore_n 1, 1) := by decide +kernel
theorem dL_law_8 : decode cL_law 8 = .ok (.new 63, 3) := by decide +kernel
theorem dL_law_11 : decode cL_law 11 = .ok (.dup, 1) := by decide +kernel
theorem dL_law_12 : decode cL_law 12 = .ok (.invokespecial 65, 3) := by decide +kernel
theorem dL_law_15 : decode cL_law 15 = .ok (.astore_n 2, 1) := by decide +kernel
theorem dL_law_16 : decode cL_law 16 = .ok (.iconst 1, 1) := by decide +kernel
theorem dL_law_17 : decode cL_law 17 = .ok (.newarray .long, 2) := by decide +kernel
theorem dL_law_19 : decode cL_law 19 = .ok (.astore_n 3, 1) := by decide +kernel
theorem dL_law_20 : decode cL_law 20 = .ok (.iconst 0, 1) := by decide +kernel
theorem dL_law_21 : decode cL_law 21 = .ok (.istore 4, 2) := by decide +kernel
theorem dL_law_23 : decode cL_law 23 = .ok (.iload 4, 2) := by decide +kernel
theorem dL_law_25 : decode cL_law 25 = .ok (.aload_n 0, 1) := by decide +kernel
theorem dL_law_26 : decode cL_law 26 = .ok (.arraylength, 1) := by decide +kernel
theorem dL_law_27 : decode cL_law 27 = .ok (.bipush 9, 2) := by decide +kernel
theorem dL_law_29 : decode cL_law 29 = .ok (.isub, 1) := by decide +kernel
theorem dL_law_30 : decode cL_law 30 = .ok (.if_icmp .gt 1445, 3) := by decide +kernel
theorem dL_law_33 : decode cL_law 33 = .ok (.aload_n 0, 1) := by decide +kernel
theorem dL_law_34 : decode cL_law 34 = .ok (.iload 4, 2) := by decide +kernel
theorem dL_law_36 : decode cL_law 36 = .ok (.iaload, 1) := by decide +kernel
theorem dL_law_37 : decode cL_law 37 = .ok (.bipush 15, 2) := by decide +kernel
theorem dL_law_39 : decode cL_law 39 = .ok (.iand, 1) := by decide +kernel
theorem dL_law_40 : decode cL_law 40 = .ok (.tableswitch 1429 0 14 #[76, 262, 330, 398, 466, 522, 590, 646, 659, 727, 783, 839, 983, 1127, 1271], 76) := by decide +kernel
theorem dL_law_116 : decode cL_law 116 = .ok (.aload_n 1, 1) := by decide +kernel
theorem dL_law_117 : decode cL_law 117 = .ok (.aload_n 0, 1) := by decide +kernel
theorem dL_law_118 : decode cL_law 118 = .ok (.iload 4, 2) := by decide +kernel
theorem dL_law_120 : decode cL_law 120 = .ok (.iconst 1, 1) := by decide +kernel
theorem dL_law_121 : decode cL_law 121 = .ok (.iadd, 1) := by decide +kernel
theorem dL_law_122 : decode cL_law 122 = .ok (.iaload, 1) := by decide +kernel
theorem dL_law_123 : decode cL_law 123 = .ok (.aload_n 0, 1) := by decide +kernel
theorem dL_law_124 : decode cL_law 124 = .ok (.iload 4, 2) := by decide +kernel
theorem dL_law_126 : decode cL_law 126 = .ok (.iconst 2, 1) := by decide +kernel
theorem dL_law_127 : decode cL_law 127 = .ok (.iadd, 1) := by decide +kernel
theorem dL_law_128 : decode cL_law 128 = .ok (.iaload, 1) := by decide +kernel
theorem dL_law_129 : decode cL_law 129 = .ok (.aload_n 0, 1) := by decide +kernel
theorem dL_law_130 : decode cL_law 130 = .ok (.iload 4, 2) := by decide +kernel
theorem dL_law_132 : decode cL_law 132 = .ok (.iconst 3, 1) := by decide +kernel
theorem dL_law_133 : decode cL_law 133 = .ok (.iadd, 1) := by decide +kernel
theorem dL_law_134 : decode cL_law 134 = .ok (.iaload, 1) := by decide +kernel
theorem dL_law_135 : decode cL_law 135 = .ok (.aload_n 0, 1) := by decide +kernel
theorem dL_law_136 : decode cL_law 136 = .ok (.iload 4, 2) := by decide +kernel
theorem dL_law_138 : decode cL_law 138 = .ok (.iconst 4, 1) := by decide +kernel
theorem dL_law_139 : decode cL_law 139 = .ok (.iadd, 1) := by decide +kernel
theorem dL_law_140 : decode cL_law 140 = .ok (.iaload, 1) := by decide +kernel
theorem dL_law_141 : decode cL_law 141 = .ok (.i2l, 1) := by decide +kernel
theorem dL_law_142 : decode cL_law 142 = .ok (.bipush 32, 2) := by decide +kernel
theorem dL_law_144 : decode cL_law 144 = .ok (.lshl, 1) := by decide +kernel
theorem dL_law_145 : decode cL_law 145 = .ok (.aload_n 0, 1) := by decide +kernel
theorem dL_law_146 : decode cL_law 146 = .ok (.iload 4, 2) := by decide +kernel
theorem dL_law_148 : decode cL_law 148 = .ok (.iconst 5, 1) := by decide +kernel
theorem dL_law_149 : decode cL_law 149 = .ok (.iadd, 1) := by decide +kernel
theorem dL_law_150 : decode cL_law 150 = .ok (.iaload, 1) := by decide +kernel
theorem dL_law_151 : decode cL_law 151 = .ok (.i2l, 1) := by decide +kernel
theorem dL_law_152 : decode cL_law 152 = .ok (.ldc2_w 66, 3) := by decide +kernel
theorem dL_law_155 : decode cL_law 155 = .ok (.land, 1) := by decide +kernel
theorem dL_law_156 : decode cL_law 156 = .ok (.lor, 1) := by decide +kernel
theorem dL_law_157 : decode cL_law 157 = .ok (.aload_n 0, 1) := by decide +kernel
theorem dL_law_158 : decode cL_law 158 = .ok (.iload 4, 2) := by decide +kernel
theorem dL_law_160 : decode cL_law 160 = .ok (.bipush 6, 2) := by decide +kernel
theorem dL_law_162 : decode cL_law 162 = .ok (.iadd, 1) := by decide +kernel
theorem dL_law_163 : decode cL_law 163 = .ok (.iaload, 1) := by decide +kernel
theorem dL_law_164 : decode cL_law 164 = .ok (.i2l, 1) := by decide +kernel
theorem dL_law_165 : decode cL_law 165 = .ok (.bipush 32, 2) := by decide +kernel
theorem dL_law_167 : decode cL_law 167 = .ok (.lshl, 1) := by decide +kernel
theorem dL_law_168 : decode cL_law 168 = .ok (.aload_n 0, 1) := by decide +kernel
theorem dL_law_169 : decode cL_law 169 = .ok (.iload 4, 2) := by decide +kernel
theorem dL_law_171 : decode cL_law 171 = .ok (.bipush 7, 2) := by decide +kernel
theorem dL_law_173 : decode cL_law 173 = .ok (.iadd, 1) := by decide +kernel
theorem dL_law_174 : decode cL_law 174 = .ok (.iaload, 1) := by decide +kernel
theorem dL_law_175 : decode cL_law 175 = .ok (.i2l, 1) := by decide +kernel
theorem dL_law_176 : decode cL_law 176 = .ok (.ldc2_w 66, 3) := by decide +kernel
theorem dL_law_179 : decode cL_law 179 = .ok (.land, 1) := by decide +kernel
theorem dL_law_180 : decode cL_law 180 = .ok (.lor, 1) := by decide +kernel
theorem dL_law_181 : decode cL_law 181 = .ok (.aload_n 0, 1) := by decide +kernel
theorem dL_law_182 : decode cL_law 182 = .ok (.iload 4, 2) := by decide +kernel
theorem dL_law_184 : decode cL_law 184 = .ok (.bipush 8, 2) := by decide +kernel
theorem dL_law_186 : decode cL_law 186 = .ok (.iadd, 1) := by decide +kernel
theorem dL_law_187 : decode cL_law 187 = .ok (.iaload, 1) := by decide +kernel
theorem dL_law_188 : decode cL_law 188 = .ok (.aload_n 3, 1) := by decide +kernel
theorem dL_law_189 : decode cL_law 189 = .ok (.invokestatic 68, 3) := by decide +kernel
theorem dL_law_192 : decode cL_law 192 = .ok (.istore 5, 2) := by decide +kernel
theorem dL_law_194 : decode cL_law 194 = .ok (.aload_n 2, 1) := by decide +kernel
theorem dL_law_195 : decode cL_law 195 = .ok (.aload_n 0, 1) := by decide +kernel
theorem dL_law_196 : decode cL_law 196 = .ok (.iload 4, 2) := by decide +kernel
theorem dL_law_198 : decode cL_law 198 = .ok (.iconst 1, 1) := by decide +kernel
theorem dL_law_199 : decode cL_law 199 = .ok (.iadd, 1) := by decide +kernel
theorem dL_law_200 : decode cL_law 200 = .ok (.iaload, 1) := by decide +kernel
theorem dL_law_201 : decode cL_law 201 = .ok (.aload_n 0, 1) := by decide +kernel
theorem dL_law_202 : decode cL_law 202 = .ok (.iload 4, 2) := by decide +kernel
theorem dL_law_204 : decode cL_law 204 = .ok (.iconst 2, 1) := by decide +kernel
theorem dL_law_205 : decode cL_law 205 = .ok (.iadd, 1) := by decide +kernel
theorem dL_law_206 : decode cL_law 206 = .ok (.iaload, 1) := by decide +kernel
theorem dL_law_207 : decode cL_law 207 = .ok (.aload_n 0, 1) := by decide +kernel
theorem dL_law_208 : decode cL_law 208 = .ok (.iload 4, 2) := by decide +kernel
theorem dL_law_210 : decode cL_law 210 = .ok (.iconst 3, 1) := by decide +kernel
theorem dL_law_211 : decode cL_law 211 = .ok (.iadd, 1) := by decide +kernel
theorem dL_law_212 : decode cL_law 212 = .ok (.iaload, 1) := by decide +kernel
theorem dL_law_213 : decode cL_law 213 = .ok (.aload_n 0, 1) := by decide +kernel
theorem dL_law_214 : decode cL_law 214 = .ok (.iload 4, 2) := by decide +kernel
theorem dL_law_216 : decode cL_law 216 = .ok (.iconst 4, 1) := by decide +kernel
theorem dL_law_217 : decode cL_law 217 = .ok (.iadd, 1) := by decide +kernel
theorem dL_law_218 : decode cL_law 218 = .ok (.iaload, 1) := by decide +kernel
theorem dL_law_219 : decode cL_law 219 = .ok (.i2l, 1) := by decide +kernel
theorem dL_law_220 : decode cL_law 220 = .ok (.bipush 32, 2) := by decide +kernel
theorem dL_law_222 : decode cL_law 222 = .ok (.lshl, 1) := by decide +kernel
theorem dL_law_223 : decode cL_law 223 = .ok (.aload_n 0, 1) := by decide +kernel
theorem dL_law_224 : decode cL_law 224 = .ok (.iload 4, 2) := by decide +kernel
theorem dL_law_226 : decode cL_law 226 = .ok (.iconst 5, 1) := by decide +kernel
theorem dL_law_227 : decode cL_law 227 = .ok (.iadd, 1) := by decide +kernel
theorem dL_law_228 : decode cL_law 228 = .ok (.iaload, 1) := by decide +kernel
theorem dL_law_229 : decode cL_law 229 = .ok (.i2l, 1) := by decide +kernel
theorem dL_law_230 : decode cL_law 230 = .ok (.ldc2_w 66, 3) := by decide +kernel
theorem dL_law_233 : decode cL_law 233 = .ok (.land, 1) := by decide +kernel
theorem dL_law_234 : decode cL_law 234 = .ok (.lor, 1) := by decide +kernel
theorem dL_law_235 : decode cL_law 235 = .ok (.aload_n 0, 1) := by decide +kernel
theorem dL_law_236 : decode cL_law 236 = .ok (.iload 4, 2) := by decide +kernel
theorem dL_law_238 : decode cL_law 238 = .ok (.bipush 6, 2) := by decide +kernel
theorem dL_law_240 : decode cL_law 240 = .ok (.iadd, 1) := by decide +kernel
theorem dL_law_241 : decode cL_law 241 = .ok (.iaload, 1) := by decide +kernel
theorem dL_law_242 : decode cL_law 242 = .ok (.i2l, 1) := by decide +kernel
theorem dL_law_243 : decode cL_law 243 = .ok (.bipush 32, 2) := by decide +kernel
theorem dL_law_245 : decode cL_law 245 = .ok (.lshl, 1) := by decide +kernel
theorem dL_law_246 : decode cL_law 246 = .ok (.aload_n 0, 1) := by decide +kernel
theorem dL_law_247 : decode cL_law 247 = .ok (.iload 4, 2) := by decide +kernel
theorem dL_law_249 : decode cL_law 249 = .ok (.bipush 7, 2) := by decide +kernel
theorem dL_law_251 : decode cL_law 251 = .ok (.iadd, 1) := by decide +kernel
theorem dL_law_252 : decode cL_law 252 = .ok (.iaload, 1) := by decide +kernel
theorem dL_law_253 : decode cL_law 253 = .ok (.i2l, 1) := by decide +kernel
theorem dL_law_254 : decode cL_law 254 = .ok (.ldc2_w 66, 3) := by decide +kernel
theorem dL_law_257 : decode cL_law 257 = .ok (.land, 1) := by decide +kernel
theorem dL_law_258 : decode cL_law 258 = .ok (.lor, 1) := by decide +kernel
theorem dL_law_259 : decode cL_law 259 = .ok (.aload_n 0, 1) := by decide +kernel
theorem dL_law_260 : decode cL_law 260 = .ok (.iload 4, 2) := by decide +kernel
theorem dL_law_262 : decode cL_law 262 = .ok (.bipush 8, 2) := by decide +kernel
theorem dL_law_264 : decode cL_law 264 = .ok (.iadd, 1) := by decide +kernel
theorem dL_law_265 : decode cL_law 265 = .ok (.iaload, 1) := by decide +kernel
theorem dL_law_266 : decode cL_law 266 = .ok (.invokevirtual 73, 3) := by decide +kernel
theorem dL_law_269 : decode cL_law 269 = .ok (.istore 6, 2) := by decide +kernel
theorem dL_law_271 : decode cL_law 271 = .ok (.aload_n 2, 1) := by decide +kernel
theorem dL_law_272 : decode cL_law 272 = .ok (.invokevirtual 74, 3) := by decide +kernel
theorem dL_law_275 : decode cL_law 275 = .ok (.iload 5, 2) := by decide +kernel
theorem dL_law_277 : decode cL_law 277 = .ok (.if_icmp .eq 5, 3) := by decide +kernel
theorem dL_law_280 : decode cL_law 280 = .ok (.iconst 0, 1) := by decide +kernel
theorem dL_law_281 : decode cL_law 281 = .ok (.ireturn, 1) := by decide +kernel
theorem dL_law_282 : decode cL_law 282 = .ok (.iload 5, 2) := by decide +kernel
theorem dL_law_284 : decode cL_law 284 = .ok (.ifCond .ne 15, 3) := by decide +kernel
theorem dL_law_287 : decode cL_law 287 = .ok (.aload_n 3, 1) := by decide +kernel
theorem dL_law_288 : decode cL_law 288 = .ok (.iconst 0, 1) := by decide +kernel
theorem dL_law_289 : decode cL_law 289 = .ok (.laload, 1) := by decide +kernel
theorem dL_law_290 : decode cL_law 290 = .ok (.iload 6, 2) := by decide +kernel
theorem dL_law_292 : decode cL_law 292 = .ok (.i2l, 1) := by decide +kernel
theorem dL_law_293 : decode cL_law 293 = .ok (.lcmp, 1) := by decide +kernel
theorem dL_law_294 : decode cL_law 294 = .ok (.ifCond .eq 5, 3) := by decide +kernel
theorem dL_law_297 : decode cL_law 297 = .ok (.iconst 0, 1) := by decide +kernel
theorem dL_law_298 : decode cL_law 298 = .ok (.ireturn, 1) := by decide +kernel
theorem dL_law_299 : decode cL_law 299 = .ok (.goto 1170, 3) := by decide +kernel
theorem dL_law_302 : decode cL_law 302 = .ok (.aload_n 1, 1) := by decide +kernel
theorem dL_law_303 : decode cL_law 303 = .ok (.aload_n 0, 1) := by decide +kernel
end
section
theorem dL_law_304 : decode cL_law 304 = .ok (.iload 4, 2) := by decide +kernel
theorem dL_law_306 : decode cL_law 306 = .ok (.iconst 1, 1) := by decide +kernel
theorem dL_law_307 : decode cL_law 307 = .ok (.iadd, 1) := by decide +kernel
theorem dL_law_308 : decode cL_law 308 = .ok (.iaload, 1) := by decide +kernel
theorem dL_law_309 : decode cL_law 309 = .ok (.aload_n 0, 1) := by decide +kernel
theorem dL_law_310 : decode cL_law 310 = .ok (.iload 4, 2) := by decide +kernel
theorem dL_law_312 : decode cL_law 312 = .ok (.iconst 2, 1) := by decide +kernel
theorem dL_law_313 : decode cL_law 313 = .ok (.iadd, 1) := by decide +kernel
theorem dL_law_314 : decode cL_law 314 = .ok (.iaload, 1) := by decide +kernel
theorem dL_law_315 : decode cL_law 315 = .ok (.aload_n 3, 1) := by decide +kernel
theorem dL_law_316 : decode cL_law 316 = .ok (.invokestatic 78, 3) := by decide +kernel
theorem dL_law_319 : decode cL_law 319 = .ok (.istore 5, 2) := by decide +kernel
theorem dL_law_321 : decode cL_law 321 = .ok (.aload_n 2, 1) := by decide +kernel
theorem dL_law_322 : decode cL_law 322 = .ok (.aload_n 0, 1) := by decide +kernel
theorem dL_law_323 : decode cL_law 323 = .ok (.iload 4, 2) := by decide +kernel
theorem dL_law_325 : decode cL_law 325 = .ok (.iconst 1, 1) := by decide +kernel
theorem dL_law_326 : decode cL_law 326 = .ok (.iadd, 1) := by decide +kernel
theorem dL_law_327 : decode cL_law 327 = .ok (.iaload, 1) := by decide +kernel
theorem dL_law_328 : decode cL_law 328 = .ok (.aload_n 0, 1) := by decide +kernel
theorem dL_law_329 : decode cL_law 329 = .ok (.iload 4, 2) := by decide +kernel
theorem dL_law_331 : decode cL_law 331 = .ok (.iconst 2, 1) := by decide +kernel
theorem dL_law_332 : decode cL_law 332 = .ok (.iadd, 1) := by decide +kernel
theorem dL_law_333 : decode cL_law 333 = .ok (.iaload, 1) := by decide +kernel
theorem dL_law_334 : decode cL_law 334 = .ok (.invokevirtual 81, 3) := by decide +kernel
theorem dL_law_337 : decode cL_law 337 = .ok (.istore 6, 2) := by decide +kernel
theorem dL_law_339 : decode cL_law 339 = .ok (.aload_n 2, 1) := by decide +kernel
theorem dL_law_340 : decode cL_law 340 = .ok (.invokevirtual 74, 3) := by decide +kernel
theorem dL_law_343 : decode cL_law 343 = .ok (.iload 5, 2) := by decide +kernel
theorem dL_law_345 : decode cL_law 345 = .ok (.if_icmp .eq 5, 3) := by decide +kernel
theorem dL_law_348 : decode cL_law 348 = .ok (.iconst 0, 1) := by decide +kernel
theorem dL_law_349 : decode cL_law 349 = .ok (.ireturn, 1) := by decide +kernel
theorem dL_law_350 : decode cL_law 350 = .ok (.iload 5, 2) := by decide +kernel
theorem dL_law_352 : decode cL_law 352 = .ok (.ifCond .ne 15, 3) := by decide +kernel
theorem dL_law_355 : decode cL_law 355 = .ok (.aload_n 3, 1) := by decide +kernel
theorem dL_law_356 : decode cL_law 356 = .ok (.iconst 0, 1) := by decide +kernel
theorem dL_law_357 : decode cL_law 357 = .ok (.laload, 1) := by decide +kernel
theorem dL_law_358 : decode cL_law 358 = .ok (.iload 6, 2) := by decide +kernel
theorem dL_law_360 : decode cL_law 360 = .ok (.i2l, 1) := by decide +kernel
theorem dL_law_361 : decode cL_law 361 = .ok (.lcmp, 1) := by decide +kernel
theorem dL_law_362 : decode cL_law 362 = .ok (.ifCond .eq 5, 3) := by decide +kernel
theorem dL_law_365 : decode cL_law 365 = .ok (.iconst 0, 1) := by decide +kernel
theorem dL_law_366 : decode cL_law 366 = .ok (.ireturn, 1) := by decide +kernel
theorem dL_law_367 : decode cL_law 367 = .ok (.goto 1102, 3) := by decide +kernel
theorem dL_law_370 : decode cL_law 370 = .ok (.aload_n 1, 1) := by decide +kernel
theorem dL_law_371 : decode cL_law 371 = .ok (.aload_n 0, 1) := by decide +kernel
theorem dL_law_372 : decode cL_law 372 = .ok (.iload 4, 2) := by decide +kernel
theorem dL_law_374 : decode cL_law 374 = .ok (.iconst 1, 1) := by decide +kernel
theorem dL_law_375 : decode cL_law 375 = .ok (.iadd, 1) := by decide +kernel
theorem dL_law_376 : decode cL_law 376 = .ok (.iaload, 1) := by decide +kernel
theorem dL_law_377 : decode cL_law 377 = .ok (.aload_n 0, 1) := by decide +kernel
theorem dL_law_378 : decode cL_law 378 = .ok (.iload 4, 2) := by decide +kernel
theorem dL_law_380 : decode cL_law 380 = .ok (.iconst 2, 1) := by decide +kernel
theorem dL_law_381 : decode cL_law 381 = .ok (.iadd, 1) := by decide +kernel
theorem dL_law_382 : decode cL_law 382 = .ok (.iaload, 1) := by decide +kernel
theorem dL_law_383 : decode cL_law 383 = .ok (.aload_n 3, 1) := by decide +kernel
theorem dL_law_384 : decode cL_law 384 = .ok (.invokestatic 82, 3) := by decide +kernel
theorem dL_law_387 : decode cL_law 387 = .ok (.istore 5, 2) := by decide +kernel
theorem dL_law_389 : decode cL_law 389 = .ok (.aload_n 2, 1) := by decide +kernel
theorem dL_law_390 : decode cL_law 390 = .ok (.aload_n 0, 1) := by decide +kernel
theorem dL_law_391 : decode cL_law 391 = .ok (.iload 4, 2) := by decide +kernel
theorem dL_law_393 : decode cL_law 393 = .ok (.iconst 1, 1) := by decide +kernel
theorem dL_law_394 : decode cL_law 394 = .ok (.iadd, 1) := by decide +kernel
theorem dL_law_395 : decode cL_law 395 = .ok (.iaload, 1) := by decide +kernel
theorem dL_law_396 : decode cL_law 396 = .ok (.aload_n 0, 1) := by decide +kernel
theorem dL_law_397 : decode cL_law 397 = .ok (.iload 4, 2) := by decide +kernel
theorem dL_law_399 : decode cL_law 399 = .ok (.iconst 2, 1) := by decide +kernel
theorem dL_law_400 : decode cL_law 400 = .ok (.iadd, 1) := by decide +kernel
theorem dL_law_401 : decode cL_law 401 = .ok (.iaload, 1) := by decide +kernel
theorem dL_law_402 : decode cL_law 402 = .ok (.invokevirtual 84, 3) := by decide +kernel
theorem dL_law_405 : decode cL_law 405 = .ok (.istore 6, 2) := by decide +kernel
theorem dL_law_407 : decode cL_law 407 = .ok (.aload_n 2, 1) := by decide +kernel
theorem dL_law_408 : decode cL_law 408 = .ok (.invokevirtual 74, 3) := by decide +kernel
theorem dL_law_411 : decode cL_law 411 = .ok (.iload 5, 2) := by decide +kernel
theorem dL_law_413 : decode cL_law 413 = .ok (.if_icmp .eq 5, 3) := by decide +kernel
theorem dL_law_416 : decode cL_law 416 = .ok (.iconst 0, 1) := by decide +kernel
theorem dL_law_417 : decode cL_law 417 = .ok (.ireturn, 1) := by decide +kernel
theorem dL_law_418 : decode cL_law 418 = .ok (.iload 5, 2) := by decide +kernel
theorem dL_law_420 : decode cL_law 420 = .ok (.ifCond .ne 15, 3) := by decide +kernel
theorem dL_law_423 : decode cL_law 423 = .ok (.aload_n 3, 1) := by decide +kernel
theorem dL_law_424 : decode cL_law 424 = .ok (.iconst 0, 1) := by decide +kernel
theorem dL_law_425 : decode cL_law 425 = .ok (.laload, 1) := by decide +kernel
theorem dL_law_426 : decode cL_law 426 = .ok (.iload 6, 2) := by decide +kernel
theorem dL_law_428 : decode cL_law 428 = .ok (.i2l, 1) := by decide +kernel
theorem dL_law_429 : decode cL_law 429 = .ok (.lcmp, 1) := by decide +kernel
theorem dL_law_430 : decode cL_law 430 = .ok (.ifCond .eq 5, 3) := by decide +kernel
theorem dL_law_433 : decode cL_law 433 = .ok (.iconst 0, 1) := by decide +kernel
theorem dL_law_434 : decode cL_law 434 = .ok (.ireturn, 1) := by decide +kernel
theorem dL_law_435 : decode cL_law 435 = .ok (.goto 1034, 3) := by decide +kernel
theorem dL_law_438 : decode cL_law 438 = .ok (.aload_n 1, 1) := by decide +kernel
theorem dL_law_439 : decode cL_law 439 = .ok (.aload_n 0, 1) := by decide +kernel
theorem dL_law_440 : decode cL_law 440 = .ok (.iload 4, 2) := by decide +kernel
theorem dL_law_442 : decode cL_law 442 = .ok (.iconst 1, 1) := by decide +kernel
theorem dL_law_443 : decode cL_law 443 = .ok (.iadd, 1) := by decide +kernel
theorem dL_law_444 : decode cL_law 444 = .ok (.iaload, 1) := by decide +kernel
theorem dL_law_445 : decode cL_law 445 = .ok (.aload_n 0, 1) := by decide +kernel
theorem dL_law_446 : decode cL_law 446 = .ok (.iload 4, 2) := by decide +kernel
theorem dL_law_448 : decode cL_law 448 = .ok (.iconst 2, 1) := by decide +kernel
theorem dL_law_449 : decode cL_law 449 = .ok (.iadd, 1) := by decide +kernel
theorem dL_law_450 : decode cL_law 450 = .ok (.iaload, 1) := by decide +kernel
theorem dL_law_451 : decode cL_law 451 = .ok (.aload_n 3, 1) := by decide +kernel
theorem dL_law_452 : decode cL_law 452 = .ok (.invokestatic 85, 3) := by decide +kernel
theorem dL_law_455 : decode cL_law 455 = .ok (.istore 5, 2) := by decide +kernel
theorem dL_law_457 : decode cL_law 457 = .ok (.aload_n 2, 1) := by decide +kernel
theorem dL_law_458 : decode cL_law 458 = .ok (.aload_n 0, 1) := by decide +kernel
theorem dL_law_459 : decode cL_law 459 = .ok (.iload 4, 2) := by decide +kernel
theorem dL_law_461 : decode cL_law 461 = .ok (.iconst 1, 1) := by decide +kernel
theorem dL_law_462 : decode cL_law 462 = .ok (.iadd, 1) := by decide +kernel
theorem dL_law_463 : decode cL_law 463 = .ok (.iaload, 1) := by decide +kernel
theorem dL_law_464 : decode cL_law 464 = .ok (.aload_n 0, 1) := by decide +kernel
theorem dL_law_465 : decode cL_law 465 = .ok (.iload 4, 2) := by decide +kernel
theorem dL_law_467 : decode cL_law 467 = .ok (.iconst 2, 1) := by decide +kernel
theorem dL_law_468 : decode cL_law 468 = .ok (.iadd, 1) := by decide +kernel
theorem dL_law_469 : decode cL_law 469 = .ok (.iaload, 1) := by decide +kernel
theorem dL_law_470 : decode cL_law 470 = .ok (.invokevirtual 87, 3) := by decide +kernel
theorem dL_law_473 : decode cL_law 473 = .ok (.istore 6, 2) := by decide +kernel
theorem dL_law_475 : decode cL_law 475 = .ok (.aload_n 2, 1) := by decide +kernel
theorem dL_law_476 : decode cL_law 476 = .ok (.invokevirtual 74, 3) := by decide +kernel
theorem dL_law_479 : decode cL_law 479 = .ok (.iload 5, 2) := by decide +kernel
theorem dL_law_481 : decode cL_law 481 = .ok (.if_icmp .eq 5, 3) := by decide +kernel
theorem dL_law_484 : decode cL_law 484 = .ok (.iconst 0, 1) := by decide +kernel
theorem dL_law_485 : decode cL_law 485 = .ok (.ireturn, 1) := by decide +kernel
theorem dL_law_486 : decode cL_law 486 = .ok (.iload 5, 2) := by decide +kernel
theorem dL_law_488 : decode cL_law 488 = .ok (.ifCond .ne 15, 3) := by decide +kernel
theorem dL_law_491 : decode cL_law 491 = .ok (.aload_n 3, 1) := by decide +kernel
theorem dL_law_492 : decode cL_law 492 = .ok (.iconst 0, 1) := by decide +kernel
theorem dL_law_493 : decode cL_law 493 = .ok (.laload, 1) := by decide +kernel
theorem dL_law_494 : decode cL_law 494 = .ok (.iload 6, 2) := by decide +kernel
theorem dL_law_496 : decode cL_law 496 = .ok (.i2l, 1) := by decide +kernel
theorem dL_law_497 : decode cL_law 497 = .ok (.lcmp, 1) := by decide +kernel
theorem dL_law_498 : decode cL_law 498 = .ok (.ifCond .eq 5, 3) := by decide +kernel
theorem dL_law_501 : decode cL_law 501 = .ok (.iconst 0, 1) := by decide +kernel
theorem dL_law_502 : decode cL_law 502 = .ok (.ireturn, 1) := by decide +kernel
theorem dL_law_503 : decode cL_law 503 = .ok (.goto 966, 3) := by decide +kernel
theorem dL_law_506 : decode cL_law 506 = .ok (.aload_n 1, 1) := by decide +kernel
theorem dL_law_507 : decode cL_law 507 = .ok (.aload_n 0, 1) := by decide +kernel
theorem dL_law_508 : decode cL_law 508 = .ok (.iload 4, 2) := by decide +kernel
theorem dL_law_510 : decode cL_law 510 = .ok (.iconst 1, 1) := by decide +kernel
theorem dL_law_511 : decode cL_law 511 = .ok (.iadd, 1) := by decide +kernel
theorem dL_law_512 : decode cL_law 512 = .ok (.iaload, 1) := by decide +kernel
theorem dL_law_513 : decode cL_law 513 = .ok (.aload_n 3, 1) := by decide +kernel
theorem dL_law_514 : decode cL_law 514 = .ok (.invokestatic 88, 3) := by decide +kernel
theorem dL_law_517 : decode cL_law 517 = .ok (.istore 5, 2) := by decide +kernel
theorem dL_law_519 : decode cL_law 519 = .ok (.aload_n 2, 1) := by decide +kernel
theorem dL_law_520 : decode cL_law 520 = .ok (.aload_n 0, 1) := by decide +kernel
theorem dL_law_521 : decode cL_law 521 = .ok (.iload 4, 2) := by decide +kernel
theorem dL_law_523 : decode cL_law 523 = .ok (.iconst 1, 1) := by decide +kernel
theorem dL_law_524 : decode cL_law 524 = .ok (.iadd, 1) := by decide +kernel
theorem dL_law_525 : decode cL_law 525 = .ok (.iaload, 1) := by decide +kernel
theorem dL_law_526 : decode cL_law 526 = .ok (.invokevirtual 91, 3) := by decide +kernel
theorem dL_law_529 : decode cL_law 529 = .ok (.istore 6, 2) := by decide +kernel
theorem dL_law_531 : decode cL_law 531 = .ok (.aload_n 2, 1) := by decide +kernel
theorem dL_law_532 : decode cL_law 532 = .ok (.invokevirtual 74, 3) := by decide +kernel
theorem dL_law_535 : decode cL_law 535 = .ok (.iload 5, 2) := by decide +kernel
theorem dL_law_537 : decode cL_law 537 = .ok (.if_icmp .eq 5, 3) := by decide +kernel
theorem dL_law_540 : decode cL_law 540 = .ok (.iconst 0, 1) := by decide +kernel
theorem dL_law_541 : decode cL_law 541 = .ok (.ireturn, 1) := by decide +kernel
theorem dL_law_542 : decode cL_law 542 = .ok (.iload 5, 2) := by decide +kernel
theorem dL_law_544 : decode cL_law 544 = .ok (.ifCond .ne 15, 3) := by decide +kernel
theorem dL_law_547 : decode cL_law 547 = .ok (.aload_n 3, 1) := by decide +kernel
theorem dL_law_548 : decode cL_law 548 = .ok (.iconst 0, 1) := by decide +kernel
end
section
theorem dL_law_549 : decode cL_law 549 = .ok (.laload, 1) := by decide +kernel
theorem dL_law_550 : decode cL_law 550 = .ok (.iload 6, 2) := by decide +kernel
theorem dL_law_552 : decode cL_law 552 = .ok (.i2l, 1) := by decide +kernel
theorem dL_law_553 : decode cL_law 553 = .ok (.lcmp, 1) := by decide +kernel
theorem dL_law_554 : decode cL_law 554 = .ok (.ifCond .eq 5, 3) := by decide +kernel
theorem dL_law_557 : decode cL_law 557 = .ok (.iconst 0, 1) := by decide +kernel
theorem dL_law_558 : decode cL_law 558 = .ok (.ireturn, 1) := by decide +kernel
theorem dL_law_559 : decode cL_law 559 = .ok (.goto 910, 3) := by decide +kernel
theorem dL_law_562 : decode cL_law 562 = .ok (.aload_n 1, 1) := by decide +kernel
theorem dL_law_563 : decode cL_law 563 = .ok (.aload_n 0, 1) := by decide +kernel
theorem dL_law_564 : decode cL_law 564 = .ok (.iload 4, 2) := by decide +kernel
theorem dL_law_566 : decode cL_law 566 = .ok (.iconst 1, 1) := by decide +kernel
theorem dL_law_567 : decode cL_law 567 = .ok (.iadd, 1) := by decide +kernel
theorem dL_law_568 : decode cL_law 568 = .ok (.iaload, 1) := by decide +kernel
theorem dL_law_569 : decode cL_law 569 = .ok (.aload_n 0, 1) := by decide +kernel
theorem dL_law_570 : decode cL_law 570 = .ok (.iload 4, 2) := by decide +kernel
theorem dL_law_572 : decode cL_law 572 = .ok (.iconst 2, 1) := by decide +kernel
theorem dL_law_573 : decode cL_law 573 = .ok (.iadd, 1) := by decide +kernel
theorem dL_law_574 : decode cL_law 574 = .ok (.iaload, 1) := by decide +kernel
theorem dL_law_575 : decode cL_law 575 = .ok (.aload_n 3, 1) := by decide +kernel
theorem dL_law_576 : decode cL_law 576 = .ok (.invokestatic 92, 3) := by decide +kernel
theorem dL_law_579 : decode cL_law 579 = .ok (.istore 5, 2) := by decide +kernel
theorem dL_law_581 : decode cL_law 581 = .ok (.aload_n 2, 1) := by decide +kernel
theorem dL_law_582 : decode cL_law 582 = .ok (.aload_n 0, 1) := by decide +kernel
theorem dL_law_583 : decode cL_law 583 = .ok (.iload 4, 2) := by decide +kernel
theorem dL_law_585 : decode cL_law 585 = .ok (.iconst 1, 1) := by decide +kernel
theorem dL_law_586 : decode cL_law 586 = .ok (.iadd, 1) := by decide +kernel
theorem dL_law_587 : decode cL_law 587 = .ok (.iaload, 1) := by decide +kernel
theorem dL_law_588 : decode cL_law 588 = .ok (.aload_n 0, 1) := by decide +kernel
theorem dL_law_589 : decode cL_law 589 = .ok (.iload 4, 2) := by decide +kernel
theorem dL_law_591 : decode cL_law 591 = .ok (.iconst 2, 1) := by decide +kernel
theorem dL_law_592 : decode cL_law 592 = .ok (.iadd, 1) := by decide +kernel
theorem dL_law_593 : decode cL_law 593 = .ok (.iaload, 1) := by decide +kernel
theorem dL_law_594 : decode cL_law 594 = .ok (.invokevirtual 94, 3) := by decide +kernel
theorem dL_law_597 : decode cL_law 597 = .ok (.istore 6, 2) := by decide +kernel
theorem dL_law_599 : decode cL_law 599 = .ok (.aload_n 2, 1) := by decide +kernel
theorem dL_law_600 : decode cL_law 600 = .ok (.invokevirtual 74, 3) := by decide +kernel
theorem dL_law_603 : decode cL_law 603 = .ok (.iload 5, 2) := by decide +kernel
theorem dL_law_605 : decode cL_law 605 = .ok (.if_icmp .eq 5, 3) := by decide +kernel
theorem dL_law_608 : decode cL_law 608 = .ok (.iconst 0, 1) := by decide +kernel
theorem dL_law_609 : decode cL_law 609 = .ok (.ireturn, 1) := by decide +kernel
theorem dL_law_610 : decode cL_law 610 = .ok (.iload 5, 2) := by decide +kernel
theorem dL_law_612 : decode cL_law 612 = .ok (.ifCond .ne 15, 3) := by decide +kernel
theorem dL_law_615 : decode cL_law 615 = .ok (.aload_n 3, 1) := by decide +kernel
theorem dL_law_616 : decode cL_law 616 = .ok (.iconst 0, 1) := by decide +kernel
theorem dL_law_617 : decode cL_law 617 = .ok (.laload, 1) := by decide +kernel
theorem dL_law_618 : decode cL_law 618 = .ok (.iload 6, 2) := by decide +kernel
theorem dL_law_620 : decode cL_law 620 = .ok (.i2l, 1) := by decide +kernel
theorem dL_law_621 : decode cL_law 621 = .ok (.lcmp, 1) := by decide +kernel
theorem dL_law_622 : decode cL_law 622 = .ok (.ifCond .eq 5, 3) := by decide +kernel
theorem dL_law_625 : decode cL_law 625 = .ok (.iconst 0, 1) := by decide +kernel
theorem dL_law_626 : decode cL_law 626 = .ok (.ireturn, 1) := by decide +kernel
theorem dL_law_627 : decode cL_law 627 = .ok (.goto 842, 3) := by decide +kernel
theorem dL_law_630 : decode cL_law 630 = .ok (.aload_n 1, 1) := by decide +kernel
theorem dL_law_631 : decode cL_law 631 = .ok (.aload_n 0, 1) := by decide +kernel
theorem dL_law_632 : decode cL_law 632 = .ok (.iload 4, 2) := by decide +kernel
theorem dL_law_634 : decode cL_law 634 = .ok (.iconst 1, 1) := by decide +kernel
theorem dL_law_635 : decode cL_law 635 = .ok (.iadd, 1) := by decide +kernel
theorem dL_law_636 : decode cL_law 636 = .ok (.iaload, 1) := by decide +kernel
theorem dL_law_637 : decode cL_law 637 = .ok (.aload_n 3, 1) := by decide +kernel
theorem dL_law_638 : decode cL_law 638 = .ok (.invokestatic 95, 3) := by decide +kernel
theorem dL_law_641 : decode cL_law 641 = .ok (.istore 5, 2) := by decide +kernel
theorem dL_law_643 : decode cL_law 643 = .ok (.aload_n 2, 1) := by decide +kernel
theorem dL_law_644 : decode cL_law 644 = .ok (.aload_n 0, 1) := by decide +kernel
theorem dL_law_645 : decode cL_law 645 = .ok (.iload 4, 2) := by decide +kernel
theorem dL_law_647 : decode cL_law 647 = .ok (.iconst 1, 1) := by decide +kernel
theorem dL_law_648 : decode cL_law 648 = .ok (.iadd, 1) := by decide +kernel
theorem dL_law_649 : decode cL_law 649 = .ok (.iaload, 1) := by decide +kernel
theorem dL_law_650 : decode cL_law 650 = .ok (.invokevirtual 97, 3) := by decide +kernel
theorem dL_law_653 : decode cL_law 653 = .ok (.istore 6, 2) := by decide +kernel
theorem dL_law_655 : decode cL_law 655 = .ok (.aload_n 2, 1) := by decide +kernel
theorem dL_law_656 : decode cL_law 656 = .ok (.invokevirtual 74, 3) := by decide +kernel
theorem dL_law_659 : decode cL_law 659 = .ok (.iload 5, 2) := by decide +kernel
theorem dL_law_661 : decode cL_law 661 = .ok (.if_icmp .eq 5, 3) := by decide +kernel
theorem dL_law_664 : decode cL_law 664 = .ok (.iconst 0, 1) := by decide +kernel
theorem dL_law_665 : decode cL_law 665 = .ok (.ireturn, 1) := by decide +kernel
theorem dL_law_666 : decode cL_law 666 = .ok (.iload 5, 2) := by decide +kernel
theorem dL_law_668 : decode cL_law 668 = .ok (.ifCond .ne 15, 3) := by decide +kernel
theorem dL_law_671 : decode cL_law 671 = .ok (.aload_n 3, 1) := by decide +kernel
theorem dL_law_672 : decode cL_law 672 = .ok (.iconst 0, 1) := by decide +kernel
theorem dL_law_673 : decode cL_law 673 = .ok (.laload, 1) := by decide +kernel
theorem dL_law_674 : decode cL_law 674 = .ok (.iload 6, 2) := by decide +kernel
theorem dL_law_676 : decode cL_law 676 = .ok (.i2l, 1) := by decide +kernel
theorem dL_law_677 : decode cL_law 677 = .ok (.lcmp, 1) := by decide +kernel
theorem dL_law_678 : decode cL_law 678 = .ok (.ifCond .eq 5, 3) := by decide +kernel
theorem dL_law_681 : decode cL_law 681 = .ok (.iconst 0, 1) := by decide +kernel
theorem dL_law_682 : decode cL_law 682 = .ok (.ireturn, 1) := by decide +kernel
theorem dL_law_683 : decode cL_law 683 = .ok (.goto 786, 3) := by decide +kernel
theorem dL_law_686 : decode cL_law 686 = .ok (.aload_n 1, 1) := by decide +kernel
theorem dL_law_687 : decode cL_law 687 = .ok (.invokevirtual 98, 3) := by decide +kernel
theorem dL_law_690 : decode cL_law 690 = .ok (.aload_n 2, 1) := by decide +kernel
theorem dL_law_691 : decode cL_law 691 = .ok (.invokevirtual 102, 3) := by decide +kernel
theorem dL_law_694 : decode cL_law 694 = .ok (.if_icmp .eq 775, 3) := by decide +kernel
theorem dL_law_697 : decode cL_law 697 = .ok (.iconst 0, 1) := by decide +kernel
theorem dL_law_698 : decode cL_law 698 = .ok (.ireturn, 1) := by decide +kernel
theorem dL_law_699 : decode cL_law 699 = .ok (.aload_n 1, 1) := by decide +kernel
theorem dL_law_700 : decode cL_law 700 = .ok (.aload_n 0, 1) := by decide +kernel
theorem dL_law_701 : decode cL_law 701 = .ok (.iload 4, 2) := by decide +kernel
theorem dL_law_703 : decode cL_law 703 = .ok (.iconst 1, 1) := by decide +kernel
theorem dL_law_704 : decode cL_law 704 = .ok (.iadd, 1) := by decide +kernel
theorem dL_law_705 : decode cL_law 705 = .ok (.iaload, 1) := by decide +kernel
theorem dL_law_706 : decode cL_law 706 = .ok (.aload_n 0, 1) := by decide +kernel
theorem dL_law_707 : decode cL_law 707 = .ok (.iload 4, 2) := by decide +kernel
theorem dL_law_709 : decode cL_law 709 = .ok (.iconst 2, 1) := by decide +kernel
theorem dL_law_710 : decode cL_law 710 = .ok (.iadd, 1) := by decide +kernel
theorem dL_law_711 : decode cL_law 711 = .ok (.iaload, 1) := by decide +kernel
theorem dL_law_712 : decode cL_law 712 = .ok (.aload_n 3, 1) := by decide +kernel
theorem dL_law_713 : decode cL_law 713 = .ok (.invokestatic 103, 3) := by decide +kernel
theorem dL_law_716 : decode cL_law 716 = .ok (.istore 5, 2) := by decide +kernel
theorem dL_law_718 : decode cL_law 718 = .ok (.aload_n 2, 1) := by decide +kernel
theorem dL_law_719 : decode cL_law 719 = .ok (.aload_n 0, 1) := by decide +kernel
theorem dL_law_720 : decode cL_law 720 = .ok (.iload 4, 2) := by decide +kernel
theorem dL_law_722 : decode cL_law 722 = .ok (.iconst 1, 1) := by decide +kernel
theorem dL_law_723 : decode cL_law 723 = .ok (.iadd, 1) := by decide +kernel
theorem dL_law_724 : decode cL_law 724 = .ok (.iaload, 1) := by decide +kernel
theorem dL_law_725 : decode cL_law 725 = .ok (.aload_n 0, 1) := by decide +kernel
theorem dL_law_726 : decode cL_law 726 = .ok (.iload 4, 2) := by decide +kernel
theorem dL_law_728 : decode cL_law 728 = .ok (.iconst 2, 1) := by decide +kernel
theorem dL_law_729 : decode cL_law 729 = .ok (.iadd, 1) := by decide +kernel
theorem dL_law_730 : decode cL_law 730 = .ok (.iaload, 1) := by decide +kernel
theorem dL_law_731 : decode cL_law 731 = .ok (.invokevirtual 105, 3) := by decide +kernel
theorem dL_law_734 : decode cL_law 734 = .ok (.istore 6, 2) := by decide +kernel
theorem dL_law_736 : decode cL_law 736 = .ok (.aload_n 2, 1) := by decide +kernel
theorem dL_law_737 : decode cL_law 737 = .ok (.invokevirtual 74, 3) := by decide +kernel
theorem dL_law_740 : decode cL_law 740 = .ok (.iload 5, 2) := by decide +kernel
theorem dL_law_742 : decode cL_law 742 = .ok (.if_icmp .eq 5, 3) := by decide +kernel
theorem dL_law_745 : decode cL_law 745 = .ok (.iconst 0, 1) := by decide +kernel
theorem dL_law_746 : decode cL_law 746 = .ok (.ireturn, 1) := by decide +kernel
theorem dL_law_747 : decode cL_law 747 = .ok (.iload 5, 2) := by decide +kernel
theorem dL_law_749 : decode cL_law 749 = .ok (.ifCond .ne 15, 3) := by decide +kernel
theorem dL_law_752 : decode cL_law 752 = .ok (.aload_n 3, 1) := by decide +kernel
theorem dL_law_753 : decode cL_law 753 = .ok (.iconst 0, 1) := by decide +kernel
theorem dL_law_754 : decode cL_law 754 = .ok (.laload, 1) := by decide +kernel
theorem dL_law_755 : decode cL_law 755 = .ok (.iload 6, 2) := by decide +kernel
theorem dL_law_757 : decode cL_law 757 = .ok (.i2l, 1) := by decide +kernel
theorem dL_law_758 : decode cL_law 758 = .ok (.lcmp, 1) := by decide +kernel
theorem dL_law_759 : decode cL_law 759 = .ok (.ifCond .eq 5, 3) := by decide +kernel
theorem dL_law_762 : decode cL_law 762 = .ok (.iconst 0, 1) := by decide +kernel
theorem dL_law_763 : decode cL_law 763 = .ok (.ireturn, 1) := by decide +kernel
theorem dL_law_764 : decode cL_law 764 = .ok (.goto 705, 3) := by decide +kernel
theorem dL_law_767 : decode cL_law 767 = .ok (.aload_n 1, 1) := by decide +kernel
theorem dL_law_768 : decode cL_law 768 = .ok (.aload_n 0, 1) := by decide +kernel
theorem dL_law_769 : decode cL_law 769 = .ok (.iload 4, 2) := by decide +kernel
theorem dL_law_771 : decode cL_law 771 = .ok (.iconst 1, 1) := by decide +kernel
theorem dL_law_772 : decode cL_law 772 = .ok (.iadd, 1) := by decide +kernel
theorem dL_law_773 : decode cL_law 773 = .ok (.iaload, 1) := by decide +kernel
theorem dL_law_774 : decode cL_law 774 = .ok (.aload_n 3, 1) := by decide +kernel
theorem dL_law_775 : decode cL_law 775 = .ok (.invokestatic 106, 3) := by decide +kernel
theorem dL_law_778 : decode cL_law 778 = .ok (.istore 5, 2) := by decide +kernel
theorem dL_law_780 : decode cL_law 780 = .ok (.aload_n 2, 1) := by decide +kernel
theorem dL_law_781 : decode cL_law 781 = .ok (.aload_n 0, 1) := by decide +kernel
theorem dL_law_782 : decode cL_law 782 = .ok (.iload 4, 2) := by decide +kernel
theorem dL_law_784 : decode cL_law 784 = .ok (.iconst 1, 1) := by decide +kernel
theorem dL_law_785 : decode cL_law 785 = .ok (.iadd, 1) := by decide +kernel
theorem dL_law_786 : decode cL_law 786 = .ok (.iaload, 1) := by decide +kernel
theorem dL_law_787 : decode cL_law 787 = .ok (.invokevirtual 108, 3) := by decide +kernel
theorem dL_law_790 : decode cL_law 790 = .ok (.istore 6, 2) := by decide +kernel
theorem dL_law_792 : decode cL_law 792 = .ok (.aload_n 2, 1) := by decide +kernel
theorem dL_law_793 : decode cL_law 793 = .ok (.invokevirtual 74, 3) := by decide +kernel
theorem dL_law_796 : decode cL_law 796 = .ok (.iload 5, 2) := by decide +kernel
end
section
theorem dL_law_798 : decode cL_law 798 = .ok (.if_icmp .eq 5, 3) := by decide +kernel
theorem dL_law_801 : decode cL_law 801 = .ok (.iconst 0, 1) := by decide +kernel
theorem dL_law_802 : decode cL_law 802 = .ok (.ireturn, 1) := by decide +kernel
theorem dL_law_803 : decode cL_law 803 = .ok (.iload 5, 2) := by decide +kernel
theorem dL_law_805 : decode cL_law 805 = .ok (.ifCond .ne 15, 3) := by decide +kernel
theorem dL_law_808 : decode cL_law 808 = .ok (.aload_n 3, 1) := by decide +kernel
theorem dL_law_809 : decode cL_law 809 = .ok (.iconst 0, 1) := by decide +kernel
theorem dL_law_810 : decode cL_law 810 = .ok (.laload, 1) := by decide +kernel
theorem dL_law_811 : decode cL_law 811 = .ok (.iload 6, 2) := by decide +kernel
theorem dL_law_813 : decode cL_law 813 = .ok (.i2l, 1) := by decide +kernel
theorem dL_law_814 : decode cL_law 814 = .ok (.lcmp, 1) := by decide +kernel
theorem dL_law_815 : decode cL_law 815 = .ok (.ifCond .eq 5, 3) := by decide +kernel
theorem dL_law_818 : decode cL_law 818 = .ok (.iconst 0, 1) := by decide +kernel
theorem dL_law_819 : decode cL_law 819 = .ok (.ireturn, 1) := by decide +kernel
theorem dL_law_820 : decode cL_law 820 = .ok (.goto 649, 3) := by decide +kernel
theorem dL_law_823 : decode cL_law 823 = .ok (.aload_n 1, 1) := by decide +kernel
theorem dL_law_824 : decode cL_law 824 = .ok (.aload_n 0, 1) := by decide +kernel
theorem dL_law_825 : decode cL_law 825 = .ok (.iload 4, 2) := by decide +kernel
theorem dL_law_827 : decode cL_law 827 = .ok (.iconst 1, 1) := by decide +kernel
theorem dL_law_828 : decode cL_law 828 = .ok (.iadd, 1) := by decide +kernel
theorem dL_law_829 : decode cL_law 829 = .ok (.iaload, 1) := by decide +kernel
theorem dL_law_830 : decode cL_law 830 = .ok (.aload_n 3, 1) := by decide +kernel
theorem dL_law_831 : decode cL_law 831 = .ok (.invokestatic 109, 3) := by decide +kernel
theorem dL_law_834 : decode cL_law 834 = .ok (.istore 5, 2) := by decide +kernel
theorem dL_law_836 : decode cL_law 836 = .ok (.aload_n 2, 1) := by decide +kernel
theorem dL_law_837 : decode cL_law 837 = .ok (.aload_n 0, 1) := by decide +kernel
theorem dL_law_838 : decode cL_law 838 = .ok (.iload 4, 2) := by decide +kernel
theorem dL_law_840 : decode cL_law 840 = .ok (.iconst 1, 1) := by decide +kernel
theorem dL_law_841 : decode cL_law 841 = .ok (.iadd, 1) := by decide +kernel
theorem dL_law_842 : decode cL_law 842 = .ok (.iaload, 1) := by decide +kernel
theorem dL_law_843 : decode cL_law 843 = .ok (.invokevirtual 111, 3) := by decide +kernel
theorem dL_law_846 : decode cL_law 846 = .ok (.istore 6, 2) := by decide +kernel
theorem dL_law_848 : decode cL_law 848 = .ok (.aload_n 2, 1) := by decide +kernel
theorem dL_law_849 : decode cL_law 849 = .ok (.invokevirtual 74, 3) := by decide +kernel
theorem dL_law_852 : decode cL_law 852 = .ok (.iload 5, 2) := by decide +kernel
theorem dL_law_854 : decode cL_law 854 = .ok (.if_icmp .eq 5, 3) := by decide +kernel
theorem dL_law_857 : decode cL_law 857 = .ok (.iconst 0, 1) := by decide +kernel
theorem dL_law_858 : decode cL_law 858 = .ok (.ireturn, 1) := by decide +kernel
theorem dL_law_859 : decode cL_law 859 = .ok (.iload 5, 2) := by decide +kernel
theorem dL_law_861 : decode cL_law 861 = .ok (.ifCond .ne 15, 3) := by decide +kernel
theorem dL_law_864 : decode cL_law 864 = .ok (.aload_n 3, 1) := by decide +kernel
theorem dL_law_865 : decode cL_law 865 = .ok (.iconst 0, 1) := by decide +kernel
theorem dL_law_866 : decode cL_law 866 = .ok (.laload, 1) := by decide +kernel
theorem dL_law_867 : decode cL_law 867 = .ok (.iload 6, 2) := by decide +kernel
theorem dL_law_869 : decode cL_law 869 = .ok (.i2l, 1) := by decide +kernel
theorem dL_law_870 : decode cL_law 870 = .ok (.lcmp, 1) := by decide +kernel
theorem dL_law_871 : decode cL_law 871 = .ok (.ifCond .eq 5, 3) := by decide +kernel
theorem dL_law_874 : decode cL_law 874 = .ok (.iconst 0, 1) := by decide +kernel
theorem dL_law_875 : decode cL_law 875 = .ok (.ireturn, 1) := by decide +kernel
theorem dL_law_876 : decode cL_law 876 = .ok (.goto 593, 3) := by decide +kernel
theorem dL_law_879 : decode cL_law 879 = .ok (.aload_n 1, 1) := by decide +kernel
theorem dL_law_880 : decode cL_law 880 = .ok (.aload_n 0, 1) := by decide +kernel
theorem dL_law_881 : decode cL_law 881 = .ok (.iload 4, 2) := by decide +kernel
theorem dL_law_883 : decode cL_law 883 = .ok (.iconst 1, 1) := by decide +kernel
theorem dL_law_884 : decode cL_law 884 = .ok (.iadd, 1) := by decide +kernel
theorem dL_law_885 : decode cL_law 885 = .ok (.iaload, 1) := by decide +kernel
theorem dL_law_886 : decode cL_law 886 = .ok (.aload_n 0, 1) := by decide +kernel
theorem dL_law_887 : decode cL_law 887 = .ok (.iload 4, 2) := by decide +kernel
theorem dL_law_889 : decode cL_law 889 = .ok (.iconst 2, 1) := by decide +kernel
theorem dL_law_890 : decode cL_law 890 = .ok (.iadd, 1) := by decide +kernel
theorem dL_law_891 : decode cL_law 891 = .ok (.iaload, 1) := by decide +kernel
theorem dL_law_892 : decode cL_law 892 = .ok (.i2l, 1) := by decide +kernel
theorem dL_law_893 : decode cL_law 893 = .ok (.bipush 32, 2) := by decide +kernel
theorem dL_law_895 : decode cL_law 895 = .ok (.lshl, 1) := by decide +kernel
theorem dL_law_896 : decode cL_law 896 = .ok (.aload_n 0, 1) := by decide +kernel
theorem dL_law_897 : decode cL_law 897 = .ok (.iload 4, 2) := by decide +kernel
theorem dL_law_899 : decode cL_law 899 = .ok (.iconst 3, 1) := by decide +kernel
theorem dL_law_900 : decode cL_law 900 = .ok (.iadd, 1) := by decide +kernel
theorem dL_law_901 : decode cL_law 901 = .ok (.iaload, 1) := by decide +kernel
theorem dL_law_902 : decode cL_law 902 = .ok (.i2l, 1) := by decide +kernel
theorem dL_law_903 : decode cL_law 903 = .ok (.ldc2_w 66, 3) := by decide +kernel
theorem dL_law_906 : decode cL_law 906 = .ok (.land, 1) := by decide +kernel
theorem dL_law_907 : decode cL_law 907 = .ok (.lor, 1) := by decide +kernel
theorem dL_law_908 : decode cL_law 908 = .ok (.aload_n 0, 1) := by decide +kernel
theorem dL_law_909 : decode cL_law 909 = .ok (.iload 4, 2) := by decide +kernel
theorem dL_law_911 : decode cL_law 911 = .ok (.iconst 4, 1) := by decide +kernel
theorem dL_law_912 : decode cL_law 912 = .ok (.iadd, 1) := by decide +kernel
theorem dL_law_913 : decode cL_law 913 = .ok (.iaload, 1) := by decide +kernel
theorem dL_law_914 : decode cL_law 914 = .ok (.i2l, 1) := by decide +kernel
theorem dL_law_915 : decode cL_law 915 = .ok (.bipush 32, 2) := by decide +kernel
theorem dL_law_917 : decode cL_law 917 = .ok (.lshl, 1) := by decide +kernel
theorem dL_law_918 : decode cL_law 918 = .ok (.aload_n 0, 1) := by decide +kernel
theorem dL_law_919 : decode cL_law 919 = .ok (.iload 4, 2) := by decide +kernel
theorem dL_law_921 : decode cL_law 921 = .ok (.iconst 5, 1) := by decide +kernel
theorem dL_law_922 : decode cL_law 922 = .ok (.iadd, 1) := by decide +kernel
theorem dL_law_923 : decode cL_law 923 = .ok (.iaload, 1) := by decide +kernel
theorem dL_law_924 : decode cL_law 924 = .ok (.i2l, 1) := by decide +kernel
theorem dL_law_925 : decode cL_law 925 = .ok (.ldc2_w 66, 3) := by decide +kernel
theorem dL_law_928 : decode cL_law 928 = .ok (.land, 1) := by decide +kernel
theorem dL_law_929 : decode cL_law 929 = .ok (.lor, 1) := by decide +kernel
theorem dL_law_930 : decode cL_law 930 = .ok (.aload_n 3, 1) := by decide +kernel
theorem dL_law_931 : decode cL_law 931 = .ok (.invokestatic 112, 3) := by decide +kernel
theorem dL_law_934 : decode cL_law 934 = .ok (.istore 5, 2) := by decide +kernel
theorem dL_law_936 : decode cL_law 936 = .ok (.aload_n 2, 1) := by decide +kernel
theorem dL_law_937 : decode cL_law 937 = .ok (.aload_n 0, 1) := by decide +kernel
theorem dL_law_938 : decode cL_law 938 = .ok (.iload 4, 2) := by decide +kernel
theorem dL_law_940 : decode cL_law 940 = .ok (.iconst 1, 1) := by decide +kernel
theorem dL_law_941 : decode cL_law 941 = .ok (.iadd, 1) := by decide +kernel
theorem dL_law_942 : decode cL_law 942 = .ok (.iaload, 1) := by decide +kernel
theorem dL_law_943 : decode cL_law 943 = .ok (.aload_n 0, 1) := by decide +kernel
theorem dL_law_944 : decode cL_law 944 = .ok (.iload 4, 2) := by decide +kernel
theorem dL_law_946 : decode cL_law 946 = .ok (.iconst 2, 1) := by decide +kernel
theorem dL_law_947 : decode cL_law 947 = .ok (.iadd, 1) := by decide +kernel
theorem dL_law_948 : decode cL_law 948 = .ok (.iaload, 1) := by decide +kernel
theorem dL_law_949 : decode cL_law 949 = .ok (.i2l, 1) := by decide +kernel
theorem dL_law_950 : decode cL_law 950 = .ok (.bipush 32, 2) := by decide +kernel
theorem dL_law_952 : decode cL_law 952 = .ok (.lshl, 1) := by decide +kernel
theorem dL_law_953 : decode cL_law 953 = .ok (.aload_n 0, 1) := by decide +kernel
theorem dL_law_954 : decode cL_law 954 = .ok (.iload 4, 2) := by decide +kernel
theorem dL_law_956 : decode cL_law 956 = .ok (.iconst 3, 1) := by decide +kernel
theorem dL_law_957 : decode cL_law 957 = .ok (.iadd, 1) := by decide +kernel
theorem dL_law_958 : decode cL_law 958 = .ok (.iaload, 1) := by decide +kernel
theorem dL_law_959 : decode cL_law 959 = .ok (.i2l, 1) := by decide +kernel
theorem dL_law_960 : decode cL_law 960 = .ok (.ldc2_w 66, 3) := by decide +kernel
theorem dL_law_963 : decode cL_law 963 = .ok (.land, 1) := by decide +kernel
theorem dL_law_964 : decode cL_law 964 = .ok (.lor, 1) := by decide +kernel
theorem dL_law_965 : decode cL_law 965 = .ok (.aload_n 0, 1) := by decide +kernel
theorem dL_law_966 : decode cL_law 966 = .ok (.iload 4, 2) := by decide +kernel
theorem dL_law_968 : decode cL_law 968 = .ok (.iconst 4, 1) := by decide +kernel
theorem dL_law_969 : decode cL_law 969 = .ok (.iadd, 1) := by decide +kernel
theorem dL_law_970 : decode cL_law 970 = .ok (.iaload, 1) := by decide +kernel
theorem dL_law_971 : decode cL_law 971 = .ok (.i2l, 1) := by decide +kernel
theorem dL_law_972 : decode cL_law 972 = .ok (.bipush 32, 2) := by decide +kernel
theorem dL_law_974 : decode cL_law 974 = .ok (.lshl, 1) := by decide +kernel
theorem dL_law_975 : decode cL_law 975 = .ok (.aload_n 0, 1) := by decide +kernel
theorem dL_law_976 : decode cL_law 976 = .ok (.iload 4, 2) := by decide +kernel
theorem dL_law_978 : decode cL_law 978 = .ok (.iconst 5, 1) := by decide +kernel
theorem dL_law_979 : decode cL_law 979 = .ok (.iadd, 1) := by decide +kernel
theorem dL_law_980 : decode cL_law 980 = .ok (.iaload, 1) := by decide +kernel
theorem dL_law_981 : decode cL_law 981 = .ok (.i2l, 1) := by decide +kernel
theorem dL_law_982 : decode cL_law 982 = .ok (.ldc2_w 66, 3) := by decide +kernel
theorem dL_law_985 : decode cL_law 985 = .ok (.land, 1) := by decide +kernel
theorem dL_law_986 : decode cL_law 986 = .ok (.lor, 1) := by decide +kernel
theorem dL_law_987 : decode cL_law 987 = .ok (.invokevirtual 115, 3) := by decide +kernel
theorem dL_law_990 : decode cL_law 990 = .ok (.istore 6, 2) := by decide +kernel
theorem dL_law_992 : decode cL_law 992 = .ok (.aload_n 2, 1) := by decide +kernel
theorem dL_law_993 : decode cL_law 993 = .ok (.invokevirtual 74, 3) := by decide +kernel
theorem dL_law_996 : decode cL_law 996 = .ok (.iload 5, 2) := by decide +kernel
theorem dL_law_998 : decode cL_law 998 = .ok (.if_icmp .eq 5, 3) := by decide +kernel
theorem dL_law_1001 : decode cL_law 1001 = .ok (.iconst 0, 1) := by decide +kernel
theorem dL_law_1002 : decode cL_law 1002 = .ok (.ireturn, 1) := by decide +kernel
theorem dL_law_1003 : decode cL_law 1003 = .ok (.iload 5, 2) := by decide +kernel
theorem dL_law_1005 : decode cL_law 1005 = .ok (.ifCond .ne 15, 3) := by decide +kernel
theorem dL_law_1008 : decode cL_law 1008 = .ok (.aload_n 3, 1) := by decide +kernel
theorem dL_law_1009 : decode cL_law 1009 = .ok (.iconst 0, 1) := by decide +kernel
theorem dL_law_1010 : decode cL_law 1010 = .ok (.laload, 1) := by decide +kernel
theorem dL_law_1011 : decode cL_law 1011 = .ok (.iload 6, 2) := by decide +kernel
theorem dL_law_1013 : decode cL_law 1013 = .ok (.i2l, 1) := by decide +kernel
theorem dL_law_1014 : decode cL_law 1014 = .ok (.lcmp, 1) := by decide +kernel
theorem dL_law_1015 : decode cL_law 1015 = .ok (.ifCond .eq 5, 3) := by decide +kernel
theorem dL_law_1018 : decode cL_law 1018 = .ok (.iconst 0, 1) := by decide +kernel
theorem dL_law_1019 : decode cL_law 1019 = .ok (.ireturn, 1) := by decide +kernel
theorem dL_law_1020 : decode cL_law 1020 = .ok (.goto 449, 3) := by decide +kernel
theorem dL_law_1023 : decode cL_law 1023 = .ok (.aload_n 1, 1) := by decide +kernel
theorem dL_law_1024 : decode cL_law 1024 = .ok (.aload_n 0, 1) := by decide +kernel
theorem dL_law_1025 : decode cL_law 1025 = .ok (.iload 4, 2) := by decide +kernel
theorem dL_law_1027 : decode cL_law 1027 = .ok (.iconst 1, 1) := by decide +kernel
theorem dL_law_1028 : decode cL_law 1028 = .ok (.iadd, 1) := by decide +kernel
theorem dL_law_1029 : decode cL_law 1029 = .ok (.iaload, 1) := by decide +kernel
theorem dL_law_1030 : decode cL_law 1030 = .ok (.aload_n 0, 1) := by decide +kernel
end
section
theorem dL_law_1031 : decode cL_law 1031 = .ok (.iload 4, 2) := by decide +kernel
theorem dL_law_1033 : decode cL_law 1033 = .ok (.iconst 2, 1) := by decide +kernel
theorem dL_law_1034 : decode cL_law 1034 = .ok (.iadd, 1) := by decide +kernel
theorem dL_law_1035 : decode cL_law 1035 = .ok (.iaload, 1) := by decide +kernel
theorem dL_law_1036 : decode cL_law 1036 = .ok (.i2l, 1) := by decide +kernel
theorem dL_law_1037 : decode cL_law 1037 = .ok (.bipush 32, 2) := by decide +kernel
theorem dL_law_1039 : decode cL_law 1039 = .ok (.lshl, 1) := by decide +kernel
theorem dL_law_1040 : decode cL_law 1040 = .ok (.aload_n 0, 1) := by decide +kernel
theorem dL_law_1041 : decode cL_law 1041 = .ok (.iload 4, 2) := by decide +kernel
theorem dL_law_1043 : decode cL_law 1043 = .ok (.iconst 3, 1) := by decide +kernel
theorem dL_law_1044 : decode cL_law 1044 = .ok (.iadd, 1) := by decide +kernel
theorem dL_law_1045 : decode cL_law 1045 = .ok (.iaload, 1) := by decide +kernel
theorem dL_law_1046 : decode cL_law 1046 = .ok (.i2l, 1) := by decide +kernel
theorem dL_law_1047 : decode cL_law 1047 = .ok (.ldc2_w 66, 3) := by decide +kernel
theorem dL_law_1050 : decode cL_law 1050 = .ok (.land, 1) := by decide +kernel
theorem dL_law_1051 : decode cL_law 1051 = .ok (.lor, 1) := by decide +kernel
theorem dL_law_1052 : decode cL_law 1052 = .ok (.aload_n 0, 1) := by decide +kernel
theorem dL_law_1053 : decode cL_law 1053 = .ok (.iload 4, 2) := by decide +kernel
theorem dL_law_1055 : decode cL_law 1055 = .ok (.iconst 4, 1) := by decide +kernel
theorem dL_law_1056 : decode cL_law 1056 = .ok (.iadd, 1) := by decide +kernel
theorem dL_law_1057 : decode cL_law 1057 = .ok (.iaload, 1) := by decide +kernel
theorem dL_law_1058 : decode cL_law 1058 = .ok (.i2l, 1) := by decide +kernel
theorem dL_law_1059 : decode cL_law 1059 = .ok (.bipush 32, 2) := by decide +kernel
theorem dL_law_1061 : decode cL_law 1061 = .ok (.lshl, 1) := by decide +kernel
theorem dL_law_1062 : decode cL_law 1062 = .ok (.aload_n 0, 1) := by decide +kernel
theorem dL_law_1063 : decode cL_law 1063 = .ok (.iload 4, 2) := by decide +kernel
theorem dL_law_1065 : decode cL_law 1065 = .ok (.iconst 5, 1) := by decide +kernel
theorem dL_law_1066 : decode cL_law 1066 = .ok (.iadd, 1) := by decide +kernel
theorem dL_law_1067 : decode cL_law 1067 = .ok (.iaload, 1) := by decide +kernel
theorem dL_law_1068 : decode cL_law 1068 = .ok (.i2l, 1) := by decide +kernel
theorem dL_law_1069 : decode cL_law 1069 = .ok (.ldc2_w 66, 3) := by decide +kernel
theorem dL_law_1072 : decode cL_law 1072 = .ok (.land, 1) := by decide +kernel
theorem dL_law_1073 : decode cL_law 1073 = .ok (.lor, 1) := by decide +kernel
theorem dL_law_1074 : decode cL_law 1074 = .ok (.aload_n 3, 1) := by decide +kernel
theorem dL_law_1075 : decode cL_law 1075 = .ok (.invokestatic 116, 3) := by decide +kernel
theorem dL_law_1078 : decode cL_law 1078 = .ok (.istore 5, 2) := by decide +kernel
theorem dL_law_1080 : decode cL_law 1080 = .ok (.aload_n 2, 1) := by decide +kernel
theorem dL_law_1081 : decode cL_law 1081 = .ok (.aload_n 0, 1) := by decide +kernel
theorem dL_law_1082 : decode cL_law 1082 = .ok (.iload 4, 2) := by decide +kernel
theorem dL_law_1084 : decode cL_law 1084 = .ok (.iconst 1, 1) := by decide +kernel
theorem dL_law_1085 : decode cL_law 1085 = .ok (.iadd, 1) := by decide +kernel
theorem dL_law_1086 : decode cL_law 1086 = .ok (.iaload, 1) := by decide +kernel
theorem dL_law_1087 : decode cL_law 1087 = .ok (.aload_n 0, 1) := by decide +kernel
theorem dL_law_1088 : decode cL_law 1088 = .ok (.iload 4, 2) := by decide +kernel
theorem dL_law_1090 : decode cL_law 1090 = .ok (.iconst 2, 1) := by decide +kernel
theorem dL_law_1091 : decode cL_law 1091 = .ok (.iadd, 1) := by decide +kernel
theorem dL_law_1092 : decode cL_law 1092 = .ok (.iaload, 1) := by decide +kernel
theorem dL_law_1093 : decode cL_law 1093 = .ok (.i2l, 1) := by decide +kernel
theorem dL_law_1094 : decode cL_law 1094 = .ok (.bipush 32, 2) := by decide +kernel
theorem dL_law_1096 : decode cL_law 1096 = .ok (.lshl, 1) := by decide +kernel
theorem dL_law_1097 : decode cL_law 1097 = .ok (.aload_n 0, 1) := by decide +kernel
theorem dL_law_1098 : decode cL_law 1098 = .ok (.iload 4, 2) := by decide +kernel
theorem dL_law_1100 : decode cL_law 1100 = .ok (.iconst 3, 1) := by decide +kernel
theorem dL_law_1101 : decode cL_law 1101 = .ok (.iadd, 1) := by decide +kernel
theorem dL_law_1102 : decode cL_law 1102 = .ok (.iaload, 1) := by decide +kernel
theorem dL_law_1103 : decode cL_law 1103 = .ok (.i2l, 1) := by decide +kernel
theorem dL_law_1104 : decode cL_law 1104 = .ok (.ldc2_w 66, 3) := by decide +kernel
theorem dL_law_1107 : decode cL_law 1107 = .ok (.land, 1) := by decide +kernel
theorem dL_law_1108 : decode cL_law 1108 = .ok (.lor, 1) := by decide +kernel
theorem dL_law_1109 : decode cL_law 1109 = .ok (.aload_n 0, 1) := by decide +kernel
theorem dL_law_1110 : decode cL_law 1110 = .ok (.iload 4, 2) := by decide +kernel
theorem dL_law_1112 : decode cL_law 1112 = .ok (.iconst 4, 1) := by decide +kernel
theorem dL_law_1113 : decode cL_law 1113 = .ok (.iadd, 1) := by decide +kernel
theorem dL_law_1114 : decode cL_law 1114 = .ok (.iaload, 1) := by decide +kernel
theorem dL_law_1115 : decode cL_law 1115 = .ok (.i2l, 1) := by decide +kernel
theorem dL_law_1116 : decode cL_law 1116 = .ok (.bipush 32, 2) := by decide +kernel
theorem dL_law_1118 : decode cL_law 1118 = .ok (.lshl, 1) := by decide +kernel
theorem dL_law_1119 : decode cL_law 1119 = .ok (.aload_n 0, 1) := by decide +kernel
theorem dL_law_1120 : decode cL_law 1120 = .ok (.iload 4, 2) := by decide +kernel
theorem dL_law_1122 : decode cL_law 1122 = .ok (.iconst 5, 1) := by decide +kernel
theorem dL_law_1123 : decode cL_law 1123 = .ok (.iadd, 1) := by decide +kernel
theorem dL_law_1124 : decode cL_law 1124 = .ok (.iaload, 1) := by decide +kernel
theorem dL_law_1125 : decode cL_law 1125 = .ok (.i2l, 1) := by decide +kernel
theorem dL_law_1126 : decode cL_law 1126 = .ok (.ldc2_w 66, 3) := by decide +kernel
theorem dL_law_1129 : decode cL_law 1129 = .ok (.land, 1) := by decide +kernel
theorem dL_law_1130 : decode cL_law 1130 = .ok (.lor, 1) := by decide +kernel
theorem dL_law_1131 : decode cL_law 1131 = .ok (.invokevirtual 118, 3) := by decide +kernel
theorem dL_law_1134 : decode cL_law 1134 = .ok (.istore 6, 2) := by decide +kernel
theorem dL_law_1136 : decode cL_law 1136 = .ok (.aload_n 2, 1) := by decide +kernel
theorem dL_law_1137 : decode cL_law 1137 = .ok (.invokevirtual 74, 3) := by decide +kernel
theorem dL_law_1140 : decode cL_law 1140 = .ok (.iload 5, 2) := by decide +kernel
theorem dL_law_1142 : decode cL_law 1142 = .ok (.if_icmp .eq 5, 3) := by decide +kernel
theorem dL_law_1145 : decode cL_law 1145 = .ok (.iconst 0, 1) := by decide +kernel
theorem dL_law_1146 : decode cL_law 1146 = .ok (.ireturn, 1) := by decide +kernel
theorem dL_law_1147 : decode cL_law 1147 = .ok (.iload 5, 2) := by decide +kernel
theorem dL_law_1149 : decode cL_law 1149 = .ok (.ifCond .ne 15, 3) := by decide +kernel
theorem dL_law_1152 : decode cL_law 1152 = .ok (.aload_n 3, 1) := by decide +kernel
theorem dL_law_1153 : decode cL_law 1153 = .ok (.iconst 0, 1) := by decide +kernel
theorem dL_law_1154 : decode cL_law 1154 = .ok (.laload, 1) := by decide +kernel
theorem dL_law_1155 : decode cL_law 1155 = .ok (.iload 6, 2) := by decide +kernel
theorem dL_law_1157 : decode cL_law 1157 = .ok (.i2l, 1) := by decide +kernel
theorem dL_law_1158 : decode cL_law 1158 = .ok (.lcmp, 1) := by decide +kernel
theorem dL_law_1159 : decode cL_law 1159 = .ok (.ifCond .eq 5, 3) := by decide +kernel
theorem dL_law_1162 : decode cL_law 1162 = .ok (.iconst 0, 1) := by decide +kernel
theorem dL_law_1163 : decode cL_law 1163 = .ok (.ireturn, 1) := by decide +kernel
theorem dL_law_1164 : decode cL_law 1164 = .ok (.goto 305, 3) := by decide +kernel
theorem dL_law_1167 : decode cL_law 1167 = .ok (.aload_n 1, 1) := by decide +kernel
theorem dL_law_1168 : decode cL_law 1168 = .ok (.aload_n 0, 1) := by decide +kernel
theorem dL_law_1169 : decode cL_law 1169 = .ok (.iload 4, 2) := by decide +kernel
theorem dL_law_1171 : decode cL_law 1171 = .ok (.iconst 1, 1) := by decide +kernel
theorem dL_law_1172 : decode cL_law 1172 = .ok (.iadd, 1) := by decide +kernel
theorem dL_law_1173 : decode cL_law 1173 = .ok (.iaload, 1) := by decide +kernel
theorem dL_law_1174 : decode cL_law 1174 = .ok (.aload_n 0, 1) := by decide +kernel
theorem dL_law_1175 : decode cL_law 1175 = .ok (.iload 4, 2) := by decide +kernel
theorem dL_law_1177 : decode cL_law 1177 = .ok (.iconst 2, 1) := by decide +kernel
theorem dL_law_1178 : decode cL_law 1178 = .ok (.iadd, 1) := by decide +kernel
theorem dL_law_1179 : decode cL_law 1179 = .ok (.iaload, 1) := by decide +kernel
theorem dL_law_1180 : decode cL_law 1180 = .ok (.i2l, 1) := by decide +kernel
theorem dL_law_1181 : decode cL_law 1181 = .ok (.bipush 32, 2) := by decide +kernel
theorem dL_law_1183 : decode cL_law 1183 = .ok (.lshl, 1) := by decide +kernel
theorem dL_law_1184 : decode cL_law 1184 = .ok (.aload_n 0, 1) := by decide +kernel
theorem dL_law_1185 : decode cL_law 1185 = .ok (.iload 4, 2) := by decide +kernel
theorem dL_law_1187 : decode cL_law 1187 = .ok (.iconst 3, 1) := by decide +kernel
theorem dL_law_1188 : decode cL_law 1188 = .ok (.iadd, 1) := by decide +kernel
theorem dL_law_1189 : decode cL_law 1189 = .ok (.iaload, 1) := by decide +kernel
theorem dL_law_1190 : decode cL_law 1190 = .ok (.i2l, 1) := by decide +kernel
theorem dL_law_1191 : decode cL_law 1191 = .ok (.ldc2_w 66, 3) := by decide +kernel
theorem dL_law_1194 : decode cL_law 1194 = .ok (.land, 1) := by decide +kernel
theorem dL_law_1195 : decode cL_law 1195 = .ok (.lor, 1) := by decide +kernel
theorem dL_law_1196 : decode cL_law 1196 = .ok (.aload_n 0, 1) := by decide +kernel
theorem dL_law_1197 : decode cL_law 1197 = .ok (.iload 4, 2) := by decide +kernel
theorem dL_law_1199 : decode cL_law 1199 = .ok (.iconst 4, 1) := by decide +kernel
theorem dL_law_1200 : decode cL_law 1200 = .ok (.iadd, 1) := by decide +kernel
theorem dL_law_1201 : decode cL_law 1201 = .ok (.iaload, 1) := by decide +kernel
theorem dL_law_1202 : decode cL_law 1202 = .ok (.i2l, 1) := by decide +kernel
theorem dL_law_1203 : decode cL_law 1203 = .ok (.bipush 32, 2) := by decide +kernel
theorem dL_law_1205 : decode cL_law 1205 = .ok (.lshl, 1) := by decide +kernel
theorem dL_law_1206 : decode cL_law 1206 = .ok (.aload_n 0, 1) := by decide +kernel
theorem dL_law_1207 : decode cL_law 1207 = .ok (.iload 4, 2) := by decide +kernel
theorem dL_law_1209 : decode cL_law 1209 = .ok (.iconst 5, 1) := by decide +kernel
theorem dL_law_1210 : decode cL_law 1210 = .ok (.iadd, 1) := by decide +kernel
theorem dL_law_1211 : decode cL_law 1211 = .ok (.iaload, 1) := by decide +kernel
theorem dL_law_1212 : decode cL_law 1212 = .ok (.i2l, 1) := by decide +kernel
theorem dL_law_1213 : decode cL_law 1213 = .ok (.ldc2_w 66, 3) := by decide +kernel
theorem dL_law_1216 : decode cL_law 1216 = .ok (.land, 1) := by decide +kernel
theorem dL_law_1217 : decode cL_law 1217 = .ok (.lor, 1) := by decide +kernel
theorem dL_law_1218 : decode cL_law 1218 = .ok (.aload_n 3, 1) := by decide +kernel
theorem dL_law_1219 : decode cL_law 1219 = .ok (.invokestatic 119, 3) := by decide +kernel
theorem dL_law_1222 : decode cL_law 1222 = .ok (.istore 5, 2) := by decide +kernel
theorem dL_law_1224 : decode cL_law 1224 = .ok (.aload_n 2, 1) := by decide +kernel
theorem dL_law_1225 : decode cL_law 1225 = .ok (.aload_n 0, 1) := by decide +kernel
theorem dL_law_1226 : decode cL_law 1226 = .ok (.iload 4, 2) := by decide +kernel
theorem dL_law_1228 : decode cL_law 1228 = .ok (.iconst 1, 1) := by decide +kernel
theorem dL_law_1229 : decode cL_law 1229 = .ok (.iadd, 1) := by decide +kernel
theorem dL_law_1230 : decode cL_law 1230 = .ok (.iaload, 1) := by decide +kernel
theorem dL_law_1231 : decode cL_law 1231 = .ok (.aload_n 0, 1) := by decide +kernel
theorem dL_law_1232 : decode cL_law 1232 = .ok (.iload 4, 2) := by decide +kernel
theorem dL_law_1234 : decode cL_law 1234 = .ok (.iconst 2, 1) := by decide +kernel
theorem dL_law_1235 : decode cL_law 1235 = .ok (.iadd, 1) := by decide +kernel
theorem dL_law_1236 : decode cL_law 1236 = .ok (.iaload, 1) := by decide +kernel
theorem dL_law_1237 : decode cL_law 1237 = .ok (.i2l, 1) := by decide +kernel
theorem dL_law_1238 : decode cL_law 1238 = .ok (.bipush 32, 2) := by decide +kernel
theorem dL_law_1240 : decode cL_law 1240 = .ok (.lshl, 1) := by decide +kernel
theorem dL_law_1241 : decode cL_law 1241 = .ok (.aload_n 0, 1) := by decide +kernel
theorem dL_law_1242 : decode cL_law 1242 = .ok (.iload 4, 2) := by decide +kernel
theorem dL_law_1244 : decode cL_law 1244 = .ok (.iconst 3, 1) := by decide +kernel
theorem dL_law_1245 : decode cL_law 1245 = .ok (.iadd, 1) := by decide +kernel
theorem dL_law_1246 : decode cL_law 1246 = .ok (.iaload, 1) := by decide +kernel
theorem dL_law_1247 : decode cL_law 1247 = .ok (.i2l, 1) := by decide +kernel
theorem dL_law_1248 : decode cL_law 1248 = .ok (.ldc2_w 66, 3) := by decide +kernel
end
section
theorem dL_law_1251 : decode cL_law 1251 = .ok (.land, 1) := by decide +kernel
theorem dL_law_1252 : decode cL_law 1252 = .ok (.lor, 1) := by decide +kernel
theorem dL_law_1253 : decode cL_law 1253 = .ok (.aload_n 0, 1) := by decide +kernel
theorem dL_law_1254 : decode cL_law 1254 = .ok (.iload 4, 2) := by decide +kernel
theorem dL_law_1256 : decode cL_law 1256 = .ok (.iconst 4, 1) := by decide +kernel
theorem dL_law_1257 : decode cL_law 1257 = .ok (.iadd, 1) := by decide +kernel
theorem dL_law_1258 : decode cL_law 1258 = .ok (.iaload, 1) := by decide +kernel
theorem dL_law_1259 : decode cL_law 1259 = .ok (.i2l, 1) := by decide +kernel
theorem dL_law_1260 : decode cL_law 1260 = .ok (.bipush 32, 2) := by decide +kernel
theorem dL_law_1262 : decode cL_law 1262 = .ok (.lshl, 1) := by decide +kernel
theorem dL_law_1263 : decode cL_law 1263 = .ok (.aload_n 0, 1) := by decide +kernel
theorem dL_law_1264 : decode cL_law 1264 = .ok (.iload 4, 2) := by decide +kernel
theorem dL_law_1266 : decode cL_law 1266 = .ok (.iconst 5, 1) := by decide +kernel
theorem dL_law_1267 : decode cL_law 1267 = .ok (.iadd, 1) := by decide +kernel
theorem dL_law_1268 : decode cL_law 1268 = .ok (.iaload, 1) := by decide +kernel
theorem dL_law_1269 : decode cL_law 1269 = .ok (.i2l, 1) := by decide +kernel
theorem dL_law_1270 : decode cL_law 1270 = .ok (.ldc2_w 66, 3) := by decide +kernel
theorem dL_law_1273 : decode cL_law 1273 = .ok (.land, 1) := by decide +kernel
theorem dL_law_1274 : decode cL_law 1274 = .ok (.lor, 1) := by decide +kernel
theorem dL_law_1275 : decode cL_law 1275 = .ok (.invokevirtual 121, 3) := by decide +kernel
theorem dL_law_1278 : decode cL_law 1278 = .ok (.istore 6, 2) := by decide +kernel
theorem dL_law_1280 : decode cL_law 1280 = .ok (.aload_n 2, 1) := by decide +kernel
theorem dL_law_1281 : decode cL_law 1281 = .ok (.invokevirtual 74, 3) := by decide +kernel
theorem dL_law_1284 : decode cL_law 1284 = .ok (.iload 5, 2) := by decide +kernel
theorem dL_law_1286 : decode cL_law 1286 = .ok (.if_icmp .eq 5, 3) := by decide +kernel
theorem dL_law_1289 : decode cL_law 1289 = .ok (.iconst 0, 1) := by decide +kernel
theorem dL_law_1290 : decode cL_law 1290 = .ok (.ireturn, 1) := by decide +kernel
theorem dL_law_1291 : decode cL_law 1291 = .ok (.iload 5, 2) := by decide +kernel
theorem dL_law_1293 : decode cL_law 1293 = .ok (.ifCond .ne 15, 3) := by decide +kernel
theorem dL_law_1296 : decode cL_law 1296 = .ok (.aload_n 3, 1) := by decide +kernel
theorem dL_law_1297 : decode cL_law 1297 = .ok (.iconst 0, 1) := by decide +kernel
theorem dL_law_1298 : decode cL_law 1298 = .ok (.laload, 1) := by decide +kernel
theorem dL_law_1299 : decode cL_law 1299 = .ok (.iload 6, 2) := by decide +kernel
theorem dL_law_1301 : decode cL_law 1301 = .ok (.i2l, 1) := by decide +kernel
theorem dL_law_1302 : decode cL_law 1302 = .ok (.lcmp, 1) := by decide +kernel
theorem dL_law_1303 : decode cL_law 1303 = .ok (.ifCond .eq 5, 3) := by decide +kernel
theorem dL_law_1306 : decode cL_law 1306 = .ok (.iconst 0, 1) := by decide +kernel
theorem dL_law_1307 : decode cL_law 1307 = .ok (.ireturn, 1) := by decide +kernel
theorem dL_law_1308 : decode cL_law 1308 = .ok (.goto 161, 3) := by decide +kernel
theorem dL_law_1311 : decode cL_law 1311 = .ok (.aload_n 1, 1) := by decide +kernel
theorem dL_law_1312 : decode cL_law 1312 = .ok (.aload_n 0, 1) := by decide +kernel
theorem dL_law_1313 : decode cL_law 1313 = .ok (.iload 4, 2) := by decide +kernel
theorem dL_law_1315 : decode cL_law 1315 = .ok (.iconst 1, 1) := by decide +kernel
theorem dL_law_1316 : decode cL_law 1316 = .ok (.iadd, 1) := by decide +kernel
theorem dL_law_1317 : decode cL_law 1317 = .ok (.iaload, 1) := by decide +kernel
theorem dL_law_1318 : decode cL_law 1318 = .ok (.aload_n 0, 1) := by decide +kernel
theorem dL_law_1319 : decode cL_law 1319 = .ok (.iload 4, 2) := by decide +kernel
theorem dL_law_1321 : decode cL_law 1321 = .ok (.iconst 2, 1) := by decide +kernel
theorem dL_law_1322 : decode cL_law 1322 = .ok (.iadd, 1) := by decide +kernel
theorem dL_law_1323 : decode cL_law 1323 = .ok (.iaload, 1) := by decide +kernel
theorem dL_law_1324 : decode cL_law 1324 = .ok (.aload_n 0, 1) := by decide +kernel
theorem dL_law_1325 : decode cL_law 1325 = .ok (.iload 4, 2) := by decide +kernel
theorem dL_law_1327 : decode cL_law 1327 = .ok (.iconst 3, 1) := by decide +kernel
theorem dL_law_1328 : decode cL_law 1328 = .ok (.iadd, 1) := by decide +kernel
theorem dL_law_1329 : decode cL_law 1329 = .ok (.iaload, 1) := by decide +kernel
theorem dL_law_1330 : decode cL_law 1330 = .ok (.i2l, 1) := by decide +kernel
theorem dL_law_1331 : decode cL_law 1331 = .ok (.bipush 32, 2) := by decide +kernel
theorem dL_law_1333 : decode cL_law 1333 = .ok (.lshl, 1) := by decide +kernel
theorem dL_law_1334 : decode cL_law 1334 = .ok (.aload_n 0, 1) := by decide +kernel
theorem dL_law_1335 : decode cL_law 1335 = .ok (.iload 4, 2) := by decide +kernel
theorem dL_law_1337 : decode cL_law 1337 = .ok (.iconst 4, 1) := by decide +kernel
theorem dL_law_1338 : decode cL_law 1338 = .ok (.iadd, 1) := by decide +kernel
theorem dL_law_1339 : decode cL_law 1339 = .ok (.iaload, 1) := by decide +kernel
theorem dL_law_1340 : decode cL_law 1340 = .ok (.i2l, 1) := by decide +kernel
theorem dL_law_1341 : decode cL_law 1341 = .ok (.ldc2_w 66, 3) := by decide +kernel
theorem dL_law_1344 : decode cL_law 1344 = .ok (.land, 1) := by decide +kernel
theorem dL_law_1345 : decode cL_law 1345 = .ok (.lor, 1) := by decide +kernel
theorem dL_law_1346 : decode cL_law 1346 = .ok (.aload_n 0, 1) := by decide +kernel
theorem dL_law_1347 : decode cL_law 1347 = .ok (.iload 4, 2) := by decide +kernel
theorem dL_law_1349 : decode cL_law 1349 = .ok (.iconst 5, 1) := by decide +kernel
theorem dL_law_1350 : decode cL_law 1350 = .ok (.iadd, 1) := by decide +kernel
theorem dL_law_1351 : decode cL_law 1351 = .ok (.iaload, 1) := by decide +kernel
theorem dL_law_1352 : decode cL_law 1352 = .ok (.i2l, 1) := by decide +kernel
theorem dL_law_1353 : decode cL_law 1353 = .ok (.bipush 32, 2) := by decide +kernel
theorem dL_law_1355 : decode cL_law 1355 = .ok (.lshl, 1) := by decide +kernel
theorem dL_law_1356 : decode cL_law 1356 = .ok (.aload_n 0, 1) := by decide +kernel
theorem dL_law_1357 : decode cL_law 1357 = .ok (.iload 4, 2) := by decide +kernel
theorem dL_law_1359 : decode cL_law 1359 = .ok (.bipush 6, 2) := by decide +kernel
theorem dL_law_1361 : decode cL_law 1361 = .ok (.iadd, 1) := by decide +kernel
theorem dL_law_1362 : decode cL_law 1362 = .ok (.iaload, 1) := by decide +kernel
theorem dL_law_1363 : decode cL_law 1363 = .ok (.i2l, 1) := by decide +kernel
theorem dL_law_1364 : decode cL_law 1364 = .ok (.ldc2_w 66, 3) := by decide +kernel
theorem dL_law_1367 : decode cL_law 1367 = .ok (.land, 1) := by decide +kernel
theorem dL_law_1368 : decode cL_law 1368 = .ok (.lor, 1) := by decide +kernel
theorem dL_law_1369 : decode cL_law 1369 = .ok (.aload_n 3, 1) := by decide +kernel
theorem dL_law_1370 : decode cL_law 1370 = .ok (.invokestatic 122, 3) := by decide +kernel
theorem dL_law_1373 : decode cL_law 1373 = .ok (.istore 5, 2) := by decide +kernel
theorem dL_law_1375 : decode cL_law 1375 = .ok (.aload_n 2, 1) := by decide +kernel
theorem dL_law_1376 : decode cL_law 1376 = .ok (.aload_n 0, 1) := by decide +kernel
theorem dL_law_1377 : decode cL_law 1377 = .ok (.iload 4, 2) := by decide +kernel
theorem dL_law_1379 : decode cL_law 1379 = .ok (.iconst 1, 1) := by decide +kernel
theorem dL_law_1380 : decode cL_law 1380 = .ok (.iadd, 1) := by decide +kernel
theorem dL_law_1381 : decode cL_law 1381 = .ok (.iaload, 1) := by decide +kernel
theorem dL_law_1382 : decode cL_law 1382 = .ok (.aload_n 0, 1) := by decide +kernel
theorem dL_law_1383 : decode cL_law 1383 = .ok (.iload 4, 2) := by decide +kernel
theorem dL_law_1385 : decode cL_law 1385 = .ok (.iconst 2, 1) := by decide +kernel
theorem dL_law_1386 : decode cL_law 1386 = .ok (.iadd, 1) := by decide +kernel
theorem dL_law_1387 : decode cL_law 1387 = .ok (.iaload, 1) := by decide +kernel
theorem dL_law_1388 : decode cL_law 1388 = .ok (.aload_n 0, 1) := by decide +kernel
theorem dL_law_1389 : decode cL_law 1389 = .ok (.iload 4, 2) := by decide +kernel
theorem dL_law_1391 : decode cL_law 1391 = .ok (.iconst 3, 1) := by decide +kernel
theorem dL_law_1392 : decode cL_law 1392 = .ok (.iadd, 1) := by decide +kernel
theorem dL_law_1393 : decode cL_law 1393 = .ok (.iaload, 1) := by decide +kernel
theorem dL_law_1394 : decode cL_law 1394 = .ok (.i2l, 1) := by decide +kernel
theorem dL_law_1395 : decode cL_law 1395 = .ok (.bipush 32, 2) := by decide +kernel
theorem dL_law_1397 : decode cL_law 1397 = .ok (.lshl, 1) := by decide +kernel
theorem dL_law_1398 : decode cL_law 1398 = .ok (.aload_n 0, 1) := by decide +kernel
theorem dL_law_1399 : decode cL_law 1399 = .ok (.iload 4, 2) := by decide +kernel
theorem dL_law_1401 : decode cL_law 1401 = .ok (.iconst 4, 1) := by decide +kernel
theorem dL_law_1402 : decode cL_law 1402 = .ok (.iadd, 1) := by decide +kernel
theorem dL_law_1403 : decode cL_law 1403 = .ok (.iaload, 1) := by decide +kernel
theorem dL_law_1404 : decode cL_law 1404 = .ok (.i2l, 1) := by decide +kernel
theorem dL_law_1405 : decode cL_law 1405 = .ok (.ldc2_w 66, 3) := by decide +kernel
theorem dL_law_1408 : decode cL_law 1408 = .ok (.land, 1) := by decide +kernel
theorem dL_law_1409 : decode cL_law 1409 = .ok (.lor, 1) := by decide +kernel
theorem dL_law_1410 : decode cL_law 1410 = .ok (.aload_n 0, 1) := by decide +kernel
theorem dL_law_1411 : decode cL_law 1411 = .ok (.iload 4, 2) := by decide +kernel
theorem dL_law_1413 : decode cL_law 1413 = .ok (.iconst 5, 1) := by decide +kernel
theorem dL_law_1414 : decode cL_law 1414 = .ok (.iadd, 1) := by decide +kernel
theorem dL_law_1415 : decode cL_law 1415 = .ok (.iaload, 1) := by decide +kernel
theorem dL_law_1416 : decode cL_law 1416 = .ok (.i2l, 1) := by decide +kernel
theorem dL_law_1417 : decode cL_law 1417 = .ok (.bipush 32, 2) := by decide +kernel
theorem dL_law_1419 : decode cL_law 1419 = .ok (.lshl, 1) := by decide +kernel
theorem dL_law_1420 : decode cL_law 1420 = .ok (.aload_n 0, 1) := by decide +kernel
theorem dL_law_1421 : decode cL_law 1421 = .ok (.iload 4, 2) := by decide +kernel
theorem dL_law_1423 : decode cL_law 1423 = .ok (.bipush 6, 2) := by decide +kernel
theorem dL_law_1425 : decode cL_law 1425 = .ok (.iadd, 1) := by decide +kernel
theorem dL_law_1426 : decode cL_law 1426 = .ok (.iaload, 1) := by decide +kernel
theorem dL_law_1427 : decode cL_law 1427 = .ok (.i2l, 1) := by decide +kernel
theorem dL_law_1428 : decode cL_law 1428 = .ok (.ldc2_w 66, 3) := by decide +kernel
theorem dL_law_1431 : decode cL_law 1431 = .ok (.land, 1) := by decide +kernel
theorem dL_law_1432 : decode cL_law 1432 = .ok (.lor, 1) := by decide +kernel
theorem dL_law_1433 : decode cL_law 1433 = .ok (.invokevirtual 125, 3) := by decide +kernel
theorem dL_law_1436 : decode cL_law 1436 = .ok (.istore 6, 2) := by decide +kernel
theorem dL_law_1438 : decode cL_law 1438 = .ok (.aload_n 2, 1) := by decide +kernel
theorem dL_law_1439 : decode cL_law 1439 = .ok (.invokevirtual 74, 3) := by decide +kernel
theorem dL_law_1442 : decode cL_law 1442 = .ok (.iload 5, 2) := by decide +kernel
theorem dL_law_1444 : decode cL_law 1444 = .ok (.if_icmp .eq 5, 3) := by decide +kernel
theorem dL_law_1447 : decode cL_law 1447 = .ok (.iconst 0, 1) := by decide +kernel
theorem dL_law_1448 : decode cL_law 1448 = .ok (.ireturn, 1) := by decide +kernel
theorem dL_law_1449 : decode cL_law 1449 = .ok (.iload 5, 2) := by decide +kernel
theorem dL_law_1451 : decode cL_law 1451 = .ok (.ifCond .ne 15, 3) := by decide +kernel
theorem dL_law_1454 : decode cL_law 1454 = .ok (.aload_n 3, 1) := by decide +kernel
theorem dL_law_1455 : decode cL_law 1455 = .ok (.iconst 0, 1) := by decide +kernel
theorem dL_law_1456 : decode cL_law 1456 = .ok (.laload, 1) := by decide +kernel
theorem dL_law_1457 : decode cL_law 1457 = .ok (.iload 6, 2) := by decide +kernel
theorem dL_law_1459 : decode cL_law 1459 = .ok (.i2l, 1) := by decide +kernel
theorem dL_law_1460 : decode cL_law 1460 = .ok (.lcmp, 1) := by decide +kernel
theorem dL_law_1461 : decode cL_law 1461 = .ok (.ifCond .eq 5, 3) := by decide +kernel
theorem dL_law_1464 : decode cL_law 1464 = .ok (.iconst 0, 1) := by decide +kernel
theorem dL_law_1465 : decode cL_law 1465 = .ok (.ireturn, 1) := by decide +kernel
theorem dL_law_1466 : decode cL_law 1466 = .ok (.goto 3, 3) := by decide +kernel
theorem dL_law_1469 : decode cL_law 1469 = .ok (.iinc 4 9, 3) := by decide +kernel
theorem dL_law_1472 : decode cL_law 1472 = .ok (.goto (-1449), 3) := by decide +kernel
theorem dL_law_1475 : decode cL_law 1475 = .ok (.iconst 1, 1) := by decide +kernel
theorem dL_law_1476 : decode cL_law 1476 = .ok (.ireturn, 1) := by decide +kernel
end
section
set_option maxRecDepth 20000 in
theorem ggX0_init_Jx4a65c_init_da8c8 : GoodIn wsX0_init wsJx4a65c_init_da8c8 := goodIn_r _ [11, 12, 13, 14, 15, 16, 17, 18, 19, 20, 21, 22, 23, 2, 3, 24, 25, 26] (by decide +kernel) (by decide +kernel)
set_option maxRecDepth 20000 in
theorem gX0_init_Jx4a65c_init_da8c8 : GoodIn wsX0_init (wsJx4a65c_init_da8c8) := ggX0_init_Jx4a65c_init_da8c8
set_option maxRecDepth 20000 in
theorem ggX0_isFull_Jx4a65c_size_8abf5 : GoodIn wsX0_isFull wsJx4a65c_size_8abf5 := goodIn_r _ [6, 7, 13, 14, 15] (by decide +kernel) (by decide +kernel)
set_option maxRecDepth 20000 in
theorem gX0_isFull_Jx4a65c_size_8abf5 : GoodIn wsX0_isFull (wsV RX0 21 RJx4a65c yJx4a65c_size_8abf5 wsJx4a65c_size_8abf5) := goodIn_app (goodIn_of _ (by decide +kernel)) ggX0_isFull_Jx4a65c_size_8abf5
set_option maxRecDepth 20000 in
theorem ggX0_append_Jx4a65c_add_9ea2d : GoodIn wsX0_append wsJx4a65c_add_9ea2d := goodIn_r _ [6, 7, 8, 9, 10, 11, 12, 13, 5, 14, 15, 16, 17, 18, 19, 20, 21, 22, 23, 24, 25, 26, 27, 28, 29, 30, 31, 32, 33, 34, 35, 36, 37, 38, 39, 40, 41, 42, 43, 44, 45, 46, 47, 48, 49, 50, 51, 52, 53, 54, 55, 56, 57, 67, 68, 69] (by decide +kernel) (by decide +kernel)
set_option maxRecDepth 20000 in
theorem gX0_append_Jx4a65c_add_9ea2d : GoodIn wsX0_append (wsV RX0 25 RJx4a65c yJx4a65c_add_9ea2d wsJx4a65c_add_9ea2d) := goodIn_app (goodIn_of _ (by decide +kernel)) ggX0_append_Jx4a65c_add_9ea2d
set_option maxRecDepth 20000 in
theorem ggX0_append_Jx4a65c_size_8abf5 : GoodIn wsX0_append wsJx4a65c_size_8abf5 := goodIn_r _ [61, 10, 67, 68, 69] (by decide +kernel) (by decide +kernel)
set_option maxRecDepth 20000 in
theorem gX0_append_Jx4a65c_size_8abf5 : GoodIn wsX0_append (wsV RX0 21 RJx4a65c yJx4a65c_size_8abf5 wsJx4a65c_size_8abf5) := goodIn_app (goodIn_of _ (by decide +kernel)) ggX0_append_Jx4a65c_size_8abf5
set_option maxRecDepth 20000 in
theorem ggX0_drop_Jx4a65c_size_8abf5 : GoodIn wsX0_drop wsJx4a65c_size_8abf5 := goodIn_r _ [6, 7, 36, 37, 38] (by decide +kernel) (by decide +kernel)
set_option maxRecDepth 20000 in
theorem gX0_drop_Jx4a65c_size_8abf5 : GoodIn wsX0_drop (wsV RX0 21 RJx4a65c yJx4a65c_size_8abf5 wsJx4a65c_size_8abf5) := goodIn_app (goodIn_of _ (by decide +kernel)) ggX0_drop_Jx4a65c_size_8abf5
set_option maxRecDepth 20000 in
theorem ggX0_drop_Jx4a65c_remove_915e3 : GoodIn wsX0_drop wsJx4a65c_remove_915e3 := goodIn_r _ [11, 7, 12, 13, 14, 15, 16, 17, 18, 19, 20, 21, 22, 23, 5, 24, 25, 26, 27, 28, 29, 30, 36, 37, 38] (by decide +kernel) (by decide +kernel)
set_option maxRecDepth 20000 in
theorem gX0_drop_Jx4a65c_remove_915e3 : GoodIn wsX0_drop (wsV RX0 29 RJx4a65c yJx4a65c_remove_915e3 wsJx4a65c_remove_915e3) := goodIn_app (goodIn_of _ (by decide +kernel)) ggX0_drop_Jx4a65c_remove_915e3
set_option maxRecDepth 20000 in
theorem ggX0_hiderOf_Jx4a65c_size_8abf5 : GoodIn wsX0_hiderOf wsJx4a65c_size_8abf5 := goodIn_r _ [7, 8, 45, 46, 47] (by decide +kernel) (by decide +kernel)
set_option maxRecDepth 20000 in
theorem gX0_hiderOf_Jx4a65c_size_8abf5 : GoodIn wsX0_hiderOf (wsV RX0 21 RJx4a65c yJx4a65c_size_8abf5 wsJx4a65c_size_8abf5) := goodIn_app (goodIn_of _ (by decide +kernel)) ggX0_hiderOf_Jx4a65c_size_8abf5
set_option maxRecDepth 20000 in
theorem ggX0_hiderOf_Jx4a65c_get_915e3 : GoodIn wsX0_hiderOf wsJx4a65c_get_915e3 := goodIn_r _ [12, 8, 13, 14, 15, 16, 17, 18, 19, 20, 21, 22, 23, 6, 24, 25, 45, 46, 47] (by decide +kernel) (by decide +kernel)
set_option maxRecDepth 20000 in
theorem gX0_hiderOf_Jx4a65c_get_915e3 : GoodIn wsX0_hiderOf (wsV RX0 33 RJx4a65c yJx4a65c_get_915e3 wsJx4a65c_get_915e3) := goodIn_app (goodIn_of _ (by decide +kernel)) ggX0_hiderOf_Jx4a65c_get_915e3
set_option maxRecDepth 20000 in
theorem ggX0_hiderOf_X3_canNeverMatch : GoodIn wsX0_hiderOf wsX3_canNeverMatch := goodIn_r _ [30, 31, 32, 33, 48, 49, 50, 51, 52] (by decide +kernel) (by decide +kernel)
set_option maxRecDepth 20000 in
theorem gX0_hiderOf_X3_canNeverMatch : GoodIn wsX0_hiderOf (wsV RX0 38 RX3 yX3_canNeverMatch wsX3_canNeverMatch) := goodIn_app (goodIn_of _ (by decide +kernel)) ggX0_hiderOf_X3_canNeverMatch
set_option maxRecDepth 20000 in
theorem ggX0_hiderOf_X3_covers : GoodIn wsX0_hiderOf wsX3_covers := goodIn_r _ [37, 38, 32, 31, 39, 33, 48, 49, 50, 51, 52] (by decide +kernel) (by decide +kernel)
set_option maxRecDepth 20000 in
theorem gX0_hiderOf_X3_covers : GoodIn wsX0_hiderOf (wsV RX0 42 RX3 yX3_covers wsX3_covers) := goodIn_app (goodIn_of _ (by decide +kernel)) ggX0_hiderOf_X3_covers
set_option maxRecDepth 20000 in
theorem ggX0_planTree_X0_gatherReached : GoodIn wsX0_planTree wsX0_gatherReached := goodIn_r _ [7, 8, 9, 10, 11, 12, 13, 14, 15, 16, 17, 18, 19, 20, 21, 22, 23, 24, 25, 26, 6, 27, 28, 29, 30, 31, 32, 33, 34, 35, 36, 37, 38, 39, 40, 41, 42, 43, 44, 45, 46, 47, 48, 49, 50, 51, 52, 53, 54, 55, 56, 57, 58, 59, 60, 61, 62, 63, 64, 65, 66, 67, 68, 69, 70, 71, 72, 73, 74, 75, 76, 77, 78, 79, 80, 81, 82, 83, 84, 85, 86, 87, 88, 89, 90, 91, 92, 93, 94, 95, 96, 97, 98, 99, 100, 101, 102, 103, 104, 105, 106, 107, 108, 167, 168, 169, 170, 171, 172, 173, 174, 175, 176, 177, 178, 179] (by decide +kernel) (by decide +kernel)
set_option maxRecDepth 20000 in
theorem gX0_planTree_X0_gatherReached : GoodIn wsX0_planTree (wsV RX0 46 RX0 yX0_gatherReached wsX0_gatherReached) := goodIn_app (goodIn_of _ (by decide +kernel)) ggX0_planTree_X0_gatherReached
set_option maxRecDepth 20000 in
theorem ggX0_planTree_X2_startAnew : GoodIn wsX0_planTree wsX2_startAnew := goodIn_r _ [113, 114, 180, 181, 182, 183, 184] (by decide +kernel) (by decide +kernel)
set_option maxRecDepth 20000 in
theorem gX0_planTree_X2_startAnew : GoodIn wsX0_planTree (wsV RX0 49 RX2 yX2_startAnew wsX2_startAnew) := goodIn_app (goodIn_of _ (by decide +kernel)) ggX0_planTree_X2_startAnew
set_option maxRecDepth 20000 in
theorem ggX0_planTree_X0_isReached : GoodIn wsX0_planTree wsX0_isReached := goodIn_r _ [118, 8, 10, 20, 21, 22, 14, 23, 19, 28, 29, 30, 31, 32, 33, 34, 35, 36, 37, 38, 39, 40, 41, 42, 43, 18, 167, 168, 169, 170, 171, 175, 176, 177, 178, 179, 172, 173, 174] (by decide +kernel) (by decide +kernel)
set_option maxRecDepth 20000 in
theorem gX0_planTree_X0_isReached : GoodIn wsX0_planTree (wsV RX0 54 RX0 yX0_isReached wsX0_isReached) := goodIn_app (goodIn_of _ (by decide +kernel)) ggX0_planTree_X0_isReached
set_option maxRecDepth 20000 in
theorem ggX0_planTree_X2_take : GoodIn wsX0_planTree wsX2_take := goodIn_r _ [122, 114, 123, 124, 180, 181, 182, 183, 184] (by decide +kernel) (by decide +kernel)
set_option maxRecDepth 20000 in
theorem gX0_planTree_X2_take : GoodIn wsX0_planTree (wsV RX0 58 RX2 yX2_take wsX2_take) := goodIn_app (goodIn_of _ (by decide +kernel)) ggX0_planTree_X2_take
set_option maxRecDepth 20000 in
theorem ggX0_planTree_X2_weighAllTrees : GoodIn wsX0_planTree wsX2_weighAllTrees := goodIn_r _ [128, 114, 129, 130, 131, 112, 132, 133, 134, 135, 136, 137, 138, 139, 140, 141, 142, 124, 180, 181, 182, 183, 184] (by decide +kernel) (by decide +kernel)
set_option maxRecDepth 20000 in
theorem gX0_planTree_X2_weighAllTrees : GoodIn wsX0_planTree (wsV RX0 62 RX2 yX2_weighAllTrees wsX2_weighAllTrees) := goodIn_app (goodIn_of _ (by decide +kernel)) ggX0_planTree_X2_weighAllTrees
set_option maxRecDepth 20000 in
theorem ggX0_planTree_X2_bestTree : GoodIn wsX0_planTree wsX2_bestTree := goodIn_r _ [146, 114, 147, 148, 112, 149, 133, 150, 151, 152, 123, 153, 154, 155, 156, 157, 158, 159, 160, 161, 162, 180, 181, 182, 183, 184, 185, 186, 187, 188] (by decide +kernel) (by decide +kernel)
set_option maxRecDepth 20000 in
theorem gX0_planTree_X2_bestTree : GoodIn wsX0_planTree (wsV RX0 65 RX2 yX2_bestTree wsX2_bestTree) := goodIn_app (goodIn_of _ (by decide +kernel)) ggX0_planTree_X2_bestTree
set_option maxRecDepth 20000 in
theorem ggX0_planTree_X2_leastCost : GoodIn wsX0_planTree wsX2_leastCost := goodIn_r _ [166, 134, 114, 180, 181, 182, 183, 184] (by decide +kernel) (by decide +kernel)
set_option maxRecDepth 20000 in
theorem gX0_planTree_X2_leastCost : GoodIn wsX0_planTree (wsV RX0 73 RX2 yX2_leastCost wsX2_leastCost) := goodIn_app (goodIn_of _ (by decide +kernel)) ggX0_planTree_X2_leastCost
set_option maxRecDepth 20000 in
theorem ggX0_gatherReached_Jx4a65c_clear_da8c8 : GoodIn wsX0_gatherReached wsJx4a65c_clear_da8c8 := goodIn_r _ [8, 9, 10, 11, 12, 108, 109, 110] (by decide +kernel) (by decide +kernel)
set_option maxRecDepth 20000 in
theorem gX0_gatherReached_Jx4a65c_clear_da8c8 : GoodIn wsX0_gatherReached (wsV RX0 80 RJx4a65c yJx4a65c_clear_da8c8 wsJx4a65c_clear_da8c8) := goodIn_app (goodIn_of _ (by decide +kernel)) ggX0_gatherReached_Jx4a65c_clear_da8c8
set_option maxRecDepth 20000 in
theorem ggX0_gatherReached_Jx4a65c_size_8abf5 : GoodIn wsX0_gatherReached wsJx4a65c_size_8abf5 := goodIn_r _ [16, 12, 108, 109, 110] (by decide +kernel) (by decide +kernel)
set_option maxRecDepth 20000 in
theorem gX0_gatherReached_Jx4a65c_size_8abf5 : GoodIn wsX0_gatherReached (wsV RX0 21 RJx4a65c yJx4a65c_size_8abf5 wsJx4a65c_size_8abf5) := goodIn_app (goodIn_of _ (by decide +kernel)) ggX0_gatherReached_Jx4a65c_size_8abf5
set_option maxRecDepth 20000 in
theorem ggX0_gatherReached_X0_hiderOf : GoodIn wsX0_gatherReached wsX0_hiderOf := goodIn_r _ [21, 2, 3, 13, 14, 15, 7, 16, 12, 22, 23, 24, 25, 26, 27, 28, 29, 30, 31, 32, 33, 34, 35, 36, 37, 11, 38, 39, 40, 41, 42, 43, 44, 45, 46, 47, 48, 49, 50, 51, 103, 104, 105, 106, 107, 108, 109, 110, 111, 112, 113, 114, 115] (by decide +kernel) (by decide +kernel)
set_option maxRecDepth 20000 in
theorem gX0_gatherReached_X0_hiderOf : GoodIn wsX0_gatherReached (wsV RX0 83 RX0 yX0_hiderOf wsX0_hiderOf) := goodIn_app (goodIn_of _ (by decide +kernel)) ggX0_gatherReached_X0_hiderOf
set_option maxRecDepth 20000 in
theorem ggX0_gatherReached_Jx4a65c_get_915e3 : GoodIn wsX0_gatherReached wsJx4a65c_get_915e3 := goodIn_r _ [25, 12, 26, 27, 28, 29, 30, 31, 32, 33, 34, 35, 36, 7, 37, 11, 108, 109, 110] (by decide +kernel) (by decide +kernel)
set_option maxRecDepth 20000 in
theorem gX0_gatherReached_Jx4a65c_get_915e3 : GoodIn wsX0_gatherReached (wsV RX0 33 RJx4a65c yJx4a65c_get_915e3 wsJx4a65c_get_915e3) := goodIn_app (goodIn_of _ (by decide +kernel)) ggX0_gatherReached_Jx4a65c_get_915e3
set_option maxRecDepth 20000 in
theorem ggX0_gatherReached_Jx4a65c_add_9ea2d : GoodIn wsX0_gatherReached wsJx4a65c_add_9ea2d := goodIn_r _ [55, 9, 10, 11, 12, 56, 57, 58, 7, 59, 60, 61, 62, 63, 64, 65, 66, 67, 68, 69, 70, 71, 72, 73, 74, 75, 76, 77, 78, 79, 80, 81, 82, 83, 84, 85, 86, 87, 88, 89, 90, 91, 92, 93, 94, 95, 96, 97, 98, 99, 100, 101, 102, 108, 109, 110] (by decide +kernel) (by decide +kernel)
set_option maxRecDepth 20000 in
theorem gX0_gatherReached_Jx4a65c_add_9ea2d : GoodIn wsX0_gatherReached (wsV RX0 25 RJx4a65c yJx4a65c_add_9ea2d wsJx4a65c_add_9ea2d) := goodIn_app (goodIn_of _ (by decide +kernel)) ggX0_gatherReached_Jx4a65c_add_9ea2d
set_option maxRecDepth 20000 in
theorem ggX0_isReached_Jx4a65c_size_8abf5 : GoodIn wsX0_isReached wsJx4a65c_size_8abf5 := goodIn_r _ [7, 8, 36, 37, 38] (by decide +kernel) (by decide +kernel)
set_option maxRecDepth 20000 in
theorem gX0_isReached_Jx4a65c_size_8abf5 : GoodIn wsX0_isReached (wsV RX0 21 RJx4a65c yJx4a65c_size_8abf5 wsJx4a65c_size_8abf5) := goodIn_app (goodIn_of _ (by decide +kernel)) ggX0_isReached_Jx4a65c_size_8abf5
set_option maxRecDepth 20000 in
theorem ggX0_isReached_Jx4a65c_get_915e3 : GoodIn wsX0_isReached wsJx4a65c_get_915e3 := goodIn_r _ [12, 8, 13, 14, 15, 16, 17, 18, 19, 20, 21, 22, 23, 6, 24, 25, 36, 37, 38] (by decide +kernel) (by decide +kernel)
set_option maxRecDepth 20000 in
theorem gX0_isReached_Jx4a65c_get_915e3 : GoodIn wsX0_isReached (wsV RX0 33 RJx4a65c yJx4a65c_get_915e3 wsJx4a65c_get_915e3) := goodIn_app (goodIn_of _ (by decide +kernel)) ggX0_isReached_Jx4a65c_get_915e3
set_option maxRecDepth 20000 in
theorem ggX0_worstPath_X0_numberTests : GoodIn wsX0_worstPath wsX0_numberTests := goodIn_r _ [9, 10, 11, 12, 8, 13, 14, 15, 16, 17, 18, 19, 20, 21, 22, 68, 69, 70, 71, 72, 73, 74, 75, 76] (by decide +kernel) (by decide +kernel)
set_option maxRecDepth 20000 in
theorem gX0_worstPath_X0_numberTests : GoodIn wsX0_worstPath (wsV RX0 99 RX0 yX0_numberTests wsX0_numberTests) := goodIn_app (goodIn_of _ (by decide +kernel)) ggX0_worstPath_X0_numberTests
set_option maxRecDepth 20000 in
theorem ggX0_worstPath_X0_mostRuleTests : GoodIn wsX0_worstPath wsX0_mostRuleTests := goodIn_r _ [26, 27, 28, 29, 30, 31, 32, 33, 34, 35, 36, 37, 38, 39, 40, 41, 42, 43, 44, 45, 46, 47, 48, 49, 50, 51, 52, 53, 54, 55, 56, 57, 58, 59, 60, 61, 62, 63, 64, 65, 66, 67, 72, 73, 74, 75, 76, 77, 78, 79, 80, 81, 82, 83, 84] (by decide +kernel) (by decide +kernel)
set_option maxRecDepth 20000 in
theorem gX0_worstPath_X0_mostRuleTests : GoodIn wsX0_worstPath (wsV RX0 102 RX0 yX0_mostRuleTests wsX0_mostRuleTests) := goodIn_app (goodIn_of _ (by decide +kernel)) ggX0_worstPath_X0_mostRuleTests
set_option maxRecDepth 20000 in
theorem ggX0_pathOf_X0_numberTests : GoodIn wsX0_pathOf wsX0_numberTests := goodIn_r _ [7, 8, 9, 10, 6, 11, 12, 13, 14, 15, 16, 17, 18, 19, 20, 84, 85, 86, 87, 74, 75, 76, 77, 78] (by decide +kernel) (by decide +kernel)
set_option maxRecDepth 20000 in
theorem gX0_pathOf_X0_numberTests : GoodIn wsX0_pathOf (wsV RX0 99 RX0 yX0_numberTests wsX0_numberTests) := goodIn_app (goodIn_of _ (by decide +kernel)) ggX0_pathOf_X0_numberTests
set_option maxRecDepth 20000 in
theorem ggX0_pathOf_Jx4a65c_size_8abf5 : GoodIn wsX0_pathOf wsJx4a65c_size_8abf5 := goodIn_r _ [25, 26, 88, 89, 90] (by decide +kernel) (by decide +kernel)
set_option maxRecDepth 20000 in
theorem gX0_pathOf_Jx4a65c_size_8abf5 : GoodIn wsX0_pathOf (wsV RX0 21 RJx4a65c yJx4a65c_size_8abf5 wsJx4a65c_size_8abf5) := goodIn_app (goodIn_of _ (by decide +kernel)) ggX0_pathOf_Jx4a65c_size_8abf5
set_option maxRecDepth 20000 in
theorem ggX0_pathOf_Jx4a65c_get_915e3 : GoodIn wsX0_pathOf wsJx4a65c_get_915e3 := goodIn_r _ [30, 26, 31, 32, 33, 34, 35, 36, 37, 38, 39, 40, 41, 24, 42, 43, 88, 89, 90] (by decide +kernel) (by decide +kernel)
set_option maxRecDepth 20000 in
theorem gX0_pathOf_Jx4a65c_get_915e3 : GoodIn wsX0_pathOf (wsV RX0 33 RJx4a65c yJx4a65c_get_915e3 wsJx4a65c_get_915e3) := goodIn_app (goodIn_of _ (by decide +kernel)) ggX0_pathOf_Jx4a65c_get_915e3
set_option maxRecDepth 20000 in
theorem ggX0_pathOf_X3_testsFor : GoodIn wsX0_pathOf wsX3_testsFor := goodIn_r _ [48, 49, 50, 51, 52, 53, 54, 47, 55, 56, 57, 58, 59, 60, 61, 62, 63, 64, 65, 66, 67, 68, 69, 79, 80, 81, 82, 83] (by decide +kernel) (by decide +kernel)
set_option maxRecDepth 20000 in
theorem gX0_pathOf_X3_testsFor : GoodIn wsX0_pathOf (wsV RX0 111 RX3 yX3_testsFor wsX3_testsFor) := goodIn_app (goodIn_of _ (by decide +kernel)) ggX0_pathOf_X3_testsFor
end
section
set_option maxRecDepth 20000 in
theorem ggX0_pathOf_X3_matches : GoodIn wsX0_pathOf wsX3_matches := goodIn_r _ [73, 49, 50, 52, 53, 54, 47, 55, 56, 79, 80, 81, 82, 83] (by decide +kernel) (by decide +kernel)
set_option maxRecDepth 20000 in
theorem gX0_pathOf_X3_matches : GoodIn wsX0_pathOf (wsV RX0 115 RX3 yX3_matches wsX3_matches) := goodIn_app (goodIn_of _ (by decide +kernel)) ggX0_pathOf_X3_matches
set_option maxRecDepth 20000 in
theorem ggX0_actionByTree_X0_lastTest : GoodIn wsX0_actionByTree wsX0_lastTest := goodIn_r _ [7, 8, 9, 10, 11, 12, 13, 14, 15, 16, 61, 62, 63, 64, 65, 57, 58, 59, 60] (by decide +kernel) (by decide +kernel)
set_option maxRecDepth 20000 in
theorem gX0_actionByTree_X0_lastTest : GoodIn wsX0_actionByTree (wsV RX0 119 RX0 yX0_lastTest wsX0_lastTest) := goodIn_app (goodIn_of _ (by decide +kernel)) ggX0_actionByTree_X0_lastTest
set_option maxRecDepth 20000 in
theorem ggX0_actionByTree_X0_actionOfFirstMatch : GoodIn wsX0_actionByTree wsX0_actionOfFirstMatch := goodIn_r _ [20, 21, 1, 22, 23, 24, 25, 26, 27, 28, 29, 30, 31, 32, 33, 34, 35, 36, 37, 38, 39, 40, 41, 42, 43, 44, 45, 46, 47, 48, 49, 50, 51, 52, 53, 54, 55, 56, 66, 67, 68, 69, 70, 61, 62, 63, 64, 65, 71, 72, 73] (by decide +kernel) (by decide +kernel)
set_option maxRecDepth 20000 in
theorem gX0_actionByTree_X0_actionOfFirstMatch : GoodIn wsX0_actionByTree (wsV RX0 126 RX0 yX0_actionOfFirstMatch wsX0_actionOfFirstMatch) := goodIn_app (goodIn_of _ (by decide +kernel)) ggX0_actionByTree_X0_actionOfFirstMatch
set_option maxRecDepth 20000 in
theorem ggX0_actionByRules_X0_actionOfFirstMatch : GoodIn wsX0_actionByRules wsX0_actionOfFirstMatch := goodIn_r _ [6, 7, 8, 9, 10, 11, 12, 13, 14, 15, 16, 17, 18, 19, 20, 21, 22, 23, 24, 25, 26, 27, 28, 29, 30, 31, 32, 33, 34, 35, 36, 37, 38, 39, 40, 41, 42, 43, 49, 50, 51, 52, 53, 44, 45, 46, 47, 48, 54, 55, 56] (by decide +kernel) (by decide +kernel)
set_option maxRecDepth 20000 in
theorem gX0_actionByRules_X0_actionOfFirstMatch : GoodIn wsX0_actionByRules (wsV RX0 126 RX0 yX0_actionOfFirstMatch wsX0_actionOfFirstMatch) := goodIn_app (goodIn_of _ (by decide +kernel)) ggX0_actionByRules_X0_actionOfFirstMatch
set_option maxRecDepth 20000 in
theorem ggX0_actionOfFirstMatch_Jx4a65c_size_8abf5 : GoodIn wsX0_actionOfFirstMatch wsJx4a65c_size_8abf5 := goodIn_r _ [7, 8, 48, 49, 50] (by decide +kernel) (by decide +kernel)
set_option maxRecDepth 20000 in
theorem gX0_actionOfFirstMatch_Jx4a65c_size_8abf5 : GoodIn wsX0_actionOfFirstMatch (wsV RX0 21 RJx4a65c yJx4a65c_size_8abf5 wsJx4a65c_size_8abf5) := goodIn_app (goodIn_of _ (by decide +kernel)) ggX0_actionOfFirstMatch_Jx4a65c_size_8abf5
set_option maxRecDepth 20000 in
theorem ggX0_actionOfFirstMatch_Jx4a65c_get_915e3 : GoodIn wsX0_actionOfFirstMatch wsJx4a65c_get_915e3 := goodIn_r _ [12, 8, 13, 14, 15, 16, 17, 18, 19, 20, 21, 22, 23, 6, 24, 25, 48, 49, 50] (by decide +kernel) (by decide +kernel)
set_option maxRecDepth 20000 in
theorem gX0_actionOfFirstMatch_Jx4a65c_get_915e3 : GoodIn wsX0_actionOfFirstMatch (wsV RX0 33 RJx4a65c yJx4a65c_get_915e3 wsJx4a65c_get_915e3) := goodIn_app (goodIn_of _ (by decide +kernel)) ggX0_actionOfFirstMatch_Jx4a65c_get_915e3
set_option maxRecDepth 20000 in
theorem ggX0_actionOfFirstMatch_X3_matches : GoodIn wsX0_actionOfFirstMatch wsX3_matches := goodIn_r _ [30, 31, 32, 33, 34, 35, 29, 36, 37, 38, 39, 40, 41, 42] (by decide +kernel) (by decide +kernel)
set_option maxRecDepth 20000 in
theorem gX0_actionOfFirstMatch_X3_matches : GoodIn wsX0_actionOfFirstMatch (wsV RX0 115 RX3 yX3_matches wsX3_matches) := goodIn_app (goodIn_of _ (by decide +kernel)) ggX0_actionOfFirstMatch_X3_matches
set_option maxRecDepth 20000 in
theorem ggX0_numberTests_X0_lastTest : GoodIn wsX0_numberTests wsX0_lastTest := goodIn_r _ [5, 6, 7, 8, 9, 10, 11, 12, 13, 14, 19, 20, 21, 22, 23, 15, 16, 17, 18] (by decide +kernel) (by decide +kernel)
set_option maxRecDepth 20000 in
theorem gX0_numberTests_X0_lastTest : GoodIn wsX0_numberTests (wsV RX0 119 RX0 yX0_lastTest wsX0_lastTest) := goodIn_app (goodIn_of _ (by decide +kernel)) ggX0_numberTests_X0_lastTest
set_option maxRecDepth 20000 in
theorem ggX0_mostRuleTests_Jx4a65c_size_8abf5 : GoodIn wsX0_mostRuleTests wsJx4a65c_size_8abf5 := goodIn_r _ [7, 8, 52, 53, 54] (by decide +kernel) (by decide +kernel)
set_option maxRecDepth 20000 in
theorem gX0_mostRuleTests_Jx4a65c_size_8abf5 : GoodIn wsX0_mostRuleTests (wsV RX0 21 RJx4a65c yJx4a65c_size_8abf5 wsJx4a65c_size_8abf5) := goodIn_app (goodIn_of _ (by decide +kernel)) ggX0_mostRuleTests_Jx4a65c_size_8abf5
set_option maxRecDepth 20000 in
theorem ggX0_mostRuleTests_Jx4a65c_get_915e3 : GoodIn wsX0_mostRuleTests wsJx4a65c_get_915e3 := goodIn_r _ [12, 8, 13, 14, 15, 16, 17, 18, 19, 20, 21, 22, 23, 6, 24, 25, 52, 53, 54] (by decide +kernel) (by decide +kernel)
set_option maxRecDepth 20000 in
theorem gX0_mostRuleTests_Jx4a65c_get_915e3 : GoodIn wsX0_mostRuleTests (wsV RX0 33 RJx4a65c yJx4a65c_get_915e3 wsJx4a65c_get_915e3) := goodIn_app (goodIn_of _ (by decide +kernel)) ggX0_mostRuleTests_Jx4a65c_get_915e3
set_option maxRecDepth 20000 in
theorem ggX0_mostRuleTests_X3_mostTests : GoodIn wsX0_mostRuleTests wsX3_mostTests := goodIn_r _ [30, 31, 32, 33, 29, 34, 35, 36, 37, 38, 39, 40, 41, 47, 48, 49, 50, 51] (by decide +kernel) (by decide +kernel)
set_option maxRecDepth 20000 in
theorem gX0_mostRuleTests_X3_mostTests : GoodIn wsX0_mostRuleTests (wsV RX0 136 RX3 yX3_mostTests wsX3_mostTests) := goodIn_app (goodIn_of _ (by decide +kernel)) ggX0_mostRuleTests_X3_mostTests
set_option maxRecDepth 20000 in
theorem ggX0_lastTest_X1_towards : GoodIn wsX0_lastTest wsX1_towards := goodIn_r _ [6, 7, 8, 9, 15, 16, 17, 18] (by decide +kernel) (by decide +kernel)
set_option maxRecDepth 20000 in
theorem gX0_lastTest_X1_towards : GoodIn wsX0_lastTest (wsV RX0 139 RX1 yX1_towards wsX1_towards) := goodIn_app (goodIn_of _ (by decide +kernel)) ggX0_lastTest_X1_towards
end
section
set_option maxRecDepth 20000 in
theorem ggX2_weighAllTrees_X2_weighTrees : GoodIn wsX2_weighAllTrees wsX2_weighTrees := goodIn_r _ [6, 7, 8, 9, 10, 11, 5, 12, 13, 14, 15, 16, 17, 18, 19, 20, 21, 22] (by decide +kernel) (by decide +kernel)
set_option maxRecDepth 20000 in
theorem gX2_weighAllTrees_X2_weighTrees : GoodIn wsX2_weighAllTrees (wsV RX2 30 RX2 yX2_weighTrees wsX2_weighTrees) := goodIn_app (goodIn_of _ (by decide +kernel)) ggX2_weighAllTrees_X2_weighTrees
set_option maxRecDepth 20000 in
theorem ggX2_weighTrees_X2_costBelow : GoodIn wsX2_weighTrees wsX2_costBelow := goodIn_r _ [7, 2, 13, 14, 15, 16, 17] (by decide +kernel) (by decide +kernel)
set_option maxRecDepth 20000 in
theorem gX2_weighTrees_X2_costBelow : GoodIn wsX2_weighTrees (wsV RX2 34 RX2 yX2_costBelow wsX2_costBelow) := goodIn_app (goodIn_of _ (by decide +kernel)) ggX2_weighTrees_X2_costBelow
set_option maxRecDepth 20000 in
theorem ggX2_weighTrees_X2_weightOf : GoodIn wsX2_weighTrees wsX2_weightOf := goodIn_r _ [11, 12, 13, 14, 15, 16, 17] (by decide +kernel) (by decide +kernel)
set_option maxRecDepth 20000 in
theorem gX2_weighTrees_X2_weightOf : GoodIn wsX2_weighTrees (wsV RX2 38 RX2 yX2_weightOf wsX2_weightOf) := goodIn_app (goodIn_of _ (by decide +kernel)) ggX2_weighTrees_X2_weightOf
set_option maxRecDepth 20000 in
theorem ggX2_bestTree_X2_grow : GoodIn wsX2_bestTree wsX2_grow := goodIn_r _ [5, 6, 7, 8, 9, 10, 2, 3, 4, 11, 12, 13, 14, 15, 16, 17, 18, 19, 20, 21, 22, 23, 24, 25, 26, 27, 28, 29] (by decide +kernel) (by decide +kernel)
set_option maxRecDepth 20000 in
theorem gX2_bestTree_X2_grow : GoodIn wsX2_bestTree (va_wsS RX2 42 yX2_grow wsX2_grow) := goodIn_app (goodIn_of _ (by decide +kernel)) ggX2_bestTree_X2_grow
set_option maxRecDepth 20000 in
theorem ggX2_grow_X2_grow : GoodIn wsX2_grow wsX2_grow := goodIn_r _ [0, 1, 2, 3, 4, 5, 6, 7, 8, 9, 10, 11, 12, 13, 14, 15, 16, 17, 18, 19, 20, 21, 22, 23, 24, 25, 26, 27] (by decide +kernel) (by decide +kernel)
set_option maxRecDepth 20000 in
theorem gX2_grow_X2_grow : GoodIn wsX2_grow (va_wsS RX2 42 yX2_grow wsX2_grow) := goodIn_app (goodIn_of _ (by decide +kernel)) ggX2_grow_X2_grow
set_option maxRecDepth 20000 in
theorem ggX2_grow_X1_init : GoodIn wsX2_grow wsX1_init := goodIn_r _ [11, 12, 13, 14, 15, 16, 17, 18, 24, 25, 26, 27] (by decide +kernel) (by decide +kernel)
set_option maxRecDepth 20000 in
theorem gX2_grow_X1_init : GoodIn wsX2_grow (wsX1_init) := ggX2_grow_X1_init
end
section
set_option maxRecDepth 20000 in
theorem ggX3_matches_X3_argumentOf : GoodIn wsX3_matches wsX3_argumentOf := goodIn_r _ [7, 8, 9, 10, 11, 12, 13] (by decide +kernel) (by decide +kernel)
set_option maxRecDepth 20000 in
theorem gX3_matches_X3_argumentOf : GoodIn wsX3_matches (wsV RX3 28 RX3 yX3_argumentOf wsX3_argumentOf) := goodIn_app (goodIn_of _ (by decide +kernel)) ggX3_matches_X3_argumentOf
set_option maxRecDepth 20000 in
theorem ggX3_testsFor_X3_argumentOf : GoodIn wsX3_testsFor wsX3_argumentOf := goodIn_r _ [8, 9, 23, 24, 25, 26, 27] (by decide +kernel) (by decide +kernel)
set_option maxRecDepth 20000 in
theorem gX3_testsFor_X3_argumentOf : GoodIn wsX3_testsFor (wsV RX3 28 RX3 yX3_argumentOf wsX3_argumentOf) := goodIn_app (goodIn_of _ (by decide +kernel)) ggX3_testsFor_X3_argumentOf
set_option maxRecDepth 20000 in
theorem ggX3_testsFor_X3_lowerTests : GoodIn wsX3_testsFor wsX3_lowerTests := goodIn_r _ [13, 1, 3, 23, 24, 25, 26, 27] (by decide +kernel) (by decide +kernel)
set_option maxRecDepth 20000 in
theorem gX3_testsFor_X3_lowerTests : GoodIn wsX3_testsFor (wsV RX3 36 RX3 yX3_lowerTests wsX3_lowerTests) := goodIn_app (goodIn_of _ (by decide +kernel)) ggX3_testsFor_X3_lowerTests
set_option maxRecDepth 20000 in
theorem ggX3_testsFor_X3_mostTests : GoodIn wsX3_testsFor wsX3_mostTests := goodIn_r _ [17, 10, 11, 12, 7, 13, 1, 3, 18, 19, 20, 21, 22, 23, 24, 25, 26, 27] (by decide +kernel) (by decide +kernel)
set_option maxRecDepth 20000 in
theorem gX3_testsFor_X3_mostTests : GoodIn wsX3_testsFor (wsV RX3 40 RX3 yX3_mostTests wsX3_mostTests) := goodIn_app (goodIn_of _ (by decide +kernel)) ggX3_testsFor_X3_mostTests
set_option maxRecDepth 20000 in
theorem ggX3_mostTests_X3_lowerTests : GoodIn wsX3_mostTests wsX3_lowerTests := goodIn_r _ [5, 6, 7, 13, 14, 15, 16, 17] (by decide +kernel) (by decide +kernel)
set_option maxRecDepth 20000 in
theorem gX3_mostTests_X3_lowerTests : GoodIn wsX3_mostTests (wsV RX3 36 RX3 yX3_lowerTests wsX3_lowerTests) := goodIn_app (goodIn_of _ (by decide +kernel)) ggX3_mostTests_X3_lowerTests
set_option maxRecDepth 20000 in
theorem ggX3_mostTests_X3_upperTests : GoodIn wsX3_mostTests wsX3_upperTests := goodIn_r _ [11, 6, 12, 13, 14, 15, 16, 17] (by decide +kernel) (by decide +kernel)
set_option maxRecDepth 20000 in
theorem gX3_mostTests_X3_upperTests : GoodIn wsX3_mostTests (wsV RX3 43 RX3 yX3_upperTests wsX3_upperTests) := goodIn_app (goodIn_of _ (by decide +kernel)) ggX3_mostTests_X3_upperTests
end
section
set_option maxRecDepth 20000 in
theorem ggX4_init_X2_init : GoodIn wsX4_init wsX2_init := goodIn_r _ [15, 16, 2, 3, 6, 17, 18, 19, 20, 21, 49, 50, 51, 52, 53] (by decide +kernel) (by decide +kernel)
set_option maxRecDepth 20000 in
theorem gX4_init_X2_init_n21 : GoodIn wsX4_init (wsX2_init) := ggX4_init_X2_init
set_option maxRecDepth 20000 in
theorem ggX4_init_X0_init : GoodIn wsX4_init wsX0_init := goodIn_r _ [23, 24, 2, 3, 25, 26, 27, 28, 29, 30, 31, 32, 33, 34, 35, 36, 37, 38, 39, 40, 41, 42, 43, 44, 59, 60, 61, 54, 55, 56, 57, 58] (by decide +kernel) (by decide +kernel)
set_option maxRecDepth 20000 in
theorem gX4_init_X0_init_n26 : GoodIn wsX4_init (wsX0_init) := ggX4_init_X0_init
set_option maxRecDepth 20000 in
theorem ggX4_add_X4_requireFilter : GoodIn wsX4_add wsX4_requireFilter := goodIn_ca (goodIn_r _ [13, 1, 2] (by decide +kernel) (by decide +kernel)) (goodIn_sub (fun _ h => List.mem_cons_of_mem _ (List.mem_append_left _ (List.mem_append_right _ h))) (by decide +kernel))
set_option maxRecDepth 20000 in
theorem gX4_add_X4_requireFilter : GoodIn wsX4_add (va_wsS RX4 27 yX4_requireFilter wsX4_requireFilter) := goodIn_app (goodIn_of _ (by decide +kernel)) ggX4_add_X4_requireFilter
set_option maxRecDepth 20000 in
theorem ggX4_add_X4_requireNumber : GoodIn wsX4_add wsX4_requireNumber := goodIn_ca (goodIn_r _ [16, 1, 2] (by decide +kernel) (by decide +kernel)) (goodIn_sub (fun _ h => List.mem_cons_of_mem _ (List.mem_append_left _ (List.mem_append_right _ h))) (by decide +kernel))
set_option maxRecDepth 20000 in
theorem gX4_add_X4_requireNumber : GoodIn wsX4_add (va_wsS RX4 31 yX4_requireNumber wsX4_requireNumber) := goodIn_app (goodIn_of _ (by decide +kernel)) ggX4_add_X4_requireNumber
set_option maxRecDepth 20000 in
theorem ggX4_add_X4_requireAction : GoodIn wsX4_add wsX4_requireAction := goodIn_ca (goodIn_r _ [19, 1, 2] (by decide +kernel) (by decide +kernel)) (goodIn_sub (fun _ h => List.mem_cons_of_mem _ (List.mem_append_left _ (List.mem_append_right _ h))) (by decide +kernel))
set_option maxRecDepth 20000 in
theorem gX4_add_X4_requireAction : GoodIn wsX4_add (va_wsS RX4 41 yX4_requireAction wsX4_requireAction) := goodIn_app (goodIn_of _ (by decide +kernel)) ggX4_add_X4_requireAction
set_option maxRecDepth 20000 in
theorem ggX4_add_X0_isFull : GoodIn wsX4_add wsX0_isFull := goodIn_r _ [24, 25, 26, 27, 28, 29, 30, 31, 110, 111, 112, 113, 114, 115, 116, 117] (by decide +kernel) (by decide +kernel)
set_option maxRecDepth 20000 in
theorem gX4_add_X0_isFull : GoodIn wsX4_add (wsV RX4 44 RX0 yX0_isFull wsX0_isFull) := goodIn_app (goodIn_of _ (by decide +kernel)) ggX4_add_X0_isFull
set_option maxRecDepth 20000 in
theorem ggX4_add_X3_init : GoodIn wsX4_add wsX3_init := goodIn_r _ [34, 35, 36, 37, 38, 39, 40, 41, 42, 105, 106, 107, 108, 109] (by decide +kernel) (by decide +kernel)
set_option maxRecDepth 20000 in
theorem gX4_add_X3_init : GoodIn wsX4_add (wsX3_init) := ggX4_add_X3_init
set_option maxRecDepth 20000 in
theorem ggX4_add_X0_append : GoodIn wsX4_add wsX0_append := goodIn_r _ [46, 25, 47, 48, 49, 29, 50, 51, 52, 53, 31, 54, 55, 56, 57, 58, 59, 60, 61, 62, 63, 64, 65, 66, 67, 68, 69, 70, 71, 72, 73, 74, 75, 76, 77, 78, 79, 80, 81, 82, 83, 84, 85, 86, 87, 88, 89, 90, 91, 92, 93, 94, 95, 96, 97, 98, 99, 100, 26, 27, 28, 30, 110, 111, 112, 113, 114, 115, 116, 117] (by decide +kernel) (by decide +kernel)
set_option maxRecDepth 20000 in
theorem gX4_add_X0_append : GoodIn wsX4_add (wsV RX4 62 RX0 yX0_append wsX0_append) := goodIn_app (goodIn_of _ (by decide +kernel)) ggX4_add_X0_append
set_option maxRecDepth 20000 in
theorem ggX4_remove_X4_requireFilter : GoodIn wsX4_remove wsX4_requireFilter := goodIn_ca (goodIn_r _ [6, 7, 8] (by decide +kernel) (by decide +kernel)) (goodIn_sub (fun _ h => List.mem_cons_of_mem _ (List.mem_append_left _ (List.mem_append_right _ h))) (by decide +kernel))
set_option maxRecDepth 20000 in
theorem gX4_remove_X4_requireFilter : GoodIn wsX4_remove (va_wsS RX4 27 yX4_requireFilter wsX4_requireFilter) := goodIn_app (goodIn_of _ (by decide +kernel)) ggX4_remove_X4_requireFilter
set_option maxRecDepth 20000 in
theorem ggX4_remove_X4_requireRule : GoodIn wsX4_remove wsX4_requireRule := goodIn_ca (goodIn_r _ [12, 13, 14, 2, 15, 16, 17, 18, 19, 20, 51, 52, 53, 54, 55, 56, 57, 58, 59, 60, 61, 62] (by decide +kernel) (by decide +kernel)) (goodIn_sub (fun _ h => List.mem_cons_of_mem _ (List.mem_append_right _ h)) (by decide +kernel))
set_option maxRecDepth 20000 in
theorem gX4_remove_X4_requireRule : GoodIn wsX4_remove (wsV RX4 66 RX4 yX4_requireRule wsX4_requireRule) := goodIn_app (goodIn_of _ (by decide +kernel)) ggX4_remove_X4_requireRule
set_option maxRecDepth 20000 in
theorem ggX4_remove_X0_drop : GoodIn wsX4_remove wsX0_drop := goodIn_r _ [25, 26, 27, 16, 17, 18, 19, 20, 28, 29, 30, 31, 32, 33, 34, 35, 36, 37, 38, 39, 40, 41, 42, 43, 44, 45, 46, 47, 48, 49, 50, 55, 56, 57, 58, 59, 60, 61, 62] (by decide +kernel) (by decide +kernel)
set_option maxRecDepth 20000 in
theorem gX4_remove_X0_drop : GoodIn wsX4_remove (wsV RX4 70 RX0 yX0_drop wsX0_drop) := goodIn_app (goodIn_of _ (by decide +kernel)) ggX4_remove_X0_drop
set_option maxRecDepth 20000 in
theorem ggX4_setDefault_X4_requireFilter : GoodIn wsX4_setDefault wsX4_requireFilter := goodIn_ca (goodIn_r _ [6, 7, 8] (by decide +kernel) (by decide +kernel)) (goodIn_sub (fun _ h => List.mem_cons_of_mem _ (List.mem_append_right _ h)) (by decide +kernel))
set_option maxRecDepth 20000 in
theorem gX4_setDefault_X4_requireFilter : GoodIn wsX4_setDefault (va_wsS RX4 27 yX4_requireFilter wsX4_requireFilter) := goodIn_app (goodIn_of _ (by decide +kernel)) ggX4_setDefault_X4_requireFilter
set_option maxRecDepth 20000 in
theorem ggX4_setDefault_X4_requireAction : GoodIn wsX4_setDefault wsX4_requireAction := goodIn_ca (goodIn_r _ [11, 7, 8] (by decide +kernel) (by decide +kernel)) (goodIn_sub (fun _ h => List.mem_cons_of_mem _ (List.mem_append_right _ h)) (by decide +kernel))
set_option maxRecDepth 20000 in
theorem gX4_setDefault_X4_requireAction : GoodIn wsX4_setDefault (va_wsS RX4 41 yX4_requireAction wsX4_requireAction) := goodIn_app (goodIn_of _ (by decide +kernel)) ggX4_setDefault_X4_requireAction
set_option maxRecDepth 20000 in
theorem ggX4_setFrequency_X4_requireNumber : GoodIn wsX4_setFrequency wsX4_requireNumber := goodIn_ca (goodIn_r _ [8, 1, 2] (by decide +kernel) (by decide +kernel)) (goodIn_sub (fun _ h => List.mem_cons_of_mem _ (List.mem_append_right _ h)) (by decide +kernel))
set_option maxRecDepth 20000 in
theorem gX4_setFrequency_X4_requireNumber : GoodIn wsX4_setFrequency (va_wsS RX4 31 yX4_requireNumber wsX4_requireNumber) := goodIn_app (goodIn_of _ (by decide +kernel)) ggX4_setFrequency_X4_requireNumber
set_option maxRecDepth 20000 in
theorem ggX4_rules_X4_requireFilter : GoodIn wsX4_rules wsX4_requireFilter := goodIn_ca (goodIn_r _ [5, 6, 7] (by decide +kernel) (by decide +kernel)) (goodIn_sub (fun _ h => List.mem_cons_of_mem _ (List.mem_append_right _ h)) (by decide +kernel))
set_option maxRecDepth 20000 in
theorem gX4_rules_X4_requireFilter : GoodIn wsX4_rules (va_wsS RX4 27 yX4_requireFilter wsX4_requireFilter) := goodIn_app (goodIn_of _ (by decide +kernel)) ggX4_rules_X4_requireFilter
set_option maxRecDepth 20000 in
theorem ggX4_rules_Jx4a65c_size_8abf5 : GoodIn wsX4_rules wsJx4a65c_size_8abf5 := goodIn_r _ [12, 13, 23, 24, 25] (by decide +kernel) (by decide +kernel)
set_option maxRecDepth 20000 in
theorem gX4_rules_Jx4a65c_size_8abf5 : GoodIn wsX4_rules (wsV RX4 84 RJx4a65c yJx4a65c_size_8abf5 wsJx4a65c_size_8abf5) := goodIn_app (goodIn_of _ (by decide +kernel)) ggX4_rules_Jx4a65c_size_8abf5
set_option maxRecDepth 20000 in
theorem ggX4_hider_X4_requireFilter : GoodIn wsX4_hider wsX4_requireFilter := goodIn_ca (goodIn_r _ [5, 6, 7] (by decide +kernel) (by decide +kernel)) (goodIn_sub (fun _ h => List.mem_cons_of_mem _ (List.mem_append_left _ (List.mem_append_right _ h))) (by decide +kernel))
set_option maxRecDepth 20000 in
theorem gX4_hider_X4_requireFilter : GoodIn wsX4_hider (va_wsS RX4 27 yX4_requireFilter wsX4_requireFilter) := goodIn_app (goodIn_of _ (by decide +kernel)) ggX4_hider_X4_requireFilter
set_option maxRecDepth 20000 in
theorem ggX4_hider_X4_requireRule : GoodIn wsX4_hider wsX4_requireRule := goodIn_ca (goodIn_r _ [11, 12, 13, 1, 14, 15, 16, 17, 18, 19, 59, 60, 61, 62, 63, 64, 65, 66, 67, 68, 69, 70] (by decide +kernel) (by decide +kernel)) (goodIn_sub (fun _ h => List.mem_cons_of_mem _ (List.mem_append_right _ h)) (by decide +kernel))
set_option maxRecDepth 20000 in
theorem gX4_hider_X4_requireRule : GoodIn wsX4_hider (wsV RX4 66 RX4 yX4_requireRule wsX4_requireRule) := goodIn_app (goodIn_of _ (by decide +kernel)) ggX4_hider_X4_requireRule
set_option maxRecDepth 20000 in
theorem ggX4_hider_X0_hiderOf : GoodIn wsX4_hider wsX0_hiderOf := goodIn_r _ [24, 25, 26, 27, 15, 16, 17, 18, 19, 28, 29, 30, 31, 32, 33, 34, 35, 36, 37, 38, 39, 40, 41, 42, 43, 44, 45, 46, 47, 48, 49, 50, 51, 52, 53, 54, 55, 56, 57, 58, 63, 64, 65, 66, 67, 68, 69, 70, 71, 72, 73, 74, 75] (by decide +kernel) (by decide +kernel)
set_option maxRecDepth 20000 in
theorem gX4_hider_X0_hiderOf : GoodIn wsX4_hider (wsV RX4 90 RX0 yX0_hiderOf wsX0_hiderOf) := goodIn_app (goodIn_of _ (by decide +kernel)) ggX4_hider_X0_hiderOf
set_option maxRecDepth 20000 in
theorem ggX4_compile_X4_planTrees : GoodIn wsX4_compile wsX4_planTrees := goodIn_r _ [8, 9, 10, 11, 12, 13, 14, 15, 16, 17, 18, 19, 20, 21, 22, 23, 24, 25, 26, 27, 28, 29, 30, 31, 32, 33, 34, 35, 36, 37, 38, 39, 40, 41, 42, 43, 44, 45, 46, 47, 48, 49, 50, 51, 52, 53, 54, 55, 56, 57, 58, 59, 60, 61, 62, 63, 64, 65, 66, 67, 68, 69, 70, 71, 72, 73, 74, 75, 76, 77, 78, 79, 80, 81, 82, 83, 84, 85, 86, 87, 88, 89, 90, 91, 92, 93, 94, 95, 96, 97, 98, 99, 100, 101, 102, 103, 104, 105, 106, 107, 108, 109, 110, 111, 112, 113, 114, 115, 116, 117, 118, 119, 120, 121, 122, 123, 124, 125, 126, 127, 128, 129, 130, 131, 132, 133, 134, 135, 136, 137, 138, 139, 140, 141, 142, 143, 144, 145, 146, 147, 148, 149, 150, 151, 152, 153, 154, 155, 156, 157, 158, 159, 160, 161, 162, 163, 164, 165, 166, 167, 168, 169, 170, 171, 172, 173, 174, 175, 176, 177, 178, 179, 180, 181, 221, 222, 223, 224, 225, 226, 227, 228, 229, 230, 231, 232, 233, 234, 235, 236, 237, 238, 239, 240, 241, 242, 243, 244, 245, 246] (by decide +kernel) (by decide +kernel)
set_option maxRecDepth 20000 in
theorem gX4_compile_X4_planTrees : GoodIn wsX4_compile (wsV RX4 95 RX4 yX4_planTrees wsX4_planTrees) := goodIn_app (goodIn_of _ (by decide +kernel)) ggX4_compile_X4_planTrees
set_option maxRecDepth 20000 in
theorem ggX4_compile_X4_worstPathOfAll : GoodIn wsX4_compile wsX4_worstPathOfAll := goodIn_r _ [185, 9, 186, 187, 188, 15, 189, 190, 91, 92, 93, 191, 192, 193, 194, 195, 196, 197, 198, 17, 199, 200, 201, 167, 202, 174, 176, 177, 203, 204, 205, 206, 23, 25, 35, 36, 37, 29, 38, 34, 43, 44, 45, 46, 47, 48, 49, 50, 51, 52, 53, 54, 55, 56, 57, 58, 33, 207, 208, 209, 62, 210, 211, 212, 213, 214, 65, 215, 216, 217, 218, 219, 220, 221, 222, 223, 224, 243, 244, 245, 246, 225, 226, 227, 228, 229, 233, 234, 235, 236, 237, 230, 231, 232] (by decide +kernel) (by decide +kernel)
set_option maxRecDepth 20000 in
theorem gX4_compile_X4_worstPathOfAll : GoodIn wsX4_compile (wsV RX4 98 RX4 yX4_worstPathOfAll wsX4_worstPathOfAll) := goodIn_app (goodIn_of _ (by decide +kernel)) ggX4_compile_X4_worstPathOfAll
set_option maxRecDepth 20000 in
theorem ggX4_test_X4_requireFilter : GoodIn wsX4_test wsX4_requireFilter := goodIn_ca (goodIn_r _ [7, 1, 2] (by decide +kernel) (by decide +kernel)) (goodIn_sub (fun _ h => List.mem_cons_of_mem _ (List.mem_append_left _ (List.mem_append_right _ h))) (by decide +kernel))
set_option maxRecDepth 20000 in
theorem gX4_test_X4_requireFilter : GoodIn wsX4_test (va_wsS RX4 27 yX4_requireFilter wsX4_requireFilter) := goodIn_app (goodIn_of _ (by decide +kernel)) ggX4_test_X4_requireFilter
set_option maxRecDepth 20000 in
theorem ggX4_test_X4_requireCompiled : GoodIn wsX4_test wsX4_requireCompiled := goodIn_ca (goodIn_r _ [11, 12, 13, 14, 21, 22, 23, 24] (by decide +kernel) (by decide +kernel)) (goodIn_sub (fun _ h => List.mem_cons_of_mem _ (List.mem_append_right _ h)) (by decide +kernel))
set_option maxRecDepth 20000 in
theorem gX4_test_X4_requireCompiled : GoodIn wsX4_test (wsV RX4 103 RX4 yX4_requireCompiled wsX4_requireCompiled) := goodIn_app (goodIn_of _ (by decide +kernel)) ggX4_test_X4_requireCompiled
set_option maxRecDepth 20000 in
theorem ggX4_test_X0_numberAt : GoodIn wsX4_test wsX0_numberAt := goodIn_r _ [19, 20, 25, 26, 27, 28, 29, 30, 31, 32, 33] (by decide +kernel) (by decide +kernel)
set_option maxRecDepth 20000 in
theorem gX4_test_X0_numberAt : GoodIn wsX4_test (wsV RX4 106 RX0 yX0_numberAt wsX0_numberAt) := goodIn_app (goodIn_of _ (by decide +kernel)) ggX4_test_X0_numberAt
set_option maxRecDepth 20000 in
theorem ggX4_cost_X4_requireFilter : GoodIn wsX4_cost wsX4_requireFilter := goodIn_ca (goodIn_r _ [5, 6, 7] (by decide +kernel) (by decide +kernel)) (goodIn_sub (fun _ h => List.mem_cons_of_mem _ (List.mem_append_left _ (List.mem_append_right _ h))) (by decide +kernel))
set_option maxRecDepth 20000 in
theorem gX4_cost_X4_requireFilter : GoodIn wsX4_cost (va_wsS RX4 27 yX4_requireFilter wsX4_requireFilter) := goodIn_app (goodIn_of _ (by decide +kernel)) ggX4_cost_X4_requireFilter
set_option maxRecDepth 20000 in
theorem ggX4_cost_X4_requireCompiled : GoodIn wsX4_cost wsX4_requireCompiled := goodIn_ca (goodIn_r _ [11, 12, 13, 14, 15, 16, 17, 18] (by decide +kernel) (by decide +kernel)) (goodIn_sub (fun _ h => List.mem_cons_of_mem _ (List.mem_append_right _ h)) (by decide +kernel))
set_option maxRecDepth 20000 in
theorem gX4_cost_X4_requireCompiled : GoodIn wsX4_cost (wsV RX4 103 RX4 yX4_requireCompiled wsX4_requireCompiled) := goodIn_app (goodIn_of _ (by decide +kernel)) ggX4_cost_X4_requireCompiled
set_option maxRecDepth 20000 in
theorem ggX4_worst_X4_requireFilter : GoodIn wsX4_worst wsX4_requireFilter := goodIn_ca (goodIn_r _ [5, 6, 7] (by decide +kernel) (by decide +kernel)) (goodIn_sub (fun _ h => List.mem_cons_of_mem _ (List.mem_append_left _ (List.mem_append_right _ h))) (by decide +kernel))
set_option maxRecDepth 20000 in
theorem gX4_worst_X4_requireFilter : GoodIn wsX4_worst (va_wsS RX4 27 yX4_requireFilter wsX4_requireFilter) := goodIn_app (goodIn_of _ (by decide +kernel)) ggX4_worst_X4_requireFilter
set_option maxRecDepth 20000 in
theorem ggX4_worst_X4_requireCompiled : GoodIn wsX4_worst wsX4_requireCompiled := goodIn_ca (goodIn_r _ [11, 12, 13, 14, 86, 87, 88, 89] (by decide +kernel) (by decide +kernel)) (goodIn_sub (fun _ h => List.mem_cons_of_mem _ (List.mem_append_right _ h)) (by decide +kernel))
set_option maxRecDepth 20000 in
theorem gX4_worst_X4_requireCompiled : GoodIn wsX4_worst (wsV RX4 103 RX4 yX4_requireCompiled wsX4_requireCompiled) := goodIn_app (goodIn_of _ (by decide +kernel)) ggX4_worst_X4_requireCompiled
set_option maxRecDepth 20000 in
theorem ggX4_worst_X0_worstPath : GoodIn wsX4_worst wsX0_worstPath := goodIn_r _ [19, 20, 21, 22, 23, 24, 25, 26, 18, 27, 28, 29, 30, 31, 32, 33, 34, 35, 36, 37, 38, 39, 40, 41, 42, 43, 44, 45, 46, 47, 48, 49, 50, 51, 52, 53, 54, 55, 56, 57, 58, 59, 60, 61, 62, 63, 64, 65, 66, 67, 68, 69, 70, 71, 72, 73, 74, 75, 76, 77, 78, 79, 80, 81, 82, 83, 84, 85, 90, 91, 92, 93, 94, 95, 96, 97, 98, 99, 100, 101, 102, 103, 104, 105, 106] (by decide +kernel) (by decide +kernel)
set_option maxRecDepth 20000 in
theorem gX4_worst_X0_worstPath : GoodIn wsX4_worst (wsV RX4 112 RX0 yX0_worstPath wsX0_worstPath) := goodIn_app (goodIn_of _ (by decide +kernel)) ggX4_worst_X0_worstPath
set_option maxRecDepth 20000 in
theorem ggX4_judge_X4_requireNumber : GoodIn wsX4_judge wsX4_requireNumber := goodIn_ca (goodIn_r _ [9, 10, 11] (by decide +kernel) (by decide +kernel)) (goodIn_sub (fun _ h => List.mem_cons_of_mem _ (List.mem_append_left _ (List.mem_append_right _ h))) (by decide +kernel))
set_option maxRecDepth 20000 in
theorem gX4_judge_X4_requireNumber : GoodIn wsX4_judge (va_wsS RX4 31 yX4_requireNumber wsX4_requireNumber) := goodIn_app (goodIn_of _ (by decide +kernel)) ggX4_judge_X4_requireNumber
end
section
set_option maxRecDepth 20000 in
theorem ggX4_judge_X4_requireCompiled : GoodIn wsX4_judge wsX4_requireCompiled := goodIn_ca (goodIn_r _ [15, 16, 17, 18, 79, 80, 81, 82] (by decide +kernel) (by decide +kernel)) (goodIn_sub (fun _ h => List.mem_cons_of_mem _ (List.mem_append_right _ h)) (by decide +kernel))
set_option maxRecDepth 20000 in
theorem gX4_judge_X4_requireCompiled : GoodIn wsX4_judge (wsV RX4 103 RX4 yX4_requireCompiled wsX4_requireCompiled) := goodIn_app (goodIn_of _ (by decide +kernel)) ggX4_judge_X4_requireCompiled
set_option maxRecDepth 20000 in
theorem ggX4_judge_X0_actionByTree : GoodIn wsX4_judge wsX0_actionByTree := goodIn_r _ [23, 24, 25, 26, 27, 28, 22, 29, 30, 31, 32, 33, 34, 35, 36, 37, 38, 39, 40, 41, 42, 43, 44, 45, 46, 47, 48, 49, 50, 51, 52, 53, 54, 55, 56, 57, 58, 59, 60, 61, 62, 63, 64, 65, 66, 67, 68, 69, 70, 71, 72, 73, 74, 75, 76, 77, 78, 83, 84, 85, 86, 87, 88, 89, 90, 91, 92, 93, 94, 95, 96, 97, 98, 99] (by decide +kernel) (by decide +kernel)
set_option maxRecDepth 20000 in
theorem gX4_judge_X0_actionByTree : GoodIn wsX4_judge (wsV RX4 115 RX0 yX0_actionByTree wsX0_actionByTree) := goodIn_app (goodIn_of _ (by decide +kernel)) ggX4_judge_X0_actionByTree
set_option maxRecDepth 20000 in
theorem ggX4_judgeByRules_X4_requireNumber : GoodIn wsX4_judgeByRules wsX4_requireNumber := goodIn_ca (goodIn_r _ [9, 10, 11] (by decide +kernel) (by decide +kernel)) (goodIn_sub (fun _ h => List.mem_cons_of_mem _ (List.mem_append_right _ h)) (by decide +kernel))
set_option maxRecDepth 20000 in
theorem gX4_judgeByRules_X4_requireNumber : GoodIn wsX4_judgeByRules (va_wsS RX4 31 yX4_requireNumber wsX4_requireNumber) := goodIn_app (goodIn_of _ (by decide +kernel)) ggX4_judgeByRules_X4_requireNumber
set_option maxRecDepth 20000 in
theorem ggX4_judgeByRules_X0_actionByRules : GoodIn wsX4_judgeByRules wsX0_actionByRules := goodIn_r _ [16, 17, 18, 19, 20, 15, 21, 22, 23, 24, 25, 26, 27, 28, 29, 30, 31, 32, 33, 34, 35, 36, 37, 38, 39, 40, 41, 42, 43, 44, 45, 46, 47, 48, 49, 50, 51, 52, 53, 54, 55, 56, 57, 58, 63, 64, 65, 66, 67, 68, 69, 70, 71, 72, 73, 74, 75] (by decide +kernel) (by decide +kernel)
set_option maxRecDepth 20000 in
theorem gX4_judgeByRules_X0_actionByRules : GoodIn wsX4_judgeByRules (wsV RX4 125 RX0 yX0_actionByRules wsX0_actionByRules) := goodIn_app (goodIn_of _ (by decide +kernel)) ggX4_judgeByRules_X0_actionByRules
set_option maxRecDepth 20000 in
theorem ggX4_path_X4_requireNumber : GoodIn wsX4_path wsX4_requireNumber := goodIn_ca (goodIn_r _ [5, 6, 7] (by decide +kernel) (by decide +kernel)) (goodIn_sub (fun _ h => List.mem_cons_of_mem _ (List.mem_append_left _ (List.mem_append_right _ h))) (by decide +kernel))
set_option maxRecDepth 20000 in
theorem gX4_path_X4_requireNumber : GoodIn wsX4_path (va_wsS RX4 31 yX4_requireNumber wsX4_requireNumber) := goodIn_app (goodIn_of _ (by decide +kernel)) ggX4_path_X4_requireNumber
set_option maxRecDepth 20000 in
theorem ggX4_path_X4_requireCompiled : GoodIn wsX4_path wsX4_requireCompiled := goodIn_ca (goodIn_r _ [11, 12, 13, 14, 92, 93, 94, 95] (by decide +kernel) (by decide +kernel)) (goodIn_sub (fun _ h => List.mem_cons_of_mem _ (List.mem_append_right _ h)) (by decide +kernel))
set_option maxRecDepth 20000 in
theorem gX4_path_X4_requireCompiled : GoodIn wsX4_path (wsV RX4 103 RX4 yX4_requireCompiled wsX4_requireCompiled) := goodIn_app (goodIn_of _ (by decide +kernel)) ggX4_path_X4_requireCompiled
set_option maxRecDepth 20000 in
theorem ggX4_path_X0_pathOf : GoodIn wsX4_path wsX0_pathOf := goodIn_r _ [19, 20, 21, 22, 23, 24, 18, 25, 26, 27, 28, 29, 30, 31, 32, 33, 34, 35, 36, 37, 38, 39, 40, 41, 42, 43, 44, 45, 46, 47, 48, 49, 50, 51, 52, 53, 54, 55, 56, 57, 58, 59, 60, 61, 62, 63, 64, 65, 66, 67, 68, 69, 70, 71, 72, 73, 74, 75, 76, 77, 78, 79, 80, 81, 82, 83, 84, 85, 86, 87, 88, 89, 90, 91, 96, 97, 98, 99, 100, 101, 102, 103, 104, 105, 106, 107, 108, 109, 110, 111, 112] (by decide +kernel) (by decide +kernel)
set_option maxRecDepth 20000 in
theorem gX4_path_X0_pathOf : GoodIn wsX4_path (wsV RX4 128 RX0 yX0_pathOf wsX0_pathOf) := goodIn_app (goodIn_of _ (by decide +kernel)) ggX4_path_X0_pathOf
set_option maxRecDepth 20000 in
theorem ggX4_actionOf_X4_requireFilter : GoodIn wsX4_actionOf wsX4_requireFilter := goodIn_ca (goodIn_r _ [5, 6, 7] (by decide +kernel) (by decide +kernel)) (goodIn_sub (fun _ h => List.mem_cons_of_mem _ (List.mem_append_right _ h)) (by decide +kernel))
set_option maxRecDepth 20000 in
theorem gX4_actionOf_X4_requireFilter : GoodIn wsX4_actionOf (va_wsS RX4 27 yX4_requireFilter wsX4_requireFilter) := goodIn_app (goodIn_of _ (by decide +kernel)) ggX4_actionOf_X4_requireFilter
set_option maxRecDepth 20000 in
theorem ggX4_actionOf_X4_requireNumber : GoodIn wsX4_actionOf wsX4_requireNumber := goodIn_ca (goodIn_r _ [10, 6, 7] (by decide +kernel) (by decide +kernel)) (goodIn_sub (fun _ h => List.mem_cons_of_mem _ (List.mem_append_right _ h)) (by decide +kernel))
set_option maxRecDepth 20000 in
theorem gX4_actionOf_X4_requireNumber : GoodIn wsX4_actionOf (va_wsS RX4 31 yX4_requireNumber wsX4_requireNumber) := goodIn_app (goodIn_of _ (by decide +kernel)) ggX4_actionOf_X4_requireNumber
set_option maxRecDepth 20000 in
theorem ggX4_actionOf_X0_actionByRules : GoodIn wsX4_actionOf wsX0_actionByRules := goodIn_r _ [15, 16, 17, 18, 19, 14, 20, 21, 22, 23, 24, 25, 26, 27, 28, 29, 30, 31, 32, 33, 34, 35, 36, 37, 38, 39, 40, 41, 42, 43, 44, 45, 46, 47, 48, 49, 50, 51, 52, 53, 54, 55, 56, 57, 62, 63, 64, 65, 66, 67, 68, 69, 70, 71, 72, 73, 74] (by decide +kernel) (by decide +kernel)
set_option maxRecDepth 20000 in
theorem gX4_actionOf_X0_actionByRules : GoodIn wsX4_actionOf (wsV RX4 125 RX0 yX0_actionByRules wsX0_actionByRules) := goodIn_app (goodIn_of _ (by decide +kernel)) ggX4_actionOf_X0_actionByRules
set_option maxRecDepth 20000 in
theorem ggX4_planTrees_X0_planTree : GoodIn wsX4_planTrees wsX0_planTree := goodIn_r _ [8, 9, 10, 11, 12, 13, 7, 14, 15, 16, 17, 18, 19, 20, 21, 22, 23, 24, 25, 26, 27, 28, 29, 30, 31, 32, 33, 34, 35, 36, 37, 38, 39, 40, 41, 42, 43, 44, 45, 46, 47, 48, 49, 50, 51, 52, 53, 54, 55, 56, 57, 58, 59, 60, 61, 62, 63, 64, 65, 66, 67, 68, 69, 70, 71, 72, 73, 74, 75, 76, 77, 78, 79, 80, 81, 82, 83, 84, 85, 86, 87, 88, 89, 90, 91, 92, 93, 94, 95, 96, 97, 98, 99, 100, 101, 102, 103, 104, 105, 106, 107, 108, 109, 110, 111, 112, 113, 114, 115, 116, 117, 118, 119, 120, 121, 122, 123, 124, 125, 126, 127, 128, 129, 130, 131, 132, 133, 134, 135, 136, 137, 138, 139, 140, 141, 142, 143, 144, 145, 146, 147, 148, 149, 150, 151, 152, 153, 154, 155, 156, 157, 158, 159, 160, 161, 162, 163, 164, 165, 166, 167, 168, 169, 170, 171, 172, 173, 178, 179, 180, 181, 182, 183, 184, 185, 186, 187, 188, 189, 190, 191, 192, 193, 194, 195, 196, 197, 198, 199] (by decide +kernel) (by decide +kernel)
set_option maxRecDepth 20000 in
theorem gX4_planTrees_X0_planTree : GoodIn wsX4_planTrees (wsV RX4 131 RX0 yX0_planTree wsX0_planTree) := goodIn_app (goodIn_of _ (by decide +kernel)) ggX4_planTrees_X0_planTree
set_option maxRecDepth 20000 in
theorem ggX4_worstPathOfAll_X0_worstPath : GoodIn wsX4_worstPathOfAll wsX0_worstPath := goodIn_r _ [6, 7, 8, 9, 10, 11, 12, 13, 5, 14, 15, 16, 17, 18, 19, 20, 21, 22, 23, 24, 25, 26, 27, 28, 29, 30, 31, 32, 33, 34, 35, 36, 37, 38, 39, 40, 41, 42, 43, 44, 45, 46, 47, 48, 49, 50, 51, 52, 53, 54, 55, 56, 57, 58, 59, 60, 61, 62, 63, 64, 65, 66, 67, 68, 69, 70, 71, 72, 77, 78, 79, 80, 81, 82, 83, 84, 85, 86, 87, 88, 89, 90, 91, 92, 93] (by decide +kernel) (by decide +kernel)
set_option maxRecDepth 20000 in
theorem gX4_worstPathOfAll_X0_worstPath : GoodIn wsX4_worstPathOfAll (wsV RX4 112 RX0 yX0_worstPath wsX0_worstPath) := goodIn_app (goodIn_of _ (by decide +kernel)) ggX4_worstPathOfAll_X0_worstPath
set_option maxRecDepth 20000 in
theorem ggX4_requireRule_Jx4a65c_size_8abf5 : GoodIn wsX4_requireRule wsJx4a65c_size_8abf5 := goodIn_r _ [8, 9, 19, 20, 21] (by decide +kernel) (by decide +kernel)
set_option maxRecDepth 20000 in
theorem gX4_requireRule_Jx4a65c_size_8abf5 : GoodIn wsX4_requireRule (wsV RX4 84 RJx4a65c yJx4a65c_size_8abf5 wsJx4a65c_size_8abf5) := goodIn_app (goodIn_of _ (by decide +kernel)) ggX4_requireRule_Jx4a65c_size_8abf5
end
section
set_option maxRecDepth 20000 in
theorem ggX5_isFilter_X5_in : GoodIn wsX5_isFilter wsX5_in := goodIn_r _ [4] (by decide +kernel) (by decide +kernel)
set_option maxRecDepth 20000 in
theorem gX5_isFilter_X5_in : GoodIn wsX5_isFilter (va_wsS RX5 48 yX5_in wsX5_in) := goodIn_app (goodIn_of _ (by decide +kernel)) ggX5_isFilter_X5_in
set_option maxRecDepth 20000 in
theorem ggX5_isNumber_X5_in : GoodIn wsX5_isNumber wsX5_in := goodIn_r _ [4] (by decide +kernel) (by decide +kernel)
set_option maxRecDepth 20000 in
theorem gX5_isNumber_X5_in : GoodIn wsX5_isNumber (va_wsS RX5 48 yX5_in wsX5_in) := goodIn_app (goodIn_of _ (by decide +kernel)) ggX5_isNumber_X5_in
set_option maxRecDepth 20000 in
theorem ggX5_isRule_X5_isFilter : GoodIn wsX5_isRule wsX5_isFilter := goodIn_r _ [5, 6, 7, 4, 8] (by decide +kernel) (by decide +kernel)
set_option maxRecDepth 20000 in
theorem gX5_isRule_X5_isFilter : GoodIn wsX5_isRule (va_wsS RX5 52 yX5_isFilter wsX5_isFilter) := goodIn_app (goodIn_of _ (by decide +kernel)) ggX5_isRule_X5_isFilter
set_option maxRecDepth 20000 in
theorem ggX5_isRule_X5_in : GoodIn wsX5_isRule wsX5_in := goodIn_r _ [8] (by decide +kernel) (by decide +kernel)
set_option maxRecDepth 20000 in
theorem gX5_isRule_X5_in : GoodIn wsX5_isRule (va_wsS RX5 48 yX5_in wsX5_in) := goodIn_app (goodIn_of _ (by decide +kernel)) ggX5_isRule_X5_in
set_option maxRecDepth 20000 in
theorem ggX5_add_X5_isFilter : GoodIn wsX5_add wsX5_isFilter := goodIn_r _ [11, 12, 13, 10, 14] (by decide +kernel) (by decide +kernel)
set_option maxRecDepth 20000 in
theorem gX5_add_X5_isFilter : GoodIn wsX5_add (va_wsS RX5 52 yX5_isFilter wsX5_isFilter) := goodIn_app (goodIn_of _ (by decide +kernel)) ggX5_add_X5_isFilter
set_option maxRecDepth 20000 in
theorem ggX5_add_X5_isNumber : GoodIn wsX5_add wsX5_isNumber := goodIn_r _ [17, 12, 13, 10, 14] (by decide +kernel) (by decide +kernel)
set_option maxRecDepth 20000 in
theorem gX5_add_X5_isNumber : GoodIn wsX5_add (va_wsS RX5 56 yX5_isNumber wsX5_isNumber) := goodIn_app (goodIn_of _ (by decide +kernel)) ggX5_add_X5_isNumber
set_option maxRecDepth 20000 in
theorem ggX5_add_X5_in : GoodIn wsX5_add wsX5_in := goodIn_r _ [14] (by decide +kernel) (by decide +kernel)
set_option maxRecDepth 20000 in
theorem gX5_add_X5_in : GoodIn wsX5_add (va_wsS RX5 48 yX5_in wsX5_in) := goodIn_app (goodIn_of _ (by decide +kernel)) ggX5_add_X5_in
set_option maxRecDepth 20000 in
theorem ggX5_add_X5_goesWell : GoodIn wsX5_add wsX5_goesWell := goodIn_r _ [21, 22, 23, 24, 25, 26, 27, 28, 29, 30, 31, 32, 33, 34, 35, 36] (by decide +kernel) (by decide +kernel)
set_option maxRecDepth 20000 in
theorem gX5_add_X5_goesWell : GoodIn wsX5_add (wsV RX5 59 RX5 yX5_goesWell wsX5_goesWell) := goodIn_app (goodIn_of _ (by decide +kernel)) ggX5_add_X5_goesWell
set_option maxRecDepth 20000 in
theorem ggX5_remove_X5_isFilter : GoodIn wsX5_remove wsX5_isFilter := goodIn_r _ [11, 12, 13, 10, 14] (by decide +kernel) (by decide +kernel)
set_option maxRecDepth 20000 in
theorem gX5_remove_X5_isFilter : GoodIn wsX5_remove (va_wsS RX5 52 yX5_isFilter wsX5_isFilter) := goodIn_app (goodIn_of _ (by decide +kernel)) ggX5_remove_X5_isFilter
set_option maxRecDepth 20000 in
theorem ggX5_remove_X5_isRule : GoodIn wsX5_remove wsX5_isRule := goodIn_r _ [18, 1, 8, 9, 10, 11, 12, 13, 14, 24, 25, 26, 27, 28, 29, 30, 31, 32, 33, 34, 35, 36, 37] (by decide +kernel) (by decide +kernel)
set_option maxRecDepth 20000 in
theorem gX5_remove_X5_isRule : GoodIn wsX5_remove (wsV RX5 66 RX5 yX5_isRule wsX5_isRule) := goodIn_app (goodIn_of _ (by decide +kernel)) ggX5_remove_X5_isRule
set_option maxRecDepth 20000 in
theorem ggX5_remove_X5_goesWell : GoodIn wsX5_remove wsX5_goesWell := goodIn_r _ [22, 23, 24, 25, 26, 27, 28, 29, 30, 31, 32, 33, 34, 35, 36, 37] (by decide +kernel) (by decide +kernel)
set_option maxRecDepth 20000 in
theorem gX5_remove_X5_goesWell : GoodIn wsX5_remove (wsV RX5 59 RX5 yX5_goesWell wsX5_goesWell) := goodIn_app (goodIn_of _ (by decide +kernel)) ggX5_remove_X5_goesWell
set_option maxRecDepth 20000 in
theorem ggX5_setDefault_X5_isFilter : GoodIn wsX5_setDefault wsX5_isFilter := goodIn_r _ [6, 7, 8, 5, 9] (by decide +kernel) (by decide +kernel)
set_option maxRecDepth 20000 in
theorem gX5_setDefault_X5_isFilter : GoodIn wsX5_setDefault (va_wsS RX5 52 yX5_isFilter wsX5_isFilter) := goodIn_app (goodIn_of _ (by decide +kernel)) ggX5_setDefault_X5_isFilter
set_option maxRecDepth 20000 in
theorem ggX5_setDefault_X5_in : GoodIn wsX5_setDefault wsX5_in := goodIn_r _ [9] (by decide +kernel) (by decide +kernel)
set_option maxRecDepth 20000 in
theorem gX5_setDefault_X5_in : GoodIn wsX5_setDefault (va_wsS RX5 48 yX5_in wsX5_in) := goodIn_app (goodIn_of _ (by decide +kernel)) ggX5_setDefault_X5_in
set_option maxRecDepth 20000 in
theorem ggX5_setDefault_X5_goesWell : GoodIn wsX5_setDefault wsX5_goesWell := goodIn_r _ [13, 14, 15, 16, 17, 18, 19, 20, 21, 22, 23, 24, 25, 26, 27, 28] (by decide +kernel) (by decide +kernel)
set_option maxRecDepth 20000 in
theorem gX5_setDefault_X5_goesWell : GoodIn wsX5_setDefault (wsV RX5 59 RX5 yX5_goesWell wsX5_goesWell) := goodIn_app (goodIn_of _ (by decide +kernel)) ggX5_setDefault_X5_goesWell
set_option maxRecDepth 20000 in
theorem ggX5_setFrequency_X5_isNumber : GoodIn wsX5_setFrequency wsX5_isNumber := goodIn_r _ [6, 7, 8, 5, 9] (by decide +kernel) (by decide +kernel)
set_option maxRecDepth 20000 in
theorem gX5_setFrequency_X5_isNumber : GoodIn wsX5_setFrequency (va_wsS RX5 56 yX5_isNumber wsX5_isNumber) := goodIn_app (goodIn_of _ (by decide +kernel)) ggX5_setFrequency_X5_isNumber
set_option maxRecDepth 20000 in
theorem ggX5_setFrequency_X5_in : GoodIn wsX5_setFrequency wsX5_in := goodIn_r _ [9] (by decide +kernel) (by decide +kernel)
set_option maxRecDepth 20000 in
theorem gX5_setFrequency_X5_in : GoodIn wsX5_setFrequency (va_wsS RX5 48 yX5_in wsX5_in) := goodIn_app (goodIn_of _ (by decide +kernel)) ggX5_setFrequency_X5_in
set_option maxRecDepth 20000 in
theorem ggX5_setFrequency_X5_goesWell : GoodIn wsX5_setFrequency wsX5_goesWell := goodIn_r _ [13, 14, 15, 16, 17, 18, 19, 20, 21, 22, 23, 24, 25, 26, 27, 28] (by decide +kernel) (by decide +kernel)
set_option maxRecDepth 20000 in
theorem gX5_setFrequency_X5_goesWell : GoodIn wsX5_setFrequency (wsV RX5 59 RX5 yX5_goesWell wsX5_goesWell) := goodIn_app (goodIn_of _ (by decide +kernel)) ggX5_setFrequency_X5_goesWell
set_option maxRecDepth 20000 in
theorem ggX5_rules_X5_isFilter : GoodIn wsX5_rules wsX5_isFilter := goodIn_r _ [5, 6, 7, 4, 8] (by decide +kernel) (by decide +kernel)
set_option maxRecDepth 20000 in
theorem gX5_rules_X5_isFilter : GoodIn wsX5_rules (va_wsS RX5 52 yX5_isFilter wsX5_isFilter) := goodIn_app (goodIn_of _ (by decide +kernel)) ggX5_rules_X5_isFilter
set_option maxRecDepth 20000 in
theorem ggX5_rules_X5_goesWell : GoodIn wsX5_rules wsX5_goesWell := goodIn_r _ [12, 13, 14, 15, 16, 17, 18, 19, 20, 21, 22, 23, 24, 25, 26, 27] (by decide +kernel) (by decide +kernel)
set_option maxRecDepth 20000 in
theorem gX5_rules_X5_goesWell : GoodIn wsX5_rules (wsV RX5 59 RX5 yX5_goesWell wsX5_goesWell) := goodIn_app (goodIn_of _ (by decide +kernel)) ggX5_rules_X5_goesWell
set_option maxRecDepth 20000 in
theorem ggX5_hiderOf_X5_hides : GoodIn wsX5_hiderOf wsX5_hides := goodIn_r _ [8, 9, 2, 1, 3, 10, 11, 12, 13, 14, 15, 16, 17, 18, 19, 20, 21, 22, 23, 24] (by decide +kernel) (by decide +kernel)
set_option maxRecDepth 20000 in
theorem gX5_hiderOf_X5_hides : GoodIn wsX5_hiderOf (wsV RX5 72 RX5 yX5_hides wsX5_hides) := goodIn_app (goodIn_of _ (by decide +kernel)) ggX5_hiderOf_X5_hides
set_option maxRecDepth 20000 in
theorem ggX5_hider_X5_isFilter : GoodIn wsX5_hider wsX5_isFilter := goodIn_r _ [4, 5, 6, 3, 7] (by decide +kernel) (by decide +kernel)
set_option maxRecDepth 20000 in
theorem gX5_hider_X5_isFilter : GoodIn wsX5_hider (va_wsS RX5 52 yX5_isFilter wsX5_isFilter) := goodIn_app (goodIn_of _ (by decide +kernel)) ggX5_hider_X5_isFilter
set_option maxRecDepth 20000 in
theorem ggX5_hider_X5_isRule : GoodIn wsX5_hider wsX5_isRule := goodIn_r _ [11, 12, 1, 2, 3, 4, 5, 6, 7, 31, 32, 33, 34, 35, 36, 37, 38, 39, 40, 41, 42, 43, 44] (by decide +kernel) (by decide +kernel)
set_option maxRecDepth 20000 in
theorem gX5_hider_X5_isRule : GoodIn wsX5_hider (wsV RX5 66 RX5 yX5_isRule wsX5_isRule) := goodIn_app (goodIn_of _ (by decide +kernel)) ggX5_hider_X5_isRule
set_option maxRecDepth 20000 in
theorem ggX5_hider_X5_goesWell : GoodIn wsX5_hider wsX5_goesWell := goodIn_r _ [16, 17, 31, 32, 33, 34, 35, 36, 37, 38, 39, 40, 41, 42, 43, 44] (by decide +kernel) (by decide +kernel)
set_option maxRecDepth 20000 in
theorem gX5_hider_X5_goesWell : GoodIn wsX5_hider (wsV RX5 59 RX5 yX5_goesWell wsX5_goesWell) := goodIn_app (goodIn_of _ (by decide +kernel)) ggX5_hider_X5_goesWell
set_option maxRecDepth 20000 in
theorem ggX5_hider_X5_hiderOf : GoodIn wsX5_hider wsX5_hiderOf := goodIn_r _ [21, 22, 23, 24, 25, 26, 27, 3, 28, 29, 30, 31, 32, 33, 34, 35, 36, 37, 38, 39, 40, 41, 42, 43, 44] (by decide +kernel) (by decide +kernel)
set_option maxRecDepth 20000 in
theorem gX5_hider_X5_hiderOf : GoodIn wsX5_hider (wsV RX5 75 RX5 yX5_hiderOf wsX5_hiderOf) := goodIn_app (goodIn_of _ (by decide +kernel)) ggX5_hider_X5_hiderOf
set_option maxRecDepth 20000 in
theorem ggX5_hasNumber_X5_hiderOf : GoodIn wsX5_hasNumber wsX5_hiderOf := goodIn_r _ [7, 8, 9, 10, 11, 12, 13, 6, 14, 2, 15, 16, 17, 18, 19, 20, 21, 22, 23, 24, 25, 26, 27, 28, 29] (by decide +kernel) (by decide +kernel)
set_option maxRecDepth 20000 in
theorem gX5_hasNumber_X5_hiderOf : GoodIn wsX5_hasNumber (wsV RX5 75 RX5 yX5_hiderOf wsX5_hiderOf) := goodIn_app (goodIn_of _ (by decide +kernel)) ggX5_hasNumber_X5_hiderOf
set_option maxRecDepth 20000 in
theorem ggX5_lay_X5_hasNumber : GoodIn wsX5_lay wsX5_hasNumber := goodIn_r _ [7, 8, 9, 10, 11, 12, 6, 13, 14, 15, 16, 17, 18, 19, 20, 21, 33, 34, 35, 36, 37, 38, 39, 40, 41, 42, 43, 44, 45, 46] (by decide +kernel) (by decide +kernel)
set_option maxRecDepth 20000 in
theorem gX5_lay_X5_hasNumber : GoodIn wsX5_lay (wsV RX5 82 RX5 yX5_hasNumber wsX5_hasNumber) := goodIn_app (goodIn_of _ (by decide +kernel)) ggX5_lay_X5_hasNumber
set_option maxRecDepth 20000 in
theorem ggX5_lay_X5_layPart : GoodIn wsX5_lay wsX5_layPart := goodIn_r _ [25, 26, 2, 27, 28, 29, 30, 31, 6, 32, 33, 34, 35, 36, 37, 38, 39, 40, 41, 42, 43, 44, 45, 46] (by decide +kernel) (by decide +kernel)
set_option maxRecDepth 20000 in
theorem gX5_lay_X5_layPart : GoodIn wsX5_lay (wsV RX5 85 RX5 yX5_layPart wsX5_layPart) := goodIn_app (goodIn_of _ (by decide +kernel)) ggX5_lay_X5_layPart
set_option maxRecDepth 20000 in
theorem ggX5_layPart_X5_costOf : GoodIn wsX5_layPart wsX5_costOf := goodIn_r _ [9, 4, 10, 11, 12, 13, 14, 15, 16, 17, 18, 19, 20, 21, 22, 23] (by decide +kernel) (by decide +kernel)
set_option maxRecDepth 20000 in
theorem gX5_layPart_X5_costOf : GoodIn wsX5_layPart (wsV RX5 89 RX5 yX5_costOf wsX5_costOf) := goodIn_app (goodIn_of _ (by decide +kernel)) ggX5_layPart_X5_costOf
set_option maxRecDepth 20000 in
theorem ggX5_halves_X5_hiderOf : GoodIn wsX5_halves wsX5_hiderOf := goodIn_r _ [8, 9, 3, 10, 11, 12, 13, 7, 14, 2, 15, 20, 21, 22, 23, 24, 25, 26, 27, 28, 29, 30, 31, 32, 33] (by decide +kernel) (by decide +kernel)
set_option maxRecDepth 20000 in
theorem gX5_halves_X5_hiderOf : GoodIn wsX5_halves (wsV RX5 75 RX5 yX5_hiderOf wsX5_hiderOf) := goodIn_app (goodIn_of _ (by decide +kernel)) ggX5_halves_X5_hiderOf
set_option maxRecDepth 20000 in
theorem ggX5_halves_X5_halvesOf : GoodIn wsX5_halves wsX5_halvesOf := goodIn_r _ [18, 19] (by decide +kernel) (by decide +kernel)
set_option maxRecDepth 20000 in
theorem gX5_halves_X5_halvesOf : GoodIn wsX5_halves (va_wsS RX5 94 yX5_halvesOf wsX5_halvesOf) := goodIn_app (goodIn_of _ (by decide +kernel)) ggX5_halves_X5_halvesOf
end
section
set_option maxRecDepth 20000 in
theorem ggX5_worstOf_X5_lay : GoodIn wsX5_worstOf wsX5_lay := goodIn_r _ [5, 6, 7, 8, 9, 10, 4, 11, 12, 13, 14, 15, 16, 17, 18, 19, 20, 21, 22, 23, 24, 25, 26, 27, 28, 29, 30, 31, 32, 33, 34, 35, 36, 49, 50, 51, 52, 53, 54, 55, 56, 57, 58, 59, 60, 61, 62] (by decide +kernel) (by decide +kernel)
set_option maxRecDepth 20000 in
theorem gX5_worstOf_X5_lay : GoodIn wsX5_worstOf (wsV RX5 98 RX5 yX5_lay wsX5_lay) := goodIn_app (goodIn_of _ (by decide +kernel)) ggX5_worstOf_X5_lay
set_option maxRecDepth 20000 in
theorem ggX5_worstOf_X5_testsOf : GoodIn wsX5_worstOf wsX5_testsOf := goodIn_r _ [40, 6, 31, 7, 49, 50, 51, 52, 53, 54, 55, 56, 57, 58, 59, 60, 61, 62] (by decide +kernel) (by decide +kernel)
set_option maxRecDepth 20000 in
theorem gX5_worstOf_X5_testsOf : GoodIn wsX5_worstOf (wsV RX5 102 RX5 yX5_testsOf wsX5_testsOf) := goodIn_app (goodIn_of _ (by decide +kernel)) ggX5_worstOf_X5_testsOf
set_option maxRecDepth 20000 in
theorem ggX5_worstOf_X5_halves : GoodIn wsX5_worstOf wsX5_halves := goodIn_r _ [44, 12, 13, 19, 14, 15, 16, 4, 17, 18, 20, 21, 22, 23, 24, 25, 45, 46, 47, 48, 49, 50, 51, 52, 53, 54, 55, 56, 57, 58, 59, 60, 61, 62] (by decide +kernel) (by decide +kernel)
set_option maxRecDepth 20000 in
theorem gX5_worstOf_X5_halves : GoodIn wsX5_worstOf (wsV RX5 106 RX5 yX5_halves wsX5_halves) := goodIn_app (goodIn_of _ (by decide +kernel)) ggX5_worstOf_X5_halves
set_option maxRecDepth 20000 in
theorem ggX5_compile_X5_in : GoodIn wsX5_compile wsX5_in := goodIn_r _ [5] (by decide +kernel) (by decide +kernel)
set_option maxRecDepth 20000 in
theorem gX5_compile_X5_in : GoodIn wsX5_compile (va_wsS RX5 48 yX5_in wsX5_in) := goodIn_app (goodIn_of _ (by decide +kernel)) ggX5_compile_X5_in
set_option maxRecDepth 20000 in
theorem ggX5_compile_X5_goesWell : GoodIn wsX5_compile wsX5_goesWell := goodIn_r _ [9, 10, 62, 63, 64, 65, 66, 67, 68, 69, 70, 71, 72, 73, 74, 75] (by decide +kernel) (by decide +kernel)
set_option maxRecDepth 20000 in
theorem gX5_compile_X5_goesWell : GoodIn wsX5_compile (wsV RX5 59 RX5 yX5_goesWell wsX5_goesWell) := goodIn_app (goodIn_of _ (by decide +kernel)) ggX5_compile_X5_goesWell
set_option maxRecDepth 20000 in
theorem ggX5_compile_X5_worstOf : GoodIn wsX5_compile wsX5_worstOf := goodIn_r _ [14, 15, 16, 17, 4, 18, 19, 20, 21, 22, 23, 24, 25, 26, 27, 28, 29, 30, 31, 32, 33, 34, 35, 36, 37, 38, 39, 40, 41, 42, 43, 44, 45, 46, 47, 48, 49, 50, 51, 52, 53, 54, 55, 56, 57, 58, 59, 60, 61, 62, 63, 64, 65, 66, 67, 68, 69, 70, 71, 72, 73, 74, 75] (by decide +kernel) (by decide +kernel)
set_option maxRecDepth 20000 in
theorem gX5_compile_X5_worstOf : GoodIn wsX5_compile (wsV RX5 109 RX5 yX5_worstOf wsX5_worstOf) := goodIn_app (goodIn_of _ (by decide +kernel)) ggX5_compile_X5_worstOf
set_option maxRecDepth 20000 in
theorem ggX5_test_X5_isFilter : GoodIn wsX5_test wsX5_isFilter := goodIn_r _ [8, 9, 10, 7, 11] (by decide +kernel) (by decide +kernel)
set_option maxRecDepth 20000 in
theorem gX5_test_X5_isFilter : GoodIn wsX5_test (va_wsS RX5 52 yX5_isFilter wsX5_isFilter) := goodIn_app (goodIn_of _ (by decide +kernel)) ggX5_test_X5_isFilter
set_option maxRecDepth 20000 in
theorem ggX5_test_X5_goesWell : GoodIn wsX5_test wsX5_goesWell := goodIn_r _ [15, 16, 49, 50, 51, 52, 53, 54, 55, 56, 57, 58, 59, 60, 61, 62] (by decide +kernel) (by decide +kernel)
set_option maxRecDepth 20000 in
theorem gX5_test_X5_goesWell : GoodIn wsX5_test (wsV RX5 59 RX5 yX5_goesWell wsX5_goesWell) := goodIn_app (goodIn_of _ (by decide +kernel)) ggX5_test_X5_goesWell
set_option maxRecDepth 20000 in
theorem ggX5_test_X5_lay : GoodIn wsX5_test wsX5_lay := goodIn_r _ [20, 2, 4, 21, 22, 23, 7, 24, 25, 26, 27, 28, 29, 30, 31, 32, 33, 34, 35, 36, 37, 38, 39, 40, 41, 42, 43, 3, 44, 45, 46, 47, 48, 49, 50, 51, 52, 53, 54, 55, 56, 57, 58, 59, 60, 61, 62] (by decide +kernel) (by decide +kernel)
set_option maxRecDepth 20000 in
theorem gX5_test_X5_lay : GoodIn wsX5_test (wsV RX5 98 RX5 yX5_lay wsX5_lay) := goodIn_app (goodIn_of _ (by decide +kernel)) ggX5_test_X5_lay
set_option maxRecDepth 20000 in
theorem ggX5_cost_X5_isFilter : GoodIn wsX5_cost wsX5_isFilter := goodIn_r _ [6, 7, 8, 5, 9] (by decide +kernel) (by decide +kernel)
set_option maxRecDepth 20000 in
theorem gX5_cost_X5_isFilter : GoodIn wsX5_cost (va_wsS RX5 52 yX5_isFilter wsX5_isFilter) := goodIn_app (goodIn_of _ (by decide +kernel)) ggX5_cost_X5_isFilter
set_option maxRecDepth 20000 in
theorem ggX5_cost_X5_goesWell : GoodIn wsX5_cost wsX5_goesWell := goodIn_r _ [13, 14, 49, 50, 51, 52, 53, 54, 55, 56, 57, 58, 59, 60, 61, 62] (by decide +kernel) (by decide +kernel)
set_option maxRecDepth 20000 in
theorem gX5_cost_X5_goesWell : GoodIn wsX5_cost (wsV RX5 59 RX5 yX5_goesWell wsX5_goesWell) := goodIn_app (goodIn_of _ (by decide +kernel)) ggX5_cost_X5_goesWell
set_option maxRecDepth 20000 in
theorem ggX5_cost_X5_lay : GoodIn wsX5_cost wsX5_lay := goodIn_r _ [18, 2, 19, 20, 21, 22, 5, 23, 24, 25, 26, 27, 28, 29, 30, 31, 32, 33, 34, 35, 36, 37, 38, 39, 40, 41, 42, 43, 44, 45, 46, 47, 48, 49, 50, 51, 52, 53, 54, 55, 56, 57, 58, 59, 60, 61, 62] (by decide +kernel) (by decide +kernel)
set_option maxRecDepth 20000 in
theorem gX5_cost_X5_lay : GoodIn wsX5_cost (wsV RX5 98 RX5 yX5_lay wsX5_lay) := goodIn_app (goodIn_of _ (by decide +kernel)) ggX5_cost_X5_lay
set_option maxRecDepth 20000 in
theorem ggX5_cost_X5_costOf : GoodIn wsX5_cost wsX5_costOf := goodIn_r _ [48, 44, 49, 50, 51, 52, 53, 54, 55, 56, 57, 58, 59, 60, 61, 62] (by decide +kernel) (by decide +kernel)
set_option maxRecDepth 20000 in
theorem gX5_cost_X5_costOf : GoodIn wsX5_cost (wsV RX5 89 RX5 yX5_costOf wsX5_costOf) := goodIn_app (goodIn_of _ (by decide +kernel)) ggX5_cost_X5_costOf
set_option maxRecDepth 20000 in
theorem ggX5_worst_X5_isFilter : GoodIn wsX5_worst wsX5_isFilter := goodIn_r _ [5, 6, 7, 4, 8] (by decide +kernel) (by decide +kernel)
set_option maxRecDepth 20000 in
theorem gX5_worst_X5_isFilter : GoodIn wsX5_worst (va_wsS RX5 52 yX5_isFilter wsX5_isFilter) := goodIn_app (goodIn_of _ (by decide +kernel)) ggX5_worst_X5_isFilter
set_option maxRecDepth 20000 in
theorem ggX5_worst_X5_goesWell : GoodIn wsX5_worst wsX5_goesWell := goodIn_r _ [12, 13, 65, 66, 67, 68, 69, 70, 71, 72, 73, 74, 75, 76, 77, 78] (by decide +kernel) (by decide +kernel)
set_option maxRecDepth 20000 in
theorem gX5_worst_X5_goesWell : GoodIn wsX5_worst (wsV RX5 59 RX5 yX5_goesWell wsX5_goesWell) := goodIn_app (goodIn_of _ (by decide +kernel)) ggX5_worst_X5_goesWell
set_option maxRecDepth 20000 in
theorem ggX5_worst_X5_worstOf : GoodIn wsX5_worst wsX5_worstOf := goodIn_r _ [17, 18, 19, 20, 4, 21, 22, 23, 24, 25, 26, 27, 28, 29, 30, 31, 32, 33, 34, 35, 36, 37, 38, 39, 40, 41, 42, 43, 44, 45, 46, 47, 48, 49, 50, 51, 52, 53, 54, 55, 56, 57, 58, 59, 60, 61, 62, 63, 64, 65, 66, 67, 68, 69, 70, 71, 72, 73, 74, 75, 76, 77, 78] (by decide +kernel) (by decide +kernel)
set_option maxRecDepth 20000 in
theorem gX5_worst_X5_worstOf : GoodIn wsX5_worst (wsV RX5 109 RX5 yX5_worstOf wsX5_worstOf) := goodIn_app (goodIn_of _ (by decide +kernel)) ggX5_worst_X5_worstOf
set_option maxRecDepth 20000 in
theorem ggX5_judgeBy_X5_matches : GoodIn wsX5_judgeBy wsX5_matches := goodIn_r _ [8, 9, 10, 11, 12, 13, 14, 15, 16, 17, 18, 19, 20, 21, 22, 23, 24, 25, 26] (by decide +kernel) (by decide +kernel)
set_option maxRecDepth 20000 in
theorem gX5_judgeBy_X5_matches : GoodIn wsX5_judgeBy (wsV RX5 112 RX5 yX5_matches wsX5_matches) := goodIn_app (goodIn_of _ (by decide +kernel)) ggX5_judgeBy_X5_matches
set_option maxRecDepth 20000 in
theorem ggX5_strictest_X5_judgeBy : GoodIn wsX5_strictest wsX5_judgeBy := goodIn_r _ [5, 6, 7, 8, 9, 10, 11, 4, 12, 13, 14, 15, 16, 17, 18, 19, 20, 21, 22, 23, 24, 25, 26, 27, 28, 29, 30] (by decide +kernel) (by decide +kernel)
set_option maxRecDepth 20000 in
theorem gX5_strictest_X5_judgeBy : GoodIn wsX5_strictest (wsV RX5 116 RX5 yX5_judgeBy wsX5_judgeBy) := goodIn_app (goodIn_of _ (by decide +kernel)) ggX5_strictest_X5_judgeBy
set_option maxRecDepth 20000 in
theorem ggX5_judge_X5_isNumber : GoodIn wsX5_judge wsX5_isNumber := goodIn_r _ [5, 6, 7, 4, 8] (by decide +kernel) (by decide +kernel)
set_option maxRecDepth 20000 in
theorem gX5_judge_X5_isNumber : GoodIn wsX5_judge (va_wsS RX5 56 yX5_isNumber wsX5_isNumber) := goodIn_app (goodIn_of _ (by decide +kernel)) ggX5_judge_X5_isNumber
set_option maxRecDepth 20000 in
theorem ggX5_judge_X5_goesWell : GoodIn wsX5_judge wsX5_goesWell := goodIn_r _ [12, 13, 33, 34, 35, 36, 37, 38, 39, 40, 41, 42, 43, 44, 45, 46] (by decide +kernel) (by decide +kernel)
set_option maxRecDepth 20000 in
theorem gX5_judge_X5_goesWell : GoodIn wsX5_judge (wsV RX5 59 RX5 yX5_goesWell wsX5_goesWell) := goodIn_app (goodIn_of _ (by decide +kernel)) ggX5_judge_X5_goesWell
set_option maxRecDepth 20000 in
theorem ggX5_judge_X5_strictest : GoodIn wsX5_judge wsX5_strictest := goodIn_r _ [17, 18, 19, 20, 4, 21, 22, 23, 24, 25, 26, 27, 28, 29, 30, 31, 32, 33, 34, 35, 36, 37, 38, 39, 40, 41, 42, 43, 44, 45, 46] (by decide +kernel) (by decide +kernel)
set_option maxRecDepth 20000 in
theorem gX5_judge_X5_strictest : GoodIn wsX5_judge (wsV RX5 120 RX5 yX5_strictest wsX5_strictest) := goodIn_app (goodIn_of _ (by decide +kernel)) ggX5_judge_X5_strictest
set_option maxRecDepth 20000 in
theorem ggX5_judgeByRules_X5_isNumber : GoodIn wsX5_judgeByRules wsX5_isNumber := goodIn_r _ [4, 5, 6, 3, 7] (by decide +kernel) (by decide +kernel)
set_option maxRecDepth 20000 in
theorem gX5_judgeByRules_X5_isNumber : GoodIn wsX5_judgeByRules (va_wsS RX5 56 yX5_isNumber wsX5_isNumber) := goodIn_app (goodIn_of _ (by decide +kernel)) ggX5_judgeByRules_X5_isNumber
set_option maxRecDepth 20000 in
theorem ggX5_judgeByRules_X5_goesWell : GoodIn wsX5_judgeByRules wsX5_goesWell := goodIn_r _ [11, 12, 32, 33, 34, 35, 36, 37, 38, 39, 40, 41, 42, 43, 44, 45] (by decide +kernel) (by decide +kernel)
set_option maxRecDepth 20000 in
theorem gX5_judgeByRules_X5_goesWell : GoodIn wsX5_judgeByRules (wsV RX5 59 RX5 yX5_goesWell wsX5_goesWell) := goodIn_app (goodIn_of _ (by decide +kernel)) ggX5_judgeByRules_X5_goesWell
set_option maxRecDepth 20000 in
theorem ggX5_judgeByRules_X5_strictest : GoodIn wsX5_judgeByRules wsX5_strictest := goodIn_r _ [16, 17, 18, 19, 3, 20, 21, 22, 23, 24, 25, 26, 27, 28, 29, 30, 31, 32, 33, 34, 35, 36, 37, 38, 39, 40, 41, 42, 43, 44, 45] (by decide +kernel) (by decide +kernel)
set_option maxRecDepth 20000 in
theorem gX5_judgeByRules_X5_strictest : GoodIn wsX5_judgeByRules (wsV RX5 120 RX5 yX5_strictest wsX5_strictest) := goodIn_app (goodIn_of _ (by decide +kernel)) ggX5_judgeByRules_X5_strictest
set_option maxRecDepth 20000 in
theorem ggX5_halvesMade_X5_hiderOf : GoodIn wsX5_halvesMade wsX5_hiderOf := goodIn_r _ [11, 5, 4, 12, 13, 14, 15, 10, 16, 2, 3, 20, 21, 22, 23, 24, 25, 26, 27, 28, 29, 30, 31, 32, 33] (by decide +kernel) (by decide +kernel)
set_option maxRecDepth 20000 in
theorem gX5_halvesMade_X5_hiderOf : GoodIn wsX5_halvesMade (wsV RX5 75 RX5 yX5_hiderOf wsX5_hiderOf) := goodIn_app (goodIn_of _ (by decide +kernel)) ggX5_halvesMade_X5_hiderOf
set_option maxRecDepth 20000 in
theorem ggX5_halvesMade_X5_halvesOf : GoodIn wsX5_halvesMade wsX5_halvesOf := goodIn_r _ [19, 6] (by decide +kernel) (by decide +kernel)
set_option maxRecDepth 20000 in
theorem gX5_halvesMade_X5_halvesOf : GoodIn wsX5_halvesMade (va_wsS RX5 94 yX5_halvesOf wsX5_halvesOf) := goodIn_app (goodIn_of _ (by decide +kernel)) ggX5_halvesMade_X5_halvesOf
set_option maxRecDepth 20000 in
theorem ggX5_path_X5_isNumber : GoodIn wsX5_path wsX5_isNumber := goodIn_r _ [5, 6, 7, 4, 8] (by decide +kernel) (by decide +kernel)
set_option maxRecDepth 20000 in
theorem gX5_path_X5_isNumber : GoodIn wsX5_path (va_wsS RX5 56 yX5_isNumber wsX5_isNumber) := goodIn_app (goodIn_of _ (by decide +kernel)) ggX5_path_X5_isNumber
set_option maxRecDepth 20000 in
theorem ggX5_path_X5_goesWell : GoodIn wsX5_path wsX5_goesWell := goodIn_r _ [12, 13, 61, 62, 63, 64, 65, 66, 67, 68, 69, 70, 71, 72, 73, 74] (by decide +kernel) (by decide +kernel)
set_option maxRecDepth 20000 in
theorem gX5_path_X5_goesWell : GoodIn wsX5_path (wsV RX5 59 RX5 yX5_goesWell wsX5_goesWell) := goodIn_app (goodIn_of _ (by decide +kernel)) ggX5_path_X5_goesWell
set_option maxRecDepth 20000 in
theorem ggX5_path_X5_lay : GoodIn wsX5_path wsX5_lay := goodIn_r _ [17, 18, 19, 20, 21, 22, 4, 23, 24, 25, 26, 27, 28, 29, 30, 31, 32, 33, 34, 35, 36, 37, 38, 39, 40, 41, 42, 43, 44, 45, 46, 47, 48, 61, 62, 63, 64, 65, 66, 67, 68, 69, 70, 71, 72, 73, 74] (by decide +kernel) (by decide +kernel)
set_option maxRecDepth 20000 in
theorem gX5_path_X5_lay : GoodIn wsX5_path (wsV RX5 98 RX5 yX5_lay wsX5_lay) := goodIn_app (goodIn_of _ (by decide +kernel)) ggX5_path_X5_lay
set_option maxRecDepth 20000 in
theorem ggX5_path_X5_testsOf : GoodIn wsX5_path wsX5_testsOf := goodIn_r _ [52, 18, 43, 19, 61, 62, 63, 64, 65, 66, 67, 68, 69, 70, 71, 72, 73, 74] (by decide +kernel) (by decide +kernel)
set_option maxRecDepth 20000 in
theorem gX5_path_X5_testsOf : GoodIn wsX5_path (wsV RX5 102 RX5 yX5_testsOf wsX5_testsOf) := goodIn_app (goodIn_of _ (by decide +kernel)) ggX5_path_X5_testsOf
end
section
set_option maxRecDepth 20000 in
theorem ggX5_path_X5_halvesMade : GoodIn wsX5_path wsX5_halvesMade := goodIn_r _ [56, 24, 25, 37, 31, 30, 57, 26, 27, 28, 4, 29, 32, 33, 34, 35, 36, 58, 59, 60, 61, 62, 63, 64, 65, 66, 67, 68, 69, 70, 71, 72, 73, 74] (by decide +kernel) (by decide +kernel)
set_option maxRecDepth 20000 in
theorem gX5_path_X5_halvesMade : GoodIn wsX5_path (wsV RX5 124 RX5 yX5_halvesMade wsX5_halvesMade) := goodIn_app (goodIn_of _ (by decide +kernel)) ggX5_path_X5_halvesMade
set_option maxRecDepth 20000 in
theorem ggX5_actionOf_X5_isFilter : GoodIn wsX5_actionOf wsX5_isFilter := goodIn_r _ [4, 5, 6, 3, 7] (by decide +kernel) (by decide +kernel)
set_option maxRecDepth 20000 in
theorem gX5_actionOf_X5_isFilter : GoodIn wsX5_actionOf (va_wsS RX5 52 yX5_isFilter wsX5_isFilter) := goodIn_app (goodIn_of _ (by decide +kernel)) ggX5_actionOf_X5_isFilter
set_option maxRecDepth 20000 in
theorem ggX5_actionOf_X5_isNumber : GoodIn wsX5_actionOf wsX5_isNumber := goodIn_r _ [10, 5, 6, 3, 7] (by decide +kernel) (by decide +kernel)
set_option maxRecDepth 20000 in
theorem gX5_actionOf_X5_isNumber : GoodIn wsX5_actionOf (va_wsS RX5 56 yX5_isNumber wsX5_isNumber) := goodIn_app (goodIn_of _ (by decide +kernel)) ggX5_actionOf_X5_isNumber
set_option maxRecDepth 20000 in
theorem ggX5_actionOf_X5_goesWell : GoodIn wsX5_actionOf wsX5_goesWell := goodIn_r _ [14, 15, 31, 32, 33, 34, 35, 36, 37, 38, 39, 40, 41, 42, 43, 44] (by decide +kernel) (by decide +kernel)
set_option maxRecDepth 20000 in
theorem gX5_actionOf_X5_goesWell : GoodIn wsX5_actionOf (wsV RX5 59 RX5 yX5_goesWell wsX5_goesWell) := goodIn_app (goodIn_of _ (by decide +kernel)) ggX5_actionOf_X5_goesWell
set_option maxRecDepth 20000 in
theorem ggX5_actionOf_X5_judgeBy : GoodIn wsX5_actionOf wsX5_judgeBy := goodIn_r _ [19, 20, 21, 22, 23, 24, 25, 3, 26, 27, 28, 29, 30, 31, 32, 33, 34, 35, 36, 37, 38, 39, 40, 41, 42, 43, 44] (by decide +kernel) (by decide +kernel)
set_option maxRecDepth 20000 in
theorem gX5_actionOf_X5_judgeBy : GoodIn wsX5_actionOf (wsV RX5 116 RX5 yX5_judgeBy wsX5_judgeBy) := goodIn_app (goodIn_of _ (by decide +kernel)) ggX5_actionOf_X5_judgeBy
end
section
set_option maxRecDepth 20000 in
theorem ggJxc12de_init_da8c8_Jxa1e45_init_da8c8 : GoodIn wsJxc12de_init_da8c8 wsJxa1e45_init_da8c8 := goodIn_r _ [5, 6, 7, 8] (by decide +kernel) (by decide +kernel)
set_option maxRecDepth 20000 in
theorem gJxc12de_init_da8c8_Jxa1e45_init_da8c8 : GoodIn wsJxc12de_init_da8c8 (wsJxa1e45_init_da8c8) := ggJxc12de_init_da8c8_Jxa1e45_init_da8c8
set_option maxRecDepth 20000 in
theorem ggJx4a65c_init_da8c8_Jxc12de_init_da8c8 : GoodIn wsJx4a65c_init_da8c8 wsJxc12de_init_da8c8 := goodIn_r _ [6, 7, 8, 9, 10, 11, 12, 13, 14, 15, 16, 17] (by decide +kernel) (by decide +kernel)
set_option maxRecDepth 20000 in
theorem gJx4a65c_init_da8c8_Jxc12de_init_da8c8 : GoodIn wsJx4a65c_init_da8c8 (wsJxc12de_init_da8c8) := ggJx4a65c_init_da8c8_Jxc12de_init_da8c8
set_option maxRecDepth 20000 in
theorem ggJx4a65c_grow_92f84_J8_newLength_cabcc : GoodIn wsJx4a65c_grow_92f84 wsJ8_newLength_cabcc := goodIn_r _ [11, 12, 4, 5, 6, 13, 14, 15, 10, 16] (by decide +kernel) (by decide +kernel)
set_option maxRecDepth 20000 in
theorem gJx4a65c_grow_92f84_J8_newLength_cabcc : GoodIn wsJx4a65c_grow_92f84 (va_wsS RJx4a65c 73 yJ8_newLength_cabcc wsJ8_newLength_cabcc) := goodIn_app (goodIn_of _ (by decide +kernel)) ggJx4a65c_grow_92f84_J8_newLength_cabcc
set_option maxRecDepth 20000 in
theorem ggJx4a65c_grow_92f84_J7_copyOf_1904c : GoodIn wsJx4a65c_grow_92f84 wsJ7_copyOf_1904c := goodIn_r _ [20, 21, 22, 23, 24, 25, 26, 19, 27, 28, 29, 30, 31, 5, 32, 33, 34, 35, 36] (by decide +kernel) (by decide +kernel)
set_option maxRecDepth 20000 in
theorem gJx4a65c_grow_92f84_J7_copyOf_1904c : GoodIn wsJx4a65c_grow_92f84 (va_wsS RJx4a65c 66 yJ7_copyOf_1904c wsJ7_copyOf_1904c) := goodIn_app (goodIn_of _ (by decide +kernel)) ggJx4a65c_grow_92f84_J7_copyOf_1904c
set_option maxRecDepth 20000 in
theorem ggJx4a65c_grow_d5877_Jx4a65c_grow_92f84 : GoodIn wsJx4a65c_grow_d5877 wsJx4a65c_grow_92f84 := goodIn_r _ [6, 7, 8, 9, 10, 11, 12, 13, 14, 15, 16, 17, 18, 19, 20, 21, 22, 23, 24, 25, 26, 27, 28, 29, 30, 31, 32, 33, 34, 35, 36, 37, 38, 39, 40, 41, 42, 43, 44, 45] (by decide +kernel) (by decide +kernel)
set_option maxRecDepth 20000 in
theorem gJx4a65c_grow_d5877_Jx4a65c_grow_92f84 : GoodIn wsJx4a65c_grow_d5877 (wsV RJx4a65c 69 RJx4a65c yJx4a65c_grow_92f84 wsJx4a65c_grow_92f84) := goodIn_app (goodIn_of _ (by decide +kernel)) ggJx4a65c_grow_d5877_Jx4a65c_grow_92f84
set_option maxRecDepth 20000 in
theorem ggJx4a65c_get_915e3_J15_checkIndex_7cf53 : GoodIn wsJx4a65c_get_915e3 wsJ15_checkIndex_7cf53 := goodIn_r _ [5, 6, 7, 8, 9] (by decide +kernel) (by decide +kernel)
set_option maxRecDepth 20000 in
theorem gJx4a65c_get_915e3_J15_checkIndex_7cf53 : GoodIn wsJx4a65c_get_915e3 (va_wsS RJx4a65c 118 yJ15_checkIndex_7cf53 wsJ15_checkIndex_7cf53) := goodIn_app (goodIn_of _ (by decide +kernel)) ggJx4a65c_get_915e3_J15_checkIndex_7cf53
set_option maxRecDepth 20000 in
theorem ggJx4a65c_get_915e3_Jx4a65c_elementData_915e3 : GoodIn wsJx4a65c_get_915e3 wsJx4a65c_elementData_915e3 := goodIn_r _ [14, 15, 16, 17, 18] (by decide +kernel) (by decide +kernel)
set_option maxRecDepth 20000 in
theorem gJx4a65c_get_915e3_Jx4a65c_elementData_915e3 : GoodIn wsJx4a65c_get_915e3 (wsV RJx4a65c 123 RJx4a65c yJx4a65c_elementData_915e3 wsJx4a65c_elementData_915e3) := goodIn_app (goodIn_of _ (by decide +kernel)) ggJx4a65c_get_915e3_Jx4a65c_elementData_915e3
set_option maxRecDepth 20000 in
theorem ggJx4a65c_add_72be8_Jx4a65c_grow_d5877 : GoodIn wsJx4a65c_add_72be8 wsJx4a65c_grow_d5877 := goodIn_r _ [6, 1, 7, 8, 9, 5, 10, 11, 12, 13, 14, 15, 16, 17, 18, 19, 20, 21, 22, 23, 24, 25, 26, 27, 28, 29, 30, 31, 32, 33, 34, 35, 36, 37, 38, 39, 40, 41, 42, 43, 44, 45, 46, 47, 48, 49] (by decide +kernel) (by decide +kernel)
set_option maxRecDepth 20000 in
theorem gJx4a65c_add_72be8_Jx4a65c_grow_d5877 : GoodIn wsJx4a65c_add_72be8 (wsV RJx4a65c 129 RJx4a65c yJx4a65c_grow_d5877 wsJx4a65c_grow_d5877) := goodIn_app (goodIn_of _ (by decide +kernel)) ggJx4a65c_add_72be8_Jx4a65c_grow_d5877
set_option maxRecDepth 20000 in
theorem ggJx4a65c_add_9ea2d_Jx4a65c_add_72be8 : GoodIn wsJx4a65c_add_9ea2d wsJx4a65c_add_72be8 := goodIn_r _ [9, 4, 10, 11, 12, 8, 13, 14, 15, 16, 17, 3, 18, 19, 20, 21, 22, 23, 24, 25, 26, 27, 28, 29, 30, 31, 32, 33, 34, 35, 36, 37, 38, 39, 40, 41, 42, 43, 44, 45, 46, 47, 48, 49, 50, 51, 52, 53, 54, 55] (by decide +kernel) (by decide +kernel)
set_option maxRecDepth 20000 in
theorem gJx4a65c_add_9ea2d_Jx4a65c_add_72be8 : GoodIn wsJx4a65c_add_9ea2d (wsV RJx4a65c 131 RJx4a65c yJx4a65c_add_72be8 wsJx4a65c_add_72be8) := goodIn_app (goodIn_of _ (by decide +kernel)) ggJx4a65c_add_9ea2d_Jx4a65c_add_72be8
set_option maxRecDepth 20000 in
theorem ggJx4a65c_remove_915e3_J15_checkIndex_7cf53 : GoodIn wsJx4a65c_remove_915e3 wsJ15_checkIndex_7cf53 := goodIn_r _ [6, 7, 8, 9, 10] (by decide +kernel) (by decide +kernel)
set_option maxRecDepth 20000 in
theorem gJx4a65c_remove_915e3_J15_checkIndex_7cf53 : GoodIn wsJx4a65c_remove_915e3 (va_wsS RJx4a65c 118 yJ15_checkIndex_7cf53 wsJ15_checkIndex_7cf53) := goodIn_app (goodIn_of _ (by decide +kernel)) ggJx4a65c_remove_915e3_J15_checkIndex_7cf53
set_option maxRecDepth 20000 in
theorem ggJx4a65c_remove_915e3_Jx4a65c_fastRemove_b59b0 : GoodIn wsJx4a65c_remove_915e3 wsJx4a65c_fastRemove_b59b0 := goodIn_r _ [15, 16, 17, 1, 18, 19, 20, 21, 22, 23, 24] (by decide +kernel) (by decide +kernel)
set_option maxRecDepth 20000 in
theorem gJx4a65c_remove_915e3_Jx4a65c_fastRemove_b59b0 : GoodIn wsJx4a65c_remove_915e3 (wsV RJx4a65c 144 RJx4a65c yJx4a65c_fastRemove_b59b0 wsJx4a65c_fastRemove_b59b0) := goodIn_app (goodIn_of _ (by decide +kernel)) ggJx4a65c_remove_915e3_Jx4a65c_fastRemove_b59b0
set_option maxRecDepth 20000 in
theorem ggJ7_copyOf_1904c_J7_copyOf_6403c : GoodIn wsJ7_copyOf_1904c wsJ7_copyOf_6403c := goodIn_r _ [8, 9, 10, 11, 12, 13, 14, 15, 16, 17, 18] (by decide +kernel) (by decide +kernel)
set_option maxRecDepth 20000 in
theorem gJ7_copyOf_1904c_J7_copyOf_6403c : GoodIn wsJ7_copyOf_1904c (va_wsS RJ7 300 yJ7_copyOf_6403c wsJ7_copyOf_6403c) := goodIn_app (goodIn_of _ (by decide +kernel)) ggJ7_copyOf_1904c_J7_copyOf_6403c
set_option maxRecDepth 20000 in
theorem ggJ15_checkIndex_7cf53_J3_checkIndex_8e157 : GoodIn wsJ15_checkIndex_7cf53 wsJ3_checkIndex_8e157 := goodIn_r _ [4] (by decide +kernel) (by decide +kernel)
set_option maxRecDepth 20000 in
theorem gJ15_checkIndex_7cf53_J3_checkIndex_8e157 : GoodIn wsJ15_checkIndex_7cf53 (va_wsS RJ15 105 yJ3_checkIndex_8e157 wsJ3_checkIndex_8e157) := goodIn_app (goodIn_of _ (by decide +kernel)) ggJ15_checkIndex_7cf53_J3_checkIndex_8e157
set_option maxRecDepth 20000 in
theorem ggJ8_newLength_cabcc_J8_hugeLength_7cf53 : GoodIn wsJ8_newLength_cabcc wsJ8_hugeLength_7cf53 := goodIn_r _ [9, 5] (by decide +kernel) (by decide +kernel)
set_option maxRecDepth 20000 in
theorem gJ8_newLength_cabcc_J8_hugeLength_7cf53 : GoodIn wsJ8_newLength_cabcc (va_wsS RJ8 201 yJ8_hugeLength_7cf53 wsJ8_hugeLength_7cf53) := goodIn_app (goodIn_of _ (by decide +kernel)) ggJ8_newLength_cabcc_J8_hugeLength_7cf53
end
section
set_option maxRecDepth 20000 in
theorem ggL_add_X4_add : GoodIn wsL_add wsX4_add := goodIn_ca (goodIn_ca (goodIn_r _ [7, 8, 9, 10, 11, 12, 13, 14, 15, 16, 17, 18, 6, 19, 20, 21, 22, 23, 24, 25, 26, 27, 28, 29, 30, 31, 32, 33, 34, 35, 36, 37, 38, 39, 40, 41, 42, 43, 44, 45, 46, 47, 48, 49, 50, 51, 52, 53, 54, 55, 56, 57, 58, 59, 60, 61, 62, 63, 64, 65, 66, 67, 68, 69, 70, 71, 72, 73, 74, 75, 76, 77, 78, 79, 80, 81, 82, 83, 84, 85, 86, 87, 88, 89, 90, 91, 92, 93, 94, 95, 96, 97, 98, 99, 100, 101, 102, 103, 104, 105, 106, 107, 108, 109, 110, 111, 112, 113, 114, 115, 116, 117, 118, 119, 120, 121, 122, 123] (by decide +kernel) (by decide +kernel)) (goodIn_sub (fun _ h => List.mem_cons_of_mem _ (List.mem_append_left _ (List.mem_append_right _ h))) (by decide +kernel))) (goodIn_sub (fun _ h => List.mem_cons_of_mem _ (List.mem_append_right _ h)) (by decide +kernel))
set_option maxRecDepth 20000 in
theorem gL_add_X4_add : GoodIn wsL_add (wsV RL 7 RX4 yX4_add wsX4_add) := goodIn_app (goodIn_of _ (by decide +kernel)) ggL_add_X4_add
set_option maxRecDepth 20000 in
theorem ggL_remove_X4_remove : GoodIn wsL_remove wsX4_remove := goodIn_ca (goodIn_ca (goodIn_r _ [7, 8, 9, 10, 11, 6, 12, 13, 14, 15, 16, 17, 18, 19, 20, 21, 22, 23, 24, 25, 26, 27, 28, 29, 30, 31, 32, 33, 34, 35, 36, 37, 38, 39, 40, 41, 42, 43, 44, 45, 46, 47, 48, 49, 50, 51, 52, 53, 54, 55, 56, 57, 58, 59, 60, 61, 62, 63, 64, 65, 66, 67, 68] (by decide +kernel) (by decide +kernel)) (goodIn_sub (fun _ h => List.mem_cons_of_mem _ (List.mem_append_left _ (List.mem_append_right _ h))) (by decide +kernel))) (goodIn_sub (fun _ h => List.mem_cons_of_mem _ (List.mem_append_right _ h)) (by decide +kernel))
set_option maxRecDepth 20000 in
theorem gL_remove_X4_remove : GoodIn wsL_remove (wsV RL 17 RX4 yX4_remove wsX4_remove) := goodIn_app (goodIn_of _ (by decide +kernel)) ggL_remove_X4_remove
set_option maxRecDepth 20000 in
theorem ggL_setDefault_X4_setDefault : GoodIn wsL_setDefault wsX4_setDefault := goodIn_ca (goodIn_r _ [6, 7, 8, 9, 10, 5, 11, 12, 13, 14, 15, 16, 17, 18, 19, 20, 21, 22, 23, 24, 25] (by decide +kernel) (by decide +kernel)) (goodIn_sub (fun _ h => List.mem_cons_of_mem _ (List.mem_append_right _ h)) (by decide +kernel))
set_option maxRecDepth 20000 in
theorem gL_setDefault_X4_setDefault : GoodIn wsL_setDefault (wsV RL 23 RX4 yX4_setDefault wsX4_setDefault) := goodIn_app (goodIn_of _ (by decide +kernel)) ggL_setDefault_X4_setDefault
set_option maxRecDepth 20000 in
theorem ggL_setFrequency_X4_setFrequency : GoodIn wsL_setFrequency wsX4_setFrequency := goodIn_ca (goodIn_r _ [6, 7, 8, 9, 10, 11, 12, 5, 13, 14, 15, 16, 17] (by decide +kernel) (by decide +kernel)) (goodIn_sub (fun _ h => List.mem_cons_of_mem _ (List.mem_append_right _ h)) (by decide +kernel))
set_option maxRecDepth 20000 in
theorem gL_setFrequency_X4_setFrequency : GoodIn wsL_setFrequency (wsV RL 26 RX4 yX4_setFrequency wsX4_setFrequency) := goodIn_app (goodIn_of _ (by decide +kernel)) ggL_setFrequency_X4_setFrequency
set_option maxRecDepth 20000 in
theorem ggL_rules_X4_rules : GoodIn wsL_rules wsX4_rules := goodIn_ca (goodIn_r _ [6, 7, 8, 9, 5, 10, 11, 12, 13, 14, 15, 16, 17, 18, 19, 20, 21, 22, 23, 24, 25, 26, 27, 28, 29, 30] (by decide +kernel) (by decide +kernel)) (goodIn_sub (fun _ h => List.mem_cons_of_mem _ (List.mem_append_right _ h)) (by decide +kernel))
set_option maxRecDepth 20000 in
theorem gL_rules_X4_rules : GoodIn wsL_rules (wsV RL 29 RX4 yX4_rules wsX4_rules) := goodIn_app (goodIn_of _ (by decide +kernel)) ggL_rules_X4_rules
set_option maxRecDepth 20000 in
theorem ggL_hider_X4_hider : GoodIn wsL_hider wsX4_hider := goodIn_ca (goodIn_ca (goodIn_r _ [7, 8, 9, 10, 6, 11, 12, 13, 14, 15, 16, 17, 18, 19, 20, 21, 22, 23, 24, 25, 26, 27, 28, 29, 30, 31, 32, 33, 34, 35, 36, 37, 38, 39, 40, 41, 42, 43, 44, 45, 46, 47, 48, 49, 50, 51, 52, 53, 54, 55, 56, 57, 58, 59, 60, 61, 62, 63, 64, 65, 66, 67, 68, 69, 70, 71, 72, 73, 74, 75, 76, 77, 78, 79, 80, 81] (by decide +kernel) (by decide +kernel)) (goodIn_sub (fun _ h => List.mem_cons_of_mem _ (List.mem_append_left _ (List.mem_append_right _ h))) (by decide +kernel))) (goodIn_sub (fun _ h => List.mem_cons_of_mem _ (List.mem_append_right _ h)) (by decide +kernel))
set_option maxRecDepth 20000 in
theorem gL_hider_X4_hider : GoodIn wsL_hider (wsV RL 33 RX4 yX4_hider wsX4_hider) := goodIn_app (goodIn_of _ (by decide +kernel)) ggL_hider_X4_hider
set_option maxRecDepth 20000 in
theorem ggL_compile_X4_compile : GoodIn wsL_compile wsX4_compile := goodIn_ca (goodIn_r _ [6, 7, 8, 9, 10, 11, 12, 5, 13, 14, 15, 16, 17, 18, 19, 20, 21, 22, 23, 24, 25, 26, 27, 28, 29, 30, 31, 32, 33, 34, 35, 36, 37, 38, 39, 40, 41, 42, 43, 44, 45, 46, 47, 48, 49, 50, 51, 52, 53, 54, 55, 56, 57, 58, 59, 60, 61, 62, 63, 64, 65, 66, 67, 68, 69, 70, 71, 72, 73, 74, 75, 76, 77, 78, 79, 80, 81, 82, 83, 84, 85, 86, 87, 88, 89, 90, 91, 92, 93, 94, 95, 96, 97, 98, 99, 100, 101, 102, 103, 104, 105, 106, 107, 108, 109, 110, 111, 112, 113, 114, 115, 116, 117, 118, 119, 120, 121, 122, 123, 124, 125, 126, 127, 128, 129, 130, 131, 132, 133, 134, 135, 136, 137, 138, 139, 140, 141, 142, 143, 144, 145, 146, 147, 148, 149, 150, 151, 152, 153, 154, 155, 156, 157, 158, 159, 160, 161, 162, 163, 164, 165, 166, 167, 168, 169, 170, 171, 172, 173, 174, 175, 176, 177, 178, 179, 180, 181, 182, 183, 184, 185, 186, 187, 188, 189, 190, 191, 192, 193, 194, 195, 196, 197, 198, 199, 200, 201, 202, 203, 204, 205, 206, 207, 208, 209, 210, 211, 212, 213, 214, 215, 216, 217, 218, 219, 220, 221, 222, 223, 224, 225, 226, 227, 228, 229, 230, 231, 232, 233, 234, 235, 236, 237, 238, 239, 240, 241, 242, 243, 244, 245, 246, 247, 248, 249, 250, 251] (by decide +kernel) (by decide +kernel)) (goodIn_sub (fun _ h => List.mem_cons_of_mem _ (List.mem_append_right _ h)) (by decide +kernel))
set_option maxRecDepth 20000 in
theorem gL_compile_X4_compile : GoodIn wsL_compile (wsV RL 36 RX4 yX4_compile wsX4_compile) := goodIn_app (goodIn_of _ (by decide +kernel)) ggL_compile_X4_compile
set_option maxRecDepth 20000 in
theorem ggL_test_X4_test : GoodIn wsL_test wsX4_test := goodIn_ca (goodIn_ca (goodIn_r _ [7, 8, 9, 10, 11, 12, 6, 13, 14, 15, 16, 17, 18, 19, 20, 21, 22, 23, 24, 25, 26, 27, 28, 29, 30, 31, 32, 33, 34, 35, 36, 37, 38, 39] (by decide +kernel) (by decide +kernel)) (goodIn_sub (fun _ h => List.mem_cons_of_mem _ (List.mem_append_left _ (List.mem_append_right _ h))) (by decide +kernel))) (goodIn_sub (fun _ h => List.mem_cons_of_mem _ (List.mem_append_right _ h)) (by decide +kernel))
set_option maxRecDepth 20000 in
theorem gL_test_X4_test : GoodIn wsL_test (wsV RL 39 RX4 yX4_test wsX4_test) := goodIn_app (goodIn_of _ (by decide +kernel)) ggL_test_X4_test
set_option maxRecDepth 20000 in
theorem ggL_cost_X4_cost : GoodIn wsL_cost wsX4_cost := goodIn_ca (goodIn_ca (goodIn_r _ [7, 8, 9, 10, 6, 11, 12, 13, 14, 15, 16, 17, 18, 19, 20, 21, 22, 23, 24, 25, 26, 27, 28, 29] (by decide +kernel) (by decide +kernel)) (goodIn_sub (fun _ h => List.mem_cons_of_mem _ (List.mem_append_left _ (List.mem_append_right _ h))) (by decide +kernel))) (goodIn_sub (fun _ h => List.mem_cons_of_mem _ (List.mem_append_right _ h)) (by decide +kernel))
set_option maxRecDepth 20000 in
theorem gL_cost_X4_cost : GoodIn wsL_cost (wsV RL 42 RX4 yX4_cost wsX4_cost) := goodIn_app (goodIn_of _ (by decide +kernel)) ggL_cost_X4_cost
set_option maxRecDepth 20000 in
theorem ggL_worst_X4_worst : GoodIn wsL_worst wsX4_worst := goodIn_ca (goodIn_ca (goodIn_r _ [7, 8, 9, 10, 6, 11, 12, 13, 14, 15, 16, 17, 18, 19, 20, 21, 22, 23, 24, 25, 26, 27, 28, 29, 30, 31, 32, 33, 34, 35, 36, 37, 38, 39, 40, 41, 42, 43, 44, 45, 46, 47, 48, 49, 50, 51, 52, 53, 54, 55, 56, 57, 58, 59, 60, 61, 62, 63, 64, 65, 66, 67, 68, 69, 70, 71, 72, 73, 74, 75, 76, 77, 78, 79, 80, 81, 82, 83, 84, 85, 86, 87, 88, 89, 90, 91, 92, 93, 94, 95, 96, 97, 98, 99, 100, 101, 102, 103, 104, 105, 106, 107, 108, 109, 110, 111, 112] (by decide +kernel) (by decide +kernel)) (goodIn_sub (fun _ h => List.mem_cons_of_mem _ (List.mem_append_left _ (List.mem_append_right _ h))) (by decide +kernel))) (goodIn_sub (fun _ h => List.mem_cons_of_mem _ (List.mem_append_right _ h)) (by decide +kernel))
set_option maxRecDepth 20000 in
theorem gL_worst_X4_worst : GoodIn wsL_worst (wsV RL 45 RX4 yX4_worst wsX4_worst) := goodIn_app (goodIn_of _ (by decide +kernel)) ggL_worst_X4_worst
set_option maxRecDepth 20000 in
theorem ggL_judge_X4_judge : GoodIn wsL_judge wsX4_judge := goodIn_ca (goodIn_ca (goodIn_r _ [7, 8, 9, 10, 11, 12, 13, 14, 6, 15, 16, 17, 18, 19, 20, 21, 22, 23, 24, 25, 26, 27, 28, 29, 30, 31, 32, 33, 34, 35, 36, 37, 38, 39, 40, 41, 42, 43, 44, 45, 46, 47, 48, 49, 50, 51, 52, 53, 54, 55, 56, 57, 58, 59, 60, 61, 62, 63, 64, 65, 66, 67, 68, 69, 70, 71, 72, 73, 74, 75, 76, 77, 78, 79, 80, 81, 82, 83, 84, 85, 86, 87, 88, 89, 90, 91, 92, 93, 94, 95, 96, 97, 98, 99, 100, 101, 102, 103, 104, 105] (by decide +kernel) (by decide +kernel)) (goodIn_sub (fun _ h => List.mem_cons_of_mem _ (List.mem_append_left _ (List.mem_append_right _ h))) (by decide +kernel))) (goodIn_sub (fun _ h => List.mem_cons_of_mem _ (List.mem_append_right _ h)) (by decide +kernel))
set_option maxRecDepth 20000 in
theorem gL_judge_X4_judge : GoodIn wsL_judge (wsV RL 48 RX4 yX4_judge wsX4_judge) := goodIn_app (goodIn_of _ (by decide +kernel)) ggL_judge_X4_judge
set_option maxRecDepth 20000 in
theorem ggL_judgeByRules_X4_judgeByRules : GoodIn wsL_judgeByRules wsX4_judgeByRules := goodIn_ca (goodIn_r _ [6, 7, 8, 9, 10, 11, 12, 13, 5, 14, 15, 16, 17, 18, 19, 20, 21, 22, 23, 24, 25, 26, 27, 28, 29, 30, 31, 32, 33, 34, 35, 36, 37, 38, 39, 40, 41, 42, 43, 44, 45, 46, 47, 48, 49, 50, 51, 52, 53, 54, 55, 56, 57, 58, 59, 60, 61, 62, 63, 64, 65, 66, 67, 68, 69, 70, 71, 72, 73, 74, 75, 76, 77, 78, 79, 80] (by decide +kernel) (by decide +kernel)) (goodIn_sub (fun _ h => List.mem_cons_of_mem _ (List.mem_append_right _ h)) (by decide +kernel))
set_option maxRecDepth 20000 in
theorem gL_judgeByRules_X4_judgeByRules : GoodIn wsL_judgeByRules (wsV RL 52 RX4 yX4_judgeByRules wsX4_judgeByRules) := goodIn_app (goodIn_of _ (by decide +kernel)) ggL_judgeByRules_X4_judgeByRules
set_option maxRecDepth 20000 in
theorem ggL_path_X4_path : GoodIn wsL_path wsX4_path := goodIn_ca (goodIn_ca (goodIn_r _ [7, 8, 9, 10, 6, 11, 12, 13, 14, 15, 16, 17, 18, 19, 20, 21, 22, 23, 24, 25, 26, 27, 28, 29, 30, 31, 32, 33, 34, 35, 36, 37, 38, 39, 40, 41, 42, 43, 44, 45, 46, 47, 48, 49, 50, 51, 52, 53, 54, 55, 56, 57, 58, 59, 60, 61, 62, 63, 64, 65, 66, 67, 68, 69, 70, 71, 72, 73, 74, 75, 76, 77, 78, 79, 80, 81, 82, 83, 84, 85, 86, 87, 88, 89, 90, 91, 92, 93, 94, 95, 96, 97, 98, 99, 100, 101, 102, 103, 104, 105, 106, 107, 108, 109, 110, 111, 112, 113, 114, 115, 116, 117, 118] (by decide +kernel) (by decide +kernel)) (goodIn_sub (fun _ h => List.mem_cons_of_mem _ (List.mem_append_left _ (List.mem_append_right _ h))) (by decide +kernel))) (goodIn_sub (fun _ h => List.mem_cons_of_mem _ (List.mem_append_right _ h)) (by decide +kernel))
set_option maxRecDepth 20000 in
theorem gL_path_X4_path : GoodIn wsL_path (wsV RL 55 RX4 yX4_path wsX4_path) := goodIn_app (goodIn_of _ (by decide +kernel)) ggL_path_X4_path
set_option maxRecDepth 20000 in
theorem ggL_actionOf_X4_actionOf : GoodIn wsL_actionOf wsX4_actionOf := goodIn_ca (goodIn_r _ [6, 7, 8, 9, 5, 10, 11, 12, 13, 14, 15, 16, 17, 18, 19, 20, 21, 22, 23, 24, 25, 26, 27, 28, 29, 30, 31, 32, 33, 34, 35, 36, 37, 38, 39, 40, 41, 42, 43, 44, 45, 46, 47, 48, 49, 50, 51, 52, 53, 54, 55, 56, 57, 58, 59, 60, 61, 62, 63, 64, 65, 66, 67, 68, 69, 70, 71, 72, 73, 74, 75, 76, 77, 78, 79] (by decide +kernel) (by decide +kernel)) (goodIn_sub (fun _ h => List.mem_cons_of_mem _ (List.mem_append_right _ h)) (by decide +kernel))
set_option maxRecDepth 20000 in
theorem gL_actionOf_X4_actionOf : GoodIn wsL_actionOf (wsV RL 58 RX4 yX4_actionOf wsX4_actionOf) := goodIn_app (goodIn_of _ (by decide +kernel)) ggL_actionOf_X4_actionOf
set_option maxRecDepth 20000 in
theorem ggL_law_X4_init : GoodIn wsL_law wsX4_init := goodIn_r _ [10, 11, 12, 13, 14, 15, 16, 17, 18, 19, 20, 21, 22, 23, 24, 25, 26, 27, 28, 29, 30, 31, 32, 33, 34, 35, 36, 37, 38, 39, 40, 41, 42, 43, 44, 45, 46, 47, 48, 49, 50, 51, 52, 53, 54, 606, 607, 608, 609, 624, 625, 626, 627, 628, 629, 630, 631, 632, 633, 634, 635, 636] (by decide +kernel) (by decide +kernel)
set_option maxRecDepth 20000 in
theorem gL_law_X4_init : GoodIn wsL_law (wsX4_init) := ggL_law_X4_init
set_option maxRecDepth 20000 in
theorem ggL_law_X5_init : GoodIn wsL_law wsX5_init := goodIn_r _ [57, 58, 12, 13, 16, 59, 60, 6, 61, 62, 63, 64, 65, 66, 67, 68, 69, 610, 611, 612, 613, 614, 615, 616, 617, 618, 619, 620, 621, 622, 623] (by decide +kernel) (by decide +kernel)
set_option maxRecDepth 20000 in
theorem gL_law_X5_init : GoodIn wsL_law (wsX5_init) := ggL_law_X5_init
set_option maxRecDepth 20000 in
theorem ggL_law_L_add : GoodIn wsL_law wsL_add := goodIn_ca (goodIn_ca (goodIn_r _ [73, 74, 75, 76, 77, 78, 2, 79, 80, 81, 82, 83, 15, 84, 85, 86, 87, 88, 89, 90, 91, 92, 93, 94, 95, 96, 97, 98, 99, 23, 100, 38, 101, 102, 103, 37, 104, 105, 106, 107, 108, 109, 12, 13, 110, 111, 112, 113, 114, 115, 116, 117, 118, 119, 120, 121, 122, 123, 124, 44, 125, 126, 127, 128, 129, 130, 131, 132, 133, 134, 135, 136, 43, 137, 138, 139, 140, 141, 142, 143, 144, 145, 146, 147, 148, 149, 150, 151, 152, 153, 154, 155, 156, 157, 158, 159, 160, 161, 162, 163, 164, 165, 166, 167, 168, 169, 170, 606, 607, 608, 609, 637, 638, 639, 640, 641, 629, 630, 631, 632, 633, 634, 635, 636] (by decide +kernel) (by decide +kernel)) (goodIn_sub (fun _ h => List.mem_append_left _ (List.mem_append_left _ (List.mem_append_right _ h))) (by decide +kernel))) (goodIn_sub (fun _ h => List.mem_append_left _ (List.mem_append_right _ h)) (by decide +kernel))
set_option maxRecDepth 20000 in
theorem gL_law_L_add : GoodIn wsL_law (va_wsS RL 68 yL_add wsL_add) := goodIn_app (goodIn_of _ (by decide +kernel)) ggL_law_L_add
set_option maxRecDepth 20000 in
theorem ggL_law_X5_add : GoodIn wsL_law wsX5_add := goodIn_r _ [174, 64, 59, 60, 61, 62, 63, 175, 176, 177, 5, 178, 179, 180, 181, 182, 183, 184, 185, 186, 187, 188, 189, 610, 611, 612, 613, 614, 615, 616, 617, 618, 619, 620, 621, 622, 623] (by decide +kernel) (by decide +kernel)
set_option maxRecDepth 20000 in
theorem gL_law_X5_add : GoodIn wsL_law (wsV RL 73 RX5 yX5_add wsX5_add) := goodIn_app (goodIn_of _ (by decide +kernel)) ggL_law_X5_add
set_option maxRecDepth 20000 in
theorem ggL_law_X5_thrown : GoodIn wsL_law wsX5_thrown := goodIn_r _ [193, 189, 610, 611, 612, 613, 614, 615, 616, 617, 618, 619, 620, 621, 622, 623] (by decide +kernel) (by decide +kernel)
set_option maxRecDepth 20000 in
theorem gL_law_X5_thrown : GoodIn wsL_law (wsV RL 74 RX5 yX5_thrown wsX5_thrown) := goodIn_app (goodIn_of _ (by decide +kernel)) ggL_law_X5_thrown
set_option maxRecDepth 20000 in
theorem ggL_law_L_remove : GoodIn wsL_law wsL_remove := goodIn_ca (goodIn_ca (goodIn_r _ [196, 74, 197, 198, 199, 200, 2, 201, 84, 15, 88, 89, 90, 80, 81, 202, 203, 204, 205, 206, 207, 208, 102, 103, 37, 104, 105, 209, 210, 211, 23, 212, 38, 101, 213, 214, 215, 216, 44, 217, 218, 219, 220, 221, 222, 223, 224, 225, 226, 227, 228, 123, 124, 229, 168, 169, 170, 606, 607, 608, 609, 629, 630, 631, 632, 633, 634, 635, 636] (by decide +kernel) (by decide +kernel)) (goodIn_sub (fun _ h => List.mem_append_left _ (List.mem_append_left _ (List.mem_append_right _ h))) (by decide +kernel))) (goodIn_sub (fun _ h => List.mem_append_right _ h) (by decide +kernel))
set_option maxRecDepth 20000 in
theorem gL_law_L_remove : GoodIn wsL_law (va_wsS RL 78 yL_remove wsL_remove) := goodIn_app (goodIn_of _ (by decide +kernel)) ggL_law_L_remove
set_option maxRecDepth 20000 in
theorem ggL_law_X5_remove : GoodIn wsL_law wsX5_remove := goodIn_r _ [233, 64, 59, 60, 61, 62, 63, 175, 176, 177, 5, 178, 179, 180, 181, 234, 235, 236, 237, 185, 186, 187, 188, 189, 610, 611, 612, 613, 614, 615, 616, 617, 618, 619, 620, 621, 622, 623] (by decide +kernel) (by decide +kernel)
set_option maxRecDepth 20000 in
theorem gL_law_X5_remove : GoodIn wsL_law (wsV RL 81 RX5 yX5_remove wsX5_remove) := goodIn_app (goodIn_of _ (by decide +kernel)) ggL_law_X5_remove
set_option maxRecDepth 20000 in
theorem ggL_law_L_setDefault : GoodIn wsL_law wsL_setDefault := goodIn_ca (goodIn_r _ [240, 74, 241, 242, 243, 2, 244, 15, 84, 88, 89, 90, 80, 81, 94, 95, 96, 606, 607, 608, 609, 629, 630, 631, 632, 633] (by decide +kernel) (by decide +kernel)) (goodIn_sub (fun _ h => List.mem_append_left _ (List.mem_append_left _ (List.mem_append_right _ h))) (by decide +kernel))
set_option maxRecDepth 20000 in
theorem gL_law_L_setDefault : GoodIn wsL_law (va_wsS RL 82 yL_setDefault wsL_setDefault) := goodIn_app (goodIn_of _ (by decide +kernel)) ggL_law_L_setDefault
set_option maxRecDepth 20000 in
theorem ggL_law_X5_setDefault : GoodIn wsL_law wsX5_setDefault := goodIn_r _ [248, 65, 175, 176, 177, 5, 178, 179, 180, 181, 185, 186, 187, 188, 189, 610, 611, 612, 613, 614, 615, 616, 617, 618, 619, 620, 621, 622, 623] (by decide +kernel) (by decide +kernel)
set_option maxRecDepth 20000 in
theorem gL_law_X5_setDefault : GoodIn wsL_law (wsV RL 84 RX5 yX5_setDefault wsX5_setDefault) := goodIn_app (goodIn_of _ (by decide +kernel)) ggL_law_X5_setDefault
set_option maxRecDepth 20000 in
theorem ggL_law_L_setFrequency : GoodIn wsL_law wsL_setFrequency := goodIn_ca (goodIn_r _ [251, 74, 252, 253, 254, 2, 255, 80, 81, 17, 84, 91, 92, 93, 606, 607, 608, 609] (by decide +kernel) (by decide +kernel)) (goodIn_sub (fun _ h => List.mem_append_left _ (List.mem_append_left _ (List.mem_append_right _ h))) (by decide +kernel))
set_option maxRecDepth 20000 in
theorem gL_law_L_setFrequency : GoodIn wsL_law (va_wsS RL 85 yL_setFrequency wsL_setFrequency) := goodIn_app (goodIn_of _ (by decide +kernel)) ggL_law_L_setFrequency
set_option maxRecDepth 20000 in
theorem ggL_law_X5_setFrequency : GoodIn wsL_law wsX5_setFrequency := goodIn_r _ [259, 66, 175, 182, 183, 5, 184, 179, 180, 181, 185, 186, 187, 188, 189, 610, 611, 612, 613, 614, 615, 616, 617, 618, 619, 620, 621, 622, 623] (by decide +kernel) (by decide +kernel)
set_option maxRecDepth 20000 in
theorem gL_law_X5_setFrequency : GoodIn wsL_law (wsV RL 87 RX5 yX5_setFrequency wsX5_setFrequency) := goodIn_app (goodIn_of _ (by decide +kernel)) ggL_law_X5_setFrequency
set_option maxRecDepth 20000 in
theorem ggL_law_L_rules : GoodIn wsL_law wsL_rules := goodIn_ca (goodIn_r _ [262, 74, 263, 264, 265, 2, 266, 15, 88, 89, 90, 80, 81, 208, 102, 103, 37, 104, 105, 606, 607, 608, 609, 629, 630, 631, 632, 633, 634, 635, 636] (by decide +kernel) (by decide +kernel)) (goodIn_sub (fun _ h => List.mem_append_left _ (List.mem_append_left _ (List.mem_append_right _ h))) (by decide +kernel))
set_option maxRecDepth 20000 in
theorem gL_law_L_rules : GoodIn wsL_law (va_wsS RL 88 yL_rules wsL_rules) := goodIn_app (goodIn_of _ (by decide +kernel)) ggL_law_L_rules
set_option maxRecDepth 20000 in
theorem ggL_law_X5_rules : GoodIn wsL_law wsX5_rules := goodIn_r _ [270, 64, 176, 177, 5, 178, 179, 180, 181, 185, 186, 187, 188, 189, 610, 611, 612, 613, 614, 615, 616, 617, 618, 619, 620, 621, 622, 623] (by decide +kernel) (by decide +kernel)
set_option maxRecDepth 20000 in
theorem gL_law_X5_rules : GoodIn wsL_law (wsV RL 91 RX5 yX5_rules wsX5_rules) := goodIn_app (goodIn_of _ (by decide +kernel)) ggL_law_X5_rules
set_option maxRecDepth 20000 in
theorem ggL_law_L_hider : GoodIn wsL_law wsL_hider := goodIn_ca (goodIn_ca (goodIn_r _ [273, 74, 197, 274, 275, 276, 2, 277, 15, 88, 89, 90, 80, 81, 202, 203, 204, 205, 206, 207, 208, 102, 103, 37, 104, 105, 278, 279, 280, 23, 281, 38, 282, 101, 283, 284, 285, 286, 217, 218, 219, 220, 221, 222, 223, 224, 287, 288, 289, 290, 44, 291, 292, 293, 87, 294, 113, 112, 295, 296, 297, 298, 299, 110, 111, 606, 607, 608, 609, 629, 630, 631, 632, 633, 634, 635, 636, 637, 638, 639, 640, 641] (by decide +kernel) (by decide +kernel)) (goodIn_sub (fun _ h => List.mem_append_left _ (List.mem_append_left _ (List.mem_append_right _ h))) (by decide +kernel))) (goodIn_sub (fun _ h => List.mem_append_right _ h) (by decide +kernel))
set_option maxRecDepth 20000 in
theorem gL_law_L_hider : GoodIn wsL_law (va_wsS RL 92 yL_hider wsL_hider) := goodIn_app (goodIn_of _ (by decide +kernel)) ggL_law_L_hider
set_option maxRecDepth 20000 in
theorem ggL_law_X5_hider : GoodIn wsL_law wsX5_hider := goodIn_r _ [303, 176, 177, 5, 178, 179, 180, 181, 234, 235, 236, 237, 64, 185, 186, 187, 188, 189, 304, 305, 306, 307, 62, 61, 308, 309, 310, 311, 312, 59, 60, 610, 611, 612, 613, 614, 615, 616, 617, 618, 619, 620, 621, 622, 623] (by decide +kernel) (by decide +kernel)
set_option maxRecDepth 20000 in
theorem gL_law_X5_hider : GoodIn wsL_law (wsV RL 94 RX5 yX5_hider wsX5_hider) := goodIn_app (goodIn_of _ (by decide +kernel)) ggL_law_X5_hider
set_option maxRecDepth 20000 in
theorem ggL_law_L_compile : GoodIn wsL_law wsL_compile := goodIn_ca (goodIn_r _ [315, 74, 316, 317, 318, 2, 319, 80, 81, 84, 320, 321, 322, 323, 15, 21, 17, 324, 325, 326, 23, 327, 328, 329, 330, 331, 332, 333, 39, 38, 282, 334, 335, 336, 37, 337, 123, 124, 44, 105, 101, 102, 103, 104, 338, 279, 280, 281, 283, 284, 285, 286, 217, 218, 219, 220, 221, 222, 223, 224, 287, 288, 289, 290, 291, 292, 293, 87, 294, 113, 112, 295, 296, 297, 298, 299, 110, 111, 119, 120, 121, 122, 125, 126, 127, 128, 129, 130, 131, 132, 133, 134, 135, 136, 43, 137, 138, 139, 140, 141, 142, 143, 144, 145, 146, 147, 148, 149, 150, 151, 152, 153, 154, 155, 156, 157, 158, 159, 160, 161, 162, 163, 164, 165, 166, 167, 168, 169, 170, 339, 340, 341, 20, 342, 343, 344, 345, 346, 347, 348, 349, 350, 351, 27, 28, 352, 353, 354, 355, 356, 357, 358, 359, 31, 30, 360, 361, 362, 363, 364, 365, 366, 367, 368, 369, 370, 371, 372, 373, 374, 375, 376, 377, 378, 379, 380, 381, 12, 13, 382, 383, 384, 385, 386, 387, 388, 389, 390, 391, 392, 393, 394, 395, 396, 397, 398, 399, 400, 401, 402, 403, 404, 405, 406, 407, 408, 409, 410, 411, 412, 413, 414, 415, 416, 417, 418, 419, 420, 421, 422, 423, 424, 425, 426, 427, 428, 606, 607, 608, 609, 629, 630, 631, 632, 633, 634, 635, 636, 637, 638, 639, 640, 641, 624, 625, 626, 627, 628, 642, 643, 644, 645] (by decide +kernel) (by decide +kernel)) (goodIn_sub (fun _ h => List.mem_append_left _ (List.mem_append_left _ (List.mem_append_right _ h))) (by decide +kernel))
set_option maxRecDepth 20000 in
theorem gL_law_L_compile : GoodIn wsL_law (va_wsS RL 95 yL_compile wsL_compile) := goodIn_app (goodIn_of _ (by decide +kernel)) ggL_law_L_compile
end
section
set_option maxRecDepth 20000 in
theorem ggL_law_X5_compile : GoodIn wsL_law wsX5_compile := goodIn_r _ [432, 175, 179, 180, 5, 181, 185, 186, 187, 188, 189, 433, 434, 435, 436, 437, 438, 439, 440, 441, 67, 442, 443, 444, 445, 64, 59, 304, 305, 306, 307, 62, 61, 308, 309, 310, 311, 312, 60, 446, 447, 448, 449, 66, 69, 68, 450, 451, 452, 453, 454, 455, 456, 457, 458, 459, 460, 461, 462, 463, 464, 465, 610, 611, 612, 613, 614, 615, 616, 617, 618, 619, 620, 621, 622, 623] (by decide +kernel) (by decide +kernel)
set_option maxRecDepth 20000 in
theorem gL_law_X5_compile : GoodIn wsL_law (wsV RL 97 RX5 yX5_compile wsX5_compile) := goodIn_app (goodIn_of _ (by decide +kernel)) ggL_law_X5_compile
set_option maxRecDepth 20000 in
theorem ggL_law_X4_isCompiled : GoodIn wsL_law wsX4_isCompiled := goodIn_r _ [469, 84, 606, 607, 608, 609] (by decide +kernel) (by decide +kernel)
set_option maxRecDepth 20000 in
theorem gL_law_X4_isCompiled : GoodIn wsL_law (wsV RL 98 RX4 yX4_isCompiled wsX4_isCompiled) := goodIn_app (goodIn_of _ (by decide +kernel)) ggL_law_X4_isCompiled
set_option maxRecDepth 20000 in
theorem ggL_law_X5_isCompiled : GoodIn wsL_law wsX5_isCompiled := goodIn_r _ [473, 189, 175, 610, 611, 612, 613, 614, 615, 616, 617, 618, 619, 620, 621, 622, 623] (by decide +kernel) (by decide +kernel)
set_option maxRecDepth 20000 in
theorem gL_law_X5_isCompiled : GoodIn wsL_law (wsV RL 102 RX5 yX5_isCompiled wsX5_isCompiled) := goodIn_app (goodIn_of _ (by decide +kernel)) ggL_law_X5_isCompiled
set_option maxRecDepth 20000 in
theorem ggL_law_L_test : GoodIn wsL_law wsL_test := goodIn_ca (goodIn_ca (goodIn_r _ [476, 74, 75, 477, 478, 479, 2, 480, 80, 81, 15, 88, 89, 90, 481, 482, 483, 484, 82, 83, 84, 485, 486, 487, 23, 488, 328, 606, 607, 608, 609, 629, 630, 631, 632, 633, 642, 643, 644, 645] (by decide +kernel) (by decide +kernel)) (goodIn_sub (fun _ h => List.mem_append_left _ (List.mem_append_left _ (List.mem_append_right _ h))) (by decide +kernel))) (goodIn_sub (fun _ h => List.mem_append_left _ (List.mem_append_right _ h)) (by decide +kernel))
set_option maxRecDepth 20000 in
theorem gL_law_L_test : GoodIn wsL_law (va_wsS RL 103 yL_test wsL_test) := goodIn_app (goodIn_of _ (by decide +kernel)) ggL_law_L_test
set_option maxRecDepth 20000 in
theorem ggL_law_X5_test : GoodIn wsL_law wsX5_test := goodIn_r _ [492, 175, 441, 69, 67, 176, 177, 5, 178, 179, 180, 181, 185, 186, 187, 188, 189, 437, 438, 439, 440, 442, 443, 444, 445, 64, 59, 304, 305, 306, 307, 62, 61, 308, 309, 310, 311, 312, 60, 446, 447, 448, 449, 66, 68, 450, 451, 452, 453, 610, 611, 612, 613, 614, 615, 616, 617, 618, 619, 620, 621, 622, 623] (by decide +kernel) (by decide +kernel)
set_option maxRecDepth 20000 in
theorem gL_law_X5_test : GoodIn wsL_law (wsV RL 105 RX5 yX5_test wsX5_test) := goodIn_app (goodIn_of _ (by decide +kernel)) ggL_law_X5_test
set_option maxRecDepth 20000 in
theorem ggL_law_L_cost : GoodIn wsL_law wsL_cost := goodIn_ca (goodIn_ca (goodIn_r _ [495, 74, 75, 496, 497, 498, 2, 499, 15, 88, 89, 90, 80, 81, 481, 482, 483, 484, 82, 83, 84, 606, 607, 608, 609, 629, 630, 631, 632, 633] (by decide +kernel) (by decide +kernel)) (goodIn_sub (fun _ h => List.mem_append_left _ (List.mem_append_left _ (List.mem_append_right _ h))) (by decide +kernel))) (goodIn_sub (fun _ h => List.mem_append_left _ (List.mem_append_right _ h)) (by decide +kernel))
set_option maxRecDepth 20000 in
theorem gL_law_L_cost : GoodIn wsL_law (va_wsS RL 106 yL_cost wsL_cost) := goodIn_app (goodIn_of _ (by decide +kernel)) ggL_law_L_cost
set_option maxRecDepth 20000 in
theorem ggL_law_X5_cost : GoodIn wsL_law wsX5_cost := goodIn_r _ [503, 175, 441, 176, 177, 5, 178, 179, 180, 181, 185, 186, 187, 188, 189, 437, 438, 439, 440, 67, 442, 443, 444, 445, 64, 59, 304, 305, 306, 307, 62, 61, 308, 309, 310, 311, 312, 60, 446, 447, 448, 449, 66, 69, 68, 450, 451, 452, 453, 610, 611, 612, 613, 614, 615, 616, 617, 618, 619, 620, 621, 622, 623] (by decide +kernel) (by decide +kernel)
set_option maxRecDepth 20000 in
theorem gL_law_X5_cost : GoodIn wsL_law (wsV RL 108 RX5 yX5_cost wsX5_cost) := goodIn_app (goodIn_of _ (by decide +kernel)) ggL_law_X5_cost
set_option maxRecDepth 20000 in
theorem ggL_law_L_worst : GoodIn wsL_law wsL_worst := goodIn_ca (goodIn_ca (goodIn_r _ [506, 74, 75, 507, 508, 509, 2, 510, 15, 88, 89, 90, 80, 81, 481, 482, 483, 484, 82, 83, 84, 394, 395, 396, 23, 397, 398, 138, 139, 140, 399, 400, 401, 402, 403, 404, 405, 406, 328, 407, 408, 409, 377, 410, 382, 384, 385, 411, 412, 413, 414, 39, 282, 101, 102, 103, 37, 104, 105, 283, 284, 285, 286, 217, 218, 219, 220, 221, 222, 223, 224, 287, 288, 289, 290, 44, 415, 416, 417, 87, 418, 419, 420, 421, 422, 112, 423, 424, 425, 426, 427, 428, 606, 607, 608, 609, 642, 643, 644, 645, 629, 630, 631, 632, 633, 637, 638, 639, 640, 641, 634, 635, 636] (by decide +kernel) (by decide +kernel)) (goodIn_sub (fun _ h => List.mem_append_left _ (List.mem_append_left _ (List.mem_append_right _ h))) (by decide +kernel))) (goodIn_sub (fun _ h => List.mem_append_left _ (List.mem_append_right _ h)) (by decide +kernel))
set_option maxRecDepth 20000 in
theorem gL_law_L_worst : GoodIn wsL_law (va_wsS RL 109 yL_worst wsL_worst) := goodIn_app (goodIn_of _ (by decide +kernel)) ggL_law_L_worst
set_option maxRecDepth 20000 in
theorem ggL_law_X5_worst : GoodIn wsL_law wsX5_worst := goodIn_r _ [514, 175, 176, 177, 5, 178, 179, 180, 181, 185, 186, 187, 188, 189, 433, 434, 435, 436, 437, 438, 439, 440, 441, 67, 442, 443, 444, 445, 64, 59, 304, 305, 306, 307, 62, 61, 308, 309, 310, 311, 312, 60, 446, 447, 448, 449, 66, 69, 68, 450, 451, 452, 453, 454, 455, 456, 457, 458, 459, 460, 461, 462, 463, 464, 465, 610, 611, 612, 613, 614, 615, 616, 617, 618, 619, 620, 621, 622, 623] (by decide +kernel) (by decide +kernel)
set_option maxRecDepth 20000 in
theorem gL_law_X5_worst : GoodIn wsL_law (wsV RL 111 RX5 yX5_worst wsX5_worst) := goodIn_app (goodIn_of _ (by decide +kernel)) ggL_law_X5_worst
set_option maxRecDepth 20000 in
theorem ggL_law_L_judge : GoodIn wsL_law wsL_judge := goodIn_ca (goodIn_ca (goodIn_r _ [517, 74, 75, 518, 519, 520, 2, 521, 15, 522, 138, 139, 140, 91, 92, 93, 80, 81, 481, 482, 483, 484, 82, 83, 84, 523, 524, 525, 23, 526, 527, 39, 403, 404, 405, 406, 328, 407, 408, 409, 377, 410, 382, 384, 385, 528, 529, 530, 531, 282, 101, 102, 103, 37, 104, 105, 283, 284, 285, 286, 217, 218, 219, 220, 221, 222, 223, 224, 287, 288, 289, 290, 44, 532, 533, 534, 87, 535, 112, 113, 536, 537, 538, 539, 111, 606, 607, 608, 609, 642, 643, 644, 645, 629, 630, 631, 632, 633, 637, 638, 639, 640, 641, 634, 635, 636] (by decide +kernel) (by decide +kernel)) (goodIn_sub (fun _ h => List.mem_append_left _ (List.mem_append_left _ (List.mem_append_right _ h))) (by decide +kernel))) (goodIn_sub (fun _ h => List.mem_append_left _ (List.mem_append_right _ h)) (by decide +kernel))
set_option maxRecDepth 20000 in
theorem gL_law_L_judge : GoodIn wsL_law (va_wsS RL 112 yL_judge wsL_judge) := goodIn_app (goodIn_of _ (by decide +kernel)) ggL_law_L_judge
set_option maxRecDepth 20000 in
theorem ggL_law_X5_judge : GoodIn wsL_law wsX5_judge := goodIn_r _ [543, 175, 182, 183, 5, 184, 179, 180, 181, 185, 186, 187, 188, 189, 544, 545, 546, 547, 548, 549, 550, 551, 64, 63, 65, 552, 553, 554, 555, 60, 59, 61, 62, 610, 611, 612, 613, 614, 615, 616, 617, 618, 619, 620, 621, 622, 623] (by decide +kernel) (by decide +kernel)
set_option maxRecDepth 20000 in
theorem gL_law_X5_judge : GoodIn wsL_law (wsV RL 115 RX5 yX5_judge wsX5_judge) := goodIn_app (goodIn_of _ (by decide +kernel)) ggL_law_X5_judge
set_option maxRecDepth 20000 in
theorem ggL_law_L_judgeByRules : GoodIn wsL_law wsL_judgeByRules := goodIn_ca (goodIn_r _ [558, 74, 559, 560, 561, 2, 562, 15, 522, 138, 139, 140, 91, 92, 93, 80, 81, 563, 564, 565, 23, 566, 38, 528, 529, 530, 531, 282, 527, 101, 102, 103, 37, 104, 105, 283, 284, 285, 286, 217, 218, 219, 220, 221, 222, 223, 224, 287, 288, 289, 290, 44, 532, 533, 534, 87, 535, 112, 113, 536, 537, 538, 539, 111, 606, 607, 608, 609, 629, 630, 631, 632, 633, 637, 638, 639, 640, 641, 634, 635, 636] (by decide +kernel) (by decide +kernel)) (goodIn_sub (fun _ h => List.mem_append_left _ (List.mem_append_left _ (List.mem_append_right _ h))) (by decide +kernel))
set_option maxRecDepth 20000 in
theorem gL_law_L_judgeByRules : GoodIn wsL_law (va_wsS RL 116 yL_judgeByRules wsL_judgeByRules) := goodIn_app (goodIn_of _ (by decide +kernel)) ggL_law_L_judgeByRules
set_option maxRecDepth 20000 in
theorem ggL_law_X5_judgeByRules : GoodIn wsL_law wsX5_judgeByRules := goodIn_r _ [570, 182, 183, 5, 184, 179, 180, 181, 185, 186, 187, 188, 189, 544, 545, 546, 547, 548, 549, 550, 551, 64, 63, 65, 552, 553, 554, 555, 60, 59, 61, 62, 610, 611, 612, 613, 614, 615, 616, 617, 618, 619, 620, 621, 622, 623] (by decide +kernel) (by decide +kernel)
set_option maxRecDepth 20000 in
theorem gL_law_X5_judgeByRules : GoodIn wsL_law (wsV RL 118 RX5 yX5_judgeByRules wsX5_judgeByRules) := goodIn_app (goodIn_of _ (by decide +kernel)) ggL_law_X5_judgeByRules
set_option maxRecDepth 20000 in
theorem ggL_law_L_path : GoodIn wsL_law wsL_path := goodIn_ca (goodIn_ca (goodIn_r _ [573, 74, 75, 574, 575, 576, 2, 577, 15, 91, 92, 93, 80, 81, 481, 482, 483, 484, 82, 83, 84, 578, 579, 580, 23, 581, 39, 282, 399, 400, 401, 402, 403, 404, 405, 406, 328, 407, 408, 409, 377, 410, 382, 384, 385, 101, 102, 103, 37, 104, 105, 283, 284, 285, 286, 217, 218, 219, 220, 221, 222, 223, 224, 287, 288, 289, 290, 44, 582, 583, 584, 87, 585, 112, 113, 423, 536, 537, 538, 539, 111, 419, 420, 421, 422, 586, 416, 417, 418, 424, 425, 426, 427, 428, 532, 533, 534, 535, 606, 607, 608, 609, 629, 630, 631, 632, 633, 637, 638, 639, 640, 641, 642, 643, 644, 645, 634, 635, 636] (by decide +kernel) (by decide +kernel)) (goodIn_sub (fun _ h => List.mem_append_left _ (List.mem_append_left _ (List.mem_append_right _ h))) (by decide +kernel))) (goodIn_sub (fun _ h => List.mem_append_left _ (List.mem_append_right _ h)) (by decide +kernel))
set_option maxRecDepth 20000 in
theorem gL_law_L_path : GoodIn wsL_law (va_wsS RL 119 yL_path wsL_path) := goodIn_app (goodIn_of _ (by decide +kernel)) ggL_law_L_path
set_option maxRecDepth 20000 in
theorem ggL_law_X5_path : GoodIn wsL_law wsX5_path := goodIn_r _ [590, 175, 182, 183, 5, 184, 179, 180, 181, 185, 186, 187, 188, 189, 437, 438, 439, 440, 441, 67, 442, 443, 444, 445, 64, 59, 304, 305, 306, 307, 62, 61, 308, 309, 310, 311, 312, 60, 446, 447, 448, 449, 66, 69, 68, 450, 451, 452, 453, 454, 455, 456, 457, 591, 592, 593, 594, 465, 462, 463, 464, 610, 611, 612, 613, 614, 615, 616, 617, 618, 619, 620, 621, 622, 623] (by decide +kernel) (by decide +kernel)
set_option maxRecDepth 20000 in
theorem gL_law_X5_path : GoodIn wsL_law (wsV RL 121 RX5 yX5_path wsX5_path) := goodIn_app (goodIn_of _ (by decide +kernel)) ggL_law_X5_path
set_option maxRecDepth 20000 in
theorem ggL_law_L_actionOf : GoodIn wsL_law wsL_actionOf := goodIn_ca (goodIn_r _ [597, 74, 598, 599, 600, 2, 601, 15, 88, 89, 90, 80, 81, 91, 92, 93, 563, 564, 565, 23, 566, 38, 528, 529, 530, 531, 282, 527, 101, 102, 103, 37, 104, 105, 283, 284, 285, 286, 217, 218, 219, 220, 221, 222, 223, 224, 287, 288, 289, 290, 44, 532, 533, 534, 87, 535, 112, 113, 536, 537, 538, 539, 111, 606, 607, 608, 609, 629, 630, 631, 632, 633, 637, 638, 639, 640, 641, 634, 635, 636] (by decide +kernel) (by decide +kernel)) (goodIn_sub (fun _ h => List.mem_append_left _ (List.mem_append_left _ (List.mem_append_right _ h))) (by decide +kernel))
set_option maxRecDepth 20000 in
theorem gL_law_L_actionOf : GoodIn wsL_law (va_wsS RL 122 yL_actionOf wsL_actionOf) := goodIn_app (goodIn_of _ (by decide +kernel)) ggL_law_L_actionOf
set_option maxRecDepth 20000 in
theorem ggL_law_X5_actionOf : GoodIn wsL_law wsX5_actionOf := goodIn_r _ [605, 176, 177, 5, 178, 179, 180, 181, 182, 183, 184, 185, 186, 187, 188, 189, 548, 549, 550, 551, 64, 63, 65, 552, 553, 554, 555, 60, 59, 61, 62, 610, 611, 612, 613, 614, 615, 616, 617, 618, 619, 620, 621, 622, 623] (by decide +kernel) (by decide +kernel)
set_option maxRecDepth 20000 in
theorem gL_law_X5_actionOf : GoodIn wsL_law (wsV RL 125 RX5 yX5_actionOf wsX5_actionOf) := goodIn_app (goodIn_of _ (by decide +kernel)) ggL_law_X5_actionOf
end
