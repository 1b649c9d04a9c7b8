/-! TWO OBJECTS IN ONE WORLD: the names below 200 are the one's, 200 to 399 the other's; a contract over the swapped world is one over the world -/
def sg (m : Nat) : Nat := if m < 200 then m + 200 else if m < 400 then m - 200 else m
theorem sg_sg (m : Nat) : sg (sg m) = m := by
  unfold sg
  by_cases h1 : m < 200
  · rw [if_pos h1, if_neg (by omega), if_pos (by omega)]; omega
  · rw [if_neg h1]
    by_cases h2 : m < 400
    · rw [if_pos h2, if_pos (by omega)]; omega
    · rw [if_neg h2, if_neg h1, if_neg h2]
theorem sg_lo {m : Nat} (h : m < 200) : sg m = m + 200 := if_pos h
theorem sg_mi {m : Nat} (h1 : 200 ≤ m) (h2 : m < 400) : sg m = m - 200 := by unfold sg; rw [if_neg (by omega), if_pos h2]
theorem sg_hi {m : Nat} (h : 400 ≤ m) : sg m = m := by unfold sg; rw [if_neg (by omega), if_neg (by omega)]
def sL (L : List Nat) : List Nat := L.map sg
def sW (w : Wn) : Wn := fun m => w (sg m)
theorem sL_sW (L : List Nat) (w : Wn) : (sL L).map (sW w) = L.map w := by
  unfold sL
  rw [List.map_map]
  apply List.map_congr_left
  intro a _
  show w (sg (sg a)) = w a
  rw [sg_sg]
theorem sL_mem {L : List Nat} {m : Nat} : m ∈ sL L ↔ sg m ∈ L := by
  unfold sL
  rw [List.mem_map]
  constructor
  · rintro ⟨a, h, rfl⟩
    rw [sg_sg]; exact h
  · intro h
    exact ⟨sg m, h, sg_sg m⟩
theorem sL_sL (L : List Nat) : sL (sL L) = L := by
  unfold sL
  rw [List.map_map]
  have h : (sg ∘ sg) = id := funext fun m => sg_sg m
  rw [h, List.map_id]
theorem sW_sW (w : Wn) : sW (sW w) = w := funext fun m => by show w (sg (sg m)) = w m; rw [sg_sg]
theorem Hs.sw {L : List Nat} {w : Wn} {n a : Nat} {e : va_E} (h : Hs (sL L) (sW w) n a e) : Hs L w (sg n) a e := ⟨sL_mem.mp h.1, h.2⟩
theorem Hs.ws {L : List Nat} {w : Wn} {n a : Nat} {e : va_E} (h : Hs L w n a e) : Hs (sL L) (sW w) (sg n) a e := ⟨sL_mem.mpr (by rw [sg_sg]; exact h.1), by show w (sg (sg n)) = _; rw [sg_sg]; exact h.2⟩
theorem Fr.ws {M N : Nat → Prop} {L L2 : List Nat} {w w2 : Wn} (h : Fr M N L w L2 w2) : Fr (fun m => M (sg m)) (fun m => N (sg m)) (sL L) (sW w) (sL L2) (sW w2) := ⟨fun m q => sL_mem.mpr (h.1 _ (sL_mem.mp q)), fun m q z => h.2.1 _ (sL_mem.mp q) z, fun m q => (h.2.2 _ (sL_mem.mp q)).elim (fun z => Or.inl (sL_mem.mpr z)) Or.inr⟩
theorem Fr.sw {M N : Nat → Prop} {L L2 : List Nat} {w w2 : Wn} (h : Fr M N (sL L) (sW w) (sL L2) (sW w2)) : Fr (fun m => M (sg m)) (fun m => N (sg m)) L w L2 w2 := by
  have := h.ws
  rw [sL_sL, sL_sL, sW_sW, sW_sW] at this
  exact this
theorem preW_sw {G : Gp} {L : List Nat} {w : Wn} {sz : Nat} {av : List Value} : PreW G (sL L) (sW w) sz av = PreW G L w sz av := by
  unfold PreW
  rw [sL_sW]
theorem PB_sw {G : Gp} {A : Nat → Prop} {u : Sw} {t : State} (h : PB G A u t) : PB G A (sL u.1, sW u.2) t := by
  unfold PB at h ⊢
  show va_P G.1 vwCl ((sL u.1).map (sW u.2)) t.heap ∧ va_D A ((sL u.1).map (sW u.2))
  rw [sL_sW]
  exact h
section SWAP
variable {l : Launch} {y : MethodName} {ws : List Cond} {rm : Room} {G : Gp} {L : List Nat} {w : Wn} {av : List Value}
theorem XI.mono {post post2 : Int32 → Sw → Prop} {xp xp2 : String → Sw → Prop} (h : XI l y ws rm G L w av post xp) (hp : ∀ r u, post r u → post2 r u) (hx : ∀ E u, xp E u → xp2 E u) : XI l y ws rm G L w av post2 xp2 := fun sz => by
  refine MetFree.mono (h sz) (fun _ _ z => z) (fun _ _ _ _ _ z => z) (fun _ _ _ _ _ z => ?_)
  rcases z with ⟨⟨⟨r, u, h1, h2, h3⟩, h4⟩, h5⟩ | ⟨q, h1, E, ce, Lx, ⟨u, h2, h3, h4⟩, h5⟩
  · exact Or.inl ⟨⟨⟨r, u, h1, hp r u h2, h3⟩, h4⟩, h5⟩
  · exact Or.inr ⟨q, h1, E, ce, Lx, ⟨u, hx _ _ h2, h3, h4⟩, h5⟩
/-- what never throws -/
theorem XI.ci {post : Int32 → Sw → Prop} {xp : String → Sw → Prop} (h : XI l y ws rm G L w av post xp) (hx : ∀ E u, ¬ xp E u) : CI l y ws rm G L w av post := fun sz => by
  refine MetFree.mono (h sz) (fun _ _ z => z) (fun _ _ _ _ _ z => z) (fun _ _ _ _ _ z => ?_)
  rcases z with z | ⟨q, h1, E, ce, Lx, ⟨u, h2, h3, h4⟩, h5⟩
  · exact z
  · exact absurd h2 (hx _ _)
theorem CI.sw {post : Int32 → Sw → Prop} (h : CI l y ws rm G (sL L) (sW w) av post) : CI l y ws rm G L w av (fun r u => post r (sL u.1, sW u.2)) := fun sz => by
  have h0 := h sz
  rw [preW_sw, sL_sW] at h0
  refine MetFree.mono h0 (fun _ _ z => z) (fun _ _ _ _ _ z => z) (fun _ _ _ _ _ z => ⟨?_, z.2⟩)
  obtain ⟨⟨⟨r, u, h1, h2, h3⟩, h4⟩, -⟩ := z
  exact ⟨⟨r, (sL u.1, sW u.2), h1, by show post r (sL (sL u.1), sW (sW u.2)); rw [sL_sL, sW_sW]; exact h2, PB_sw h3⟩, h4⟩
theorem CV.sw {post : Sw → Prop} (h : CV l y ws rm G (sL L) (sW w) av post) : CV l y ws rm G L w av (fun u => post (sL u.1, sW u.2)) := fun sz => by
  have h0 := h sz
  rw [preW_sw, sL_sW] at h0
  refine MetFree.mono h0 (fun _ _ z => z) (fun _ _ _ _ _ z => z) (fun _ _ _ _ _ z => ⟨?_, z.2⟩)
  obtain ⟨⟨⟨u, h1, h2, h3⟩, h4⟩, -⟩ := z
  exact ⟨⟨(sL u.1, sW u.2), h1, by show post (sL (sL u.1), sW (sW u.2)); rw [sL_sL, sW_sW]; exact h2, PB_sw h3⟩, h4⟩
/-- a read of the other object -/
theorem CI.sw0 {post : Int32 → Prop} (h : CI l y ws rm G (sL L) (sW w) av (fun r u => post r ∧ u = (sL L, sW w))) : CI l y ws rm G L w av (fun r u => post r ∧ u = (L, w)) := h.sw.mono (fun r u z => ⟨z.1, by
  have h1 : sL u.1 = sL L := congrArg Prod.fst z.2
  have h2 : sW u.2 = sW w := congrArg Prod.snd z.2
  have h3 := congrArg sL h1
  have h4 := congrArg sW h2
  rw [sL_sL, sL_sL] at h3
  rw [sW_sW, sW_sW] at h4
  exact Prod.ext h3 h4⟩)
end SWAP
/-! ADDRESSES LEFT OUT -/
def zl (el : EL) : EL := el.map (fun x => (0, x.2))
theorem zl_len (el : EL) : (zl el).length = el.length := List.length_map _
theorem zl_rul (el : EL) : rul (zl el) = rul el := by
  unfold rul zl
  rw [List.map_map]
  rfl
theorem zl_app (a b : EL) : zl (a ++ b) = zl a ++ zl b := List.map_append
theorem zl_erase : ∀ (el : EL) (i : Nat), zl (el.eraseIdx i) = (zl el).eraseIdx i
  | [], i => by simp [zl]
  | x :: t, 0 => rfl
  | x :: t, i + 1 => by
    show (0, x.2) :: zl (t.eraseIdx i) = (0, x.2) :: (zl t).eraseIdx i
    rw [zl_erase t i]
theorem zl_fAct (N : Int32) (f s : Int64) (d : Int32) : ∀ el : EL, fAct N f s d (zl el) = fAct N f s d el
  | [] => rfl
  | e :: t => by
    show (if e.2.1 = N then (if matB e.2 f s = true then e.2.2.2.2.2 else fAct N f s d (zl t)) else fAct N f s d (zl t)) = _
    rw [zl_fAct N f s d t]
    rfl
theorem zl_mRT (N : Int32) : ∀ el : EL, mRT N (zl el) = mRT N el
  | [] => rfl
  | e :: t => by
    show (if e.2.1 = N then halT e.2.2.2.1 + mRT N (zl t) else mRT N (zl t)) = _
    rw [zl_mRT N t]
    rfl
theorem zl_pRT (N : Int32) (f s : Int64) : ∀ el : EL, pRT N f s (zl el) = pRT N f s el
  | [] => rfl
  | e :: t => by
    show (if e.2.1 = N then (if matB e.2 f s = true then tstT e.2 f s else tstT e.2 f s + pRT N f s (zl t)) else pRT N f s (zl t)) = _
    rw [zl_pRT N f s t]
    rfl
theorem zl_has (N : Int32) : ∀ el : EL, hasN N (zl el) = hasN N el
  | [] => rfl
  | e :: t => by
    show (if e.2.1 = N then true else hasN N (zl t)) = _
    rw [zl_has N t]
    rfl
theorem zl_getD (el : EL) (k : Nat) : (zl el).getD k e0 = (0, (el.getD k e0).2) := by
  unfold zl
  simp only [List.getD, List.getElem?_map]
  cases el[k]? <;> rfl
theorem zl_rchN (el : EL) : ∀ k, rchN (zl el) k = zl (rchN el k)
  | 0 => rfl
  | k + 1 => by
    unfold rchN
    rw [zl_rul, zl_rchN el k, zl_getD]
    split
    · rw [zl_app]; rfl
    · rfl
theorem zl_rch (el : EL) : rch (zl el) = zl (rch el) := by
  unfold rch
  rw [zl_len, zl_rchN]
theorem zl_kys (el : EL) : ∀ k, kys (zl el) k = kys el k
  | 0 => rfl
  | k + 1 => by
    unfold kys
    rw [zl_has, zl_kys el k]
theorem zl_kyF (el : EL) : kyF (zl el) = kyF el := by
  funext r
  unfold kyF
  rw [zl_kys]
theorem zl_wtF (fq : Nat → Nat) (el : EL) : wtF fq (zl el) = wtF fq el := by
  funext r
  unfold wtF
  rw [zl_kys]
theorem zl_ksz (el : EL) : ksz (zl el) = ksz el := by
  unfold ksz
  rw [zl_kys]
theorem zl_wF (fq : Nat → Nat) (el : EL) : wF fq (zl el) = wF fq el := by
  unfold wF wstT
  rw [zl_rch, zl_kyF, zl_wtF, zl_ksz]
  congr 1
  funext k
  rw [zl_mRT]
theorem zl_actT (fq : Nat → Nat) (el : EL) (d x : Int32) (f s : Int64) : actT fq (zl el) d x f s = actT fq el d x f s := by
  unfold actT
  rw [zl_rch, zl_kyF, zl_wtF, zl_ksz, zl_fAct]
theorem zl_pthT (fq : Nat → Nat) (el : EL) (x : Int32) (f s : Int64) : pthT fq (zl el) x f s = pthT fq el x f s := by
  unfold pthT
  rw [zl_rch, zl_kyF, zl_wtF, zl_ksz, zl_pRT]
theorem zl_up (E : Nat → EL) (j : Nat) (x : EL) : (fun i => zl (va_up E j x i)) = va_up (fun i => zl (E i)) j (zl x) := by
  funext i
  by_cases h : i = j
  · subst h; simp [va_up]
  · rw [va_up_ne _ _ h, va_up_ne _ _ h]
