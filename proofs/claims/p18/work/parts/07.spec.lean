/-! WHAT A RULE IS: number, argument, mask, value, action -/
abbrev RV : Type := Int32 × Int32 × Int64 × Int64 × Int32
abbrev ruleE (r : RV) : va_E := .inr (4, [.int r.1, .int r.2.1, .long r.2.2.1, .long r.2.2.2.1, .int r.2.2.2.2])
def bI (b : Bool) : Int32 := if b then 1 else 0
def nevB (r : RV) : Bool := decide (¬ (r.2.2.2.1 &&& (r.2.2.1 ^^^ (-1))) = 0)
def covB (a b : RV) : Bool := if a.1 = b.1 then (if a.2.2.1 = 0 ∧ a.2.2.2.1 = 0 then true else if a.2.1 = b.2.1 ∧ (a.2.2.1 &&& (b.2.2.1 ^^^ (-1))) = 0 ∧ (b.2.2.2.1 &&& a.2.2.1) = a.2.2.2.1 then true else false) else false
def ownA (r : RV) (f s : Int64) : Int64 := if r.2.1 = 0 then f else s
def matB (r : RV) (f s : Int64) : Bool := decide ((ownA r f s &&& r.2.2.1) = r.2.2.2.1)
def lowT (m : Int64) : Int32 := if (m &&& 4294967295) = 0 then 0 else 1
def uppT (m : Int64) : Int32 := if (m &&& (-4294967296)) = 0 then 0 else 1
def halT (m : Int64) : Int32 := lowT m + uppT m
def tstT (r : RV) (f s : Int64) : Int32 := if (((ownA r f s &&& r.2.2.1) ^^^ r.2.2.2.1) &&& 4294967295) = 0 then halT r.2.2.1 else lowT r.2.2.1
theorem nz_c {x y : Int64} (h : ¬ lg_cmp x y = 0) : ¬ x = y := fun q => h ((lg_cmp_eq x y).mpr q)
theorem ez_c {x y : Int64} (h : lg_cmp x y = 0) : x = y := (lg_cmp_eq x y).mp h
theorem bI_z (b : Bool) : narrow .boolean (.int (bI b)) = .int (bI b) := by cases b <;> rfl
theorem bI_0 {b : Bool} (h : bI b = 0) : b = false := by cases b with | false => rfl | true => exact absurd h (by decide)
theorem bI_1 {b : Bool} (h : ¬ bI b = 0) : b = true := by cases b with | true => rfl | false => exact absurd rfl h
