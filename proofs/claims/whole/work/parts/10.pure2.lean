/-! PURE: names and old maps (own text) -/
theorem z_m1 {k : Nat} (hk : k < 2 ^ 31) (h : nI k - 1 < 0) : k = 0 := by
  rcases k with _ | k
  · rfl
  · rw [nI_pred] at h; exact absurd h (nI_pos (by omega))
theorem z_m0 {k : Nat} (h : ¬ nI k - 1 < 0) : ∃ q, k = q + 1 := by
  rcases k with _ | k
  · exact absurd (by decide) h
  · exact ⟨k, rfl⟩
def pn_find (ow nu fs ts : Nat → Int32) (p d : Int32) : Nat → Int32
  | 0 => -1
  | k + 1 => if ow k = p ∧ fs k ≤ d ∧ d ≤ ts k then nu k else pn_find ow nu fs ts p d k
def po_sh (mx my : Nat → Int32) (i j : Nat) (x y : Int32) : Int64 := pc_turn (mx i) (my i) (mx j) (my j) x y
def po_hb (mx my : Nat → Int32) (i j k : Nat) (x y : Int32) : Bool :=
  (decide (0 < po_sh mx my i j (mx k) (my k)) && (decide (0 ≤ po_sh mx my j k x y) && (decide (0 ≤ po_sh mx my k i x y) && decide (0 ≤ po_sh mx my i j x y)))) ||
  (decide (po_sh mx my i j (mx k) (my k) < 0) && (decide (po_sh mx my j k x y ≤ 0) && (decide (po_sh mx my k i x y ≤ 0) && decide (po_sh mx my i j x y ≤ 0))))
/-- Math.floorDiv of longs -/
def pl_fd (x y : Int64) : Int64 := if (x ^^^ y) < 0 ∧ ¬ (x / y) * y = x then x / y - 1 else x / y
def pl_abs (x : Int64) : Int64 := if 0 < x then x else -x
def po_rq (a w : Int64) : Int32 := if w = 0 then 0 else (pl_fd (2 * (if 0 < w then a else -a) + pl_abs w) (2 * pl_abs w)).toInt32
def po_val (mx my vs : Nat → Int32) (i j k : Nat) (x y : Int32) : Int32 :=
  po_rq (po_sh mx my j k x y * (vs i).toInt64 + po_sh mx my k i x y * (vs j).toInt64 + po_sh mx my i j x y * (vs k).toInt64) (po_sh mx my j k x y + po_sh mx my k i x y + po_sh mx my i j x y)
/-- the first k from k0 on that does it for i, j -/
def po_fk (mx my : Nat → Int32) (x y : Int32) (i j : Nat) : Nat → Nat → Option (Nat × Nat × Nat)
  | 0, _ => none
  | f + 1, k => if po_hb mx my i j k x y = true then some (i, j, k) else po_fk mx my x y i j f (k + 1)
def po_or (a b : Option (Nat × Nat × Nat)) : Option (Nat × Nat × Nat) := match a with
  | some t => some t
  | none => b
def po_fj (mx my : Nat → Int32) (x y : Int32) (n i : Nat) : Nat → Nat → Option (Nat × Nat × Nat)
  | 0, _ => none
  | f + 1, j => po_or (po_fk mx my x y i j (n - (j + 1)) (j + 1)) (po_fj mx my x y n i f (j + 1))
def po_fi (mx my : Nat → Int32) (x y : Int32) (n : Nat) : Nat → Nat → Option (Nat × Nat × Nat)
  | 0, _ => none
  | f + 1, i => po_or (po_fj mx my x y n i (n - (i + 1)) (i + 1)) (po_fi mx my x y n f (i + 1))
/-- Math.floorDiv of ints -/
def pl_fdi (x y : Int32) : Int32 := if (x ^^^ y) < 0 ∧ ¬ (x / y) * y = x then x / y - 1 else x / y
