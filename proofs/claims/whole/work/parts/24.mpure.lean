/-! PURE: the reference's loops (own text) -/
def pm_h (gv : Nat → Nat → Int32) (p d : Int32) (i : Nat) : Bool := decide (gv 1 i = p) && (decide (0 < gv 7 i) && (decide (gv 2 i ≤ d) && decide (d ≤ gv 3 i)))
def pm_nx (gv : Nat → Nat → Int32) (b : Option Nat) (i : Nat) : Option Nat := match b with
  | none => some i
  | some j => if gv 7 i ≤ gv 7 j then some j else some i
def pm_fo (gv : Nat → Nat → Int32) (p d : Int32) : Nat → Nat → Option Nat → Option Nat
  | 0, _, b => b
  | k + 1, i, b => pm_fo gv p d k (i + 1) (if pm_h gv p d i = true then pm_nx gv b i else b)
abbrev pm_f (gv : Nat → Nat → Int32) (ms : Nat) (p d : Int32) : Option Nat := pm_fo gv p d ms 0 none
theorem pm_fo_ok {gv : Nat → Nat → Int32} {p d : Int32} {ms : Nat} : ∀ (k i : Nat) (b : Option Nat), i + k = ms → (∀ j, b = some j → j < ms ∧ 0 < gv 7 j) → ∀ j, pm_fo gv p d k i b = some j → j < ms ∧ 0 < gv 7 j := by
  intro k
  induction k with
  | zero => intro i b _ hb j hj; exact hb j hj
  | succ k ih =>
    intro i b hik hb j hj
    refine ih (i + 1) _ (by omega) ?_ j hj
    intro q hq
    by_cases h : pm_h gv p d i = true
    · rw [if_pos h] at hq
      have hp : 0 < gv 7 i := by
        simp only [pm_h, Bool.and_eq_true, decide_eq_true_eq] at h
        exact h.2.1
      have hi : i < ms := by omega
      unfold pm_nx at hq
      split at hq
      · cases hq; exact ⟨hi, hp⟩
      · split at hq
        · cases hq; exact hb _ rfl
        · cases hq; exact ⟨hi, hp⟩
    · rw [if_neg h] at hq; exact hb q hq
theorem pm_f_ok {gv : Nat → Nat → Int32} {p d : Int32} {ms j : Nat} (h : pm_f gv ms p d = some j) : j < ms ∧ 0 < gv 7 j :=
  pm_fo_ok ms 0 none (by omega) (fun _ h => by cases h) j h
def pm_tog (gx gy : Nat → Int32) (a b : Nat) (x y : Int32) : Bool :=
  (decide (y < gy a) != decide (y < gy b)) && (decide (gy a < gy b) == decide (0 < pm_side (gx a) (gy a) (gx b) (gy b) x y))
def pm_cont (gx gy : Nat → Int32) (n s : Nat) (x y : Int32) : Nat → Nat → Bool → Bool
  | 0, _, w => w
  | f + 1, k, w => if pm_on gx gy (12 * s + k) (pm_af n s k) x y = true then true else pm_cont gx gy n s x y f (k + 1) (if pm_tog gx gy (12 * s + k) (pm_af n s k) x y = true then !w else w)
def pm_in (gx gy : Nat → Int32) (n s : Nat) (x y : Int32) : Bool := pm_cont gx gy n s x y n 0 false
/-- some corner of s from k on isn't in the border of q -/
def pm_out (gx gy : Nat → Int32) (nq q s : Nat) : Nat → Nat → Bool → Bool
  | 0, _, w => w
  | f + 1, k, w => pm_out gx gy nq q s f (k + 1) (w || !(pm_in gx gy nq q (gx (12 * s + k)) (gy (12 * s + k))))
def pm_mf (gv : Nat → Nat → Int32) (cn : Nat → Nat) (a b : Option Nat) : Bool := match a, b with
  | some i, some j => pm_out (gv 5) (gv 6) (cn j) j i (cn i) 0 false
  | _, _ => false
def pm_mis (gv : Nat → Nat → Int32) (cn : Nat → Nat) (ms : Nat) (d : Int32) (p : Nat) : Bool :=
  pm_mf gv cn (pm_f gv ms (nI p) d) (if gv 0 p = -1 then none else pm_f gv ms (gv 0 p) d)
def pm_sj (gx gy : Nat → Int32) (s i : Nat) : Nat → Nat → Bool → Bool
  | 0, _, g => g
  | f + 1, j, g => pm_sj gx gy s i f (j + 1) (g && (decide (¬ gx (12 * s + i) = gx (12 * s + j)) || decide (¬ gy (12 * s + i) = gy (12 * s + j))))
def pm_si (gx gy : Nat → Int32) (s : Nat) : Nat → Nat → Bool → Bool
  | 0, _, g => g
  | f + 1, i, g => pm_si gx gy s f (i + 1) (pm_sj gx gy s i i 0 g)
def pm_ap (n i j : Nat) : Bool := decide (¬ j = i) && (decide (¬ (j + 1) % n = i) && decide (¬ (i + 1) % n = j))
def pm_cj (gx gy : Nat → Int32) (n s i : Nat) : Nat → Nat → Bool → Bool
  | 0, _, g => g
  | f + 1, j, g => if g = true then pm_cj gx gy n s i f (j + 1) (!(pm_ap n i j) || !(pm_meet gx gy (12 * s + i) (pm_af n s i) (12 * s + j) (pm_af n s j))) else g
def pm_ci (gx gy : Nat → Int32) (n s : Nat) : Nat → Nat → Bool → Bool
  | 0, _, g => g
  | f + 1, i, g => if g = true then pm_ci gx gy n s f (i + 1) (pm_cj gx gy n s i n 0 (!(pm_on gx gy (12 * s + i) (pm_af n s i) (gx (pm_af n s (i + 1))) (gy (pm_af n s (i + 1)))) && !(pm_on gx gy (pm_af n s i) (pm_af n s (i + 1)) (gx (12 * s + i)) (gy (12 * s + i))))) else g
def pm_can (gx gy : Nat → Int32) (n s : Nat) : Bool := pm_ci gx gy n s n 0 (pm_si gx gy s n 0 (decide (3 ≤ n)))
theorem pm_af_lt {n s k : Nat} (hs : s < 32) (h0 : 0 < n) (hn : n ≤ 12) : pm_af n s k < 384 := by
  have := Nat.mod_lt (k + 1) h0
  unfold pm_af; omega
theorem pm_cj_f (gx gy : Nat → Int32) (n s i : Nat) : ∀ f j, pm_cj gx gy n s i f j false = false := by
  intro f j; cases f <;> simp [pm_cj]
theorem pm_ci_f (gx gy : Nat → Int32) (n s : Nat) : ∀ f j, pm_ci gx gy n s f j false = false := by
  intro f j; cases f <;> simp [pm_ci]
