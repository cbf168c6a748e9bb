/-! PURE: what the class's readers answer (own text) -/
def pc_nx (n k : Nat) : Nat := if k + 1 < n then k + 1 else 0
theorem pc_nx_lt {n k : Nat} (h : k < n) : pc_nx n k < n := by unfold pc_nx; split <;> omega
def pc_turn (ax ay bx bY cx cy : Int32) : Int64 := (bx - ax).toInt64 * (cy - ay).toInt64 - (bY - ay).toInt64 * (cx - ax).toInt64
def pc_btw (e o v : Int32) : Bool := decide ((if o < e then o else e) ≤ v) && decide (v ≤ (if e < o then o else e))
def pc_side (xs ys : Nat → Int32) (n i : Nat) (x y : Int32) : Int64 := pc_turn (xs i) (ys i) (xs (pc_nx n i)) (ys (pc_nx n i)) x y
def pc_on (xs ys : Nat → Int32) (n i : Nat) (x y : Int32) : Bool := pc_btw (xs i) (xs (pc_nx n i)) x && (pc_btw (ys i) (ys (pc_nx n i)) y && decide (pc_side xs ys n i x y = 0))
def pc_rt (xs ys : Nat → Int32) (n i : Nat) (x y : Int32) : Bool :=
  if ys i ≤ y ∧ y < ys (pc_nx n i) then decide (0 < pc_side xs ys n i x y)
  else decide (ys (pc_nx n i) ≤ y) && (decide (y < ys i) && decide (pc_side xs ys n i x y < 0))
def pc_cont (xs ys : Nat → Int32) (n : Nat) (x y : Int32) : Nat → Nat → Bool → Bool
  | 0, _, w => w
  | k + 1, i, w => if pc_on xs ys n i x y = true then true else pc_cont xs ys n x y k (i + 1) (if pc_rt xs ys n i x y = true then !w else w)
def pc_in (xs ys : Nat → Int32) (n : Nat) (x y : Int32) : Bool := pc_cont xs ys n x y n 0 false
def pc_hc (xs ys : Nat → Int32) (n i k : Nat) : Bool := pc_on xs ys n i (xs k) (ys k)
def pc_fold (xs ys : Nat → Int32) (n i j : Nat) : Bool := pc_hc xs ys n i (pc_nx n j) || pc_hc xs ys n j i
def pc_parts (xs ys : Nat → Int32) (n i j : Nat) : Bool :=
  (decide (pc_side xs ys n i (xs j) (ys j) < 0) && decide (0 < pc_side xs ys n i (xs (pc_nx n j)) (ys (pc_nx n j)))) ||
  (decide (0 < pc_side xs ys n i (xs j) (ys j)) && decide (pc_side xs ys n i (xs (pc_nx n j)) (ys (pc_nx n j)) < 0))
def pc_clash (xs ys : Nat → Int32) (n i j : Nat) : Bool :=
  if pc_nx n i = j then pc_fold xs ys n i j else if pc_nx n j = i then pc_fold xs ys n j i
  else pc_hc xs ys n i j || (pc_hc xs ys n i (pc_nx n j) || (pc_hc xs ys n j i || (pc_hc xs ys n j (pc_nx n i) || (pc_parts xs ys n i j && pc_parts xs ys n j i))))
def pc_same (xs ys : Nat → Int32) (i j : Nat) : Bool := decide (xs i = xs j) && decide (ys i = ys j)
/-- no clash of line i with the lines j, j + 1, .. -/
def pc_ccj (xs ys : Nat → Int32) (n i : Nat) : Nat → Nat → Bool
  | 0, _ => true
  | k + 1, j => if pc_same xs ys i j = true then false else if pc_clash xs ys n i j = true then false else pc_ccj xs ys n i k (j + 1)
def pc_cci (xs ys : Nat → Int32) (n : Nat) : Nat → Nat → Bool
  | 0, _ => true
  | k + 1, i => if pc_ccj xs ys n i (n - (i + 1)) (i + 1) = true then pc_cci xs ys n k (i + 1) else false
def pc_can (xs ys : Nat → Int32) (n : Nat) (ca : Int32) : Bool := if 0 < ca then false else if n < 3 then false else pc_cci xs ys n n 0
/-- the corners i, i + 1, .. of another border lie in this one -/
def pc_all (xs ys : Nat → Int32) (n : Nat) (us vs : Nat → Int32) : Nat → Nat → Bool
  | 0, _ => true
  | k + 1, i => if pc_in xs ys n (us i) (vs i) = true then pc_all xs ys n us vs k (i + 1) else false
def pc_sum (xs ys : Nat → Int32) (n : Nat) : Nat → Nat → Int64 → Int64
  | 0, _, a => a
  | k + 1, i, a => pc_sum xs ys n k (i + 1) (a + pc_turn 0 0 (xs i) (ys i) (xs (pc_nx n i)) (ys (pc_nx n i)))
def pc_area (xs ys : Nat → Int32) (n : Nat) : Int32 := (if 0 < pc_sum xs ys n n 0 0 then pc_sum xs ys n n 0 0 else -pc_sum xs ys n n 0 0).toInt32
def pc_sq (xs ys : Nat → Int32) (i : Nat) (us vs : Nat → Int32) (j : Nat) : Int32 := (xs i - us j) * (xs i - us j) + (ys i - vs j) * (ys i - vs j)
def pc_lj (xs ys us vs : Nat → Int32) (i : Nat) : Nat → Nat → Int32 → Int32
  | 0, _, a => a
  | k + 1, j, a => pc_lj xs ys us vs i k (j + 1) (if pc_sq xs ys i us vs j < a then pc_sq xs ys i us vs j else a)
def pc_li (xs ys us vs : Nat → Int32) (n2 : Nat) : Nat → Nat → Int32 → Int32
  | 0, _, a => a
  | k + 1, i, a => pc_li xs ys us vs n2 k (i + 1) (pc_lj xs ys us vs i n2 0 a)
def pc_least (xs ys : Nat → Int32) (n : Nat) (us vs : Nat → Int32) (n2 : Nat) : Int32 := pc_li xs ys us vs n2 n 0 (pc_sq xs ys 0 us vs 0)
