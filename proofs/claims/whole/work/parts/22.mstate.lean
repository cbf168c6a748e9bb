/-! THE REFERENCE'S STATE (own text). E: the addresses: 0 the object, 1 + k its k-th array:
0 parents, 1 owners, 2 froms, 3 tos, 4 many, 5 xs, 6 ys, 7 closed, 8 partners, 9 named, 10 numbers, 11 nameFroms, 12 nameTos, 13 mapXs, 14 mapYs, 15 markXs, 16 markYs -/
def z_mlen (k : Nat) : Nat := if k = 0 then 16 else if k = 5 then 384 else if k = 6 then 384 else if k < 9 then 32 else if k < 13 then 40 else 12
abbrev z_mfs (E : Nat → Nat) (th : Int32) (mp ms mc mn mm : Nat) : List Value :=
  [.int th, .int (nI mp), .ref (E 1), .int (nI ms), .ref (E 2), .ref (E 3), .ref (E 4), .ref (E 5), .ref (E 6), .ref (E 7), .ref (E 8), .int (nI mc), .ref (E 9), .int (nI mn), .ref (E 10), .ref (E 11), .ref (E 12), .ref (E 13), .int (nI mm), .ref (E 14), .ref (E 15), .ref (E 16), .ref (E 17)]
def z_Md (D : va_G) (cI : ClassId) (H : Heap) (E : Nat → Nat) (th : Int32) (mp ms mc mn mm : Nat) (gv : Nat → Nat → Int32) : Prop :=
  (z_O D H (E 0) 4 (z_mfs E th mp ms mc mn mm) ∧ (∀ k, k < 17 → z_A cI H (E (1 + k)) (z_mlen k) (gv k))) ∧
  (∀ i j, i < 18 → j < 18 → E i = E j → i = j) ∧ (mp ≤ 16 ∧ ms ≤ 32 ∧ mn ≤ 40 ∧ mm ≤ 12 ∧ mc < 2 ^ 30)
/-! PURE: what the reference's readers answer -/
def pm_side (ax ay bx bY cx cy : Int32) : Int32 := (bx - ax) * (cy - ay) - (bY - ay) * (cx - ax)
def pm_sign (v : Int32) : Int32 := if 0 < v then 1 else if v < 0 then -1 else 0
def pm_btw (v a b : Int32) : Bool := (decide (a ≤ v) && decide (v ≤ b)) || (decide (b ≤ v) && decide (v ≤ a))
def pm_on (gx gy : Nat → Int32) (a b : Nat) (x y : Int32) : Bool := decide (pm_side (gx a) (gy a) (gx b) (gy b) x y = 0) && (pm_btw x (gx a) (gx b) && pm_btw y (gy a) (gy b))
def pm_cross (gx gy : Nat → Int32) (a b c d : Nat) : Int32 := pm_sign (pm_side (gx a) (gy a) (gx b) (gy b) (gx c) (gy c)) * pm_sign (pm_side (gx a) (gy a) (gx b) (gy b) (gx d) (gy d))
def pm_meet (gx gy : Nat → Int32) (a b c d : Nat) : Bool :=
  pm_on gx gy a b (gx c) (gy c) || (pm_on gx gy a b (gx d) (gy d) || (pm_on gx gy c d (gx a) (gy a) || (pm_on gx gy c d (gx b) (gy b) || (decide (pm_cross gx gy a b c d < 0) && decide (pm_cross gx gy c d a b < 0)))))
def pm_af (n s k : Nat) : Nat := 12 * s + (k + 1) % n
def pm_pt (x y : Int32) : Bool := decide ((-10000) ≤ x) && (decide (x ≤ 10000) && (decide ((-10000) ≤ y) && decide (y ≤ 10000)))
def pm_day (d : Int32) : Bool := decide (0 ≤ d) && decide (d ≤ 100000)
def pm_idx (n : Nat) (x : Int32) : Bool := decide (0 ≤ x) && decide (x < nI n)
def pm_hold (gx gy : Nat → Int32) (a b c : Nat) (x y : Int32) : Bool :=
  decide (¬ pm_sign (pm_side (gx a) (gy a) (gx b) (gy b) (gx c) (gy c)) = 0) &&
  (decide (0 ≤ pm_sign (pm_side (gx a) (gy a) (gx b) (gy b) (gx c) (gy c)) * pm_sign (pm_side (gx a) (gy a) (gx b) (gy b) x y)) &&
  (decide (0 ≤ pm_sign (pm_side (gx a) (gy a) (gx b) (gy b) (gx c) (gy c)) * pm_sign (pm_side (gx b) (gy b) (gx c) (gy c) x y)) &&
   decide (0 ≤ pm_sign (pm_side (gx a) (gy a) (gx b) (gy b) (gx c) (gy c)) * pm_sign (pm_side (gx c) (gy c) (gx a) (gy a) x y))))
def pm_near (a w : Int64) : Int32 :=
  (if ((if w < 0 then 0 - 2 * a else 2 * a) + (if w < 0 then 0 - 2 * w else 2 * w) / 2) < ((if w < 0 then 0 - 2 * a else 2 * a) + (if w < 0 then 0 - 2 * w else 2 * w) / 2) / (if w < 0 then 0 - 2 * w else 2 * w) * (if w < 0 then 0 - 2 * w else 2 * w)
   then ((if w < 0 then 0 - 2 * a else 2 * a) + (if w < 0 then 0 - 2 * w else 2 * w) / 2) / (if w < 0 then 0 - 2 * w else 2 * w) - 1
   else ((if w < 0 then 0 - 2 * a else 2 * a) + (if w < 0 then 0 - 2 * w else 2 * w) / 2) / (if w < 0 then 0 - 2 * w else 2 * w)).toInt32
