/-! PURE: the class's words against the reference's (own text): numbers within 10000 of 0 -/
def pq_r (x : Int32) : Prop := -10000 ≤ x.toInt ∧ x.toInt ≤ 10000
def pq_s (ax ay bx bY cx cy : Int32) : Int := (bx.toInt - ax.toInt) * (cy.toInt - ay.toInt) - (bY.toInt - ay.toInt) * (cx.toInt - ax.toInt)
theorem pq_mb {a b n m : Int} (ha : -n ≤ a ∧ a ≤ n) (hb : -m ≤ b ∧ b ≤ m) : -(n * m) ≤ a * b ∧ a * b ≤ n * m := by
  have h1 : a.natAbs * b.natAbs ≤ n.natAbs * m.natAbs := Nat.mul_le_mul (by omega) (by omega)
  rw [← Int.natAbs_mul, ← Int.natAbs_mul] at h1
  have h2 : 0 ≤ n * m := Int.mul_nonneg (by omega) (by omega)
  omega
theorem pq_sub {a b : Int32} (ha : pq_r a) (hb : pq_r b) : (a - b).toInt = a.toInt - b.toInt := by
  unfold pq_r at ha hb
  rw [Int32.toInt_sub]
  exact Int.bmod_eq_of_le (by omega) (by omega)
theorem pq_sb {ax ay bx bY cx cy : Int32} (h1 : pq_r ax) (h2 : pq_r ay) (h3 : pq_r bx) (h4 : pq_r bY) (h5 : pq_r cx) (h6 : pq_r cy) : -800000000 ≤ pq_s ax ay bx bY cx cy ∧ pq_s ax ay bx bY cx cy ≤ 800000000 := by
  unfold pq_r at h1 h2 h3 h4 h5 h6
  have a1 := pq_mb (a := bx.toInt - ax.toInt) (b := cy.toInt - ay.toInt) (n := 20000) (m := 20000) (by omega) (by omega)
  have a2 := pq_mb (a := bY.toInt - ay.toInt) (b := cx.toInt - ax.toInt) (n := 20000) (m := 20000) (by omega) (by omega)
  unfold pq_s
  omega
theorem pq_side {ax ay bx bY cx cy : Int32} (h1 : pq_r ax) (h2 : pq_r ay) (h3 : pq_r bx) (h4 : pq_r bY) (h5 : pq_r cx) (h6 : pq_r cy) : (pm_side ax ay bx bY cx cy).toInt = pq_s ax ay bx bY cx cy := by
  have e1 := pq_sub h3 h1
  have e2 := pq_sub h6 h2
  have e3 := pq_sub h4 h2
  have e4 := pq_sub h5 h1
  unfold pq_r at h1 h2 h3 h4 h5 h6
  have a1 := pq_mb (a := bx.toInt - ax.toInt) (b := cy.toInt - ay.toInt) (n := 20000) (m := 20000) (by omega) (by omega)
  have a2 := pq_mb (a := bY.toInt - ay.toInt) (b := cx.toInt - ax.toInt) (n := 20000) (m := 20000) (by omega) (by omega)
  unfold pm_side pq_s
  rw [Int32.toInt_sub, Int32.toInt_mul, Int32.toInt_mul, e1, e2, e3, e4]
  rw [Int.bmod_eq_of_le (n := (bx.toInt - ax.toInt) * (cy.toInt - ay.toInt)) (by omega) (by omega), Int.bmod_eq_of_le (n := (bY.toInt - ay.toInt) * (cx.toInt - ax.toInt)) (by omega) (by omega)]
  exact Int.bmod_eq_of_le (by omega) (by omega)
theorem pq_turn {ax ay bx bY cx cy : Int32} (h1 : pq_r ax) (h2 : pq_r ay) (h3 : pq_r bx) (h4 : pq_r bY) (h5 : pq_r cx) (h6 : pq_r cy) : (pc_turn ax ay bx bY cx cy).toInt = pq_s ax ay bx bY cx cy := by
  have e1 := pq_sub h3 h1
  have e2 := pq_sub h6 h2
  have e3 := pq_sub h4 h2
  have e4 := pq_sub h5 h1
  unfold pq_r at h1 h2 h3 h4 h5 h6
  have a1 := pq_mb (a := bx.toInt - ax.toInt) (b := cy.toInt - ay.toInt) (n := 20000) (m := 20000) (by omega) (by omega)
  have a2 := pq_mb (a := bY.toInt - ay.toInt) (b := cx.toInt - ax.toInt) (n := 20000) (m := 20000) (by omega) (by omega)
  unfold pc_turn pq_s
  rw [Int64.toInt_sub, Int64.toInt_mul, Int64.toInt_mul, Int32.toInt_toInt64, Int32.toInt_toInt64, Int32.toInt_toInt64, Int32.toInt_toInt64, e1, e2, e3, e4]
  rw [Int.bmod_eq_of_le (n := (bx.toInt - ax.toInt) * (cy.toInt - ay.toInt)) (by omega) (by omega), Int.bmod_eq_of_le (n := (bY.toInt - ay.toInt) * (cx.toInt - ax.toInt)) (by omega) (by omega)]
  exact Int.bmod_eq_of_le (by omega) (by omega)
theorem pq_64 {x : Int64} {y : Int32} (h : x.toInt = y.toInt) : x = y.toInt64 := Int64.toInt_inj.mp (by rw [Int32.toInt_toInt64, h])
/-- the signs of the two -/
theorem pq_0 {x : Int64} {v : Int} (h : x.toInt = v) : (x = 0 ↔ v = 0) ∧ (0 < x ↔ 0 < v) ∧ (x < 0 ↔ v < 0) ∧ (0 ≤ x ↔ 0 ≤ v) ∧ (x ≤ 0 ↔ v ≤ 0) := by
  rw [Int64.lt_iff_toInt_lt, Int64.lt_iff_toInt_lt, Int64.le_iff_toInt_le, Int64.le_iff_toInt_le, ← Int64.toInt_inj, h]
  exact ⟨Iff.rfl, Iff.rfl, Iff.rfl, Iff.rfl, Iff.rfl⟩
theorem pq_1 {x : Int32} {v : Int} (h : x.toInt = v) : (x = 0 ↔ v = 0) ∧ (0 < x ↔ 0 < v) ∧ (x < 0 ↔ v < 0) := by
  rw [Int32.lt_iff_toInt_lt, Int32.lt_iff_toInt_lt, ← Int32.toInt_inj, h]
  exact ⟨Iff.rfl, Iff.rfl, Iff.rfl⟩
theorem pq_btw (a b v : Int32) : pm_btw v a b = pc_btw a b v := by
  unfold pm_btw pc_btw
  rw [Bool.eq_iff_iff]
  simp only [Bool.or_eq_true, Bool.and_eq_true, decide_eq_true_eq, Int32.le_iff_toInt_le, Int32.lt_iff_toInt_lt]
  split <;> split <;> omega
theorem pq_nx {n k : Nat} (h : k < n) : (k + 1) % n = pc_nx n k := by
  unfold pc_nx
  split
  · exact Nat.mod_eq_of_lt (by assumption)
  · rw [show k + 1 = n by omega, Nat.mod_self]
theorem pq_on {xs ys gx gy : Nat → Int32} {n s i : Nat} {x y : Int32} (ex : ∀ k, k < n → xs k = gx (12 * s + k)) (ey : ∀ k, k < n → ys k = gy (12 * s + k)) (rx : ∀ k, k < n → pq_r (xs k)) (ry : ∀ k, k < n → pq_r (ys k)) (hx : pq_r x) (hy : pq_r y) (hi : i < n) :
    pm_on gx gy (12 * s + i) (pm_af n s i) x y = pc_on xs ys n i x y := by
  have hn := pc_nx_lt hi
  unfold pm_on pc_on pc_side pm_af
  rw [pq_nx hi, pq_btw, pq_btw, ← ex _ hi, ← ex _ hn, ← ey _ hi, ← ey _ hn]
  have h1 := pq_1 (pq_side (rx _ hi) (ry _ hi) (rx _ hn) (ry _ hn) hx hy)
  have h2 := pq_0 (pq_turn (rx _ hi) (ry _ hi) (rx _ hn) (ry _ hn) hx hy)
  rw [Bool.eq_iff_iff]
  simp only [Bool.and_eq_true, decide_eq_true_eq, h1.1, h2.1]
  constructor
  · rintro ⟨a, b, c⟩; exact ⟨b, c, a⟩
  · rintro ⟨b, c, a⟩; exact ⟨a, b, c⟩
/-- a point on a falling line's height, on its straight: it lies on the line -/
theorem pq_col {ax ay bx bY x y : Int} (h : (bx - ax) * (y - ay) - (bY - ay) * (x - ax) = 0) (h1 : bY ≤ y) (h2 : y < ay) : (ax ≤ x ∧ x ≤ bx) ∨ (bx ≤ x ∧ x ≤ ax) := by
  have h3 : (ay - bY) * (x - ax) = (bx - ax) * (ay - y) := by grind
  rcases Int.le_total ax bx with g | g
  · left
    have p1 : 0 ≤ (ay - bY) * (x - ax) := by rw [h3]; exact Int.mul_nonneg (by omega) (by omega)
    have p2 : 0 ≤ x - ax := by
      rcases Int.lt_or_le (x - ax) 0 with q | q
      · have := Int.mul_neg_of_pos_of_neg (show 0 < ay - bY by omega) q; omega
      · exact q
    have p3 : (bx - ax) * (ay - y) ≤ (bx - ax) * (ay - bY) := Int.mul_le_mul_of_nonneg_left (by omega) (by omega)
    have p4 : (ay - bY) * (x - ax) ≤ (ay - bY) * (bx - ax) := by rw [h3, Int.mul_comm (ay - bY)]; exact p3
    have p5 := Int.le_of_mul_le_mul_left p4 (by omega)
    omega
  · right
    have p1 : (ay - bY) * (x - ax) ≤ 0 := by rw [h3]; exact Int.mul_nonpos_of_nonpos_of_nonneg (by omega) (by omega)
    have p2 : x - ax ≤ 0 := by
      rcases Int.lt_or_le 0 (x - ax) with q | q
      · have := Int.mul_pos (show 0 < ay - bY by omega) q; omega
      · exact q
    have p3 : (ax - bx) * (ay - y) ≤ (ax - bx) * (ay - bY) := Int.mul_le_mul_of_nonneg_left (by omega) (by omega)
    have p4 : (ay - bY) * (ax - x) ≤ (ay - bY) * (ax - bx) := by
      have e1 : (ay - bY) * (ax - x) = (ax - bx) * (ay - y) := by grind
      rw [e1, Int.mul_comm (ay - bY)]; exact p3
    have p5 := Int.le_of_mul_le_mul_left p4 (by omega)
    omega
theorem pq_tog {xs ys gx gy : Nat → Int32} {n s i : Nat} {x y : Int32} (ex : ∀ k, k < n → xs k = gx (12 * s + k)) (ey : ∀ k, k < n → ys k = gy (12 * s + k)) (rx : ∀ k, k < n → pq_r (xs k)) (ry : ∀ k, k < n → pq_r (ys k)) (hx : pq_r x) (hy : pq_r y) (hi : i < n) (hno : pc_on xs ys n i x y = false) :
    pm_tog gx gy (12 * s + i) (pm_af n s i) x y = pc_rt xs ys n i x y := by
  have hn := pc_nx_lt hi
  unfold pm_tog pc_rt pc_side pm_af
  unfold pc_on pc_side at hno
  rw [pq_nx hi, ← ex _ hi, ← ex _ hn, ← ey _ hi, ← ey _ hn]
  have h1 := pq_1 (pq_side (rx _ hi) (ry _ hi) (rx _ hn) (ry _ hn) hx hy)
  have h2 := pq_0 (pq_turn (rx _ hi) (ry _ hi) (rx _ hn) (ry _ hn) hx hy)
  generalize hv : pq_s (xs i) (ys i) (xs (pc_nx n i)) (ys (pc_nx n i)) x y = v at h1 h2
  rw [← pq_btw, ← pq_btw] at hno
  have hno2 : ¬ (pm_btw x (xs i) (xs (pc_nx n i)) = true ∧ pm_btw y (ys i) (ys (pc_nx n i)) = true ∧ v = 0) := by
    rintro ⟨a, b, c⟩
    rw [a, b, decide_eq_true (h2.1.mpr c)] at hno
    exact absurd hno (by decide)
  unfold pm_btw at hno2
  simp only [Bool.or_eq_true, Bool.and_eq_true, decide_eq_true_eq, Int32.le_iff_toInt_le] at hno2
  unfold pq_s at hv
  have hc : ¬ (v = 0 ∧ (ys (pc_nx n i)).toInt ≤ y.toInt ∧ y.toInt < (ys i).toInt) := fun ⟨e, a, b⟩ => by
    rw [e] at hv
    have := pq_col hv a b
    exact hno2 ⟨by omega, by omega, e⟩
  simp only [h1.2.1, h2.2.1, h2.2.2.1, Int32.le_iff_toInt_le, Int32.lt_iff_toInt_lt]
  by_cases a1 : y.toInt < (ys i).toInt <;> by_cases a2 : y.toInt < (ys (pc_nx n i)).toInt <;> by_cases a3 : (ys i).toInt < (ys (pc_nx n i)).toInt <;> by_cases a4 : 0 < v <;> by_cases a5 : v < 0 <;> simp [a1, a2, a3, a4, a5] <;> omega
theorem pq_cont {xs ys gx gy : Nat → Int32} {n s : Nat} {x y : Int32} (ex : ∀ k, k < n → xs k = gx (12 * s + k)) (ey : ∀ k, k < n → ys k = gy (12 * s + k)) (rx : ∀ k, k < n → pq_r (xs k)) (ry : ∀ k, k < n → pq_r (ys k)) (hx : pq_r x) (hy : pq_r y) :
    ∀ (f k : Nat) (w : Bool), k + f = n → pm_cont gx gy n s x y f k w = pc_cont xs ys n x y f k w := by
  intro f
  induction f with
  | zero => intro k w _; rfl
  | succ f ih =>
    intro k w h
    unfold pm_cont pc_cont
    rw [pq_on ex ey rx ry hx hy (show k < n by omega), ih (k + 1) _ (by omega)]
    cases ho : pc_on xs ys n k x y
    · rw [pq_tog ex ey rx ry hx hy (show k < n by omega) ho]
    · rfl
theorem pq_in {xs ys gx gy : Nat → Int32} {n s : Nat} {x y : Int32} (ex : ∀ k, k < n → xs k = gx (12 * s + k)) (ey : ∀ k, k < n → ys k = gy (12 * s + k)) (rx : ∀ k, k < n → pq_r (xs k)) (ry : ∀ k, k < n → pq_r (ys k)) (hx : pq_r x) (hy : pq_r y) :
    pm_in gx gy n s x y = pc_in xs ys n x y := pq_cont ex ey rx ry hx hy n 0 false (by omega)
theorem pq_out {xs ys us vs gx gy : Nat → Int32} {n m q s : Nat} (ex : ∀ k, k < n → xs k = gx (12 * q + k)) (ey : ∀ k, k < n → ys k = gy (12 * q + k)) (rx : ∀ k, k < n → pq_r (xs k)) (ry : ∀ k, k < n → pq_r (ys k))
    (eu : ∀ k, k < m → us k = gx (12 * s + k)) (ev : ∀ k, k < m → vs k = gy (12 * s + k)) (ru : ∀ k, k < m → pq_r (us k)) (rv : ∀ k, k < m → pq_r (vs k)) :
    ∀ (f k : Nat) (w : Bool), k + f = m → pm_out gx gy n q s f k w = (w || !(pc_all xs ys n us vs f k)) := by
  intro f
  induction f with
  | zero => intro k w _; simp [pm_out, pc_all]
  | succ f ih =>
    intro k w h
    unfold pm_out pc_all
    rw [ih (k + 1) _ (by omega), ← eu _ (by omega), ← ev _ (by omega), pq_in ex ey rx ry (ru _ (by omega)) (rv _ (by omega))]
    cases pc_in xs ys n (us k) (vs k) <;> cases w <;> simp
theorem pq_kth {P P' : Nat → Bool} {k : Nat} : ∀ (f i b c : Nat), b + c = k → (∀ j, i ≤ j → j < i + f → P' j = P j) → pm_kth P' k f i c = pb_kth P f i b := by
  intro f
  induction f with
  | zero => intro i b c _ _; rfl
  | succ f ih =>
    intro i b c h hP
    unfold pm_kth pb_kth
    rw [hP i (by omega) (by omega)]
    have hP2 : ∀ j, i + 1 ≤ j → j < i + 1 + f → P' j = P j := fun j a b => hP j (by omega) (by omega)
    split
    · by_cases hb : b = 0
      · rw [if_pos hb, if_pos (by omega)]
      · rw [if_neg hb, if_neg (by omega)]
        exact ih (i + 1) (b - 1) (c + 1) (by omega) hP2
    · exact ih (i + 1) b c h hP2
theorem pq_sqe {a b c d : Int32} (ha : pq_r a) (hb : pq_r b) (hc : pq_r c) (hd : pq_r d) : 0 ≤ ((a - b) * (a - b) + (c - d) * (c - d)).toInt := by
  have e1 := pq_sub ha hb
  have e2 := pq_sub hc hd
  unfold pq_r at ha hb hc hd
  have a1 := pq_mb (a := a.toInt - b.toInt) (b := a.toInt - b.toInt) (n := 20000) (m := 20000) (by omega) (by omega)
  have a2 := pq_mb (a := c.toInt - d.toInt) (b := c.toInt - d.toInt) (n := 20000) (m := 20000) (by omega) (by omega)
  have b1 : 0 ≤ (a.toInt - b.toInt) * (a.toInt - b.toInt) := by rcases Int.le_total 0 (a.toInt - b.toInt) with h | h; exact Int.mul_nonneg h h; exact Int.mul_nonneg_of_nonpos_of_nonpos h h
  have b2 : 0 ≤ (c.toInt - d.toInt) * (c.toInt - d.toInt) := by rcases Int.le_total 0 (c.toInt - d.toInt) with h | h; exact Int.mul_nonneg h h; exact Int.mul_nonneg_of_nonpos_of_nonpos h h
  rw [Int32.toInt_add, Int32.toInt_mul, Int32.toInt_mul, e1, e2]
  rw [Int.bmod_eq_of_le (n := (a.toInt - b.toInt) * (a.toInt - b.toInt)) (by omega) (by omega), Int.bmod_eq_of_le (n := (c.toInt - d.toInt) * (c.toInt - d.toInt)) (by omega) (by omega), Int.bmod_eq_of_le (by omega) (by omega)]
  omega
theorem pq_lj {xs ys us vs gx gy : Nat → Int32} {n m s t i : Nat} (ex : ∀ k, k < n → xs k = gx (12 * s + k)) (ey : ∀ k, k < n → ys k = gy (12 * s + k)) (rx : ∀ k, k < n → pq_r (xs k)) (ry : ∀ k, k < n → pq_r (ys k))
    (eu : ∀ k, k < m → us k = gx (12 * t + k)) (ev : ∀ k, k < m → vs k = gy (12 * t + k)) (ru : ∀ k, k < m → pq_r (us k)) (rv : ∀ k, k < m → pq_r (vs k)) (hi : i < n) :
    ∀ (f j : Nat) (b : Int32), j + f = m → 0 ≤ b.toInt → pm_dj gx gy s t i f j b = pc_lj xs ys us vs i f j b ∧ 0 ≤ (pm_dj gx gy s t i f j b).toInt := by
  intro f
  induction f with
  | zero => intro j b _ h; exact ⟨rfl, h⟩
  | succ f ih =>
    intro j b h hb
    unfold pm_dj pc_lj pm_sq pc_sq
    rw [← ex _ hi, ← ey _ hi, ← eu _ (show j < m by omega), ← ev _ (show j < m by omega)]
    have hq := pq_sqe (rx _ hi) (ru j (by omega)) (ry _ hi) (rv j (by omega))
    generalize (xs i - us j) * (xs i - us j) + (ys i - vs j) * (ys i - vs j) = q at hq ⊢
    have e : pm_ls b q = if q < b then q else b := by
      unfold pm_ls
      rw [if_neg (fun e => by rw [e] at hb; exact absurd hb (by decide))]
    rw [e]
    exact ih (j + 1) _ (by omega) (by split <;> assumption)
theorem pq_li {xs ys us vs gx gy : Nat → Int32} {n m s t : Nat} (ex : ∀ k, k < n → xs k = gx (12 * s + k)) (ey : ∀ k, k < n → ys k = gy (12 * s + k)) (rx : ∀ k, k < n → pq_r (xs k)) (ry : ∀ k, k < n → pq_r (ys k))
    (eu : ∀ k, k < m → us k = gx (12 * t + k)) (ev : ∀ k, k < m → vs k = gy (12 * t + k)) (ru : ∀ k, k < m → pq_r (us k)) (rv : ∀ k, k < m → pq_r (vs k)) :
    ∀ (f i : Nat) (b : Int32), i + f = n → 0 ≤ b.toInt → pm_dI gx gy s t m f i b = pc_li xs ys us vs m f i b := by
  intro f
  induction f with
  | zero => intro j b _ h; rfl
  | succ f ih =>
    intro i b h hb
    unfold pm_dI pc_li
    have := pq_lj ex ey rx ry eu ev ru rv (show i < n by omega) m 0 b (by omega) hb
    rw [ih (i + 1) _ (by omega) this.2, this.1]
theorem pq_least {xs ys us vs gx gy : Nat → Int32} {n m s t : Nat} (ex : ∀ k, k < n → xs k = gx (12 * s + k)) (ey : ∀ k, k < n → ys k = gy (12 * s + k)) (rx : ∀ k, k < n → pq_r (xs k)) (ry : ∀ k, k < n → pq_r (ys k))
    (eu : ∀ k, k < m → us k = gx (12 * t + k)) (ev : ∀ k, k < m → vs k = gy (12 * t + k)) (ru : ∀ k, k < m → pq_r (us k)) (rv : ∀ k, k < m → pq_r (vs k)) (hn : 0 < n) (hm : 0 < m) :
    pm_dI gx gy s t m n 0 (-1) = pc_least xs ys n us vs m := by
  have hq := pq_sqe (rx 0 hn) (ru 0 hm) (ry 0 hn) (rv 0 hm)
  obtain ⟨m', rfl⟩ : ∃ m', m = m' + 1 := ⟨m - 1, by omega⟩
  have e0 : pm_dj gx gy s t 0 (m' + 1) 0 (-1) = pm_dj gx gy s t 0 (m' + 1) 0 (pc_sq xs ys 0 us vs 0) := by
    unfold pm_dj
    congr 1
    unfold pm_sq pc_sq
    rw [← ex _ hn, ← ey _ hn, ← eu _ hm, ← ev _ hm]
    generalize (xs 0 - us 0) * (xs 0 - us 0) + (ys 0 - vs 0) * (ys 0 - vs 0) = q at hq ⊢
    unfold pm_ls
    rw [if_pos rfl, if_neg (fun e => by rw [e] at hq; exact absurd hq (by decide)), if_neg Int32.lt_irrefl]
  obtain ⟨n', rfl⟩ : ∃ n', n = n' + 1 := ⟨n - 1, by omega⟩
  unfold pc_least
  rw [← pq_li ex ey rx ry eu ev ru rv (n' + 1) 0 (pc_sq xs ys 0 us vs 0) (by omega) hq]
  unfold pm_dI
  rw [e0]
/-- names: the last that holds, forward and backward -/
theorem pq_nmS (gv : Nat → Nat → Int32) (p d : Int32) : ∀ (f k : Nat) (n : Int32), pm_nm gv p d (f + 1) k n = if gv 9 (k + f) = p ∧ gv 11 (k + f) ≤ d ∧ d ≤ gv 12 (k + f) then gv 10 (k + f) else pm_nm gv p d f k n := by
  intro f
  induction f with
  | zero => intro k n; rfl
  | succ f ih =>
    intro k n
    show pm_nm gv p d (f + 1) (k + 1) _ = _
    rw [ih, show k + 1 + f = k + (f + 1) by omega]
    rfl
theorem pq_nm {gv : Nat → Nat → Int32} {ow nu fs ts : Nat → Int32} {p d : Int32} {m : Nat} (e1 : ∀ k, k < m → gv 9 k = ow k) (e2 : ∀ k, k < m → gv 10 k = nu k) (e3 : ∀ k, k < m → gv 11 k = fs k) (e4 : ∀ k, k < m → gv 12 k = ts k) :
    ∀ n, n ≤ m → pm_nm gv p d n 0 (-1) = pn_find ow nu fs ts p d n := by
  intro n
  induction n with
  | zero => intro _; rfl
  | succ n ih =>
    intro h
    rw [pq_nmS, Nat.zero_add, e1 _ h, e2 _ h, e3 _ h, e4 _ h, ih (by omega)]
    rfl
/-- the shape in force -/
theorem pq_fo {gv : Nat → Nat → Int32} {so sf st : Nat → Int32} {sc : Nat → Nat} {ns : Nat} {p d : Int32} (e1 : ∀ k, k < ns → gv 1 k = so k) (e2 : ∀ k, k < ns → gv 2 k = sf k) (e3 : ∀ k, k < ns → gv 3 k = st k) (e7 : ∀ k, k < ns → gv 7 k = nI (sc k)) (hc : ∀ k, k < ns → sc k < 2 ^ 31) :
    ∀ (f i : Nat) (b : Option Nat), i + f = ns → (∀ j, b = some j → j < ns) → pm_fo gv p d f i b = pb_on so sf st sc p d f i b := by
  intro f
  induction f with
  | zero => intro i b _ _; rfl
  | succ f ih =>
    intro i b h hb
    unfold pm_fo pb_on
    have hi : i < ns := by omega
    have eh : pm_h gv p d i = pb_h so sf st sc p d i := by
      unfold pm_h pb_h
      rw [e1 _ hi, e2 _ hi, e3 _ hi, e7 _ hi]
      cases decide (so i = p) <;> cases decide (0 < nI (sc i)) <;> rfl
    have en : pm_nx gv b i = pb_nx sc b i := by
      unfold pm_nx pb_nx
      cases b with
      | none => rfl
      | some j =>
        have hj := hb j rfl
        simp only [e7 _ hi, e7 _ hj, nI_leI (hc i hi) (hc j hj)]
    rw [eh, en]
    refine ih (i + 1) _ (by omega) (fun j hj => ?_)
    split at hj
    · unfold pb_nx at hj
      split at hj
      · cases hj; exact hi
      · split at hj
        · cases hj; exact hb _ rfl
        · cases hj; exact hi
    · exact hb j hj
theorem pq_f {gv : Nat → Nat → Int32} {so sf st : Nat → Int32} {sc : Nat → Nat} {ns : Nat} {p d : Int32} (e1 : ∀ k, k < ns → gv 1 k = so k) (e2 : ∀ k, k < ns → gv 2 k = sf k) (e3 : ∀ k, k < ns → gv 3 k = st k) (e7 : ∀ k, k < ns → gv 7 k = nI (sc k)) (hc : ∀ k, k < ns → sc k < 2 ^ 31) :
    pm_f gv ns p d = pb_f so sf st sc ns p d := pq_fo e1 e2 e3 e7 hc ns 0 none (by omega) (fun _ h => by cases h)
/-- rounding down -/
theorem pq_xor {x y : Int32} (hy : 0 < y.toInt) : (x ^^^ y) < 0 ↔ x.toInt < 0 := by
  rw [Int32.lt_iff_toInt_lt]
  have h0 : (0 : Int32).toInt = 0 := rfl
  have hm : ∀ z : Int32, z.toInt < 0 ↔ z.toBitVec.msb = true := fun z => by
    rw [BitVec.msb_eq_toInt]; simp
  rw [h0, hm, hm, Int32.toBitVec_xor, BitVec.msb_xor]
  have : y.toBitVec.msb = false := by
    cases h : y.toBitVec.msb
    · rfl
    · have := (hm y).mpr h; omega
  rw [this]; simp
theorem pq_xorL {x y : Int64} (hy : 0 < y.toInt) : (x ^^^ y) < 0 ↔ x.toInt < 0 := by
  rw [Int64.lt_iff_toInt_lt]
  have h0 : (0 : Int64).toInt = 0 := rfl
  have hm : ∀ z : Int64, z.toInt < 0 ↔ z.toBitVec.msb = true := fun z => by
    rw [BitVec.msb_eq_toInt]; simp
  rw [h0, hm, hm, Int64.toBitVec_xor, BitVec.msb_xor]
  have : y.toBitVec.msb = false := by
    cases h : y.toBitVec.msb
    · rfl
    · have := (hm y).mpr h; omega
  rw [this]; simp
/-- the quotient towards 0, times its divisor -/
theorem pq_td {a d : Int} (hd : 0 < d) : (0 ≤ a → 0 ≤ a - a.tdiv d * d ∧ a - a.tdiv d * d < d ∧ 0 ≤ a.tdiv d ∧ a.tdiv d ≤ a) ∧ (a < 0 → -d < a - a.tdiv d * d ∧ a - a.tdiv d * d ≤ 0 ∧ a.tdiv d ≤ 0 ∧ a ≤ a.tdiv d) := by
  have e : a - a.tdiv d * d = a.tmod d := by
    have := Int.tmod_add_tdiv_mul a d; omega
  rw [e]
  constructor
  · intro h
    refine ⟨Int.tmod_nonneg _ h, Int.tmod_lt_of_pos _ hd, Int.tdiv_nonneg h (by omega), Int.tdiv_le_self _ h⟩
  · intro h
    have e2 : a.tmod d = -((-a).tmod d) := by rw [Int.neg_tmod, Int.neg_neg]
    have e3 : a.tdiv d = -((-a).tdiv d) := by rw [Int.neg_tdiv, Int.neg_neg]
    have h1 := Int.tmod_nonneg d (show 0 ≤ -a by omega)
    have h2 := Int.tmod_lt_of_pos (-a) hd
    have h3 := Int.tdiv_nonneg (show 0 ≤ -a by omega) (show 0 ≤ d by omega)
    have h4 := Int.tdiv_le_self d (show 0 ≤ -a by omega)
    omega
theorem pq_msk {v z : Int32} (hv : pq_r v) (h1 : 1 ≤ z) (h2 : z ≤ 10000) : pl_fdi v z * z = pm_msk v z := by
  unfold pq_r at hv
  rw [Int32.le_iff_toInt_le] at h1 h2
  have h1 : 1 ≤ z.toInt := h1
  have h2 : z.toInt ≤ 10000 := h2
  have ht := pq_td (a := v.toInt) (d := z.toInt) (by omega)
  have ed : (v / z).toInt = v.toInt.tdiv z.toInt := by
    rw [Int32.toInt_div]
    exact Int.bmod_eq_of_le (by omega) (by omega)
  generalize hq : v.toInt.tdiv z.toInt = q at ht ed
  have em : (v / z * z).toInt = q * z.toInt := by
    rw [Int32.toInt_mul, ed]
    exact Int.bmod_eq_of_le (by omega) (by omega)
  have er : (v - v / z * z).toInt = v.toInt - q * z.toInt := by
    rw [Int32.toInt_sub, em]
    exact Int.bmod_eq_of_le (by omega) (by omega)
  have e1 : (v - (v - v / z * z)).toInt = q * z.toInt := by
    rw [Int32.toInt_sub, er, Int.bmod_eq_of_le (by omega) (by omega)]; omega
  have ex := pq_xor (x := v) (y := z) (by omega)
  have ee : v / z * z = v ↔ q * z.toInt = v.toInt := by rw [← em, Int32.toInt_inj]
  have en : v - v / z * z < 0 ↔ v.toInt - q * z.toInt < 0 := by rw [Int32.lt_iff_toInt_lt, er]; rfl
  unfold pl_fdi pm_msk
  apply Int32.toInt_inj.mp
  by_cases c : v.toInt - q * z.toInt < 0
  · rw [if_pos ⟨ex.mpr (by omega), fun h => by have := ee.mp h; omega⟩, if_pos (en.mpr c)]
    rw [Int32.toInt_sub (v - (v - v / z * z)), e1, Int32.toInt_mul, Int32.toInt_sub (v / z), ed, show (1 : Int32).toInt = 1 from rfl]
    rw [Int.bmod_eq_of_le (n := q - 1) (by omega) (by omega), Int.sub_mul, Int.one_mul]
  · rw [if_neg (fun h => by have a1 := ex.mp h.1; have := ht.2 a1; exact h.2 (ee.mpr (by omega))), if_neg (fun h => c (en.mp h)), em, e1]
/-- the old map: three marks about a point -/
theorem pq_sgn {x : Int32} {v : Int} (h : x.toInt = v) : (pm_sign x = 0 ↔ v = 0) ∧ (0 < v → pm_sign x = 1) ∧ (v < 0 → pm_sign x = -1) := by
  have h1 := pq_1 h
  unfold pm_sign
  refine ⟨?_, fun a => if_pos (h1.2.1.mpr a), fun a => by rw [if_neg (fun b => by have := h1.2.1.mp b; omega), if_pos (h1.2.2.mpr a)]⟩
  by_cases a : 0 < v
  · rw [if_pos (h1.2.1.mpr a)]; exact ⟨fun h => absurd h (by decide), fun h => by omega⟩
  · rw [if_neg (fun b => a (h1.2.1.mp b))]
    by_cases b : v < 0
    · rw [if_pos (h1.2.2.mpr b)]; exact ⟨fun h => absurd h (by decide), fun h => by omega⟩
    · rw [if_neg (fun c => b (h1.2.2.mp c))]; exact ⟨fun _ => by omega, fun _ => rfl⟩
theorem pq_sgm {x y : Int32} {v w : Int} (h : x.toInt = v) (g : y.toInt = w) (hv : v ≠ 0) : 0 ≤ pm_sign x * pm_sign y ↔ (0 < v ∧ 0 ≤ w) ∨ (v < 0 ∧ w ≤ 0) := by
  have a := pq_sgn h
  have b := pq_sgn g
  rcases Int.lt_trichotomy v 0 with c | c | c
  · rw [a.2.2 c]
    rcases Int.lt_trichotomy w 0 with e | e | e
    · rw [b.2.2 e]; exact ⟨fun _ => by omega, fun _ => by decide⟩
    · rw [b.1.mpr e]; exact ⟨fun _ => by omega, fun _ => by decide⟩
    · rw [b.2.1 e]; exact ⟨fun h => absurd h (by decide), fun h => by omega⟩
  · exact absurd c hv
  · rw [a.2.1 c]
    rcases Int.lt_trichotomy w 0 with e | e | e
    · rw [b.2.2 e]; exact ⟨fun h => absurd h (by decide), fun h => by omega⟩
    · rw [b.1.mpr e]; exact ⟨fun _ => by omega, fun _ => by decide⟩
    · rw [b.2.1 e]; exact ⟨fun _ => by omega, fun _ => by decide⟩
theorem pq_sgx {x y : Int32} {v w : Int} (h : x.toInt = v) (g : y.toInt = w) : pm_sign x * pm_sign y < 0 ↔ (0 < v ∧ w < 0) ∨ (v < 0 ∧ 0 < w) := by
  have a := pq_sgn h
  have b := pq_sgn g
  rcases Int.lt_trichotomy v 0 with c | c | c
  · rw [a.2.2 c]
    rcases Int.lt_trichotomy w 0 with e | e | e
    · rw [b.2.2 e]; exact ⟨fun h => absurd h (by decide), fun h => by omega⟩
    · rw [b.1.mpr e]; exact ⟨fun h => absurd h (by decide), fun h => by omega⟩
    · rw [b.2.1 e]; exact ⟨fun _ => by omega, fun _ => by decide⟩
  · rw [a.1.mpr c]
    refine ⟨fun h => ?_, fun h => by omega⟩
    rw [Int32.zero_mul] at h; exact absurd h (by decide)
  · rw [a.2.1 c]
    rcases Int.lt_trichotomy w 0 with e | e | e
    · rw [b.2.2 e]; exact ⟨fun _ => by omega, fun _ => by decide⟩
    · rw [b.1.mpr e]; exact ⟨fun h => absurd h (by decide), fun h => by omega⟩
    · rw [b.2.1 e]; exact ⟨fun h => absurd h (by decide), fun h => by omega⟩
theorem pq_hold {mx my gx gy : Nat → Int32} {n i j k : Nat} {x y : Int32} (ex : ∀ k, k < n → mx k = gx k) (ey : ∀ k, k < n → my k = gy k) (rx : ∀ k, k < n → pq_r (mx k)) (ry : ∀ k, k < n → pq_r (my k)) (hx : pq_r x) (hy : pq_r y) (hi : i < n) (hj : j < n) (hk : k < n) :
    pm_hold gx gy i j k x y = po_hb mx my i j k x y := by
  unfold pm_hold po_hb po_sh
  rw [← ex _ hi, ← ex _ hj, ← ex _ hk, ← ey _ hi, ← ey _ hj, ← ey _ hk]
  have w1 := pq_side (rx _ hi) (ry _ hi) (rx _ hj) (ry _ hj) (rx _ hk) (ry _ hk)
  have w2 := pq_0 (pq_turn (rx _ hi) (ry _ hi) (rx _ hj) (ry _ hj) (rx _ hk) (ry _ hk))
  have a1 := pq_side (rx _ hi) (ry _ hi) (rx _ hj) (ry _ hj) hx hy
  have a2 := pq_0 (pq_turn (rx _ hi) (ry _ hi) (rx _ hj) (ry _ hj) hx hy)
  have b1 := pq_side (rx _ hj) (ry _ hj) (rx _ hk) (ry _ hk) hx hy
  have b2 := pq_0 (pq_turn (rx _ hj) (ry _ hj) (rx _ hk) (ry _ hk) hx hy)
  have c1 := pq_side (rx _ hk) (ry _ hk) (rx _ hi) (ry _ hi) hx hy
  have c2 := pq_0 (pq_turn (rx _ hk) (ry _ hk) (rx _ hi) (ry _ hi) hx hy)
  rw [Bool.eq_iff_iff]
  simp only [Bool.or_eq_true, Bool.and_eq_true, decide_eq_true_eq, w2, a2, b2, c2, (pq_sgn w1).1]
  generalize pq_s (mx i) (my i) (mx j) (my j) (mx k) (my k) = w at w1 ⊢
  by_cases h : w = 0
  · constructor
    · rintro ⟨a, -⟩; exact absurd h a
    · intro a; omega
  · rw [pq_sgm w1 a1 h, pq_sgm w1 b1 h, pq_sgm w1 c1 h]
    omega
theorem pq_dL {n d : Int64} (hd : 0 < d.toInt) (hn : -(2 ^ 62) < n.toInt ∧ n.toInt < 2 ^ 62) : (n / d).toInt = n.toInt.tdiv d.toInt ∧ (n / d * d).toInt = n.toInt.tdiv d.toInt * d.toInt := by
  have ht := pq_td (a := n.toInt) hd
  have e : (n / d).toInt = n.toInt.tdiv d.toInt := by
    rw [Int64.toInt_div]
    exact Int.bmod_eq_of_le (by omega) (by omega)
  refine ⟨e, ?_⟩
  rw [Int64.toInt_mul, e]
  generalize n.toInt.tdiv d.toInt = q at ht ⊢
  have hd2 := Int64.toInt_lt d
  exact Int.bmod_eq_of_le (by omega) (by omega)
theorem pq_fd {n d : Int64} (hd : 0 < d.toInt) (hn : -(2 ^ 62) < n.toInt ∧ n.toInt < 2 ^ 62) : pl_fd n d = if n < n / d * d then n / d - 1 else n / d := by
  have h := pq_dL hd hn
  have ht := pq_td (a := n.toInt) hd
  have ex := pq_xorL (x := n) hd
  unfold pl_fd
  have ee : n / d * d = n ↔ n.toInt.tdiv d.toInt * d.toInt = n.toInt := by rw [← h.2, Int64.toInt_inj]
  have en : n < n / d * d ↔ n.toInt < n.toInt.tdiv d.toInt * d.toInt := by rw [Int64.lt_iff_toInt_lt, h.2]
  by_cases c : n.toInt < n.toInt.tdiv d.toInt * d.toInt
  · rw [if_pos ⟨ex.mpr (by omega), fun q => by have := ee.mp q; omega⟩, if_pos (en.mpr c)]
  · rw [if_neg (fun q => by have a1 := ex.mp q.1; have := ht.2 a1; exact q.2 (ee.mpr (by omega))), if_neg (fun q => c (en.mp q))]
theorem pq_near {a w : Int64} (ha : -(2 ^ 50) < a.toInt ∧ a.toInt < 2 ^ 50) (hw : -(2 ^ 50) < w.toInt ∧ w.toInt < 2 ^ 50) (h0 : w.toInt ≠ 0) : pm_near a w = po_rq a w := by
  have t2 : (2 : Int64).toInt = 2 := rfl
  have t0 : (0 : Int64).toInt = 0 := rfl
  have e2 : ∀ z : Int64, -(2 ^ 50) < z.toInt ∧ z.toInt < 2 ^ 50 → (2 * z).toInt = 2 * z.toInt := fun z hz => by
    rw [Int64.toInt_mul, t2]; exact Int.bmod_eq_of_le (by omega) (by omega)
  have eneg : ∀ z : Int64, -(2 ^ 52) < z.toInt ∧ z.toInt < 2 ^ 52 → (0 - z).toInt = -z.toInt := fun z hz => by
    rw [Int64.toInt_sub, t0, Int.bmod_eq_of_le (by omega) (by omega)]; omega
  have eng : ∀ z : Int64, -(2 ^ 52) < z.toInt ∧ z.toInt < 2 ^ 52 → (-z).toInt = -z.toInt := fun z hz => by
    rw [Int64.toInt_neg]; exact Int.bmod_eq_of_le (by omega) (by omega)
  have wn : w < 0 ↔ w.toInt < 0 := by rw [Int64.lt_iff_toInt_lt, t0]
  have wp : 0 < w ↔ 0 < w.toInt := by rw [Int64.lt_iff_toInt_lt, t0]
  have w0 : ¬ w = 0 := fun e => h0 (by rw [e]; rfl)
  have ea := e2 a ha
  have ew := e2 w hw
  have D : (if w < 0 then 0 - 2 * w else 2 * w) = 2 * pl_abs w := by
    apply Int64.toInt_inj.mp
    unfold pl_abs
    by_cases c : 0 < w.toInt
    · rw [if_neg (fun q => by have := wn.mp q; omega), if_pos (wp.mpr c)]
    · rw [if_pos (wn.mpr (by omega)), if_neg (fun q => c (wp.mp q)), eneg _ (by omega), ew, e2 _ (by rw [eng _ (by omega)]; omega), eng _ (by omega)]; omega
  have N : (if w < 0 then 0 - 2 * a else 2 * a) = 2 * (if 0 < w then a else -a) := by
    apply Int64.toInt_inj.mp
    by_cases c : 0 < w.toInt
    · rw [if_neg (fun q => by have := wn.mp q; omega), if_pos (wp.mpr c)]
    · rw [if_pos (wn.mpr (by omega)), if_neg (fun q => c (wp.mp q)), eneg _ (by omega), ea, e2 _ (by rw [eng _ (by omega)]; omega), eng _ (by omega)]; omega
  have A : 0 < (pl_abs w).toInt ∧ (pl_abs w).toInt < 2 ^ 50 := by
    unfold pl_abs
    by_cases c : 0 < w.toInt
    · rw [if_pos (wp.mpr c)]; omega
    · rw [if_neg (fun q => c (wp.mp q)), eng _ (by omega)]; omega
  have eA := e2 _ (show -(2 ^ 50) < (pl_abs w).toInt ∧ (pl_abs w).toInt < 2 ^ 50 by omega)
  have B : -(2 ^ 50) < (if 0 < w then a else -a).toInt ∧ (if 0 < w then a else -a).toInt < 2 ^ 50 := by
    split
    · exact ha
    · rw [eng _ (by omega)]; omega
  have eB := e2 _ B
  have H : 2 * pl_abs w / 2 = pl_abs w := by
    apply Int64.toInt_inj.mp
    rw [(pq_dL (n := 2 * pl_abs w) (d := 2) (by decide) (by omega)).1, eA, t2, Int.mul_comm, Int.mul_tdiv_cancel _ (by decide)]
  unfold pm_near po_rq
  rw [if_neg w0, D, N, H]
  congr 1
  rw [pq_fd (by omega)]
  rw [Int64.toInt_add, eB, Int.bmod_eq_of_le (by omega) (by omega)]
  omega
theorem pq_val {mx my vs : Nat → Int32} {gv : Nat → Nat → Int32} {mk : Nat → Int32} {n i j k : Nat} {x y : Int32} (ex : ∀ k, k < n → mx k = gv 13 k) (ey : ∀ k, k < n → my k = gv 14 k) (ev : ∀ k, k < n → vs k = mk k) (rx : ∀ k, k < n → pq_r (mx k)) (ry : ∀ k, k < n → pq_r (my k)) (rv : ∀ k, k < n → pq_r (vs k)) (hx : pq_r x) (hy : pq_r y) (hi : i < n) (hj : j < n) (hk : k < n)
    (hh : po_hb mx my i j k x y = true) : pm_val gv mk i j k x y = po_val mx my vs i j k x y := by
  unfold pm_val po_val pm_ps
  rw [← ex _ hi, ← ex _ hj, ← ex _ hk, ← ey _ hi, ← ey _ hj, ← ey _ hk, ← ev _ hi, ← ev _ hj, ← ev _ hk]
  have w1 := pq_side (rx _ hi) (ry _ hi) (rx _ hj) (ry _ hj) (rx _ hk) (ry _ hk)
  have a1 := pq_side (rx _ hi) (ry _ hi) (rx _ hj) (ry _ hj) hx hy
  have a2 := pq_turn (rx _ hi) (ry _ hi) (rx _ hj) (ry _ hj) hx hy
  have b1 := pq_side (rx _ hj) (ry _ hj) (rx _ hk) (ry _ hk) hx hy
  have b2 := pq_turn (rx _ hj) (ry _ hj) (rx _ hk) (ry _ hk) hx hy
  have c1 := pq_side (rx _ hk) (ry _ hk) (rx _ hi) (ry _ hi) hx hy
  have c2 := pq_turn (rx _ hk) (ry _ hk) (rx _ hi) (ry _ hi) hx hy
  have wb := pq_sb (rx _ hi) (ry _ hi) (rx _ hj) (ry _ hj) (rx _ hk) (ry _ hk)
  have ab := pq_sb (rx _ hi) (ry _ hi) (rx _ hj) (ry _ hj) hx hy
  have bb := pq_sb (rx _ hj) (ry _ hj) (rx _ hk) (ry _ hk) hx hy
  have cb := pq_sb (rx _ hk) (ry _ hk) (rx _ hi) (ry _ hi) hx hy
  have id1 : pq_s (mx i) (my i) (mx j) (my j) (mx k) (my k) = pq_s (mx i) (my i) (mx j) (my j) x y + pq_s (mx j) (my j) (mx k) (my k) x y + pq_s (mx k) (my k) (mx i) (my i) x y := by
    unfold pq_s; grind
  have wn : pq_s (mx i) (my i) (mx j) (my j) (mx k) (my k) ≠ 0 := by
    unfold po_hb po_sh at hh
    have w2 := pq_0 (pq_turn (rx _ hi) (ry _ hi) (rx _ hj) (ry _ hj) (rx _ hk) (ry _ hk))
    simp only [Bool.or_eq_true, Bool.and_eq_true, decide_eq_true_eq, w2.2.1, w2.2.2.1] at hh
    omega
  have v1 := rv _ hi
  have v2 := rv _ hj
  have v3 := rv _ hk
  unfold pq_r at v1 v2 v3
  have q1 : (pm_side (mx i) (my i) (mx j) (my j) x y).toInt64 = po_sh mx my i j x y := (pq_64 (by unfold po_sh; rw [a2, a1])).symm
  have q2 : (pm_side (mx j) (my j) (mx k) (my k) x y).toInt64 = po_sh mx my j k x y := (pq_64 (by unfold po_sh; rw [b2, b1])).symm
  have q3 : (pm_side (mx k) (my k) (mx i) (my i) x y).toInt64 = po_sh mx my k i x y := (pq_64 (by unfold po_sh; rw [c2, c1])).symm
  have s1 : (po_sh mx my i j x y).toInt = pq_s (mx i) (my i) (mx j) (my j) x y := a2
  have s2 : (po_sh mx my j k x y).toInt = pq_s (mx j) (my j) (mx k) (my k) x y := b2
  have s3 : (po_sh mx my k i x y).toInt = pq_s (mx k) (my k) (mx i) (my i) x y := c2
  generalize pq_s (mx i) (my i) (mx j) (my j) x y = A at *
  generalize pq_s (mx j) (my j) (mx k) (my k) x y = B at *
  generalize pq_s (mx k) (my k) (mx i) (my i) x y = C at *
  generalize pq_s (mx i) (my i) (mx j) (my j) (mx k) (my k) = W at *
  have sw : (pm_side (mx i) (my i) (mx j) (my j) (mx k) (my k)).toInt64 = po_sh mx my j k x y + po_sh mx my k i x y + po_sh mx my i j x y := by
    refine (pq_64 ?_).symm
    rw [w1, Int64.toInt_add, Int64.toInt_add, s1, s2, s3, Int.bmod_eq_of_le (n := B + C) (by omega) (by omega), Int.bmod_eq_of_le (by omega) (by omega)]
    omega
  have m1 := pq_mb (a := A) (b := (vs k).toInt) (n := 800000000) (m := 10000) (by omega) (by omega)
  have m2 := pq_mb (a := B) (b := (vs i).toInt) (n := 800000000) (m := 10000) (by omega) (by omega)
  have m3 := pq_mb (a := C) (b := (vs j).toInt) (n := 800000000) (m := 10000) (by omega) (by omega)
  rw [q1, q2, q3, sw]
  refine pq_near ?_ ?_ ?_
  · rw [Int64.toInt_add, Int64.toInt_add, Int64.toInt_mul, Int64.toInt_mul, Int64.toInt_mul, s1, s2, s3, Int32.toInt_toInt64, Int32.toInt_toInt64, Int32.toInt_toInt64]
    rw [Int.bmod_eq_of_le (n := B * (vs i).toInt) (by omega) (by omega), Int.bmod_eq_of_le (n := C * (vs j).toInt) (by omega) (by omega), Int.bmod_eq_of_le (n := A * (vs k).toInt) (by omega) (by omega)]
    rw [Int.bmod_eq_of_le (n := B * (vs i).toInt + C * (vs j).toInt) (by omega) (by omega), Int.bmod_eq_of_le (by omega) (by omega)]
    omega
  · rw [← sw, Int32.toInt_toInt64, w1]; omega
  · rw [← sw, Int32.toInt_toInt64, w1]; exact wn
/-- the first number from lo on, below hi, that does it, as three -/
def pq_Sp (P : Nat → Bool) (lo hi : Nat) (o : Option (Nat × Nat × Nat)) : Prop := match o with
  | none => ∀ q, lo ≤ q → q < hi → P q = false
  | some (a, b, c) => ∃ q, lo ≤ q ∧ q < hi ∧ P q = true ∧ (∀ r, lo ≤ r → r < q → P r = false) ∧ a = q / 144 ∧ b = q / 12 % 12 ∧ c = q % 12
theorem pq_Sp.low {P : Nat → Bool} {lo lo' hi : Nat} {o : Option (Nat × Nat × Nat)} (h : pq_Sp P lo hi o) (hl : lo' ≤ lo) (hf : ∀ q, lo' ≤ q → q < lo → P q = false) : pq_Sp P lo' hi o := by
  cases o with
  | none =>
    intro q a b
    by_cases c : q < lo
    · exact hf q a c
    · exact h q (by omega) b
  | some t =>
    obtain ⟨a, b, c⟩ := t
    obtain ⟨q, q1, q2, q3, q4, q5⟩ := h
    refine ⟨q, by omega, q2, q3, fun r r1 r2 => ?_, q5⟩
    by_cases d : r < lo
    · exact hf r r1 d
    · exact q4 r (by omega) r2
theorem pq_Sp.or {P : Nat → Bool} {lo mid hi : Nat} {a b : Option (Nat × Nat × Nat)} (ha : pq_Sp P lo mid a) (hb : pq_Sp P mid hi b) (h1 : lo ≤ mid) (h2 : mid ≤ hi) : pq_Sp P lo hi (po_or a b) := by
  cases a with
  | none => exact hb.low h1 ha
  | some t =>
    obtain ⟨a, b, c⟩ := t
    obtain ⟨q, q1, q2, q3, q4, q5⟩ := ha
    exact ⟨q, q1, by omega, q3, q4, q5⟩
theorem pq_isF {gv : Nat → Nat → Int32} {mm : Nat} {x y : Int32} {q : Nat} (h : ¬ (q / 144 < q / 12 % 12 ∧ q / 12 % 12 < q % 12 ∧ q % 12 < mm)) : pm_is gv mm x y q = false := by
  cases hh : pm_is gv mm x y q
  · rfl
  · have := pm_is_ok hh; exact absurd ⟨this.1, this.2.1, this.2.2.1⟩ h
section
variable {mx my : Nat → Int32} {gv : Nat → Nat → Int32} {n : Nat} {x y : Int32}
theorem pq_isT (hn : n ≤ 12) (hp : pm_pt x y = true) (ho : ∀ i j k, i < n → j < n → k < n → pm_hold (gv 13) (gv 14) i j k x y = po_hb mx my i j k x y) {i j k : Nat} (h1 : i < j) (h2 : j < k) (h3 : k < n) : pm_is gv n x y (144 * i + 12 * j + k) = po_hb mx my i j k x y := by
  unfold pm_is
  rw [show (144 * i + 12 * j + k) / 144 = i by omega, show (144 * i + 12 * j + k) / 12 % 12 = j by omega, show (144 * i + 12 * j + k) % 12 = k by omega, hp, ho i j k (by omega) (by omega) h3, decide_eq_true h1, decide_eq_true h2, decide_eq_true h3]
  rfl
theorem pq_fk (hn : n ≤ 12) (hp : pm_pt x y = true) (ho : ∀ i j k, i < n → j < n → k < n → pm_hold (gv 13) (gv 14) i j k x y = po_hb mx my i j k x y) {i j : Nat} (h1 : i < j) (h2 : j < n) :
    ∀ f k, j < k → k + f = n → pq_Sp (pm_is gv n x y) (144 * i + 12 * j + k) (144 * i + 12 * j + 12) (po_fk mx my x y i j f k) := by
  intro f
  induction f with
  | zero => intro k _ h q a b; exact pq_isF (by omega)
  | succ f ih =>
    intro k hk h
    have e := pq_isT hn hp ho h1 hk (show k < n by omega)
    unfold po_fk
    split
    · exact ⟨144 * i + 12 * j + k, by omega, by omega, by rw [e]; assumption, fun r _ _ => by omega, by omega, by omega, by omega⟩
    · exact (ih (k + 1) (by omega) (by omega)).low (by omega) (fun q a b => by
        rw [show q = 144 * i + 12 * j + k by omega, e]
        cases hh : po_hb mx my i j k x y
        · rfl
        · contradiction)
theorem pq_fj (hn : n ≤ 12) (hp : pm_pt x y = true) (ho : ∀ i j k, i < n → j < n → k < n → pm_hold (gv 13) (gv 14) i j k x y = po_hb mx my i j k x y) {i : Nat} :
    ∀ f j, i < j → j + f = n → pq_Sp (pm_is gv n x y) (144 * i + 12 * j) (144 * (i + 1)) (po_fj mx my x y n i f j) := by
  intro f
  induction f with
  | zero => intro j _ h q a b; exact pq_isF (by have := Nat.div_div_eq_div_mul q 12 12; omega)
  | succ f ih =>
    intro j hj h
    have h3 := (pq_fk hn hp ho hj (show j < n by omega) (n - (j + 1)) (j + 1) (by omega) (by omega)).low (lo' := 144 * i + 12 * j) (by omega) (fun q a b => pq_isF (by omega))
    exact h3.or (ih (j + 1) (by omega) (by omega)) (by omega) (by omega)
theorem pq_fi (hn : n ≤ 12) (hp : pm_pt x y = true) (ho : ∀ i j k, i < n → j < n → k < n → pm_hold (gv 13) (gv 14) i j k x y = po_hb mx my i j k x y) :
    ∀ f i, i + f = n → pq_Sp (pm_is gv n x y) (144 * i) 1728 (po_fi mx my x y n f i) := by
  intro f
  induction f with
  | zero => intro i h q a b; exact pq_isF (by omega)
  | succ f ih =>
    intro i h
    have h3 := (pq_fj hn hp ho (i := i) (n - (i + 1)) (i + 1) (by omega) (by omega)).low (lo' := 144 * i) (by omega) (fun q a b => pq_isF (by omega))
    exact h3.or (ih (i + 1) (by omega)) (by omega) (by omega)
theorem pq_fdN : ∀ (f k : Nat), pm_fnd gv n x y f k = none → ∀ q, k ≤ q → q < k + f → pm_is gv n x y q = false := by
  intro f
  induction f with
  | zero => intro k _ q a b; omega
  | succ f ih =>
    intro k h q a b
    unfold pm_fnd at h
    split at h
    · cases h
    · by_cases e : q = k
      · subst e; simpa using ‹¬ pm_is gv n x y q = true›
      · exact ih (k + 1) h q (by omega) (by omega)
theorem pq_fdS : ∀ (f k r : Nat), pm_fnd gv n x y f k = some r → ∀ q, k ≤ q → q < r → pm_is gv n x y q = false := by
  intro f
  induction f with
  | zero => intro k r h; cases h
  | succ f ih =>
    intro k r h q a b
    unfold pm_fnd at h
    split at h
    · cases h; omega
    · by_cases e : q = k
      · subst e; simpa using ‹¬ pm_is gv n x y q = true›
      · exact ih (k + 1) r h q (by omega) b
theorem pq_fdG : ∀ (f k r : Nat), pm_fnd gv n x y f k = some r → k ≤ r := by
  intro f
  induction f with
  | zero => intro k r h; cases h
  | succ f ih =>
    intro k r h
    unfold pm_fnd at h
    split at h
    · cases h; omega
    · have := ih (k + 1) r h; omega
theorem pq_find (hn : n ≤ 12) (hp : pm_pt x y = true) (ho : ∀ i j k, i < n → j < n → k < n → pm_hold (gv 13) (gv 14) i j k x y = po_hb mx my i j k x y) (F : Nat) (hF : F = 1728) :
    po_fi mx my x y n n 0 = (pm_fnd gv n x y F 0).map (fun q => (q / 144, q / 12 % 12, q % 12)) := by
  have h := pq_fi hn hp ho n 0 (by omega)
  generalize po_fi mx my x y n n 0 = o at h
  cases hf : pm_fnd gv n x y F 0 with
  | none =>
    have h1 := pq_fdN F 0 hf
    cases o with
    | none => rfl
    | some t =>
      obtain ⟨a, b, c⟩ := t
      obtain ⟨q, q1, q2, q3, -⟩ := h
      rw [h1 q (by omega) (by omega)] at q3
      exact absurd q3 (by decide)
  | some r =>
    have h1 := pq_fdS F 0 r hf
    have h2 := pm_fnd_ok F 0 r hf
    cases o with
    | none =>
      have := h r (by omega) (by omega)
      rw [this] at h2; exact absurd h2.2 (by decide)
    | some t =>
      obtain ⟨a, b, c⟩ := t
      obtain ⟨q, q1, q2, q3, q4, q5, q6, q7⟩ := h
      have e : q = r := by
        rcases Nat.lt_trichotomy q r with d | d | d
        · have := h1 q (by omega) d; rw [this] at q3; exact absurd q3 (by decide)
        · exact d
        · have := q4 r (by omega) d; rw [this] at h2; exact absurd h2.2 (by decide)
      subst e q5 q6 q7
      rfl
end
/-- closing -/
def pc_mt (xs ys : Nat → Int32) (n i j : Nat) : Bool := pc_hc xs ys n i j || (pc_hc xs ys n i (pc_nx n j) || (pc_hc xs ys n j i || (pc_hc xs ys n j (pc_nx n i) || (pc_parts xs ys n i j && pc_parts xs ys n j i))))
theorem pc_mt_sym (xs ys : Nat → Int32) (n i j : Nat) : pc_mt xs ys n i j = pc_mt xs ys n j i := by
  unfold pc_mt
  cases pc_hc xs ys n i j <;> cases pc_hc xs ys n i (pc_nx n j) <;> cases pc_hc xs ys n j i <;> cases pc_hc xs ys n j (pc_nx n i) <;> cases pc_parts xs ys n i j <;> cases pc_parts xs ys n j i <;> rfl
theorem pq_ccj (xs ys : Nat → Int32) (n i : Nat) : ∀ f j, pc_ccj xs ys n i f j = true ↔ ∀ q, j ≤ q → q < j + f → pc_same xs ys i q = false ∧ pc_clash xs ys n i q = false := by
  intro f
  induction f with
  | zero => intro j; exact ⟨fun _ q a b => by omega, fun _ => rfl⟩
  | succ f ih =>
    intro j
    unfold pc_ccj
    cases h1 : pc_same xs ys i j
    · cases h2 : pc_clash xs ys n i j
      · simp only [Bool.false_eq_true, if_false]
        rw [ih]
        constructor
        · intro h q a b
          by_cases e : q = j
          · subst e; exact ⟨h1, h2⟩
          · exact h q (by omega) (by omega)
        · intro h q a b; exact h q (by omega) (by omega)
      · simp only [Bool.false_eq_true, if_false, if_true]
        exact ⟨fun h => absurd h (by decide), fun h => by have := (h j (by omega) (by omega)).2; rw [h2] at this; exact absurd this (by decide)⟩
    · simp only [if_true]
      exact ⟨fun h => absurd h (by decide), fun h => by have := (h j (by omega) (by omega)).1; rw [h1] at this; exact absurd this (by decide)⟩
theorem pq_cci (xs ys : Nat → Int32) (n : Nat) : ∀ f i, pc_cci xs ys n f i = true ↔ ∀ p, i ≤ p → p < i + f → ∀ q, p < q → q < n → pc_same xs ys p q = false ∧ pc_clash xs ys n p q = false := by
  intro f
  induction f with
  | zero => intro j; exact ⟨fun _ q a b => by omega, fun _ => rfl⟩
  | succ f ih =>
    intro i
    unfold pc_cci
    have hc := pq_ccj xs ys n i (n - (i + 1)) (i + 1)
    cases h1 : pc_ccj xs ys n i (n - (i + 1)) (i + 1)
    · simp only [Bool.false_eq_true, if_false]
      refine ⟨fun h => absurd h (by decide), fun h => ?_⟩
      have := hc.mpr (fun q a b => h i (by omega) (by omega) q (by omega) (by omega))
      rw [h1] at this; exact absurd this (by decide)
    · simp only [if_true]
      rw [ih]
      have h2 := hc.mp h1
      constructor
      · intro h p a b q c d
        by_cases e : p = i
        · subst e; exact h2 q (by omega) (by omega)
        · exact h p (by omega) (by omega) q c d
      · intro h p a b; exact h p (by omega) (by omega)
theorem pq_sj (gx gy : Nat → Int32) (s i : Nat) : ∀ f j g, pm_sj gx gy s i f j g = true ↔ g = true ∧ ∀ q, j ≤ q → q < j + f → ¬ (gx (12 * s + i) = gx (12 * s + q) ∧ gy (12 * s + i) = gy (12 * s + q)) := by
  intro f
  induction f with
  | zero => intro j g; exact ⟨fun h => ⟨h, fun q a b => by omega⟩, fun h => h.1⟩
  | succ f ih =>
    intro j g
    unfold pm_sj
    rw [ih]
    simp only [Bool.and_eq_true, Bool.or_eq_true, decide_eq_true_eq]
    constructor
    · rintro ⟨⟨h0, h1⟩, h2⟩
      refine ⟨h0, fun q a b => ?_⟩
      by_cases e : q = j
      · subst e; rintro ⟨c, d⟩; exact h1.elim (fun h => h c) (fun h => h d)
      · exact h2 q (by omega) (by omega)
    · rintro ⟨h0, h1⟩
      refine ⟨⟨h0, ?_⟩, fun q a b => h1 q (by omega) (by omega)⟩
      have := h1 j (by omega) (by omega)
      exact Decidable.not_and_iff_or_not.mp this
theorem pq_si (gx gy : Nat → Int32) (s : Nat) : ∀ f i g, pm_si gx gy s f i g = true ↔ g = true ∧ ∀ p, i ≤ p → p < i + f → ∀ q, q < p → ¬ (gx (12 * s + p) = gx (12 * s + q) ∧ gy (12 * s + p) = gy (12 * s + q)) := by
  intro f
  induction f with
  | zero => intro j g; exact ⟨fun h => ⟨h, fun q a b => by omega⟩, fun h => h.1⟩
  | succ f ih =>
    intro i g
    unfold pm_si
    rw [ih, pq_sj]
    constructor
    · rintro ⟨⟨h0, h1⟩, h2⟩
      refine ⟨h0, fun p a b => ?_⟩
      by_cases e : p = i
      · subst e; exact fun q c => h1 q (by omega) (by omega)
      · exact h2 p (by omega) (by omega)
    · rintro ⟨h0, h1⟩
      exact ⟨⟨h0, fun q a b => h1 i (by omega) (by omega) q (by omega)⟩, fun p a b => h1 p (by omega) (by omega)⟩
theorem pq_cj (gx gy : Nat → Int32) (n s i : Nat) : ∀ f j g, pm_cj gx gy n s i f j g = true ↔ g = true ∧ ∀ q, j ≤ q → q < j + f → ¬ (pm_ap n i q = true ∧ pm_meet gx gy (12 * s + i) (pm_af n s i) (12 * s + q) (pm_af n s q) = true) := by
  intro f
  induction f with
  | zero => intro j g; exact ⟨fun h => ⟨h, fun q a b => by omega⟩, fun h => h.1⟩
  | succ f ih =>
    intro j g
    unfold pm_cj
    cases g
    · simp
    · simp only [if_true]
      rw [ih]
      simp only [Bool.or_eq_true, Bool.not_eq_true', true_and]
      constructor
      · rintro ⟨h1, h2⟩ q a b
        by_cases e : q = j
        · subst e; rintro ⟨c, d⟩; rw [c, d] at h1; simp at h1
        · exact h2 q (by omega) (by omega)
      · intro h1
        refine ⟨?_, fun q a b => h1 q (by omega) (by omega)⟩
        have := h1 j (by omega) (by omega)
        cases h3 : pm_ap n i j
        · exact Or.inl rfl
        · cases h4 : pm_meet gx gy (12 * s + i) (pm_af n s i) (12 * s + j) (pm_af n s j)
          · exact Or.inr rfl
          · exact absurd ⟨h3, h4⟩ this
theorem pq_ci (gx gy : Nat → Int32) (n s : Nat) : ∀ f i g, pm_ci gx gy n s f i g = true ↔ g = true ∧ ∀ p, i ≤ p → p < i + f →
    (pm_on gx gy (12 * s + p) (pm_af n s p) (gx (pm_af n s (p + 1))) (gy (pm_af n s (p + 1))) = false ∧ pm_on gx gy (pm_af n s p) (pm_af n s (p + 1)) (gx (12 * s + p)) (gy (12 * s + p)) = false) ∧
    ∀ q, q < n → ¬ (pm_ap n p q = true ∧ pm_meet gx gy (12 * s + p) (pm_af n s p) (12 * s + q) (pm_af n s q) = true) := by
  intro f
  induction f with
  | zero => intro j g; exact ⟨fun h => ⟨h, fun q a b => by omega⟩, fun h => h.1⟩
  | succ f ih =>
    intro i g
    unfold pm_ci
    cases g
    · simp
    · simp only [if_true]
      rw [ih, pq_cj]
      simp only [Bool.and_eq_true, Bool.not_eq_true', true_and]
      constructor
      · rintro ⟨⟨h0, h1⟩, h2⟩ p a b
        by_cases e : p = i
        · subst e; exact ⟨h0, fun q c => h1 q (by omega) (by omega)⟩
        · exact h2 p (by omega) (by omega)
      · intro h1
        have h2 := h1 i (by omega) (by omega)
        exact ⟨⟨h2.1, fun q a b => h2.2 q (by omega)⟩, fun p a b => h1 p (by omega) (by omega)⟩
section
variable {xs ys gx gy : Nat → Int32} {n s : Nat}
theorem pq_hc (ex : ∀ k, k < n → xs k = gx (12 * s + k)) (ey : ∀ k, k < n → ys k = gy (12 * s + k)) (rx : ∀ k, k < n → pq_r (xs k)) (ry : ∀ k, k < n → pq_r (ys k)) {i k : Nat} (hi : i < n) (hk : k < n) : pm_on gx gy (12 * s + i) (pm_af n s i) (gx (12 * s + k)) (gy (12 * s + k)) = pc_hc xs ys n i k := by
  unfold pc_hc
  rw [← ex _ hk, ← ey _ hk]
  exact pq_on ex ey rx ry (rx _ hk) (ry _ hk) hi
theorem pq_parts (ex : ∀ k, k < n → xs k = gx (12 * s + k)) (ey : ∀ k, k < n → ys k = gy (12 * s + k)) (rx : ∀ k, k < n → pq_r (xs k)) (ry : ∀ k, k < n → pq_r (ys k)) {i j : Nat} (hi : i < n) (hj : j < n) : decide (pm_cross gx gy (12 * s + i) (pm_af n s i) (12 * s + j) (pm_af n s j) < 0) = pc_parts xs ys n i j := by
  have ni := pc_nx_lt hi
  have nj := pc_nx_lt hj
  unfold pm_cross pc_parts pc_side pm_af
  rw [pq_nx hi, pq_nx hj, ← ex _ hi, ← ex _ hj, ← ex _ ni, ← ex _ nj, ← ey _ hi, ← ey _ hj, ← ey _ ni, ← ey _ nj]
  have a1 := pq_side (rx _ hi) (ry _ hi) (rx _ ni) (ry _ ni) (rx _ hj) (ry _ hj)
  have b1 := pq_side (rx _ hi) (ry _ hi) (rx _ ni) (ry _ ni) (rx _ nj) (ry _ nj)
  have a2 := pq_0 (pq_turn (rx _ hi) (ry _ hi) (rx _ ni) (ry _ ni) (rx _ hj) (ry _ hj))
  have b2 := pq_0 (pq_turn (rx _ hi) (ry _ hi) (rx _ ni) (ry _ ni) (rx _ nj) (ry _ nj))
  rw [Bool.eq_iff_iff]
  simp only [Bool.or_eq_true, Bool.and_eq_true, decide_eq_true_eq, a2, b2, pq_sgx a1 b1]
  omega
theorem pq_meet (ex : ∀ k, k < n → xs k = gx (12 * s + k)) (ey : ∀ k, k < n → ys k = gy (12 * s + k)) (rx : ∀ k, k < n → pq_r (xs k)) (ry : ∀ k, k < n → pq_r (ys k)) {i j : Nat} (hi : i < n) (hj : j < n) : pm_meet gx gy (12 * s + i) (pm_af n s i) (12 * s + j) (pm_af n s j) = pc_mt xs ys n i j := by
  have ni := pc_nx_lt hi
  have nj := pc_nx_lt hj
  unfold pm_meet pc_mt
  rw [pq_parts ex ey rx ry hi hj, pq_parts ex ey rx ry hj hi, pq_hc ex ey rx ry hi hj, pq_hc ex ey rx ry hj hi]
  have e1 : pm_af n s i = 12 * s + pc_nx n i := by unfold pm_af; rw [pq_nx hi]
  have e2 : pm_af n s j = 12 * s + pc_nx n j := by unfold pm_af; rw [pq_nx hj]
  rw [← pq_hc ex ey rx ry hi nj, ← pq_hc ex ey rx ry hj ni, ← e1, ← e2]
theorem pq_can (ex : ∀ k, k < n → xs k = gx (12 * s + k)) (ey : ∀ k, k < n → ys k = gy (12 * s + k)) (rx : ∀ k, k < n → pq_r (xs k)) (ry : ∀ k, k < n → pq_r (ys k)) {ca : Int32} (hca : ¬ 0 < ca) : pm_can gx gy n s = pc_can xs ys n ca := by
  unfold pc_can
  rw [if_neg hca]
  rw [Bool.eq_iff_iff]
  unfold pm_can
  rw [pq_ci, pq_si, decide_eq_true_eq]
  by_cases h3 : n < 3
  · rw [if_pos h3]
    exact ⟨fun h => by omega, fun h => absurd h (by decide)⟩
  rw [if_neg h3, pq_cci]
  have af : ∀ i, i < n → pm_af n s i = 12 * s + pc_nx n i := fun i hi => by unfold pm_af; rw [pq_nx hi]
  have af2 : ∀ i, i < n → pm_af n s (i + 1) = 12 * s + pc_nx n (pc_nx n i) := fun i hi => by
    have := pq_nx (pc_nx_lt hi)
    unfold pm_af
    rw [← this, ← pq_nx hi]
    simp
  have af3 : ∀ i, i < n → pm_af n s (i + 1) = pm_af n s (pc_nx n i) := fun i hi => by rw [af2 i hi, af _ (pc_nx_lt hi)]
  have same : ∀ p q, p < n → q < n → (pc_same xs ys p q = false ↔ ¬ (gx (12 * s + p) = gx (12 * s + q) ∧ gy (12 * s + p) = gy (12 * s + q))) := fun p q hp hq => by
    unfold pc_same
    rw [ex _ hp, ex _ hq, ey _ hp, ey _ hq, ← Bool.not_eq_true, Bool.and_eq_true, decide_eq_true_eq, decide_eq_true_eq]
  have hon : ∀ i, i < n → pm_on gx gy (12 * s + i) (pm_af n s i) (gx (pm_af n s (i + 1))) (gy (pm_af n s (i + 1))) = pc_hc xs ys n i (pc_nx n (pc_nx n i)) := fun i hi => by
    rw [af2 i hi]; exact pq_hc ex ey rx ry hi (pc_nx_lt (pc_nx_lt hi))
  have hon2 : ∀ i, i < n → pm_on gx gy (pm_af n s i) (pm_af n s (i + 1)) (gx (12 * s + i)) (gy (12 * s + i)) = pc_hc xs ys n (pc_nx n i) i := fun i hi => by
    rw [af3 i hi, af i hi]; exact pq_hc ex ey rx ry (pc_nx_lt hi) hi
  have hap : ∀ i j, i < n → j < n → (pm_ap n i j = true ↔ j ≠ i ∧ pc_nx n j ≠ i ∧ pc_nx n i ≠ j) := fun i j hi hj => by
    unfold pm_ap
    rw [Bool.and_eq_true, Bool.and_eq_true, decide_eq_true_eq, decide_eq_true_eq, decide_eq_true_eq, pq_nx hi, pq_nx hj]
  have nxs : ∀ i, i < n → (i + 1 < n ∧ pc_nx n i = i + 1) ∨ (i + 1 = n ∧ pc_nx n i = 0) := fun i hi => by
    unfold pc_nx; split <;> omega
  constructor
  · rintro ⟨⟨-, hs⟩, hm⟩ p - hp q hq hqn
    refine ⟨(same p q (by omega) hqn).mpr (fun h => hs q (by omega) (by omega) p hq ⟨h.1.symm, h.2.symm⟩), ?_⟩
    unfold pc_clash
    split
    · rename_i e
      unfold pc_fold
      have h := (hm p (by omega) (by omega)).1
      rw [hon p (by omega), hon2 p (by omega), e] at h
      rw [h.1, h.2]; rfl
    · split
      · rename_i e
        unfold pc_fold
        have h := (hm q (by omega) (by omega)).1
        rw [hon q (by omega), hon2 q (by omega), e] at h
        rw [h.1, h.2]; rfl
      · have h := (hm p (by omega) (by omega)).2 q hqn
        rw [hap p q (by omega) hqn, pq_meet ex ey rx ry (by omega) hqn] at h
        cases h9 : pc_mt xs ys n p q
        · exact h9
        · exact absurd ⟨⟨by omega, by assumption, by assumption⟩, h9⟩ h
  · intro h
    refine ⟨⟨by omega, fun p _ hp q hq e => ?_⟩, fun p _ hp => ⟨?_, fun q hq hh => ?_⟩⟩
    · exact (same q p (by omega) (by omega)).mp (h q (by omega) (by omega) p hq (by omega)).1 ⟨e.1.symm, e.2.symm⟩
    · rw [hon p (by omega), hon2 p (by omega)]
      rcases nxs p (by omega) with ⟨a, b⟩ | ⟨a, b⟩
      · have := (h p (by omega) (by omega) (p + 1) (by omega) (by omega)).2
        unfold pc_clash at this
        rw [if_pos b] at this
        unfold pc_fold at this
        rw [b]
        exact Bool.or_eq_false_iff.mp this
      · have := (h 0 (by omega) (by omega) p (by omega) (by omega)).2
        unfold pc_clash at this
        rw [if_neg (by rcases nxs 0 (by omega) with ⟨c, d⟩ | ⟨c, d⟩ <;> omega), if_pos b] at this
        unfold pc_fold at this
        rw [b]
        exact Bool.or_eq_false_iff.mp this
    · rw [hap p q (by omega) hq, pq_meet ex ey rx ry (by omega) hq] at hh
      obtain ⟨⟨a, b, c⟩, d⟩ := hh
      rcases Nat.lt_or_gt_of_ne a with e | e
      · have := (h q (by omega) (by omega) p e (by omega)).2
        unfold pc_clash at this
        rw [if_neg b, if_neg c] at this
        have d2 : pc_mt xs ys n q p = false := this
        rw [pc_mt_sym, d2] at d
        exact absurd d (by decide)
      · have := (h p (by omega) (by omega) q e (by omega)).2
        unfold pc_clash at this
        rw [if_neg c, if_neg b] at this
        have d2 : pc_mt xs ys n p q = false := this
        rw [d2] at d
        exact absurd d (by decide)
end
/-- eleven corners: two rounds and three quarters: no -/
theorem pa_big11 {v : Nat → Int × Int} (per : v 11 = v 0) (bd : ∀ k, (-10000 ≤ (v k).1 ∧ (v k).1 ≤ 10000) ∧ (-10000 ≤ (v k).2 ∧ (v k).2 ≤ 10000))
    (hS : 2147483648 ≤ pa_x (v 0) (v 1) + pa_x (v 1) (v 2) + pa_x (v 2) (v 3) + pa_x (v 3) (v 4) + pa_x (v 4) (v 5) + pa_x (v 5) (v 6) + pa_x (v 6) (v 7) + pa_x (v 7) (v 8) + pa_x (v 8) (v 9) + pa_x (v 9) (v 10) + pa_x (v 10) (v 11)) : False := by
  let a : Nat → Int := fun k => (pa_r k (v k)).1
  let b : Nat → Int := fun k => (pa_r k (v k)).2
  have hw : ∀ k, pa_r k (v k) = (a k, b k) := fun k => rfl
  have bda : ∀ k, -10000 ≤ a k ∧ a k ≤ 10000 := fun k => (pa_rb (bd k) k).1
  have bdb : ∀ k, -10000 ≤ b k ∧ b k ≤ 10000 := fun k => (pa_rb (bd k) k).2
  have xe : ∀ k, pa_x (v k) (v (k + 1)) = a k * a (k + 1) + b k * b (k + 1) := fun k => by
    rw [← pa_xr (v k) (v (k + 1)) k, hw, pa_rN (hw (k + 1))]
    unfold pa_x; grind
  have pa : ∀ k, a k * a (k + 1) ≤ 100000000 := fun k => (pa_mb (n := 10000) (m := 10000) (bda k) (bda (k + 1))).2
  have pb : ∀ k, b k * b (k + 1) ≤ 100000000 := fun k => (pa_mb (n := 10000) (m := 10000) (bdb k) (bdb (k + 1))).2
  have key : ∀ k, k < 11 → 0 < a k * a (k + 1) ∧ 0 < b k * b (k + 1) := fun k hk => by
    have x0 := xe 0
    have x1 := xe 1
    have x2 := xe 2
    have x3 := xe 3
    have x4 := xe 4
    have x5 := xe 5
    have x6 := xe 6
    have x7 := xe 7
    have x8 := xe 8
    have x9 := xe 9
    have x10 := xe 10
    have a0 := pa 0
    have a1 := pa 1
    have a2 := pa 2
    have a3 := pa 3
    have a4 := pa 4
    have a5 := pa 5
    have a6 := pa 6
    have a7 := pa 7
    have a8 := pa 8
    have a9 := pa 9
    have a10 := pa 10
    have b0 := pb 0
    have b1 := pb 1
    have b2 := pb 2
    have b3 := pb 3
    have b4 := pb 4
    have b5 := pb 5
    have b6 := pb 6
    have b7 := pb 7
    have b8 := pb 8
    have b9 := pb 9
    have b10 := pb 10
    have qs : k = 0 ∨ k = 1 ∨ k = 2 ∨ k = 3 ∨ k = 4 ∨ k = 5 ∨ k = 6 ∨ k = 7 ∨ k = 8 ∨ k = 9 ∨ k = 10 := by omega
    rcases qs with rfl | rfl | rfl | rfl | rfl | rfl | rfl | rfl | rfl | rfl | rfl <;> simp only [Nat.reduceAdd] at * <;> omega
  have c1 := pa_chain (c := a) 0 10 (fun q _ h => (key q (by omega)).1)
  have c2 := pa_chain (c := b) 0 10 (fun q _ h => (key q (by omega)).2)
  have e1 : a (0 + 10 + 1) = -b 0 := by
    show (pa_r 11 (v 11)).1 = -(pa_r 0 (v 0)).2
    rw [per, show (11 : Nat) = 3 + 4 + 4 from rfl, pa_r4, pa_r4]; rfl
  have e2 : b (0 + 10 + 1) = a 0 := by
    show (pa_r 11 (v 11)).2 = (pa_r 0 (v 0)).1
    rw [per, show (11 : Nat) = 3 + 4 + 4 from rfl, pa_r4, pa_r4]; simp [pa_r, pa_q]
  rw [e1] at c1
  rw [e2] at c2
  have : a 0 * -b 0 = -(b 0 * a 0) := by grind
  omega
/-- the doubled area as a whole number -/
def pq_S (xs ys : Nat → Int32) (n : Nat) : Nat → Nat → Int
  | 0, _ => 0
  | f + 1, k => ((xs k).toInt * (ys (pc_nx n k)).toInt - (ys k).toInt * (xs (pc_nx n k)).toInt) + pq_S xs ys n f (k + 1)
section
variable {xs ys : Nat → Int32} {n : Nat}
theorem pq_tm (rx : ∀ k, k < n → pq_r (xs k)) (ry : ∀ k, k < n → pq_r (ys k)) {k : Nat} (hk : k < n) : -200000000 ≤ ((xs k).toInt * (ys (pc_nx n k)).toInt - (ys k).toInt * (xs (pc_nx n k)).toInt) ∧ ((xs k).toInt * (ys (pc_nx n k)).toInt - (ys k).toInt * (xs (pc_nx n k)).toInt) ≤ 200000000 := by
  have a1 := pa_mb (n := 10000) (m := 10000) (rx k hk) (ry _ (pc_nx_lt hk))
  have a2 := pa_mb (n := 10000) (m := 10000) (ry k hk) (rx _ (pc_nx_lt hk))
  omega
theorem pq_Sb (rx : ∀ k, k < n → pq_r (xs k)) (ry : ∀ k, k < n → pq_r (ys k)) : ∀ f k, k + f ≤ n → -200000000 * (f : Int) ≤ pq_S xs ys n f k ∧ pq_S xs ys n f k ≤ 200000000 * (f : Int) := by
  intro f
  induction f with
  | zero => intro k _; exact ⟨by simp [pq_S], by simp [pq_S]⟩
  | succ f ih =>
    intro k h
    have a := pq_tm rx ry (show k < n by omega)
    have b := ih (k + 1) (by omega)
    unfold pq_S
    omega
theorem pq_sum (rx : ∀ k, k < n → pq_r (xs k)) (ry : ∀ k, k < n → pq_r (ys k)) : ∀ f k (a : Int64), k + f ≤ n → f ≤ 12 → -(200000000 * (12 - (f : Int))) ≤ a.toInt → a.toInt ≤ 200000000 * (12 - (f : Int)) → (pc_sum xs ys n f k a).toInt = a.toInt + pq_S xs ys n f k := by
  intro f
  induction f with
  | zero => intro k a _ _ _ _; simp [pc_sum, pq_S]
  | succ f ih =>
    intro k a h h2 h3 h4
    have r0 : pq_r 0 := by unfold pq_r; decide
    have t := pq_turn r0 r0 (rx k (by omega)) (ry k (by omega)) (rx _ (pc_nx_lt (show k < n by omega))) (ry _ (pc_nx_lt (show k < n by omega)))
    have m := pq_tm rx ry (show k < n by omega)
    unfold pq_s at t
    have z : (0 : Int32).toInt = 0 := rfl
    simp only [z, Int.sub_zero] at t
    have e : (a + pc_turn 0 0 (xs k) (ys k) (xs (pc_nx n k)) (ys (pc_nx n k))).toInt = a.toInt + ((xs k).toInt * (ys (pc_nx n k)).toInt - (ys k).toInt * (xs (pc_nx n k)).toInt) := by
      rw [Int64.toInt_add, t]
      exact Int.bmod_eq_of_le (by omega) (by omega)
    unfold pc_sum pq_S
    rw [ih (k + 1) _ (by omega) (by omega) (by omega) (by omega), e]
    omega
theorem pq_msum {gx gy : Nat → Int32} {s : Nat} (ex : ∀ k, k < n → xs k = gx (12 * s + k)) (ey : ∀ k, k < n → ys k = gy (12 * s + k)) (rx : ∀ k, k < n → pq_r (xs k)) (ry : ∀ k, k < n → pq_r (ys k)) : ∀ f k (a : Int32), k + (f + 1) = n →
    (pm_sum gx gy n s (f + 1) k a).toInt = (a.toInt + (pq_S xs ys n (f + 1) k - (xs 0).toInt * ((ys 0).toInt - (ys k).toInt) + (ys 0).toInt * ((xs 0).toInt - (xs k).toInt))).bmod (2 ^ 32) := by
  intro f
  induction f with
  | zero =>
    intro k a h
    have h0 : 0 < n := by omega
    have hk : k < n := by omega
    have e : pc_nx n k = 0 := by unfold pc_nx; rw [if_neg (by omega)]
    have t := pq_side (rx 0 h0) (ry 0 h0) (rx k hk) (ry k hk) (rx _ (pc_nx_lt hk)) (ry _ (pc_nx_lt hk))
    unfold pm_sum pm_sum pm_af
    rw [pq_nx hk, ← ex _ hk, ← ey _ hk, ← ex _ (pc_nx_lt hk), ← ey _ (pc_nx_lt hk), show gx (12 * s) = xs 0 from (ex 0 h0).symm, show gy (12 * s) = ys 0 from (ey 0 h0).symm, Int32.toInt_add, t]
    congr 1
    unfold pq_s pq_S pq_S
    rw [e]
    grind
  | succ f ih =>
    intro k a h
    have h0 : 0 < n := by omega
    have hk : k < n := by omega
    have e : pc_nx n k = k + 1 := by unfold pc_nx; rw [if_pos (by omega)]
    have t := pq_side (rx 0 h0) (ry 0 h0) (rx k hk) (ry k hk) (rx _ (pc_nx_lt hk)) (ry _ (pc_nx_lt hk))
    have i1 := ih (k + 1) (a + pm_side (gx (12 * s)) (gy (12 * s)) (gx (12 * s + k)) (gy (12 * s + k)) (gx (pm_af n s k)) (gy (pm_af n s k))) (by omega)
    show (pm_sum gx gy n s (f + 1) (k + 1) _).toInt = _
    rw [i1]
    unfold pm_af
    rw [pq_nx hk, ← ex _ hk, ← ey _ hk, ← ex _ (pc_nx_lt hk), ← ey _ (pc_nx_lt hk), show gx (12 * s) = xs 0 from (ex 0 h0).symm, show gy (12 * s) = ys 0 from (ey 0 h0).symm, Int32.toInt_add, t, Int.bmod_add_bmod]
    congr 1
    show _ = a.toInt + (((xs k).toInt * (ys (pc_nx n k)).toInt - (ys k).toInt * (xs (pc_nx n k)).toInt) + pq_S xs ys n (f + 1) (k + 1) - (xs 0).toInt * ((ys 0).toInt - (ys k).toInt) + (ys 0).toInt * ((xs 0).toInt - (xs k).toInt))
    unfold pq_s
    rw [e]
    grind
/-- the lines of a closed border as whole numbers -/
theorem pq_onI (rx : ∀ k, k < n → pq_r (xs k)) (ry : ∀ k, k < n → pq_r (ys k)) {i k : Nat} (hi : i < n) (hk : k < n) : pc_hc xs ys n i k = false → ¬ pa_on ((xs i).toInt, (ys i).toInt) ((xs (pc_nx n i)).toInt, (ys (pc_nx n i)).toInt) ((xs k).toInt, (ys k).toInt) := by
  intro h g
  have hn := pc_nx_lt hi
  unfold pc_hc pc_on pc_side at h
  have t := pq_0 (pq_turn (rx _ hi) (ry _ hi) (rx _ hn) (ry _ hn) (rx _ hk) (ry _ hk))
  obtain ⟨g1, g2, g3⟩ := g
  have b1 : pc_btw (xs i) (xs (pc_nx n i)) (xs k) = true := by
    rw [← pq_btw]; unfold pm_btw; simp only [Bool.or_eq_true, Bool.and_eq_true, decide_eq_true_eq, Int32.le_iff_toInt_le]; exact g2
  have b2 : pc_btw (ys i) (ys (pc_nx n i)) (ys k) = true := by
    rw [← pq_btw]; unfold pm_btw; simp only [Bool.or_eq_true, Bool.and_eq_true, decide_eq_true_eq, Int32.le_iff_toInt_le]; exact g3
  rw [b1, b2, decide_eq_true (t.1.mpr g1)] at h
  exact absurd h (by decide)
theorem pq_nmI (rx : ∀ k, k < n → pq_r (xs k)) (ry : ∀ k, k < n → pq_r (ys k)) {i j : Nat} (hi : i < n) (hj : j < n) (h : pc_mt xs ys n i j = false) :
    pa_nm ((xs i).toInt, (ys i).toInt) ((xs (pc_nx n i)).toInt, (ys (pc_nx n i)).toInt) ((xs j).toInt, (ys j).toInt) ((xs (pc_nx n j)).toInt, (ys (pc_nx n j)).toInt) := by
  have ni := pc_nx_lt hi
  have nj := pc_nx_lt hj
  unfold pc_mt at h
  simp only [Bool.or_eq_false_iff, Bool.and_eq_false_iff] at h
  obtain ⟨h1, h2, h3, h4, h5⟩ := h
  refine ⟨pq_onI rx ry hi hj h1, pq_onI rx ry hi nj h2, pq_onI rx ry hj hi h3, pq_onI rx ry hj ni h4, fun ⟨o1, o2⟩ => ?_⟩
  have parts : ∀ i j, (hi : i < n) → (hj : j < n) → pa_op (pa_o ((xs i).toInt, (ys i).toInt) ((xs (pc_nx n i)).toInt, (ys (pc_nx n i)).toInt) ((xs j).toInt, (ys j).toInt)) (pa_o ((xs i).toInt, (ys i).toInt) ((xs (pc_nx n i)).toInt, (ys (pc_nx n i)).toInt) ((xs (pc_nx n j)).toInt, (ys (pc_nx n j)).toInt)) → pc_parts xs ys n i j = true := fun i j hi hj o => by
    have ni := pc_nx_lt hi
    have nj := pc_nx_lt hj
    have a2 := pq_0 (pq_turn (rx _ hi) (ry _ hi) (rx _ ni) (ry _ ni) (rx _ hj) (ry _ hj))
    have b2 := pq_0 (pq_turn (rx _ hi) (ry _ hi) (rx _ ni) (ry _ ni) (rx _ nj) (ry _ nj))
    unfold pc_parts pc_side
    simp only [Bool.or_eq_true, Bool.and_eq_true, decide_eq_true_eq, a2, b2]
    exact o.symm
  rcases h5 with h5 | h5
  · rw [parts i j hi hj o1] at h5; exact absurd h5 (by decide)
  · rw [parts j i hj hi o2] at h5; exact absurd h5 (by decide)
theorem pa_mir {p q p' q' : Int × Int} (h : pa_nm p q p' q') : pa_nm (-p.1, p.2) (-q.1, q.2) (-p'.1, p'.2) (-q'.1, q'.2) := by
  have e : ∀ p q r : Int × Int, pa_o (-p.1, p.2) (-q.1, q.2) (-r.1, r.2) = - pa_o p q r := fun p q r => by unfold pa_o; grind
  have f : ∀ p q r : Int × Int, pa_on (-p.1, p.2) (-q.1, q.2) (-r.1, r.2) ↔ pa_on p q r := fun p q r => by
    unfold pa_on
    rw [e]
    unfold pa_b
    simp only
    omega
  unfold pa_nm at h ⊢
  rw [f, f, f, f, e, e, e, e]
  refine ⟨h.1, h.2.1, h.2.2.1, h.2.2.2.1, fun g => h.2.2.2.2 ?_⟩
  unfold pa_op at g ⊢
  omega
theorem pq_bound (h12 : n ≤ 12) (rx : ∀ k, k < n → pq_r (xs k)) (ry : ∀ k, k < n → pq_r (ys k)) (hc : pc_cci xs ys n n 0 = true) : -2147483648 < pq_S xs ys n n 0 ∧ pq_S xs ys n n 0 < 2147483648 := by
  have b := pq_Sb rx ry n 0 (by omega)
  by_cases h10 : n ≤ 10
  · omega
  have hm : ∀ i j, i < n → j < n → j ≠ i → pc_nx n j ≠ i → pc_nx n i ≠ j → pc_mt xs ys n i j = false := fun i j hi hj a b c => by
    have h := (pq_cci xs ys n n 0).mp hc
    rcases Nat.lt_or_gt_of_ne a with e | e
    · have := (h j (by omega) (by omega) i e (by omega)).2
      unfold pc_clash at this
      rw [if_neg b, if_neg c] at this
      rw [pc_mt_sym]; exact this
    · have := (h i (by omega) (by omega) j e (by omega)).2
      unfold pc_clash at this
      rw [if_neg c, if_neg b] at this
      exact this
  by_cases h11 : n = 11
  · subst h11
    let v : Nat → Int × Int := fun k => ((xs (k % 11)).toInt, (ys (k % 11)).toInt)
    have bd : ∀ k, (-10000 ≤ (v k).1 ∧ (v k).1 ≤ 10000) ∧ (-10000 ≤ (v k).2 ∧ (v k).2 ≤ 10000) := fun k => ⟨rx _ (by omega), ry _ (by omega)⟩
    have e : pq_S xs ys 11 11 0 = pa_x (v 0) (v 1) + pa_x (v 1) (v 2) + pa_x (v 2) (v 3) + pa_x (v 3) (v 4) + pa_x (v 4) (v 5) + pa_x (v 5) (v 6) + pa_x (v 6) (v 7) + pa_x (v 7) (v 8) + pa_x (v 8) (v 9) + pa_x (v 9) (v 10) + pa_x (v 10) (v 11) := by
      simp only [pq_S, pa_x, v, pc_nx, Nat.reduceAdd, Nat.reduceLT, Nat.reduceMod, if_true, if_false]
      omega
    constructor
    · rcases Int.lt_or_le (-2147483648) (pq_S xs ys 11 11 0) with g | g
      · exact g
      exfalso
      refine pa_big11 (v := fun k => (-(v k).1, (v k).2)) rfl (fun k => by have := bd k; show (-10000 ≤ -(v k).1 ∧ -(v k).1 ≤ 10000) ∧ _; exact ⟨by omega, this.2⟩) ?_
      rw [e] at g
      have fl : ∀ p q : Int × Int, pa_x (-p.1, p.2) (-q.1, q.2) = - pa_x p q := fun p q => by unfold pa_x; grind
      simp only [fl]
      omega
    · rcases Int.lt_or_le (pq_S xs ys 11 11 0) 2147483648 with g | g
      · exact g
      exact (pa_big11 (v := v) rfl bd (by rw [← e]; exact g)).elim
  · have h12 : n = 12 := by omega
    subst h12
    let v : Nat → Int × Int := fun k => ((xs (k % 12)).toInt, (ys (k % 12)).toInt)
    have bd : ∀ k, (-10000 ≤ (v k).1 ∧ (v k).1 ≤ 10000) ∧ (-10000 ≤ (v k).2 ∧ (v k).2 ≤ 10000) := fun k => ⟨rx _ (by omega), ry _ (by omega)⟩
    have per : ∀ k, v (k + 12) = v k := fun k => by show ((xs ((k + 12) % 12)).toInt, (ys ((k + 12) % 12)).toInt) = _; rw [Nat.add_mod_right]
    have nxm : ∀ i, pc_nx 12 (i % 12) = (i + 1) % 12 := fun i => by rw [← pq_nx (by omega)]; omega
    have hN : pa_N v := fun i j x y z => by
      have h := pq_nmI rx ry (show i % 12 < 12 by omega) (show j % 12 < 12 by omega) (hm (i % 12) (j % 12) (by omega) (by omega) (by omega) (by rw [nxm]; omega) (by rw [nxm]; omega))
      rw [nxm, nxm] at h
      exact h
    have e : pq_S xs ys 12 12 0 = pa_x (v 0) (v 1) + pa_x (v 1) (v 2) + pa_x (v 2) (v 3) + pa_x (v 3) (v 4) + pa_x (v 4) (v 5) + pa_x (v 5) (v 6) + pa_x (v 6) (v 7) + pa_x (v 7) (v 8) + pa_x (v 8) (v 9) + pa_x (v 9) (v 10) + pa_x (v 10) (v 11) + pa_x (v 11) (v 12) := by
      simp only [pq_S, pa_x, v, pc_nx, Nat.reduceAdd, Nat.reduceLT, Nat.reduceMod, if_true, if_false]
      omega
    constructor
    · rcases Int.lt_or_le (-2147483648) (pq_S xs ys 12 12 0) with g | g
      · exact g
      exfalso
      refine pa_big (v := fun k => (-(v k).1, (v k).2)) (fun k => by show (-(v (k + 12)).1, (v (k + 12)).2) = _; rw [per]) (fun k => by have := bd k; show (-10000 ≤ -(v k).1 ∧ -(v k).1 ≤ 10000) ∧ _; exact ⟨by omega, this.2⟩) (fun i j x y z => pa_mir (hN i j x y z)) ?_
      rw [e] at g
      have fl : ∀ p q : Int × Int, pa_x (-p.1, p.2) (-q.1, q.2) = - pa_x p q := fun p q => by unfold pa_x; grind
      simp only [fl]
      omega
    · rcases Int.lt_or_le (pq_S xs ys 12 12 0) 2147483648 with g | g
      · exact g
      exact (pa_big (v := v) per bd hN (by rw [← e]; exact g)).elim
theorem pq_area {gx gy : Nat → Int32} {s : Nat} (ex : ∀ k, k < n → xs k = gx (12 * s + k)) (ey : ∀ k, k < n → ys k = gy (12 * s + k)) (h0 : 0 < n) (h12 : n ≤ 12) (rx : ∀ k, k < n → pq_r (xs k)) (ry : ∀ k, k < n → pq_r (ys k)) (hc : pc_cci xs ys n n 0 = true) :
    pm_ab (pm_sum gx gy n s n 0 0) = pc_area xs ys n := by
  have hb := pq_bound h12 rx ry hc
  have z : (0 : Int64).toInt = 0 := rfl
  have z2 : (0 : Int32).toInt = 0 := rfl
  have h1 := pq_sum rx ry n 0 0 (by omega) h12 (by rw [z]; omega) (by rw [z]; omega)
  rw [z, Int.zero_add] at h1
  obtain ⟨n', rfl⟩ : ∃ n', n = n' + 1 := ⟨n - 1, by omega⟩
  have h2 := pq_msum ex ey rx ry n' 0 0 (by omega)
  rw [z2, Int.zero_add, Int.sub_self, Int.sub_self, Int.mul_zero, Int.mul_zero, Int.sub_zero, Int.add_zero, Int.bmod_eq_of_le (by omega) (by omega)] at h2
  unfold pm_ab pc_area
  generalize pm_sum gx gy (n' + 1) s (n' + 1) 0 0 = u at h2 ⊢
  generalize pc_sum xs ys (n' + 1) (n' + 1) 0 0 = w at h1 ⊢
  generalize pq_S xs ys (n' + 1) (n' + 1) 0 = S at h1 h2 hb
  have hu : u < 0 ↔ S < 0 := by rw [Int32.lt_iff_toInt_lt, h2, z2]
  have hw : 0 < w ↔ 0 < S := by rw [Int64.lt_iff_toInt_lt, h1, z]
  apply Int32.toInt_inj.mp
  rw [Int64.toInt_toInt32]
  by_cases c : 0 < S
  · rw [if_neg (fun q => by have := hu.mp q; omega), if_pos (hw.mpr c), h1, h2, Int.bmod_eq_of_le (by omega) (by omega)]
  · rw [if_neg (fun q => c (hw.mp q)), Int64.toInt_neg, h1]
    rw [Int.bmod_eq_of_le (n := -S) (m := 2 ^ 64) (by omega) (by omega), Int.bmod_eq_of_le (by omega) (by omega)]
    by_cases d : S < 0
    · rw [if_pos (hu.mpr d), Int32.toInt_sub, h2, z2, Int.bmod_eq_of_le (by omega) (by omega)]; omega
    · rw [if_neg (fun q => d (hu.mp q)), h2]; omega
end
