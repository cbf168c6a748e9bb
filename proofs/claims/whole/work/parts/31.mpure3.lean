/-! PURE: what the reference's public methods answer (own text) -/
theorem pm_th_ok {a b c : Bool} (h : (a && (b && c)) = true) : pm_th a b c = 0 := by
  cases a <;> cases b <;> cases c <;> simp_all [pm_th]
theorem pm_idx_ok {n k : Nat} (hk : k < n) (hn : n < 2 ^ 31) : pm_idx n (nI k) = true := by
  simp only [pm_idx, Bool.and_eq_true, decide_eq_true_eq]
  exact ⟨nI_pos' (by omega), (nI_ltI (by omega) (by omega)).mpr hk⟩
section ZG3
variable {p : Program} {l : Launch} {e : Env} {R : Room} {s : State} {m : MethodId} {args : Array Value} {below : List Frame} {meth : Method} {c : Code} {H : Heap} {locs : List Loc} {cells slots : Nat} {Q : State → Prop}
theorem z_g3 {pc : Nat} {ls : Array Slot} {v1 v2 v3 w1 w2 w3 : Int32} {a : Nat} (h3 : v3 = w3) (h2 : v2 = w2) (h1 : v1 = w1) (k : W p l e R s m args below meth c H locs cells slots Q (F0 m pc ls [.int w3, .int w2, .int w1, .ref a])) :
    W p l e R s m args below meth c H locs cells slots Q (F0 m pc ls [.int v3, .int v2, .int v1, .ref a]) := by
  subst h1 h2 h3; exact k
end ZG3
def pm_inO (gv : Nat → Nat → Int32) (cn : Nat → Nat) (x y : Int32) (o : Option Nat) : Bool := match o with
  | none => false
  | some j => pm_in (gv 5) (gv 6) (cn j) j x y
def pm_kth (P : Nat → Bool) (k : Nat) : Nat → Nat → Nat → Int32
  | 0, _, _ => -1
  | f + 1, i, c => if P i = true then (if c = k then nI i else pm_kth P k f (i + 1) (c + 1)) else pm_kth P k f (i + 1) c
def pm_tw (gv : Nat → Nat → Int32) (cn : Nat → Nat) (sp : Nat → Option Nat) (x y : Int32) (o : Option Nat) : Int32 := match o with
  | none => -1
  | some j => pi_b (pm_in (gv 5) (gv 6) (cn j) j x y) + pi_b (match sp j with
    | none => pm_in (gv 5) (gv 6) (cn j) j x y
    | some q => pm_in (gv 5) (gv 6) (cn q) q x y)
def pm_sum (gx gy : Nat → Int32) (n s : Nat) : Nat → Nat → Int32 → Int32
  | 0, _, a => a
  | f + 1, k, a => pm_sum gx gy n s f (k + 1) (a + pm_side (gx (12 * s)) (gy (12 * s)) (gx (12 * s + k)) (gy (12 * s + k)) (gx (pm_af n s k)) (gy (pm_af n s k)))
def pm_ab (v : Int32) : Int32 := if v < 0 then 0 - v else v
def pm_ar (gv : Nat → Nat → Int32) (cn : Nat → Nat) (o : Option Nat) : Int32 := match o with
  | none => 0
  | some j => pm_ab (pm_sum (gv 5) (gv 6) (cn j) j (cn j) 0 0)
def pm_sq (gx gy : Nat → Int32) (a b : Nat) : Int32 := (gx a - gx b) * (gx a - gx b) + (gy a - gy b) * (gy a - gy b)
def pm_ls (b d : Int32) : Int32 := if b = -1 then d else if d < b then d else b
def pm_dj (gx gy : Nat → Int32) (s t i : Nat) : Nat → Nat → Int32 → Int32
  | 0, _, b => b
  | f + 1, j, b => pm_dj gx gy s t i f (j + 1) (pm_ls b (pm_sq gx gy (12 * s + i) (12 * t + j)))
def pm_dI (gx gy : Nat → Int32) (s t nt : Nat) : Nat → Nat → Int32 → Int32
  | 0, _, b => b
  | f + 1, i, b => pm_dI gx gy s t nt f (i + 1) (pm_dj gx gy s t i nt 0 b)
def pm_di (gv : Nat → Nat → Int32) (cn : Nat → Nat) (a b : Option Nat) : Int32 := match a, b with
  | some i, some j => pm_dI (gv 5) (gv 6) i j (cn j) (cn i) 0 (-1)
  | _, _ => -1
def pm_nm (gv : Nat → Nat → Int32) (p d : Int32) : Nat → Nat → Int32 → Int32
  | 0, _, n => n
  | f + 1, k, n => pm_nm gv p d f (k + 1) (if gv 9 k = p ∧ gv 11 k ≤ d ∧ d ≤ gv 12 k then gv 10 k else n)
def pm_is (gv : Nat → Nat → Int32) (mm : Nat) (x y : Int32) (k : Nat) : Bool :=
  decide (k / 144 < k / 12 % 12) && (decide (k / 12 % 12 < k % 12) && (decide (k % 12 < mm) && (pm_pt x y && pm_hold (gv 13) (gv 14) (k / 144) (k / 12 % 12) (k % 12) x y)))
def pm_fnd (gv : Nat → Nat → Int32) (mm : Nat) (x y : Int32) : Nat → Nat → Option Nat
  | 0, _ => none
  | f + 1, k => if pm_is gv mm x y k = true then some k else pm_fnd gv mm x y f (k + 1)
def pm_msk (v z : Int32) : Int32 := if v - v / z * z < 0 then v - (v - v / z * z) - z else v - (v - v / z * z)
def pm_ps (gv : Nat → Nat → Int32) (a b : Nat) (x y : Int32) : Int32 := pm_side (gv 13 a) (gv 14 a) (gv 13 b) (gv 14 b) x y
def pm_val (gv : Nat → Nat → Int32) (mk : Nat → Int32) (a b c : Nat) (x y : Int32) : Int32 :=
  pm_near ((pm_ps gv b c x y).toInt64 * (mk a).toInt64 + (pm_ps gv c a x y).toInt64 * (mk b).toInt64 + (pm_ps gv a b x y).toInt64 * (mk c).toInt64) (pm_ps gv a b (gv 13 c) (gv 14 c)).toInt64
def pm_fr (f : Nat → Int32) (s : Nat) (o : Option Nat) : Nat → Int32 := match o with
  | none => f
  | some j => upd (upd f j (-1)) s (-1)
theorem va_up_same {α : Type} (f : Nat → α) (k : Nat) : va_up f k (f k) = f := by
  funext j; by_cases h : j = k
  · subst h; rw [va_up_self]
  · rw [va_up_ne _ _ h]
theorem pm_fnd_ok {gv : Nat → Nat → Int32} {mm : Nat} {x y : Int32} : ∀ (f k q : Nat), pm_fnd gv mm x y f k = some q → q < k + f ∧ pm_is gv mm x y q = true := by
  intro f
  induction f with
  | zero => intro k q h; cases h
  | succ f ih =>
    intro k q h
    unfold pm_fnd at h
    split at h
    · cases h; exact ⟨by omega, by assumption⟩
    · have := ih (k + 1) q h; exact ⟨by omega, this.2⟩
theorem pm_is_ok {gv : Nat → Nat → Int32} {mm : Nat} {x y : Int32} {k : Nat} (h : pm_is gv mm x y k = true) : k / 144 < k / 12 % 12 ∧ k / 12 % 12 < k % 12 ∧ k % 12 < mm ∧ pm_pt x y = true ∧ pm_hold (gv 13) (gv 14) (k / 144) (k / 12 % 12) (k % 12) x y = true := by
  simpa [pm_is, Bool.and_eq_true, decide_eq_true_eq] using h
theorem pm_hold_ne {gx gy : Nat → Int32} {a b c : Nat} {x y : Int32} (h : pm_hold gx gy a b c x y = true) : pm_side (gx a) (gy a) (gx b) (gy b) (gx c) (gy c) ≠ 0 := by
  intro e
  simp [pm_hold, e, pm_sign] at h
theorem z_by0 {v : Int32} (h : v ≠ 0) : ¬ (if v.toInt64 < 0 then 0 - 2 * v.toInt64 else 2 * v.toInt64) = 0 := by
  have h0 : v.toInt ≠ 0 := fun e => h (Int32.toInt_inj.mp (by rw [e]; rfl))
  have h1 := Int32.toInt_lt v
  have h2 := Int32.le_toInt v
  have e2 : (2 * v.toInt64).toInt = 2 * v.toInt := by
    rw [Int64.toInt_mul, Int32.toInt_toInt64, show (2 : Int64).toInt = 2 from rfl]
    exact Int.bmod_eq_of_le (by omega) (by omega)
  intro e
  split at e
  · have e3 := congrArg Int64.toInt e
    rw [Int64.toInt_sub, e2, show (0 : Int64).toInt = 0 from rfl, Int.bmod_eq_of_le (by omega) (by omega)] at e3
    omega
  · have e3 := congrArg Int64.toInt e
    rw [e2, show (0 : Int64).toInt = 0 from rfl] at e3
    omega
theorem va_up_up {α : Type} (f : Nat → α) (k : Nat) (v w : α) : va_up (va_up f k v) k w = va_up f k w := by
  funext j; simp only [va_up]; split <;> rfl
