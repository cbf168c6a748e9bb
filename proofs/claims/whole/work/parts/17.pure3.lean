/-! PURE: the class's public readers (own text) -/
theorem z_dec {b : Nat} (h : ¬ b = 0) : nI b + Int32.ofInt (-1) = nI (b - 1) := by
  obtain ⟨q, rfl⟩ : ∃ q, b = q + 1 := ⟨b - 1, by omega⟩
  rw [show nI (q + 1) + Int32.ofInt (-1) = nI (q + 1) - 1 by rw [Int32.sub_eq_add_neg]; rfl, nI_pred]; rfl
def pb_num (o : Option Nat) : Int32 := match o with
  | none => -1
  | some j => nI j
def pb_kth (P : Nat → Bool) : Nat → Nat → Nat → Int32
  | 0, _, _ => -1
  | f + 1, i, b => if P i = true then (if b = 0 then nI i else pb_kth P f (i + 1) (b - 1)) else pb_kth P f (i + 1) b
def pb_inO (sx sy : Nat → Nat → Int32) (sn : Nat → Nat) (x y : Int32) (o : Option Nat) : Bool := match o with
  | none => false
  | some j => pc_in (sx j) (sy j) (sn j) x y
def pb_tw (sx sy : Nat → Nat → Int32) (sn : Nat → Nat) (sp : Nat → Option Nat) (x y : Int32) (o : Option Nat) : Int32 := match o with
  | none => -1
  | some j => pi_b (pc_in (sx j) (sy j) (sn j) x y) + pi_b (match sp j with
    | none => pc_in (sx j) (sy j) (sn j) x y
    | some q => pc_in (sx q) (sy q) (sn q) x y)
def pb_ar (sx sy : Nat → Nat → Int32) (sn : Nat → Nat) (o : Option Nat) : Int32 := match o with
  | none => 0
  | some j => pc_area (sx j) (sy j) (sn j)
def pb_di (sx sy : Nat → Nat → Int32) (sn : Nat → Nat) (a b : Option Nat) : Int32 := match a, b with
  | some i, some j => pc_least (sx i) (sy i) (sn i) (sx j) (sy j) (sn j)
  | _, _ => -1
def pb_mf (sx sy : Nat → Nat → Int32) (sn : Nat → Nat) (a b : Option Nat) : Bool := match a, b with
  | some i, some j => !(pc_all (sx j) (sy j) (sn j) (sx i) (sy i) (sn i) 0)
  | _, _ => false
def pb_mis (fv : Nat → Nat → Int32) (so sf st : Nat → Int32) (sn sc : Nat → Nat) (sx sy : Nat → Nat → Int32) (ns : Nat) (d : Int32) (i : Nat) : Bool :=
  if fv 0 i = -1 then false else pb_mf sx sy sn (pb_f so sf st sc ns (nI i) d) (pb_f so sf st sc ns (fv 0 i) d)
theorem z_ne1 {k : Nat} (h : k < 2 ^ 31) : ¬ nI k = -1 := fun e => absurd (show nI k < 0 by rw [e]; decide) (nI_pos h)
