/-! THE CLASS'S STATE (own text). A: the addresses: 0 the object, 1 its Names, 2 its OldMap, 3 its array of shapes, 4 + k its k-th int array
(0 parents; 1 to 4 the names' owners, numbers, froms, tos; 5 to 8 the marks' mapXs, mapYs, xs, ys), 13 + 3 i, 14 + 3 i, 15 + 3 i the i-th shape and its two arrays -/
def z_len (k : Nat) : Nat := if k = 0 then 16 else if k < 5 then 40 else 12
def z_pv (A : Nat → Nat) (o : Option Nat) : Value := match o with
  | none => .null
  | some j => .ref (A (13 + 3 * j))
def z_BD (D : va_G) (cI cS : ClassId) (H : Heap) (A : Nat → Nat) (np ns nc nn nm : Nat) (fv : Nat → Nat → Int32) (so sf st : Nat → Int32) (sn sc : Nat → Nat) (sp : Nat → Option Nat) (sx sy : Nat → Nat → Int32) : Prop :=
  (z_O D H (A 0) 3 [.ref (A 4), .int (nI np), .ref (A 3), .int (nI ns), .int (nI nc), .ref (A 1), .ref (A 2)] ∧
  z_O D H (A 1) 0 [.ref (A 5), .ref (A 6), .ref (A 7), .ref (A 8), .int (nI nn)] ∧
  z_O D H (A 2) 1 [.ref (A 9), .ref (A 10), .ref (A 11), .ref (A 12), .int (nI nm)] ∧
  z_B cS H (A 3) 32 (fun i => if i < ns then some (A (13 + 3 * i)) else none) ∧
  (∀ k, k < 9 → z_A cI H (A (4 + k)) (z_len k) (fv k)) ∧
  (∀ i, i < ns → z_Sh D cI H (A (13 + 3 * i)) (A (14 + 3 * i)) (A (15 + 3 * i)) (sn i) (nI i) (so i) (sf i) (st i) (nI (sc i)) (z_pv A (sp i)) (sx i) (sy i))) ∧
  (∀ i j, i < 13 + 3 * ns → j < 13 + 3 * ns → A i = A j → i = j) ∧
  (np ≤ 16 ∧ ns ≤ 32 ∧ nn ≤ 40 ∧ nm ≤ 12 ∧ nc < 2 ^ 30) ∧ (∀ i, i < ns → sn i ≤ 12 ∧ sc i ≤ nc ∧ (0 < sc i → 3 ≤ sn i) ∧ ∀ j, sp i = some j → j < ns)
/-- the sites of throws: class, its constructor's entry, the exception, the entry by which its own constructor hands on, that constructor's bytes -/
def z_b13 : ByteArray := ⟨#[0x2a, 0x2b, 0xb7, 0x00, 0x0d, 0xb1]⟩
/-- what throws rest on, at s0 -/
def z_T (s0 : State) (l : Launch) : Prop := l.stackTraces = false ∧
  (xt_At R_B 164 "java/util/NoSuchElementException" 13 z_b13 s0 ∧ xt_At R_B 45 "java/lang/IllegalStateException" 7 Bundle.six s0 ∧ xt_At R_B 131 "java/lang/IllegalArgumentException" 7 Bundle.six s0 ∧ xt_At R_O 40 "java/lang/IllegalStateException" 7 Bundle.six s0) ∧
  (∀ q ∈ [(R_B, 172, "there is no such place"), (R_B, 43, "there are sixteen places"), (R_B, 179, "a day is not 0 to 100000"), (R_B, 181, "the first day is above the last"), (R_B, 55, "there are 32 shapes"), (R_B, 162, "there is no such shape"), (R_B, 183, "a point is not within -10000 to 10000"), (R_B, 74, "the shape is closed or has twelve corners"), (R_B, 174, "k is below 0"), (R_B, 129, "a name is below 0"), (R_B, 133, "there are 40 names"), (R_B, 142, "there are twelve marks"), (R_B, 176, "there is no such axis"), (R_O, 38, "no three marks place the point"), (R_B, 153, "a cell's size is not 1 to 10000")], ∃ a, vk_R q.1 q.2.1 q.2.2 a s0)
theorem k_B_NSE : (xt_atoms R_B 164 "java/util/NoSuchElementException" 13 z_b13).all xt_kind = true := by decide +kernel
theorem k_B_ISE : (xt_atoms R_B 45 "java/lang/IllegalStateException" 7 Bundle.six).all xt_kind = true := by decide +kernel
theorem k_B_IAE : (xt_atoms R_B 131 "java/lang/IllegalArgumentException" 7 Bundle.six).all xt_kind = true := by decide +kernel
theorem k_O_ISE : (xt_atoms R_O 40 "java/lang/IllegalStateException" 7 Bundle.six).all xt_kind = true := by decide +kernel
theorem k_13 : decode z_b13 0 = .ok (.aload_n 0, 1) ∧ decode z_b13 1 = .ok (.aload_n 1, 1) ∧ decode z_b13 2 = .ok (.invokespecial 13, 3) ∧ decode z_b13 5 = .ok (.return_, 1) := by decide +kernel
theorem k_7 : decode Bundle.six 0 = .ok (.aload_n 0, 1) ∧ decode Bundle.six 1 = .ok (.aload_n 1, 1) ∧ decode Bundle.six 2 = .ok (.invokespecial 7, 3) ∧ decode Bundle.six 5 = .ok (.return_, 1) := by decide +kernel
def z_pt (x y : Int32) : Prop := (-10000) ≤ x ∧ x ≤ 10000 ∧ (-10000) ≤ y ∧ y ≤ 10000
def z_day (d : Int32) : Prop := 0 ≤ d ∧ d ≤ 100000
section ZX
variable {p : Program} {l : Launch} {e : Env} {R : Room} {s : State} {m : MethodId} {args : Array Value} {below : List Frame} {meth : Method} {c : Code} {H : Heap} {locs : List Loc} {cells slots : Nat} {Q : State → Prop}
variable {cc : ByteArray} {pc : Nat} {ls : Array Slot} {rest : List Value}
theorem z_aald {cS : ClassId} {C : String} {a n k q : Nat} {f : Nat → Option Nat} (hx : p.tables.exec = Jvm.exec) (hb : c.code = cc) (hAS : ArrOfT s cS (.object C)) (hA : z_B cS H a n f) (hk : k < n) (hn : n < 2 ^ 31) (hf : f k = some q) (hdg : decode cc pc = .ok (.aaload, 1))
    (kk : W p l e R s m args below meth c H locs cells slots Q (F0 m (pc + 1) ls (.ref q :: rest))) : W p l e R s m args below meth c H locs cells slots Q (F0 m pc ls (.int (nI k) :: .ref a :: rest)) := by
  have hc : (nI k).toNatClampNeg = k := nI_clamp (by omega)
  refine W.aald (v := .ref q) (ty := .object C) hx hb hA (hAS n (fun j => va_rf (f j))) rfl (fun q => by cases q) ?_ ?_ rfl rfl hdg kk
  · show ¬ (nI k < 0 ∨ (arrV _ _ _).slots.size ≤ _)
    rw [arrV_size]; exact nI_in hk hn
  · show (arrV _ _ _).slots[_]? = _
    rw [hc, arrV_read _ _ hk, hf]; rfl
/-- a call of a thrower, seen in a method that has no handler: virtual; static -/
theorem z_thV {s0 : State} {y : MethodName} {bytes : ByteArray} {maxL nL n index : Nat} {ret : Option FieldType} {rm : Room} {own C X : String} {a : Nat} {As stk : List Value} {B : Heap → Prop}
    (S : CallFix p m c cc nL s args z_tbl own) (hW0 : s0.WarmedH s.vm) (hno : c.exceptionTable.isEmpty = true) (hlocks : meth.locks = false) (hM : xt_Met l y [Cond.code y bytes maxL ret] rm (z_Pc s0 (.ref a :: As) B) X)
    (w1 : Cond.code y bytes maxL ret ∈ z_tbl) (w2 : Cond.methodLink own index y ∈ z_tbl) (w3 : Cond.instanceMethod y ∈ z_tbl) (w4 : Cond.selects C y y ∈ z_tbl) (w5 : Cond.initialized y.cls ∈ z_tbl)
    (hd : z_dsc y n) (hR : z_rmk rm R maxL 1 6)
    (hrecv : ∃ cell : Cell, H[a]? = some cell ∧ cell.vm.isStatics = false ∧ s.vm.findClass C = some cell.cls) (hB : B H) (hn : As.length = n) (hstk : stk = As.reverse ++ .ref a :: rest) (hsize : ls.size = nL) (hst : (rest.map fun v => v.category).sum ≤ 8)
    (hdg : decode cc pc = .ok (.invokevirtual index, 3)) (hf : 1 ≤ R.cells ∧ 6 ≤ R.slots) :
    W p l e R s m args below meth c H [] 0 0 (xt_Z below X args s) (F0 m pc ls stk) :=
  xt_leave (xt_runV (C := C) S hM ⟨z_callB S.2.2.2.2 w1 w2 w5 hd hR, S.2.2.2.2 _ w3, S.2.2.2.2 _ w4⟩
    ⟨z_blind, hrecv, fun U hU hW => ⟨rfl, hW0.trans hW, by rw [hU]; exact hB⟩⟩ rfl hn hsize hstk (by show 2 * 0 + _ ≤ 8; omega) hdg ⟨by omega, by omega⟩) hno hlocks
theorem z_thS {s0 : State} {y : MethodName} {bytes : ByteArray} {maxL nL n index : Nat} {ret : Option FieldType} {rm : Room} {own X : String} {As stk : List Value} {B : Heap → Prop}
    (S : CallFix p m c cc nL s args z_tbl own) (hW0 : s0.WarmedH s.vm) (hno : c.exceptionTable.isEmpty = true) (hlocks : meth.locks = false) (hM : xt_Met l y [Cond.code y bytes maxL ret] rm (z_Pc s0 As B) X)
    (w1 : Cond.code y bytes maxL ret ∈ z_tbl) (w2 : Cond.methodLink own index y ∈ z_tbl) (w3 : Cond.static y ∈ z_tbl) (w5 : Cond.initialized y.cls ∈ z_tbl)
    (hd : z_dsc y n) (hR : z_rmk rm R maxL 1 6) (hB : B H) (hn : As.length = n) (hstk : stk = As.reverse ++ rest) (hsize : ls.size = nL) (hst : (rest.map fun v => v.category).sum ≤ 8)
    (hdg : decode cc pc = .ok (.invokestatic index, 3)) (hf : 1 ≤ R.cells ∧ 6 ≤ R.slots) :
    W p l e R s m args below meth c H [] 0 0 (xt_Z below X args s) (F0 m pc ls stk) :=
  xt_leave (xt_runS S hM ⟨z_callB S.2.2.2.2 w1 w2 w5 hd hR, S.2.2.2.2 _ w3⟩
    ⟨z_blind, fun U hU hW => ⟨rfl, hW0.trans hW, by rw [hU]; exact hB⟩⟩ rfl hn hsize hstk (by show 2 * 0 + _ ≤ 8; omega) hdg ⟨by omega, by omega⟩) hno hlocks
end ZX
section ZY
variable {p : Program} {l : Launch} {e : Env} {R : Room} {s : State} {m : MethodId} {args : Array Value} {below : List Frame} {meth : Method} {c : Code} {H : Heap} {locs : List Loc} {cells slots : Nat} {Q : State → Prop} {pc : Nat} {ls : Array Slot} {rest : List Value}
theorem z_topv {v w : Value} (h : v = w) (k : W p l e R s m args below meth c H locs cells slots Q (F0 m pc ls (w :: rest))) : W p l e R s m args below meth c H locs cells slots Q (F0 m pc ls (v :: rest)) := h ▸ k
end ZY
/-! PURE: the shape in force -/
def pb_h (so sf st : Nat → Int32) (sc : Nat → Nat) (p d : Int32) (i : Nat) : Bool := decide (0 < nI (sc i)) && (decide (so i = p) && (decide (sf i ≤ d) && decide (d ≤ st i)))
def pb_nx (sc : Nat → Nat) (b : Option Nat) (i : Nat) : Option Nat := match b with
  | none => some i
  | some j => if sc i ≤ sc j then some j else some i
def pb_on (so sf st : Nat → Int32) (sc : Nat → Nat) (p d : Int32) : Nat → Nat → Option Nat → Option Nat
  | 0, _, b => b
  | k + 1, i, b => pb_on so sf st sc p d k (i + 1) (if pb_h so sf st sc p d i = true then pb_nx sc b i else b)
abbrev pb_f (so sf st : Nat → Int32) (sc : Nat → Nat) (ns : Nat) (p d : Int32) : Option Nat := pb_on so sf st sc p d ns 0 none
theorem pb_on_ok {so sf st : Nat → Int32} {sc : Nat → Nat} {p d : Int32} {ns : Nat} : ∀ (k i : Nat) (b : Option Nat), i + k = ns → (∀ j, b = some j → j < ns ∧ 0 < sc j) → ∀ j, pb_on so sf st sc p d k i b = some j → j < ns ∧ 0 < sc j := by
  intro k
  induction k with
  | zero => intro i b _ hb j hj; exact hb j hj
  | succ k ih =>
    intro i b hik hb j hj
    refine ih (i + 1) _ (by omega) ?_ j hj
    intro q hq
    by_cases h : pb_h so sf st sc p d i = true
    · rw [if_pos h] at hq
      have hp : 0 < sc i := by
        simp only [pb_h, Bool.and_eq_true, decide_eq_true_eq] at h
        rcases Nat.eq_zero_or_pos (sc i) with e | e
        · rw [e] at h; exact absurd h.1 (by decide)
        · exact e
      have hi : i < ns := by omega
      unfold pb_nx at hq
      split at hq
      · cases hq; exact ⟨hi, hp⟩
      · split at hq
        · cases hq; exact hb _ rfl
        · cases hq; exact ⟨hi, hp⟩
    · rw [if_neg h] at hq; exact hb q hq
theorem pb_f_ok {so sf st : Nat → Int32} {sc : Nat → Nat} {p d : Int32} {ns j : Nat} (h : pb_f so sf st sc ns p d = some j) : j < ns ∧ 0 < sc j :=
  pb_on_ok ns 0 none (by omega) (fun _ h => by cases h) j h
