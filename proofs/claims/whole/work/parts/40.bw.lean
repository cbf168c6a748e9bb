/-! THE CLASS'S WRITERS (own text): how its state changes -/
/-- the class's own cells -/
def z_bF (A : Nat → Nat) (ns : Nat) : Nat → Prop := fun q => ∃ k, k < 13 + 3 * ns ∧ q = A k
section ZBW
variable {D : va_G} {cI cS : ClassId} {H H1 : Heap} {A : Nat → Nat} {np ns nc nn nm : Nat} {fv : Nat → Nat → Int32} {so sf st : Nat → Int32} {sn sc : Nat → Nat} {sp : Nat → Option Nat} {sx sy : Nat → Nat → Int32}
theorem z_BD.ne (h : z_BD D cI cS H A np ns nc nn nm fv so sf st sn sc sp sx sy) {i j : Nat} (hi : i < 13 + 3 * ns) (hj : j < 13 + 3 * ns) (hij : i ≠ j) : A i ≠ A j := fun e => hij (h.2.1 i j hi hj e)
theorem z_Sh.keep {a ax ay n : Nat} {num own fr to_ ca : Int32} {pv : Value} {xs ys : Nat → Int32} (h : z_Sh D cI H a ax ay n num own fr to_ ca pv xs ys) (e1 : H1[a]? = H[a]?) (e2 : H1[ax]? = H[ax]?) (e3 : H1[ay]? = H[ay]?) : z_Sh D cI H1 a ax ay n num own fr to_ ca pv xs ys :=
  ⟨h.1.keep e1, h.2.1.keep e2, h.2.2.keep e3⟩
/-- nothing of it changed -/
theorem z_BD.keep (h : z_BD D cI cS H A np ns nc nn nm fv so sf st sn sc sp sx sy) (ho : ∀ k, k < 13 + 3 * ns → H1[A k]? = H[A k]?) : z_BD D cI cS H1 A np ns nc nn nm fv so sf st sn sc sp sx sy := by
  obtain ⟨⟨h0, h1, h2, h3, hf, hs⟩, hi, hb, hsb⟩ := h
  exact ⟨⟨h0.keep (ho 0 (by omega)), h1.keep (ho 1 (by omega)), h2.keep (ho 2 (by omega)), h3.keep (ho 3 (by omega)), fun k hk => (hf k hk).keep (ho (4 + k) (by omega)), fun i hi' => (hs i hi').keep (ho _ (by omega)) (ho _ (by omega)) (ho _ (by omega))⟩, hi, hb, hsb⟩
theorem z_BD.lt (h : z_BD D cI cS H A np ns nc nn nm fv so sf st sn sc sp sx sy) {k : Nat} (hk : k < 13 + 3 * ns) : A k < H.size := by
  obtain ⟨⟨h0, h1, h2, h3, hf, hs⟩, -⟩ := h
  by_cases e : k < 4
  · have : k = 0 ∨ k = 1 ∨ k = 2 ∨ k = 3 := by omega
    rcases this with rfl | rfl | rfl | rfl
    · exact h0.lt
    · exact h1.lt
    · exact h2.lt
    · exact (Array.getElem?_eq_some_iff.mp h3).1
  · by_cases e2 : k < 13
    · have := (hf (k - 4) (by omega)).lt
      rwa [show 4 + (k - 4) = k by omega] at this
    · have := hs ((k - 13) / 3) (by omega)
      have h3 : k = 13 + 3 * ((k - 13) / 3) ∨ k = 14 + 3 * ((k - 13) / 3) ∨ k = 15 + 3 * ((k - 13) / 3) := by omega
      rcases h3 with e | e | e
      · rw [e]; exact this.1.lt
      · rw [e]; exact this.2.1.lt
      · rw [e]; exact this.2.2.lt
/-- a store into its k-th int array -/
theorem z_BD.fa (h : z_BD D cI cS H A np ns nc nn nm fv so sf st sn sc sp sx sy) {k j : Nat} {x : Int32} (hk : k < 9) (hA : z_A cI H1 (A (4 + k)) (z_len k) (upd (fv k) j x)) (ho : ∀ q : Nat, q ≠ A (4 + k) → H1[q]? = H[q]?) : z_BD D cI cS H1 A np ns nc nn nm (va_up fv k (upd (fv k) j x)) so sf st sn sc sp sx sy := by
  have ne : ∀ i, i < 13 + 3 * ns → i ≠ 4 + k → H1[A i]? = H[A i]? := fun i hi hn => ho _ (h.ne hi (by omega) hn)
  obtain ⟨⟨h0, h1, h2, h3, hf, hs⟩, hi, hb, hsb⟩ := h
  refine ⟨⟨h0.keep (ne 0 (by omega) (by omega)), h1.keep (ne 1 (by omega) (by omega)), h2.keep (ne 2 (by omega) (by omega)), h3.keep (ne 3 (by omega) (by omega)), fun q hq => ?_, fun i hi' => (hs i hi').keep (ne _ (by omega) (by omega)) (ne _ (by omega) (by omega)) (ne _ (by omega) (by omega))⟩, hi, hb, hsb⟩
  by_cases e : q = k
  · subst e; rw [va_up_self]; exact hA
  · rw [va_up_ne _ _ e]; exact (hf q hq).keep (ne _ (by omega) (by omega))
/-- its own numbers -/
theorem z_BD.o0 (h : z_BD D cI cS H A np ns nc nn nm fv so sf st sn sc sp sx sy) {np2 nc2 : Nat} (hO : z_O D H1 (A 0) 3 [.ref (A 4), .int (nI np2), .ref (A 3), .int (nI ns), .int (nI nc2), .ref (A 1), .ref (A 2)]) (ho : ∀ q : Nat, q ≠ A 0 → H1[q]? = H[q]?) (b1 : np2 ≤ 16) (b2 : nc ≤ nc2) (b3 : nc2 < 2 ^ 30) : z_BD D cI cS H1 A np2 ns nc2 nn nm fv so sf st sn sc sp sx sy := by
  have ne : ∀ i, i < 13 + 3 * ns → i ≠ 0 → H1[A i]? = H[A i]? := fun i hi hn => ho _ (h.ne hi (by omega) hn)
  obtain ⟨⟨h0, h1, h2, h3, hf, hs⟩, hi, hb, hsb⟩ := h
  exact ⟨⟨hO, h1.keep (ne 1 (by omega) (by omega)), h2.keep (ne 2 (by omega) (by omega)), h3.keep (ne 3 (by omega) (by omega)), fun q hq => (hf q hq).keep (ne _ (by omega) (by omega)), fun i hi' => (hs i hi').keep (ne _ (by omega) (by omega)) (ne _ (by omega) (by omega)) (ne _ (by omega) (by omega))⟩, hi, ⟨b1, hb.2.1, hb.2.2.1, hb.2.2.2.1, b3⟩, fun i hi' => by have := hsb i hi'; exact ⟨this.1, by omega, this.2.2⟩⟩
theorem z_BD.o1 (h : z_BD D cI cS H A np ns nc nn nm fv so sf st sn sc sp sx sy) {nn2 : Nat} (hO : z_O D H1 (A 1) 0 [.ref (A 5), .ref (A 6), .ref (A 7), .ref (A 8), .int (nI nn2)]) (ho : ∀ q : Nat, q ≠ A 1 → H1[q]? = H[q]?) (b1 : nn2 ≤ 40) : z_BD D cI cS H1 A np ns nc nn2 nm fv so sf st sn sc sp sx sy := by
  have ne : ∀ i, i < 13 + 3 * ns → i ≠ 1 → H1[A i]? = H[A i]? := fun i hi hn => ho _ (h.ne hi (by omega) hn)
  obtain ⟨⟨h0, h1, h2, h3, hf, hs⟩, hi, hb, hsb⟩ := h
  exact ⟨⟨h0.keep (ne 0 (by omega) (by omega)), hO, h2.keep (ne 2 (by omega) (by omega)), h3.keep (ne 3 (by omega) (by omega)), fun q hq => (hf q hq).keep (ne _ (by omega) (by omega)), fun i hi' => (hs i hi').keep (ne _ (by omega) (by omega)) (ne _ (by omega) (by omega)) (ne _ (by omega) (by omega))⟩, hi, ⟨hb.1, hb.2.1, b1, hb.2.2.2⟩, hsb⟩
theorem z_BD.o2 (h : z_BD D cI cS H A np ns nc nn nm fv so sf st sn sc sp sx sy) {nm2 : Nat} (hO : z_O D H1 (A 2) 1 [.ref (A 9), .ref (A 10), .ref (A 11), .ref (A 12), .int (nI nm2)]) (ho : ∀ q : Nat, q ≠ A 2 → H1[q]? = H[q]?) (b1 : nm2 ≤ 12) : z_BD D cI cS H1 A np ns nc nn nm2 fv so sf st sn sc sp sx sy := by
  have ne : ∀ i, i < 13 + 3 * ns → i ≠ 2 → H1[A i]? = H[A i]? := fun i hi hn => ho _ (h.ne hi (by omega) hn)
  obtain ⟨⟨h0, h1, h2, h3, hf, hs⟩, hi, hb, hsb⟩ := h
  exact ⟨⟨h0.keep (ne 0 (by omega) (by omega)), h1.keep (ne 1 (by omega) (by omega)), hO, h3.keep (ne 3 (by omega) (by omega)), fun q hq => (hf q hq).keep (ne _ (by omega) (by omega)), fun i hi' => (hs i hi').keep (ne _ (by omega) (by omega)) (ne _ (by omega) (by omega)) (ne _ (by omega) (by omega))⟩, hi, ⟨hb.1, hb.2.1, hb.2.2.1, b1, hb.2.2.2.2⟩, hsb⟩
/-- one shape's object -/
theorem z_BD.sh (h : z_BD D cI cS H A np ns nc nn nm fv so sf st sn sc sp sx sy) {i n2 c2 : Nat} {o2 : Option Nat} (hi : i < ns) (hO : z_O D H1 (A (13 + 3 * i)) 2 [.int (nI i), .int (so i), .int (sf i), .int (st i), .ref (A (14 + 3 * i)), .ref (A (15 + 3 * i)), .int (nI n2), .int (nI c2), z_pv A o2]) (ho : ∀ q : Nat, q ≠ A (13 + 3 * i) → H1[q]? = H[q]?)
    (b : n2 ≤ 12 ∧ c2 ≤ nc ∧ (0 < c2 → 3 ≤ n2) ∧ ∀ j, o2 = some j → j < ns) : z_BD D cI cS H1 A np ns nc nn nm fv so sf st (va_up sn i n2) (va_up sc i c2) (va_up sp i o2) sx sy := by
  have ne : ∀ j, j < 13 + 3 * ns → j ≠ 13 + 3 * i → H1[A j]? = H[A j]? := fun j hj hn => ho _ (h.ne hj (by omega) hn)
  obtain ⟨⟨h0, h1, h2, h3, hf, hs⟩, hin, hb, hsb⟩ := h
  refine ⟨⟨h0.keep (ne 0 (by omega) (by omega)), h1.keep (ne 1 (by omega) (by omega)), h2.keep (ne 2 (by omega) (by omega)), h3.keep (ne 3 (by omega) (by omega)), fun q hq => (hf q hq).keep (ne _ (by omega) (by omega)), fun q hq => ?_⟩, hin, hb, fun q hq => ?_⟩
  · by_cases e : q = i
    · subst e
      rw [va_up_self, va_up_self, va_up_self]
      exact ⟨hO, (hs q hq).2.1.keep (ne _ (by omega) (by omega)), (hs q hq).2.2.keep (ne _ (by omega) (by omega))⟩
    · rw [va_up_ne _ _ e, va_up_ne _ _ e, va_up_ne _ _ e]
      exact (hs q hq).keep (ne _ (by omega) (by omega)) (ne _ (by omega) (by omega)) (ne _ (by omega) (by omega))
  · by_cases e : q = i
    · subst e; rw [va_up_self, va_up_self, va_up_self]; exact b
    · rw [va_up_ne _ _ e, va_up_ne _ _ e, va_up_ne _ _ e]; exact hsb q hq
theorem z_BD.cls (h : z_BD D cI cS H A np ns nc nn nm fv so sf st sn sc sp sx sy) {i c2 : Nat} (hi : i < ns) (hO : z_O D H1 (A (13 + 3 * i)) 2 [.int (nI i), .int (so i), .int (sf i), .int (st i), .ref (A (14 + 3 * i)), .ref (A (15 + 3 * i)), .int (nI (sn i)), .int (nI c2), z_pv A (sp i)]) (ho : ∀ q : Nat, q ≠ A (13 + 3 * i) → H1[q]? = H[q]?) (b : c2 ≤ nc) (b2 : 3 ≤ sn i) : z_BD D cI cS H1 A np ns nc nn nm fv so sf st sn (va_up sc i c2) sp sx sy := by
  have hb := h.2.2.2 i hi
  have := h.sh hi hO ho ⟨hb.1, b, fun _ => b2, hb.2.2.2⟩
  rwa [va_up_same, va_up_same] at this
theorem z_BD.par (h : z_BD D cI cS H A np ns nc nn nm fv so sf st sn sc sp sx sy) {i : Nat} {o2 : Option Nat} (hi : i < ns) (hO : z_O D H1 (A (13 + 3 * i)) 2 [.int (nI i), .int (so i), .int (sf i), .int (st i), .ref (A (14 + 3 * i)), .ref (A (15 + 3 * i)), .int (nI (sn i)), .int (nI (sc i)), z_pv A o2]) (ho : ∀ q : Nat, q ≠ A (13 + 3 * i) → H1[q]? = H[q]?) (b : ∀ j, o2 = some j → j < ns) : z_BD D cI cS H1 A np ns nc nn nm fv so sf st sn sc (va_up sp i o2) sx sy := by
  have hb := h.2.2.2 i hi
  have := h.sh hi hO ho ⟨hb.1, hb.2.1, hb.2.2.1, b⟩
  rwa [va_up_same, va_up_same] at this
/-- a corner more -/
theorem z_BD.cor (h : z_BD D cI cS H A np ns nc nn nm fv so sf st sn sc sp sx sy) {i n2 : Nat} {xs2 ys2 : Nat → Int32} (hi : i < ns) (hS : z_Sh D cI H1 (A (13 + 3 * i)) (A (14 + 3 * i)) (A (15 + 3 * i)) n2 (nI i) (so i) (sf i) (st i) (nI (sc i)) (z_pv A (sp i)) xs2 ys2) (ho : ∀ q : Nat, q < H.size → ¬ (q = A (13 + 3 * i) ∨ q = A (14 + 3 * i) ∨ q = A (15 + 3 * i)) → H1[q]? = H[q]?) (b : n2 ≤ 12) (b2 : 0 < sc i → 3 ≤ n2) : z_BD D cI cS H1 A np ns nc nn nm fv so sf st (va_up sn i n2) sc sp (va_up sx i xs2) (va_up sy i ys2) := by
  have ne : ∀ j, j < 13 + 3 * ns → j ≠ 13 + 3 * i → j ≠ 14 + 3 * i → j ≠ 15 + 3 * i → H1[A j]? = H[A j]? := fun j hj n1 n2 n3 => ho _ (h.lt hj) (fun e => e.elim (h.ne hj (by omega) n1) (fun e => e.elim (h.ne hj (by omega) n2) (h.ne hj (by omega) n3)))
  obtain ⟨⟨h0, h1, h2, h3, hf, hs⟩, hin, hb, hsb⟩ := h
  refine ⟨⟨h0.keep (ne 0 (by omega) (by omega) (by omega) (by omega)), h1.keep (ne 1 (by omega) (by omega) (by omega) (by omega)), h2.keep (ne 2 (by omega) (by omega) (by omega) (by omega)), h3.keep (ne 3 (by omega) (by omega) (by omega) (by omega)), fun q hq => (hf q hq).keep (ne _ (by omega) (by omega) (by omega) (by omega)), fun q hq => ?_⟩, hin, hb, fun q hq => ?_⟩
  · by_cases e : q = i
    · subst e
      rw [va_up_self, va_up_self, va_up_self]
      exact hS
    · rw [va_up_ne _ _ e, va_up_ne _ _ e, va_up_ne _ _ e]
      exact (hs q hq).keep (ne _ (by omega) (by omega) (by omega) (by omega)) (ne _ (by omega) (by omega) (by omega) (by omega)) (ne _ (by omega) (by omega) (by omega) (by omega))
  · by_cases e : q = i
    · subst e; rw [va_up_self]; exact ⟨b, (hsb q hq).2.1, b2, (hsb q hq).2.2.2⟩
    · rw [va_up_ne _ _ e]; exact hsb q hq
/-- a name more, a mark more -/
theorem z_BD.nam (h : z_BD D cI cS H A np ns nc nn nm fv so sf st sn sc sp sx sy) {nn2 : Nat} {f1 f2 f3 f4 : Nat → Int32} (hN : z_Nm D cI H1 (A 1) (A 5) (A 6) (A 7) (A 8) nn2 f1 f2 f3 f4) (ho : ∀ q : Nat, q < H.size → ¬ (q = A 1 ∨ q = A 5 ∨ q = A 6 ∨ q = A 7 ∨ q = A 8) → H1[q]? = H[q]?) (b : nn2 ≤ 40) : z_BD D cI cS H1 A np ns nc nn2 nm (va_up (va_up (va_up (va_up fv 1 f1) 2 f2) 3 f3) 4 f4) so sf st sn sc sp sx sy := by
  have ne : ∀ j, j < 13 + 3 * ns → j ≠ 1 → (j < 5 ∨ 8 < j) → H1[A j]? = H[A j]? := fun j hj n1 n2 => ho _ (h.lt hj) (fun e => e.elim (h.ne hj (by omega) n1) (fun e => e.elim (h.ne hj (by omega) (by omega)) (fun e => e.elim (h.ne hj (by omega) (by omega)) (fun e => e.elim (h.ne hj (by omega) (by omega)) (h.ne hj (by omega) (by omega))))))
  obtain ⟨⟨h0, h1, h2, h3, hf, hs⟩, hin, hb, hsb⟩ := h
  refine ⟨⟨h0.keep (ne 0 (by omega) (by omega) (by omega)), hN.1, h2.keep (ne 2 (by omega) (by omega) (by omega)), h3.keep (ne 3 (by omega) (by omega) (by omega)), fun q hq => ?_, fun i hi' => (hs i hi').keep (ne _ (by omega) (by omega) (by omega)) (ne _ (by omega) (by omega) (by omega)) (ne _ (by omega) (by omega) (by omega))⟩, hin, ⟨hb.1, hb.2.1, b, hb.2.2.2⟩, hsb⟩
  have hq' : q = 1 ∨ q = 2 ∨ q = 3 ∨ q = 4 ∨ (q ≠ 1 ∧ q ≠ 2 ∧ q ≠ 3 ∧ q ≠ 4) := by omega
  rcases hq' with rfl | rfl | rfl | rfl | ⟨q1, q2, q3, q4⟩
  · exact hN.2.1
  · exact hN.2.2.1
  · exact hN.2.2.2.1
  · exact hN.2.2.2.2
  · rw [va_up_ne _ _ q4, va_up_ne _ _ q3, va_up_ne _ _ q2, va_up_ne _ _ q1]; exact (hf q hq).keep (ne _ (by omega) (by omega) (by omega))
theorem z_BD.mrk (h : z_BD D cI cS H A np ns nc nn nm fv so sf st sn sc sp sx sy) {nm2 : Nat} {f1 f2 f3 f4 : Nat → Int32} (hN : z_Om D cI H1 (A 2) (A 9) (A 10) (A 11) (A 12) nm2 f1 f2 f3 f4) (ho : ∀ q : Nat, q < H.size → ¬ (q = A 2 ∨ q = A 9 ∨ q = A 10 ∨ q = A 11 ∨ q = A 12) → H1[q]? = H[q]?) (b : nm2 ≤ 12) : z_BD D cI cS H1 A np ns nc nn nm2 (va_up (va_up (va_up (va_up fv 5 f1) 6 f2) 7 f3) 8 f4) so sf st sn sc sp sx sy := by
  have ne : ∀ j, j < 13 + 3 * ns → j ≠ 2 → (j < 9 ∨ 12 < j) → H1[A j]? = H[A j]? := fun j hj n1 n2 => ho _ (h.lt hj) (fun e => e.elim (h.ne hj (by omega) n1) (fun e => e.elim (h.ne hj (by omega) (by omega)) (fun e => e.elim (h.ne hj (by omega) (by omega)) (fun e => e.elim (h.ne hj (by omega) (by omega)) (h.ne hj (by omega) (by omega))))))
  obtain ⟨⟨h0, h1, h2, h3, hf, hs⟩, hin, hb, hsb⟩ := h
  refine ⟨⟨h0.keep (ne 0 (by omega) (by omega) (by omega)), h1.keep (ne 1 (by omega) (by omega) (by omega)), hN.1, h3.keep (ne 3 (by omega) (by omega) (by omega)), fun q hq => ?_, fun i hi' => (hs i hi').keep (ne _ (by omega) (by omega) (by omega)) (ne _ (by omega) (by omega) (by omega)) (ne _ (by omega) (by omega) (by omega))⟩, hin, ⟨hb.1, hb.2.1, hb.2.2.1, b, hb.2.2.2.2⟩, hsb⟩
  have hq' : q = 5 ∨ q = 6 ∨ q = 7 ∨ q = 8 ∨ (q ≠ 5 ∧ q ≠ 6 ∧ q ≠ 7 ∧ q ≠ 8) := by omega
  rcases hq' with rfl | rfl | rfl | rfl | ⟨q1, q2, q3, q4⟩
  · exact hN.2.1
  · exact hN.2.2.1
  · exact hN.2.2.2.1
  · exact hN.2.2.2.2
  · rw [va_up_ne _ _ q4, va_up_ne _ _ q3, va_up_ne _ _ q2, va_up_ne _ _ q1]; exact (hf q hq).keep (ne _ (by omega) (by omega) (by omega))
/-- a shape more: it lies at sz, sz + 1, sz + 2 -/
def z_An (A : Nat → Nat) (ns sz : Nat) : Nat → Nat := fun k => if k < 13 + 3 * ns then A k else sz + (k - (13 + 3 * ns))
theorem z_BD.new (h : z_BD D cI cS H A np ns nc nn nm fv so sf st sn sc sp sx sy) {sz : Nat} {x f t : Int32} (hsz : H.size = sz) (hlt : ns < 32) (hO : z_O D H1 (A 0) 3 [.ref (A 4), .int (nI np), .ref (A 3), .int (nI (ns + 1)), .int (nI nc), .ref (A 1), .ref (A 2)])
    (hB : z_B cS H1 (A 3) 32 (va_up (fun i => if i < ns then some (A (13 + 3 * i)) else none) ns (some sz))) (hN : z_O D H1 sz 2 [.int (nI ns), .int x, .int f, .int t, .ref (sz + 1), .ref (sz + 2), .int 0, .int 0, .null]) (hX : z_A cI H1 (sz + 1) 12 (fun _ => 0)) (hY : z_A cI H1 (sz + 2) 12 (fun _ => 0))
    (ho : ∀ q : Nat, q < H.size → ¬ (q = A 0 ∨ q = A 3) → H1[q]? = H[q]?) : z_BD D cI cS H1 (z_An A ns sz) np (ns + 1) nc nn nm fv (va_up so ns x) (va_up sf ns f) (va_up st ns t) (va_up sn ns 0) (va_up sc ns 0) (va_up sp ns none) (va_up sx ns (fun _ => 0)) (va_up sy ns (fun _ => 0)) := by
  have lt : ∀ k, k < 13 + 3 * ns → A k < sz := fun k hk => hsz ▸ h.lt hk
  have ne : ∀ j, j < 13 + 3 * ns → j ≠ 0 → j ≠ 3 → H1[A j]? = H[A j]? := fun j hj n1 n2 => ho _ (h.lt hj) (fun e => e.elim (h.ne hj (by omega) n1) (h.ne hj (by omega) n2))
  have eA : ∀ k, k < 13 + 3 * ns → z_An A ns sz k = A k := fun k hk => if_pos hk
  have e0 : z_An A ns sz (13 + 3 * ns) = sz := by unfold z_An; rw [if_neg (by omega), Nat.sub_self]; rfl
  have e1 : z_An A ns sz (14 + 3 * ns) = sz + 1 := by unfold z_An; rw [if_neg (by omega)]; congr 1; omega
  have e2 : z_An A ns sz (15 + 3 * ns) = sz + 2 := by unfold z_An; rw [if_neg (by omega)]; congr 1; omega
  have epv : ∀ i, i < ns → z_pv (z_An A ns sz) (sp i) = z_pv A (sp i) := fun i hi => by
    cases hp : sp i with
    | none => rfl
    | some j => have := (h.2.2.2 i hi).2.2.2 j hp; show Value.ref _ = Value.ref _; rw [eA _ (by omega)]
  obtain ⟨⟨h0, h1, h2, h3, hf, hs⟩, hin, hb, hsb⟩ := h
  refine ⟨⟨?_, ?_, ?_, ?_, fun q hq => ?_, fun i hi' => ?_⟩, fun i j hi hj hij => ?_, ⟨hb.1, by omega, hb.2.2⟩, fun i hi' => ?_⟩
  · rw [eA 0 (by omega), eA 1 (by omega), eA 2 (by omega), eA 3 (by omega), eA 4 (by omega)]; exact hO
  · rw [eA 1 (by omega), eA 5 (by omega), eA 6 (by omega), eA 7 (by omega), eA 8 (by omega)]; exact h1.keep (ne 1 (by omega) (by omega) (by omega))
  · rw [eA 2 (by omega), eA 9 (by omega), eA 10 (by omega), eA 11 (by omega), eA 12 (by omega)]; exact h2.keep (ne 2 (by omega) (by omega) (by omega))
  · rw [eA 3 (by omega)]
    have ef : (fun i => if i < ns + 1 then some (z_An A ns sz (13 + 3 * i)) else none) = va_up (fun i => if i < ns then some (A (13 + 3 * i)) else none) ns (some sz) := by
      funext i
      by_cases c1 : i = ns
      · subst c1; rw [va_up_self, if_pos (by omega), e0]
      · rw [va_up_ne _ _ c1]
        by_cases c2 : i < ns
        · rw [if_pos (by omega), if_pos c2, eA _ (by omega)]
        · rw [if_neg (by omega), if_neg c2]
    rw [ef]; exact hB
  · rw [eA _ (by omega)]; exact (hf q hq).keep (ne _ (by omega) (by omega) (by omega))
  · by_cases c1 : i = ns
    · subst c1
      rw [e0, e1, e2]
      simp only [va_up_self]
      exact ⟨hN, hX, hY⟩
    · have hi : i < ns := by omega
      simp only [va_up_ne _ _ c1]
      rw [eA _ (by omega), eA _ (by omega), eA _ (by omega), epv i hi]
      exact (hs i hi).keep (ne _ (by omega) (by omega) (by omega)) (ne _ (by omega) (by omega) (by omega)) (ne _ (by omega) (by omega) (by omega))
  · by_cases c1 : i < 13 + 3 * ns <;> by_cases c2 : j < 13 + 3 * ns
    · rw [eA i c1, eA j c2] at hij; exact hin i j c1 c2 hij
    · rw [eA i c1] at hij; unfold z_An at hij; rw [if_neg c2] at hij; have := lt i c1; omega
    · rw [eA j c2] at hij; unfold z_An at hij; rw [if_neg c1] at hij; have := lt j c2; omega
    · unfold z_An at hij; rw [if_neg c1, if_neg c2] at hij; omega
  · by_cases c1 : i = ns
    · subst c1
      simp only [va_up_self]
      exact ⟨by omega, by omega, fun h => by omega, fun j hj => by cases hj⟩
    · simp only [va_up_ne _ _ c1]
      have := hsb i (by omega)
      exact ⟨this.1, this.2.1, this.2.2.1, fun j hj => by have := this.2.2.2 j hj; omega⟩
/-- a place more -/
theorem z_BD.plc (h : z_BD D cI cS H A np ns nc nn nm fv so sf st sn sc sp sx sy) {x : Int32} (hlt : np < 16) (hO : z_O D H1 (A 0) 3 [.ref (A 4), .int (nI (np + 1)), .ref (A 3), .int (nI ns), .int (nI nc), .ref (A 1), .ref (A 2)]) (hA : z_A cI H1 (A 4) 16 (upd (fv 0) np x)) (ho : ∀ q : Nat, q < H.size → ¬ (q = A 0 ∨ q = A 4) → H1[q]? = H[q]?) : z_BD D cI cS H1 A (np + 1) ns nc nn nm (va_up fv 0 (upd (fv 0) np x)) so sf st sn sc sp sx sy := by
  have ne : ∀ j, j < 13 + 3 * ns → j ≠ 0 → j ≠ 4 → H1[A j]? = H[A j]? := fun j hj n1 n2 => ho _ (h.lt hj) (fun e => e.elim (h.ne hj (by omega) n1) (h.ne hj (by omega) n2))
  obtain ⟨⟨h0, h1, h2, h3, hf, hs⟩, hin, hb, hsb⟩ := h
  refine ⟨⟨hO, h1.keep (ne 1 (by omega) (by omega) (by omega)), h2.keep (ne 2 (by omega) (by omega) (by omega)), h3.keep (ne 3 (by omega) (by omega) (by omega)), fun q hq => ?_, fun i hi' => (hs i hi').keep (ne _ (by omega) (by omega) (by omega)) (ne _ (by omega) (by omega) (by omega)) (ne _ (by omega) (by omega) (by omega))⟩, hin, ⟨by omega, hb.2⟩, hsb⟩
  by_cases e : q = 0
  · subst e; rw [va_up_self]; exact hA
  · rw [va_up_ne _ _ e]; exact (hf q hq).keep (ne _ (by omega) (by omega) (by omega))
/-- a shape is closed -/
theorem z_BD.clo (h : z_BD D cI cS H A np ns nc nn nm fv so sf st sn sc sp sx sy) {i : Nat} (hi : i < ns) (hO : z_O D H1 (A 0) 3 [.ref (A 4), .int (nI np), .ref (A 3), .int (nI ns), .int (nI (nc + 1)), .ref (A 1), .ref (A 2)])
    (hN : z_O D H1 (A (13 + 3 * i)) 2 [.int (nI i), .int (so i), .int (sf i), .int (st i), .ref (A (14 + 3 * i)), .ref (A (15 + 3 * i)), .int (nI (sn i)), .int (nI (nc + 1)), z_pv A (sp i)]) (ho : ∀ q : Nat, q < H.size → ¬ (q = A 0 ∨ q = A (13 + 3 * i)) → H1[q]? = H[q]?) (b : nc + 1 < 2 ^ 30) (b2 : 3 ≤ sn i) : z_BD D cI cS H1 A np ns (nc + 1) nn nm fv so sf st sn (va_up sc i (nc + 1)) sp sx sy := by
  have ne : ∀ j, j < 13 + 3 * ns → j ≠ 0 → j ≠ 13 + 3 * i → H1[A j]? = H[A j]? := fun j hj n1 n2 => ho _ (h.lt hj) (fun e => e.elim (h.ne hj (by omega) n1) (h.ne hj (by omega) n2))
  obtain ⟨⟨h0, h1, h2, h3, hf, hs⟩, hin, hb, hsb⟩ := h
  refine ⟨⟨hO, h1.keep (ne 1 (by omega) (by omega) (by omega)), h2.keep (ne 2 (by omega) (by omega) (by omega)), h3.keep (ne 3 (by omega) (by omega) (by omega)), fun q hq => (hf q hq).keep (ne _ (by omega) (by omega) (by omega)), fun q hq => ?_⟩, hin, ⟨hb.1, hb.2.1, hb.2.2.1, hb.2.2.2.1, b⟩, fun q hq => ?_⟩
  · by_cases e : q = i
    · subst e
      rw [va_up_self]
      exact ⟨hN, (hs q hq).2.1.keep (ne _ (by omega) (by omega) (by omega)), (hs q hq).2.2.keep (ne _ (by omega) (by omega) (by omega))⟩
    · rw [va_up_ne _ _ e]
      exact (hs q hq).keep (ne _ (by omega) (by omega) (by omega)) (ne _ (by omega) (by omega) (by omega)) (ne _ (by omega) (by omega) (by omega))
  · have hq2 := hsb q hq
    by_cases e : q = i
    · subst e; rw [va_up_self]; exact ⟨hq2.1, by omega, fun _ => b2, hq2.2.2.2⟩
    · rw [va_up_ne _ _ e]; exact ⟨hq2.1, by omega, hq2.2.2⟩
end ZBW
/-- partners part -/
def pb_lv (sp : Nat → Option Nat) (i : Nat) : Nat → Option Nat := match sp i with
  | none => sp
  | some j => va_up (va_up sp j none) i none
theorem pc_can_3 {xs ys : Nat → Int32} {n : Nat} {ca : Int32} (h : pc_can xs ys n ca = true) : 3 ≤ n := by
  unfold pc_can at h
  split at h
  · cases h
  · split at h
    · cases h
    · omega
