/-! THE LAW'S STATE (own text): class, reference, out; nothing old written -/
def z_LS (s : State) (D : va_G) (cI cS cL : ClassId) (A E : Nat → Nat) (o : Nat) (th : Int32) (np ns nc nn nm : Nat) (fv : Nat → Nat → Int32) (so sf st : Nat → Int32) (sn sc : Nat → Nat) (sp : Nat → Option Nat) (sx sy : Nat → Nat → Int32) (gv : Nat → Nat → Int32) (f : Nat → Int64) (H : Heap) : Prop :=
  (z_BD D cI cS H A np ns nc nn nm fv so sf st sn sc sp sx sy ∧ z_L cL H o 1 f) ∧ (z_Old s H ∧ z_Md D cI H E th np ns nc nn nm gv)
/-- the cells are apart, and new -/
def z_Ap (s : State) (A : Nat → Nat) (ns : Nat) (E : Nat → Nat) (o : Nat) : Prop := (∀ i, i < 13 + 3 * ns → (∀ j, j < 18 → A i ≠ E j) ∧ A i ≠ o ∧ s.heap.size ≤ A i) ∧ (∀ j, j < 18 → E j ≠ o ∧ s.heap.size ≤ E j) ∧ s.heap.size ≤ o
theorem z_Md.keep {D : va_G} {cI : ClassId} {H H1 : Heap} {E : Nat → Nat} {th : Int32} {mp ms mc mn mm : Nat} {gv : Nat → Nat → Int32} (h : z_Md D cI H E th mp ms mc mn mm gv) (ho : ∀ k, k < 18 → H1[E k]? = H[E k]?) : z_Md D cI H1 E th mp ms mc mn mm gv := by
  obtain ⟨⟨h0, hG⟩, hi, hb⟩ := h
  exact ⟨⟨h0.keep (ho 0 (by omega)), fun k hk => (hG k hk).keep (ho (1 + k) (by omega))⟩, hi, hb⟩
theorem z_Md.lt {D : va_G} {cI : ClassId} {H : Heap} {E : Nat → Nat} {th : Int32} {mp ms mc mn mm : Nat} {gv : Nat → Nat → Int32} (h : z_Md D cI H E th mp ms mc mn mm gv) {k : Nat} (hk : k < 18) : E k < H.size := by
  obtain ⟨⟨h0, hG⟩, -⟩ := h
  cases k with
  | zero => exact h0.lt
  | succ k => have := (hG k (by omega)).lt; rwa [Nat.add_comm 1 k] at this
theorem z_Old.keep {s : State} {H H1 : Heap} (h : z_Old s H) (hz : H.size ≤ H1.size) (ho : ∀ q : Nat, q < s.heap.size → H1[q]? = H[q]?) : z_Old s H1 := ⟨Nat.le_trans h.1 hz, fun q hq => (ho q hq).trans (h.2 q hq)⟩
section ZGO
variable {s : State} {D : va_G} {cI cS cL : ClassId} {A A' E : Nat → Nat} {o : Nat} {th : Int32} {np ns nc nn nm np' ns' nc' nn' nm' sz : Nat} {fv fv' : Nat → Nat → Int32} {so sf st so' sf' st' : Nat → Int32} {sn sc sn' sc' : Nat → Nat} {sp sp' : Nat → Option Nat} {sx sy sx' sy' gv : Nat → Nat → Int32} {f : Nat → Int64} {F : Nat → Prop} {H0 : Heap}
/-- old cells and the reference stay while the class works -/
theorem z_stR1 {b : Bool} (hAp : z_Ap s A ns E o) (hF : ∀ q, F q → ∃ k, k < 13 + 3 * ns ∧ q = A k) : ∀ H H1 : Heap, (z_Old s H ∧ z_Md D cI H E th np ns nc nn nm gv) → H.size = sz → H.size ≤ H1.size → (∀ q : Nat, q < H.size → ¬ z_fr (fun q => F q ∨ q = o) sz q → H1[q]? = H[q]?) → (z_Old s H1 ∧ z_Md D cI H1 E th np ns nc nn nm gv) := by
  intro H H1 h hsz hz ho
  have no : ∀ q, q < H.size → (∀ k, k < 13 + 3 * ns → q ≠ A k) → q ≠ o → H1[q]? = H[q]? := fun q h1 h2 h3 => ho q h1 (fun hf => by
    rcases hf with (hf | hf) | hf
    · obtain ⟨k, hk, e⟩ := hF q hf; exact h2 k hk e
    · exact h3 hf
    · omega)
  refine ⟨h.1.keep hz (fun q hq => no q (Nat.lt_of_lt_of_le hq h.1.1) (fun k hk e => ?_) (fun e => ?_)), h.2.keep (fun k hk => no _ (h.2.lt hk) (fun j hj e => (hAp.1 j hj).1 k hk e.symm) (hAp.2.1 k hk).1)⟩
  · have := (hAp.1 k hk).2.2; omega
  · have := hAp.2.2; omega
/-- the class, out and old cells stay while the reference works -/
theorem z_stR2 (hAp : z_Ap s A ns E o) (hE0 : ∀ k, k < 18 → E k < H0.size) (hA' : ∀ k, k < 13 + 3 * ns' → (∃ j, j < 13 + 3 * ns ∧ A' k = A j) ∨ H0.size ≤ A' k) : ∀ H H1 : Heap, (z_Old s H ∧ z_BD D cI cS H A' np' ns' nc' nn' nm' fv' so' sf' st' sn' sc' sp' sx' sy' ∧ z_L cL H o 1 f) → H.size = sz → H.size ≤ H1.size → (∀ q : Nat, q < H.size → ¬ z_fr (z_mF E) sz q → H1[q]? = H[q]?) → (z_Old s H1 ∧ z_BD D cI cS H1 A' np' ns' nc' nn' nm' fv' so' sf' st' sn' sc' sp' sx' sy' ∧ z_L cL H1 o 1 f) := by
  intro H H1 h hsz hz ho
  have no : ∀ q, q < H.size → (∀ k, k < 18 → q ≠ E k) → H1[q]? = H[q]? := fun q h1 h2 => ho q h1 (fun hf => by
    rcases hf with ⟨k, hk, e⟩ | hf
    · exact h2 k hk e
    · omega)
  refine ⟨h.1.keep hz (fun q hq => no q (Nat.lt_of_lt_of_le hq h.1.1) (fun k hk e => ?_)), h.2.1.keep (fun k hk => no _ (h.2.1.lt hk) (fun j hj e => ?_)), h.2.2.keep (no _ h.2.2.lt (fun k hk e => (hAp.2.1 k hk).1 e.symm))⟩
  · have := (hAp.2.1 k hk).2; omega
  · rcases hA' k hk with ⟨i, hi, e2⟩ | e2
    · exact (hAp.1 i hi).1 j hj (e2.symm.trans e)
    · have := hE0 j hj; omega
theorem z_stP (hAp : z_Ap s A ns E o) (ho0 : o < H0.size) (hA' : ∀ k, k < 13 + 3 * ns' → (∃ j, j < 13 + 3 * ns ∧ A' k = A j) ∨ H0.size ≤ A' k) : ∀ H H1 : Heap, z_BD D cI cS H A' np' ns' nc' nn' nm' fv' so' sf' st' sn' sc' sp' sx' sy' → (∀ q : Nat, q ≠ o → H1[q]? = H[q]?) → z_BD D cI cS H1 A' np' ns' nc' nn' nm' fv' so' sf' st' sn' sc' sp' sx' sy' := fun H H1 h ho =>
  h.keep (fun k hk => ho _ (fun e => by
    rcases hA' k hk with ⟨i, hi, e2⟩ | e2
    · exact (hAp.1 i hi).2.1 (e2.symm.trans e)
    · omega))
theorem z_stoF (hAp : z_Ap s A ns E o) (hF : ∀ q, F q → ∃ k, k < 13 + 3 * ns ∧ q = A k) : ¬ F o := fun h => by
  obtain ⟨k, hk, e⟩ := hF o h; exact (hAp.1 k hk).2.1 e.symm
theorem z_stF1 (hAp : z_Ap s A ns E o) (hz : s.heap.size ≤ sz) (hF : ∀ q, F q → ∃ k, k < 13 + 3 * ns ∧ q = A k) : ∀ q, z_fr (fun q => F q ∨ q = o) sz q → s.heap.size ≤ q := fun q h => by
  rcases h with (h | h) | h
  · obtain ⟨k, hk, e⟩ := hF q h; rw [e]; exact (hAp.1 k hk).2.2
  · rw [h]; exact hAp.2.2
  · omega
theorem z_LS.stay (hAp : z_Ap s A ns E o) : ∀ H H1 : Heap, z_LS s D cI cS cL A E o th np ns nc nn nm fv so sf st sn sc sp sx sy gv f H → H.size ≤ H1.size → (∀ q : Nat, q < H.size → H1[q]? = H[q]?) → z_LS s D cI cS cL A E o th np ns nc nn nm fv so sf st sn sc sp sx sy gv f H1 := fun H H1 h hz ho =>
  ⟨⟨h.1.1.keep (fun k hk => ho _ (h.1.1.lt hk)), h.1.2.keep (ho _ h.1.2.lt)⟩, h.2.1.keep hz (fun q hq => ho q (Nat.lt_of_lt_of_le hq h.2.1.1)), h.2.2.keep (fun k hk => ho _ (h.2.2.lt hk))⟩
end ZGO
