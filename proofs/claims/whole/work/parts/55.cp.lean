/-! CLASS AND REFERENCE (own text): what their states have in common -/
def z_Cp (np ns nn nm : Nat) (fv : Nat → Nat → Int32) (so sf st : Nat → Int32) (sn sc : Nat → Nat) (sp : Nat → Option Nat) (sx sy : Nat → Nat → Int32) (gv : Nat → Nat → Int32) : Prop :=
  (∀ k, k < np → gv 0 k = fv 0 k) ∧
  (∀ i, i < ns → gv 1 i = so i ∧ gv 2 i = sf i ∧ gv 3 i = st i ∧ gv 4 i = nI (sn i) ∧ gv 7 i = nI (sc i) ∧ gv 8 i = pb_num (sp i)) ∧
  (∀ i, ns ≤ i → i < 32 → gv 4 i = 0 ∧ gv 7 i = 0) ∧
  (∀ i, i < ns → ∀ k, k < sn i → gv 5 (12 * i + k) = sx i k ∧ gv 6 (12 * i + k) = sy i k ∧ pq_r (sx i k) ∧ pq_r (sy i k)) ∧
  (∀ i, i < ns → 0 < sc i → pc_cci (sx i) (sy i) (sn i) (sn i) 0 = true) ∧
  (∀ i, i < ns → ∀ j, sp i = some j → 0 < sc j) ∧
  (∀ k, k < nn → gv 9 k = fv 1 k ∧ gv 10 k = fv 2 k ∧ gv 11 k = fv 3 k ∧ gv 12 k = fv 4 k) ∧
  (∀ k, (k < nm → gv 13 k = fv 5 k ∧ gv 14 k = fv 6 k ∧ gv 15 k = fv 7 k ∧ gv 16 k = fv 8 k) ∧ pq_r (fv 5 k) ∧ pq_r (fv 6 k) ∧ pq_r (fv 7 k) ∧ pq_r (fv 8 k))
/-- the class's own bounds -/
def z_Sb (ns nc : Nat) (sn sc : Nat → Nat) (sp : Nat → Option Nat) : Prop := ∀ i, i < ns → sn i ≤ 12 ∧ sc i ≤ nc ∧ (0 < sc i → 3 ≤ sn i) ∧ ∀ j, sp i = some j → j < ns
theorem pq_pt {x y : Int32} (h : z_pt x y) : pq_r x ∧ pq_r y := by
  unfold z_pt at h
  simp only [Int32.le_iff_toInt_le] at h
  exact ⟨⟨h.1, h.2.1⟩, ⟨h.2.2.1, h.2.2.2⟩⟩
theorem pq_r0 : pq_r 0 := by unfold pq_r; decide
section ZCP
variable {np ns nc nn nm : Nat} {fv : Nat → Nat → Int32} {so sf st : Nat → Int32} {sn sc : Nat → Nat} {sp : Nat → Option Nat} {sx sy gv : Nat → Nat → Int32}
theorem z_Cp.zero : z_Cp 0 0 0 0 (fun _ _ => 0) (fun _ => 0) (fun _ => 0) (fun _ => 0) (fun _ => 0) (fun _ => 0) (fun _ => none) (fun _ _ => 0) (fun _ _ => 0) (fun _ _ => 0) :=
  ⟨fun k h => absurd h (Nat.not_lt_zero _), fun k h => absurd h (Nat.not_lt_zero _), fun _ _ _ => ⟨rfl, rfl⟩, fun k h => absurd h (Nat.not_lt_zero _), fun k h => absurd h (Nat.not_lt_zero _), fun k h => absurd h (Nat.not_lt_zero _), fun k h => absurd h (Nat.not_lt_zero _), fun k => ⟨fun h => absurd h (Nat.not_lt_zero _), pq_r0, pq_r0, pq_r0, pq_r0⟩⟩
theorem z_Cp.m (h : z_Cp np ns nn nm fv so sf st sn sc sp sx sy gv) (k : Nat) (hk : k < nm) : gv 13 k = fv 5 k ∧ gv 14 k = fv 6 k ∧ gv 15 k = fv 7 k ∧ gv 16 k = fv 8 k ∧ pq_r (fv 5 k) ∧ pq_r (fv 6 k) ∧ pq_r (fv 7 k) ∧ pq_r (fv 8 k) := by
  obtain ⟨a, b⟩ := h.2.2.2.2.2.2.2 k
  exact ⟨(a hk).1, (a hk).2.1, (a hk).2.2.1, (a hk).2.2.2, b⟩
theorem z_Cp.place (h : z_Cp np ns nn nm fv so sf st sn sc sp sx sy gv) (x : Int32) : z_Cp (np + 1) ns nn nm (va_up fv 0 (upd (fv 0) np x)) so sf st sn sc sp sx sy (va_up gv 0 (upd (gv 0) np x)) := by
  refine ⟨fun k hk => ?_, h.2⟩
  show upd (gv 0) np x k = upd (fv 0) np x k
  by_cases e : k = np
  · subst e; rw [pk_us, pk_us]
  · rw [pk_un e, pk_un e]; exact h.1 k (by omega)
theorem z_Cp.shape (h : z_Cp np ns nn nm fv so sf st sn sc sp sx sy gv) (hb : z_Sb ns nc sn sc sp) (hlt : ns < 32) (x f t : Int32) : z_Cp np (ns + 1) nn nm fv (va_up so ns x) (va_up sf ns f) (va_up st ns t) (va_up sn ns 0) (va_up sc ns 0) (va_up sp ns none) (va_up sx ns (fun _ => 0)) (va_up sy ns (fun _ => 0)) (va_up (va_up (va_up (va_up gv 1 (upd (gv 1) ns x)) 2 (upd (gv 2) ns f)) 3 (upd (gv 3) ns t)) 8 (upd (gv 8) ns (-1))) := by
  obtain ⟨h1, h2, h3, h4, h5, h6, h7, h8⟩ := h
  refine ⟨h1, fun i hi => ?_, fun i h9 h10 => h3 i (by omega) h10, fun i hi k hk => ?_, fun i hi hc => ?_, fun i hi j hj => ?_, h7, h8⟩
  · show upd (gv 1) ns x i = va_up so ns x i ∧ upd (gv 2) ns f i = va_up sf ns f i ∧ upd (gv 3) ns t i = va_up st ns t i ∧ gv 4 i = nI (va_up sn ns 0 i) ∧ gv 7 i = nI (va_up sc ns 0 i) ∧ upd (gv 8) ns (-1) i = pb_num (va_up sp ns none i)
    by_cases e : i = ns
    · subst e
      simp only [pk_us, va_up_self]
      have := h3 i (Nat.le_refl _) hlt
      exact ⟨trivial, trivial, trivial, this.1, this.2, rfl⟩
    · simp only [pk_un e, va_up_ne _ _ e]
      exact h2 i (by omega)
  · show gv 5 (12 * i + k) = va_up sx ns (fun _ => 0) i k ∧ gv 6 (12 * i + k) = va_up sy ns (fun _ => 0) i k ∧ pq_r (va_up sx ns (fun _ => 0) i k) ∧ pq_r (va_up sy ns (fun _ => 0) i k)
    by_cases e : i = ns
    · subst e; rw [va_up_self] at hk; omega
    · rw [va_up_ne _ _ e] at hk
      simp only [va_up_ne _ _ e]
      exact h4 i (by omega) k hk
  · by_cases e : i = ns
    · subst e; rw [va_up_self] at hc; omega
    · rw [va_up_ne _ _ e] at hc
      simp only [va_up_ne _ _ e]
      exact h5 i (by omega) hc
  · by_cases e : i = ns
    · subst e; rw [va_up_self] at hj; cases hj
    · rw [va_up_ne _ _ e] at hj
      have hjl := (hb i (by omega)).2.2.2 j hj
      rw [va_up_ne _ _ (by omega)]
      exact h6 i (by omega) j hj
theorem z_Cp.corner (h : z_Cp np ns nn nm fv so sf st sn sc sp sx sy gv) (hb : z_Sb ns nc sn sc sp) {k : Nat} (hk : k < ns) (hop : ¬ 0 < sc k) (hlt : sn k < 12) {x y : Int32} (hp : z_pt x y) : z_Cp np ns nn nm fv so sf st (va_up sn k (sn k + 1)) sc sp (va_up sx k (upd (sx k) (sn k) x)) (va_up sy k (upd (sy k) (sn k) y)) (va_up (va_up (va_up gv 5 (upd (gv 5) (12 * k + sn k) x)) 6 (upd (gv 6) (12 * k + sn k) y)) 4 (upd (gv 4) k (nI (sn k + 1)))) := by
  obtain ⟨h1, h2, h3, h4, h5, h6, h7, h8⟩ := h
  have hr := pq_pt hp
  refine ⟨h1, fun i hi => ?_, fun i h9 h10 => ?_, fun i hi q hq => ?_, fun i hi hc => ?_, h6, h7, h8⟩
  · show gv 1 i = so i ∧ gv 2 i = sf i ∧ gv 3 i = st i ∧ upd (gv 4) k (nI (sn k + 1)) i = nI (va_up sn k (sn k + 1) i) ∧ gv 7 i = nI (sc i) ∧ gv 8 i = pb_num (sp i)
    have h9 := h2 i hi
    by_cases e : i = k
    · subst e; rw [pk_us, va_up_self]; exact ⟨h9.1, h9.2.1, h9.2.2.1, rfl, h9.2.2.2.2⟩
    · rw [pk_un e, va_up_ne _ _ e]; exact h9
  · show upd (gv 4) k (nI (sn k + 1)) i = 0 ∧ gv 7 i = 0
    rw [pk_un (by omega)]; exact h3 i h9 h10
  · show upd (gv 5) (12 * k + sn k) x (12 * i + q) = va_up sx k (upd (sx k) (sn k) x) i q ∧ upd (gv 6) (12 * k + sn k) y (12 * i + q) = va_up sy k (upd (sy k) (sn k) y) i q ∧ pq_r (va_up sx k (upd (sx k) (sn k) x) i q) ∧ pq_r (va_up sy k (upd (sy k) (sn k) y) i q)
    have hi12 := (hb i hi).1
    by_cases e : i = k
    · subst e
      rw [va_up_self] at hq
      rw [va_up_self, va_up_self]
      by_cases e2 : q = sn i
      · subst e2; rw [pk_us, pk_us, pk_us, pk_us]; exact ⟨rfl, rfl, hr.1, hr.2⟩
      · have p1 : 12 * i + q ≠ 12 * i + sn i := by omega
        simp only [pk_un p1, pk_un e2]; exact h4 i hi q (by omega)
    · rw [va_up_ne _ _ e] at hq
      have p1 : 12 * i + q ≠ 12 * k + sn k := by omega
      simp only [va_up_ne _ _ e, pk_un p1]
      exact h4 i hi q hq
  · have e : i ≠ k := fun e => hop (e ▸ hc)
    simp only [va_up_ne _ _ e]
    exact h5 i hi hc
theorem z_Cp.close (h : z_Cp np ns nn nm fv so sf st sn sc sp sx sy gv) {k : Nat} (hk : k < ns) (hcan : pc_can (sx k) (sy k) (sn k) (nI (sc k)) = true) : z_Cp np ns nn nm fv so sf st sn (va_up sc k (nc + 1)) sp sx sy (va_up gv 7 (upd (gv 7) k (nI (nc + 1)))) := by
  obtain ⟨h1, h2, h3, h4, h5, h6, h7, h8⟩ := h
  refine ⟨h1, fun i hi => ?_, fun i h9 h10 => ?_, h4, fun i hi hc => ?_, fun i hi j hj => ?_, h7, h8⟩
  · show gv 1 i = so i ∧ gv 2 i = sf i ∧ gv 3 i = st i ∧ gv 4 i = nI (sn i) ∧ upd (gv 7) k (nI (nc + 1)) i = nI (va_up sc k (nc + 1) i) ∧ gv 8 i = pb_num (sp i)
    have h9 := h2 i hi
    by_cases e : i = k
    · subst e; rw [pk_us, va_up_self]; exact ⟨h9.1, h9.2.1, h9.2.2.1, h9.2.2.2.1, rfl, h9.2.2.2.2.2⟩
    · rw [pk_un e, va_up_ne _ _ e]; exact h9
  · show gv 4 i = 0 ∧ upd (gv 7) k (nI (nc + 1)) i = 0
    rw [pk_un (by omega)]; exact h3 i h9 h10
  · by_cases e : i = k
    · subst e
      unfold pc_can at hcan
      split at hcan
      · cases hcan
      · split at hcan
        · cases hcan
        · exact hcan
    · rw [va_up_ne _ _ e] at hc; exact h5 i hi hc
  · by_cases e : j = k
    · subst e; rw [va_up_self]; omega
    · rw [va_up_ne _ _ e]; exact h6 i hi j hj
theorem pq_fr {g : Nat → Int32} {k a : Nat} (h : g a = pb_num (sp a)) : pm_fr g k (sp k) a = pb_num (pb_lv sp k a) := by
  unfold pm_fr pb_lv
  cases hk : sp k with
  | none => exact h
  | some j =>
    show upd (upd g j (-1)) k (-1) a = pb_num (va_up (va_up sp j none) k none a)
    by_cases e : a = k
    · subst e; rw [pk_us, va_up_self]; rfl
    · rw [pk_un e, va_up_ne _ _ e]
      by_cases e2 : a = j
      · subst e2; rw [pk_us, va_up_self]; rfl
      · rw [pk_un e2, va_up_ne _ _ e2]; exact h
theorem pb_lv_of {k a j : Nat} (h : pb_lv sp k a = some j) : sp a = some j := by
  unfold pb_lv at h
  cases hk : sp k with
  | none => rw [hk] at h; exact h
  | some q =>
    rw [hk] at h
    have h : va_up (va_up sp q none) k none a = some j := h
    by_cases e : a = k
    · subst e; rw [va_up_self] at h; cases h
    · rw [va_up_ne _ _ e] at h
      by_cases e2 : a = q
      · subst e2; rw [va_up_self] at h; cases h
      · rw [va_up_ne _ _ e2] at h; exact h
theorem z_Cp.unsure (h : z_Cp np ns nn nm fv so sf st sn sc sp sx sy gv) {i j : Nat} (hi : 0 < sc i) (hj : 0 < sc j) : z_Cp np ns nn nm fv so sf st sn sc (va_up (va_up (pb_lv (pb_lv sp i) j) i (some j)) j (some i)) sx sy (va_up (va_up (va_up (va_up gv 8 (pm_fr (gv 8) i (sp i))) 8 (pm_fr (pm_fr (gv 8) i (sp i)) j (pb_lv sp i j))) 8 (upd (pm_fr (pm_fr (gv 8) i (sp i)) j (pb_lv sp i j)) i (nI j))) 8 (upd (upd (pm_fr (pm_fr (gv 8) i (sp i)) j (pb_lv sp i j)) i (nI j)) j (nI i))) := by
  obtain ⟨h1, h2, h3, h4, h5, h6, h7, h8⟩ := h
  refine ⟨h1, fun a ha => ?_, h3, h4, h5, fun a ha q hq => ?_, h7, h8⟩
  · show gv 1 a = so a ∧ gv 2 a = sf a ∧ gv 3 a = st a ∧ gv 4 a = nI (sn a) ∧ gv 7 a = nI (sc a) ∧ upd (upd (pm_fr (pm_fr (gv 8) i (sp i)) j (pb_lv sp i j)) i (nI j)) j (nI i) a = pb_num (va_up (va_up (pb_lv (pb_lv sp i) j) i (some j)) j (some i) a)
    have h9 := h2 a ha
    refine ⟨h9.1, h9.2.1, h9.2.2.1, h9.2.2.2.1, h9.2.2.2.2.1, ?_⟩
    by_cases e : a = j
    · subst e; rw [pk_us, va_up_self]; rfl
    · rw [pk_un e, va_up_ne _ _ e]
      by_cases e2 : a = i
      · subst e2; rw [pk_us, va_up_self]; rfl
      · rw [pk_un e2, va_up_ne _ _ e2]
        exact pq_fr (sp := pb_lv sp i) (pq_fr h9.2.2.2.2.2)
  · by_cases e : a = j
    · subst e; rw [va_up_self] at hq; cases hq; exact hi
    · rw [va_up_ne _ _ e] at hq
      by_cases e2 : a = i
      · subst e2; rw [va_up_self] at hq; cases hq; exact hj
      · rw [va_up_ne _ _ e2] at hq
        exact h6 a ha q (pb_lv_of (pb_lv_of hq))
theorem z_Cp.name (h : z_Cp np ns nn nm fv so sf st sn sc sp sx sy gv) (x n f t : Int32) : z_Cp np ns (nn + 1) nm (va_up (va_up (va_up (va_up fv 1 (upd (fv 1) nn x)) 2 (upd (fv 2) nn n)) 3 (upd (fv 3) nn f)) 4 (upd (fv 4) nn t)) so sf st sn sc sp sx sy (va_up (va_up (va_up (va_up gv 9 (upd (gv 9) nn x)) 10 (upd (gv 10) nn n)) 11 (upd (gv 11) nn f)) 12 (upd (gv 12) nn t)) := by
  obtain ⟨h1, h2, h3, h4, h5, h6, h7, h8⟩ := h
  refine ⟨h1, h2, h3, h4, h5, h6, fun k hk => ?_, h8⟩
  show upd (gv 9) nn x k = upd (fv 1) nn x k ∧ upd (gv 10) nn n k = upd (fv 2) nn n k ∧ upd (gv 11) nn f k = upd (fv 3) nn f k ∧ upd (gv 12) nn t k = upd (fv 4) nn t k
  by_cases e : k = nn
  · subst e; simp only [pk_us]; exact ⟨trivial, trivial, trivial, trivial⟩
  · simp only [pk_un e]; exact h7 k (by omega)
theorem z_Cp.mark (h : z_Cp np ns nn nm fv so sf st sn sc sp sx sy gv) {x y u v : Int32} (hp : z_pt x y) (hp2 : z_pt u v) : z_Cp np ns nn (nm + 1) (va_up (va_up (va_up (va_up fv 5 (upd (fv 5) nm x)) 6 (upd (fv 6) nm y)) 7 (upd (fv 7) nm u)) 8 (upd (fv 8) nm v)) so sf st sn sc sp sx sy (va_up (va_up (va_up (va_up gv 13 (upd (gv 13) nm x)) 14 (upd (gv 14) nm y)) 15 (upd (gv 15) nm u)) 16 (upd (gv 16) nm v)) := by
  obtain ⟨h1, h2, h3, h4, h5, h6, h7, h8⟩ := h
  have r1 := pq_pt hp
  have r2 := pq_pt hp2
  refine ⟨h1, h2, h3, h4, h5, h6, h7, fun k => ?_⟩
  show (k < nm + 1 → upd (gv 13) nm x k = upd (fv 5) nm x k ∧ upd (gv 14) nm y k = upd (fv 6) nm y k ∧ upd (gv 15) nm u k = upd (fv 7) nm u k ∧ upd (gv 16) nm v k = upd (fv 8) nm v k) ∧ pq_r (upd (fv 5) nm x k) ∧ pq_r (upd (fv 6) nm y k) ∧ pq_r (upd (fv 7) nm u k) ∧ pq_r (upd (fv 8) nm v k)
  by_cases e : k = nm
  · subst e; simp only [pk_us]; exact ⟨fun _ => ⟨trivial, trivial, trivial, trivial⟩, r1.1, r1.2, r2.1, r2.2⟩
  · simp only [pk_un e]; exact ⟨fun hk => (h8 k).1 (by omega), (h8 k).2⟩
/-! their answers are the same -/
theorem z_Cp.f (h : z_Cp np ns nn nm fv so sf st sn sc sp sx sy gv) (hb : z_Sb ns nc sn sc sp) (hnc : nc < 2 ^ 30) (p d : Int32) : pm_f gv ns p d = pb_f so sf st sc ns p d :=
  pq_f (fun k hk => (h.2.1 k hk).1) (fun k hk => (h.2.1 k hk).2.1) (fun k hk => (h.2.1 k hk).2.2.1) (fun k hk => (h.2.1 k hk).2.2.2.2.1) (fun k hk => by have := (hb k hk).2.1; omega)
theorem z_Cp.cn (h : z_Cp np ns nn nm fv so sf st sn sc sp sx sy gv) (hb : z_Sb ns nc sn sc sp) : ∀ i, i < ns → gv 4 i = nI (sn i) ∧ sn i ≤ 12 ∧ (0 < gv 7 i → 3 ≤ sn i) := fun i hi => by
  have h1 := h.2.1 i hi
  have h2 := hb i hi
  refine ⟨h1.2.2.2.1, h2.1, fun hc => h2.2.2.1 ?_⟩
  rw [h1.2.2.2.2.1] at hc
  rcases Nat.eq_zero_or_pos (sc i) with e | e
  · rw [e] at hc; exact absurd hc (by decide)
  · exact e
theorem z_Cp.spn (h : z_Cp np ns nn nm fv so sf st sn sc sp sx sy gv) (hb : z_Sb ns nc sn sc sp) : ∀ i, i < ns → gv 8 i = pb_num (sp i) ∧ ∀ q, sp i = some q → q < ns ∧ 0 < sn q := fun i hi => by
  refine ⟨(h.2.1 i hi).2.2.2.2.2, fun q hq => ?_⟩
  have hql := (hb i hi).2.2.2 q hq
  have := (hb q hql).2.2.1 (h.2.2.2.2.2.1 i hi q hq)
  exact ⟨hql, by omega⟩
theorem z_Cp.inn (h : z_Cp np ns nn nm fv so sf st sn sc sp sx sy gv) {j : Nat} (hj : j < ns) {x y : Int32} (hx : pq_r x) (hy : pq_r y) : pm_in (gv 5) (gv 6) (sn j) j x y = pc_in (sx j) (sy j) (sn j) x y :=
  pq_in (fun k hk => (h.2.2.2.1 j hj k hk).1.symm) (fun k hk => (h.2.2.2.1 j hj k hk).2.1.symm) (fun k hk => (h.2.2.2.1 j hj k hk).2.2.1) (fun k hk => (h.2.2.2.1 j hj k hk).2.2.2) hx hy
theorem z_Cp.inO (h : z_Cp np ns nn nm fv so sf st sn sc sp sx sy gv) {x y : Int32} (hp : z_pt x y) {o : Option Nat} (ho : ∀ j, o = some j → j < ns) : pm_inO gv sn x y o = pb_inO sx sy sn x y o := by
  cases o with
  | none => rfl
  | some j => exact h.inn (ho j rfl) (pq_pt hp).1 (pq_pt hp).2
theorem z_Cp.inside (h : z_Cp np ns nn nm fv so sf st sn sc sp sx sy gv) (hb : z_Sb ns nc sn sc sp) (hnc : nc < 2 ^ 30) {x y : Int32} (hp : z_pt x y) (d : Int32) (kk : Nat) : pm_kth (fun i => pm_inO gv sn x y (pm_f gv ns (nI i) d)) kk np 0 0 = pb_kth (fun i => pb_inO sx sy sn x y (pb_f so sf st sc ns (nI i) d)) np 0 kk :=
  pq_kth np 0 kk 0 (by omega) (fun j _ _ => by
    show pm_inO gv sn x y (pm_f gv ns (nI j) d) = pb_inO sx sy sn x y (pb_f so sf st sc ns (nI j) d)
    rw [h.f hb hnc]
    exact h.inO hp (fun q hq => (pb_f_ok hq).1))
theorem z_Cp.tw (h : z_Cp np ns nn nm fv so sf st sn sc sp sx sy gv) (hb : z_Sb ns nc sn sc sp) (hnc : nc < 2 ^ 30) {x y : Int32} (hp : z_pt x y) (p d : Int32) : pm_tw gv sn sp x y (pm_f gv ns p d) = pb_tw sx sy sn sp x y (pb_f so sf st sc ns p d) := by
  rw [h.f hb hnc]
  cases ho : pb_f so sf st sc ns p d with
  | none => rfl
  | some j =>
    have hj := (pb_f_ok ho).1
    have r := pq_pt hp
    unfold pm_tw pb_tw
    cases hs : sp j with
    | none => simp only; rw [h.inn hj r.1 r.2, hs]
    | some q => simp only; rw [h.inn hj r.1 r.2, hs]; simp only; rw [h.inn ((hb j hj).2.2.2 q hs) r.1 r.2]
theorem z_Cp.ar (h : z_Cp np ns nn nm fv so sf st sn sc sp sx sy gv) (hb : z_Sb ns nc sn sc sp) (hnc : nc < 2 ^ 30) (p d : Int32) : pm_ar gv sn (pm_f gv ns p d) = pb_ar sx sy sn (pb_f so sf st sc ns p d) := by
  rw [h.f hb hnc]
  cases ho : pb_f so sf st sc ns p d with
  | none => rfl
  | some j =>
    have hj := pb_f_ok ho
    have hb2 := hb j hj.1
    have h3 := hb2.2.2.1 hj.2
    exact pq_area (fun k hk => (h.2.2.2.1 j hj.1 k hk).1.symm) (fun k hk => (h.2.2.2.1 j hj.1 k hk).2.1.symm) (by omega) hb2.1 (fun k hk => (h.2.2.2.1 j hj.1 k hk).2.2.1) (fun k hk => (h.2.2.2.1 j hj.1 k hk).2.2.2) (h.2.2.2.2.1 j hj.1 hj.2)
theorem z_Cp.di (h : z_Cp np ns nn nm fv so sf st sn sc sp sx sy gv) (hb : z_Sb ns nc sn sc sp) (hnc : nc < 2 ^ 30) (p q d : Int32) : pm_di gv sn (pm_f gv ns p d) (pm_f gv ns q d) = pb_di sx sy sn (pb_f so sf st sc ns p d) (pb_f so sf st sc ns q d) := by
  rw [h.f hb hnc, h.f hb hnc]
  cases ho : pb_f so sf st sc ns p d with
  | none => rfl
  | some i =>
    cases ho2 : pb_f so sf st sc ns q d with
    | none => rfl
    | some j =>
      have hi := pb_f_ok ho
      have hj := pb_f_ok ho2
      have hi3 := (hb i hi.1).2.2.1 hi.2
      have hj3 := (hb j hj.1).2.2.1 hj.2
      exact pq_least (fun k hk => (h.2.2.2.1 i hi.1 k hk).1.symm) (fun k hk => (h.2.2.2.1 i hi.1 k hk).2.1.symm) (fun k hk => (h.2.2.2.1 i hi.1 k hk).2.2.1) (fun k hk => (h.2.2.2.1 i hi.1 k hk).2.2.2)
        (fun k hk => (h.2.2.2.1 j hj.1 k hk).1.symm) (fun k hk => (h.2.2.2.1 j hj.1 k hk).2.1.symm) (fun k hk => (h.2.2.2.1 j hj.1 k hk).2.2.1) (fun k hk => (h.2.2.2.1 j hj.1 k hk).2.2.2) (by omega) (by omega)
theorem z_Cp.mis (h : z_Cp np ns nn nm fv so sf st sn sc sp sx sy gv) (hb : z_Sb ns nc sn sc sp) (hnc : nc < 2 ^ 30) (d : Int32) (kk : Nat) : pm_kth (fun i => pm_mis gv sn ns d i) kk np 0 0 = pb_kth (fun i => pb_mis fv so sf st sn sc sx sy ns d i) np 0 kk :=
  pq_kth np 0 kk 0 (by omega) (fun p _ hp => by
    show pm_mis gv sn ns d p = pb_mis fv so sf st sn sc sx sy ns d p
    unfold pm_mis pb_mis
    rw [h.f hb hnc, h.1 p (by omega)]
    by_cases e : fv 0 p = -1
    · rw [if_pos e, if_pos e]
      cases pb_f so sf st sc ns (nI p) d <;> rfl
    · rw [if_neg e, if_neg e, h.f hb hnc]
      cases ho : pb_f so sf st sc ns (nI p) d with
      | none => rfl
      | some i =>
        cases ho2 : pb_f so sf st sc ns (fv 0 p) d with
        | none => rfl
        | some j =>
          have hi := (pb_f_ok ho).1
          have hj := (pb_f_ok ho2).1
          have := pq_out (fun k hk => (h.2.2.2.1 j hj k hk).1.symm) (fun k hk => (h.2.2.2.1 j hj k hk).2.1.symm) (fun k hk => (h.2.2.2.1 j hj k hk).2.2.1) (fun k hk => (h.2.2.2.1 j hj k hk).2.2.2)
            (fun k hk => (h.2.2.2.1 i hi k hk).1.symm) (fun k hk => (h.2.2.2.1 i hi k hk).2.1.symm) (fun k hk => (h.2.2.2.1 i hi k hk).2.2.1) (fun k hk => (h.2.2.2.1 i hi k hk).2.2.2) (sn i) 0 false (by omega)
          show pm_out (gv 5) (gv 6) (sn j) j i (sn i) 0 false = !(pc_all (sx j) (sy j) (sn j) (sx i) (sy i) (sn i) 0)
          rw [this, Bool.false_or])
theorem z_Cp.can (h : z_Cp np ns nn nm fv so sf st sn sc sp sx sy gv) {k : Nat} (hk : k < ns) (hop : ¬ 0 < nI (sc k)) : pm_can (gv 5) (gv 6) (sn k) k = pc_can (sx k) (sy k) (sn k) (nI (sc k)) :=
  pq_can (fun q hq => (h.2.2.2.1 k hk q hq).1.symm) (fun q hq => (h.2.2.2.1 k hk q hq).2.1.symm) (fun q hq => (h.2.2.2.1 k hk q hq).2.2.1) (fun q hq => (h.2.2.2.1 k hk q hq).2.2.2) hop
theorem z_Cp.nam (h : z_Cp np ns nn nm fv so sf st sn sc sp sx sy gv) (p d : Int32) : pm_nm gv p d nn 0 (-1) = pn_find (fv 1) (fv 2) (fv 3) (fv 4) p d nn :=
  pq_nm (m := nn) (fun k hk => (h.2.2.2.2.2.2.1 k hk).1) (fun k hk => (h.2.2.2.2.2.2.1 k hk).2.1) (fun k hk => (h.2.2.2.2.2.2.1 k hk).2.2.1) (fun k hk => (h.2.2.2.2.2.2.1 k hk).2.2.2) nn (Nat.le_refl _)
theorem z_Cp.fnd (h : z_Cp np ns nn nm fv so sf st sn sc sp sx sy gv) (hnm : nm ≤ 12) {x y : Int32} (hp : z_pt x y) (hpt : pm_pt x y = true) (F : Nat) (hF : F = 1728) : po_fi (fv 5) (fv 6) x y nm nm 0 = (pm_fnd gv nm x y F 0).map (fun q => (q / 144, q / 12 % 12, q % 12)) :=
  pq_find hnm hpt (fun i j k hi hj hk => pq_hold (fun q hq => (h.m q hq).1.symm) (fun q hq => (h.m q hq).2.1.symm) (fun q hq => (h.m q hq).2.2.2.2.1) (fun q hq => (h.m q hq).2.2.2.2.2.1) (pq_pt hp).1 (pq_pt hp).2 hi hj hk) F hF
theorem z_Cp.val (h : z_Cp np ns nn nm fv so sf st sn sc sp sx sy gv) {x y : Int32} (hp : z_pt x y) {i j k : Nat} (hi : i < nm) (hj : j < nm) (hk : k < nm) (hh : po_hb (fv 5) (fv 6) i j k x y = true) : pm_val gv (gv 15) i j k x y = po_val (fv 5) (fv 6) (fv 7) i j k x y ∧ pm_val gv (gv 16) i j k x y = po_val (fv 5) (fv 6) (fv 8) i j k x y :=
  ⟨pq_val (fun q hq => (h.m q hq).1.symm) (fun q hq => (h.m q hq).2.1.symm) (fun q hq => (h.m q hq).2.2.1.symm) (fun q hq => (h.m q hq).2.2.2.2.1) (fun q hq => (h.m q hq).2.2.2.2.2.1) (fun q hq => (h.m q hq).2.2.2.2.2.2.1) (pq_pt hp).1 (pq_pt hp).2 hi hj hk hh,
   pq_val (fun q hq => (h.m q hq).1.symm) (fun q hq => (h.m q hq).2.1.symm) (fun q hq => (h.m q hq).2.2.2.1.symm) (fun q hq => (h.m q hq).2.2.2.2.1) (fun q hq => (h.m q hq).2.2.2.2.2.1) (fun q hq => (h.m q hq).2.2.2.2.2.2.2) (pq_pt hp).1 (pq_pt hp).2 hi hj hk hh⟩
theorem z_Cp.hb (h : z_Cp np ns nn nm fv so sf st sn sc sp sx sy gv) {x y : Int32} (hp : z_pt x y) {q : Nat} (hq : pm_is gv nm x y q = true) : q / 144 < nm ∧ q / 12 % 12 < nm ∧ q % 12 < nm ∧ po_hb (fv 5) (fv 6) (q / 144) (q / 12 % 12) (q % 12) x y = true := by
  obtain ⟨a, b, c, -, d⟩ := pm_is_ok hq
  refine ⟨by omega, by omega, c, ?_⟩
  rw [← d]
  exact (pq_hold (fun q hq => (h.m q hq).1.symm) (fun q hq => (h.m q hq).2.1.symm) (fun q hq => (h.m q hq).2.2.2.2.1) (fun q hq => (h.m q hq).2.2.2.2.2.1) (pq_pt hp).1 (pq_pt hp).2 (by omega) (by omega) c).symm
theorem z_Cp.hq (h : z_Cp np ns nn nm fv so sf st sn sc sp sx sy gv) {x y : Int32} (hp : z_pt x y) : ∀ i j k : Nat, i < 12 → j < 12 → k < 12 → ¬ po_sh (fv 5) (fv 6) j k x y + po_sh (fv 5) (fv 6) k i x y + po_sh (fv 5) (fv 6) i j x y = 0 → ¬ 2 * (if 0 < po_sh (fv 5) (fv 6) j k x y + po_sh (fv 5) (fv 6) k i x y + po_sh (fv 5) (fv 6) i j x y then po_sh (fv 5) (fv 6) j k x y + po_sh (fv 5) (fv 6) k i x y + po_sh (fv 5) (fv 6) i j x y else -(po_sh (fv 5) (fv 6) j k x y + po_sh (fv 5) (fv 6) k i x y + po_sh (fv 5) (fv 6) i j x y)) = 0 := by
  intro i j k _ _ _ h0
  have rx : ∀ q, pq_r (fv 5 q) := fun q => (h.2.2.2.2.2.2.2 q).2.1
  have ry : ∀ q, pq_r (fv 6 q) := fun q => (h.2.2.2.2.2.2.2 q).2.2.1
  have r := pq_pt hp
  have e1 : (po_sh (fv 5) (fv 6) j k x y).toInt = _ := pq_turn (rx j) (ry j) (rx k) (ry k) r.1 r.2
  have e2 : (po_sh (fv 5) (fv 6) k i x y).toInt = _ := pq_turn (rx k) (ry k) (rx i) (ry i) r.1 r.2
  have e3 : (po_sh (fv 5) (fv 6) i j x y).toInt = _ := pq_turn (rx i) (ry i) (rx j) (ry j) r.1 r.2
  have b1 := pq_sb (rx j) (ry j) (rx k) (ry k) r.1 r.2
  have b2 := pq_sb (rx k) (ry k) (rx i) (ry i) r.1 r.2
  have b3 := pq_sb (rx i) (ry i) (rx j) (ry j) r.1 r.2
  have es : (po_sh (fv 5) (fv 6) j k x y + po_sh (fv 5) (fv 6) k i x y + po_sh (fv 5) (fv 6) i j x y).toInt = pq_s (fv 5 j) (fv 6 j) (fv 5 k) (fv 6 k) x y + pq_s (fv 5 k) (fv 6 k) (fv 5 i) (fv 6 i) x y + pq_s (fv 5 i) (fv 6 i) (fv 5 j) (fv 6 j) x y := by
    rw [Int64.toInt_add, Int64.toInt_add, e1, e2, e3, Int.bmod_eq_of_le (n := pq_s (fv 5 j) (fv 6 j) (fv 5 k) (fv 6 k) x y + pq_s (fv 5 k) (fv 6 k) (fv 5 i) (fv 6 i) x y) (by omega) (by omega), Int.bmod_eq_of_le (by omega) (by omega)]
  generalize po_sh (fv 5) (fv 6) j k x y + po_sh (fv 5) (fv 6) k i x y + po_sh (fv 5) (fv 6) i j x y = w at h0 es ⊢
  have hW : -2400000000 ≤ pq_s (fv 5 j) (fv 6 j) (fv 5 k) (fv 6 k) x y + pq_s (fv 5 k) (fv 6 k) (fv 5 i) (fv 6 i) x y + pq_s (fv 5 i) (fv 6 i) (fv 5 j) (fv 6 j) x y ∧ pq_s (fv 5 j) (fv 6 j) (fv 5 k) (fv 6 k) x y + pq_s (fv 5 k) (fv 6 k) (fv 5 i) (fv 6 i) x y + pq_s (fv 5 i) (fv 6 i) (fv 5 j) (fv 6 j) x y ≤ 2400000000 := by omega
  generalize pq_s (fv 5 j) (fv 6 j) (fv 5 k) (fv 6 k) x y + pq_s (fv 5 k) (fv 6 k) (fv 5 i) (fv 6 i) x y + pq_s (fv 5 i) (fv 6 i) (fv 5 j) (fv 6 j) x y = W at es hW
  have w0 : W ≠ 0 := fun e => h0 (Int64.toInt_inj.mp (by rw [es, e]; rfl))
  intro hc
  have hc2 := congrArg Int64.toInt hc
  split at hc2
  · rw [Int64.toInt_mul, es, show (2 : Int64).toInt = 2 from rfl, show (0 : Int64).toInt = 0 from rfl, Int.bmod_eq_of_le (by omega) (by omega)] at hc2; omega
  · rw [Int64.toInt_mul, Int64.toInt_neg, es, show (2 : Int64).toInt = 2 from rfl, show (0 : Int64).toInt = 0 from rfl, Int.bmod_eq_of_le (n := -W) (by omega) (by omega), Int.bmod_eq_of_le (by omega) (by omega)] at hc2; omega
end ZCP
/-! the reference's questions, answered -/
theorem z_ixF {n : Nat} {x : Int32} (h : x < 0 ∨ nI n ≤ x) : pm_idx n x = false := by
  unfold pm_idx
  rcases h with h | h
  · rw [decide_eq_false (Int32.not_le.mpr h)]; rfl
  · rw [decide_eq_false (Int32.not_lt.mpr h), Bool.and_false]
theorem z_ptT {x y : Int32} (h : z_pt x y) : pm_pt x y = true := by
  unfold pm_pt; rw [decide_eq_true h.1, decide_eq_true h.2.1, decide_eq_true h.2.2.1, decide_eq_true h.2.2.2]; rfl
theorem z_ptF {x y : Int32} (h : ¬ z_pt x y) : pm_pt x y = false := by
  cases e : pm_pt x y
  · rfl
  · unfold pm_pt at e
    simp only [Bool.and_eq_true, decide_eq_true_eq] at e
    exact absurd e h
theorem z_dyT {d : Int32} (h : z_day d) : pm_day d = true := by
  unfold pm_day; rw [decide_eq_true h.1, decide_eq_true h.2]; rfl
theorem z_dyF {d : Int32} (h : ¬ z_day d) : pm_day d = false := by
  cases e : pm_day d
  · rfl
  · unfold pm_day at e
    simp only [Bool.and_eq_true, decide_eq_true_eq] at e
    exact absurd e h
theorem z_th1 {b1 b2 b3 : Bool} (h : b1 = false) : pm_th b1 b2 b3 = 1 := by subst h; rfl
theorem z_th2 {b1 b2 b3 : Bool} (h1 : b1 = true) (h2 : b2 = false) : pm_th b1 b2 b3 = 2 := by subst h1; subst h2; rfl
theorem z_th3 {b1 b2 b3 : Bool} (h1 : b1 = true) (h2 : b2 = true) (h3 : b3 = false) : pm_th b1 b2 b3 = 3 := by subst h1; subst h2; subst h3; rfl
theorem z_g1 {b1 b2 b3 : Bool} (h : b1 = false) : (b1 && (b2 && b3)) = false := by subst h; rfl
theorem z_g2 {b1 b2 b3 : Bool} (h2 : b2 = false) : (b1 && (b2 && b3)) = false := by subst h2; cases b1 <;> rfl
theorem z_g3F {b1 b2 b3 : Bool} (h3 : b3 = false) : (b1 && (b2 && b3)) = false := by subst h3; cases b1 <;> cases b2 <;> rfl
theorem z_gT {b1 b2 b3 : Bool} (h1 : b1 = true) (h2 : b2 = true) (h3 : b3 = true) : (b1 && (b2 && b3)) = true := by subst h1; subst h2; subst h3; rfl
theorem z_Ap.new {s : State} {A E : Nat → Nat} {ns o sz : Nat} (h : z_Ap s A ns E o) (hs : s.heap.size ≤ sz) (hE : ∀ j, j < 18 → E j < sz) (ho : o < sz) : z_Ap s (z_An A ns sz) (ns + 1) E o := by
  refine ⟨fun i hi => ?_, h.2⟩
  by_cases c : i < 13 + 3 * ns
  · rw [show z_An A ns sz i = A i from if_pos c]; exact h.1 i c
  · have e : z_An A ns sz i = sz + (i - (13 + 3 * ns)) := if_neg c
    rw [e]
    exact ⟨fun j hj e2 => by have := hE j hj; omega, by omega, by omega⟩
theorem z_anA {A : Nat → Nat} {ns sz : Nat} : ∀ k, k < 13 + 3 * (ns + 1) → (∃ j, j < 13 + 3 * ns ∧ z_An A ns sz k = A j) ∨ sz ≤ z_An A ns sz k := fun k hk => by
  by_cases c : k < 13 + 3 * ns
  · exact Or.inl ⟨k, c, if_pos c⟩
  · right; rw [show z_An A ns sz k = sz + (k - (13 + 3 * ns)) from if_neg c]; omega
