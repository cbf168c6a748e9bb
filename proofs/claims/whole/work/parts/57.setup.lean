theorem xa_0 : (xt_atoms R_B 164 "java/util/NoSuchElementException" 13 z_b13).all (fun w => decide (w ∈ lw_tbl) || decide (w ∈ flatC (Jvm.Cond.and given_1 narrow_1))) = true := by decide +kernel
theorem xa_1 : (xt_atoms R_B 45 "java/lang/IllegalStateException" 7 Bundle.six).all (fun w => decide (w ∈ lw_tbl) || decide (w ∈ flatC (Jvm.Cond.and given_1 narrow_1))) = true := by decide +kernel
theorem xa_2 : (xt_atoms R_B 131 "java/lang/IllegalArgumentException" 7 Bundle.six).all (fun w => decide (w ∈ lw_tbl) || decide (w ∈ flatC (Jvm.Cond.and given_1 narrow_1))) = true := by decide +kernel
theorem xa_3 : (xt_atoms R_O 40 "java/lang/IllegalStateException" 7 Bundle.six).all (fun w => decide (w ∈ lw_tbl) || decide (w ∈ flatC (Jvm.Cond.and given_1 narrow_1))) = true := by decide +kernel
/-- a throw's word does not ask the arguments -/
theorem xa_arg {s : State} {args : Array Value} {w : Cond} (hk : xt_kind w = true) (h : w.before args s = true) : w.before #[] s = true := by
  unfold xt_kind at hk
  split at hk
  · exact h
  · exact h
  · exact h
  · exact h
  · exact word_at (State.WarmedH.refl s) (good_of_word hk) h
theorem xa_at {s : State} {b : Nat} {own X : String} {ic ix : Nat} {by6 : ByteArray} (hts : ∀ w ∈ lw_tbl, w.before #[Value.ref b] s = true) (hgv : (Jvm.Cond.and given_1 narrow_1).before #[Value.ref b] s = true) (h1 : (xt_atoms own ic X ix by6).all (fun w => decide (w ∈ lw_tbl) || decide (w ∈ flatC (Jvm.Cond.and given_1 narrow_1))) = true) (h2 : (xt_atoms own ic X ix by6).all xt_kind = true) : xt_At own ic X ix by6 s := fun w hw => by
  have a := List.all_eq_true.mp h1 w hw
  refine xa_arg (args := #[Value.ref b]) (List.all_eq_true.mp h2 w hw) ?_
  rw [Bool.or_eq_true, decide_eq_true_eq, decide_eq_true_eq] at a
  rcases a with a | a
  · exact hts w a
  · exact flat_of_before _ hgv w a
set_option maxRecDepth 100000 in
set_option maxHeartbeats 4000000 in
theorem z_setup {p : Program} {s : State} {m : MethodId} {meth : Method} {c : Code} {b L : Nat} {xs : Nat → Int32} (C0 : lw_At p s m meth c b L xs) {l : Launch} (hst : l.stackTraces = false) : ∃ (dC : Nat → ClassId) (dI : Nat → Nat → Nat) (cI cS cL : ClassId), z_G s (dC, dI) cI cS ∧ z_GI s cI ∧ z_T s l ∧ z_LX s cL ∧ s.vm.findClass ("[" ++ FieldType.long.toString) = some cL := by
  obtain ⟨hx, hb, hr, hml, hown, hts0, hX, hbl, hlocks, hgv⟩ := C0
  have hz : ∀ w ∈ z_tbl, w.before #[] s = true := fun w hw => word_at (State.WarmedH.refl s) (good_of_word (List.mem_filter.mp hw).2) (hts0 w (List.mem_filter.mp hw).1)
  obtain ⟨c0, i0, k0⟩ := u_known (s := s) (args := #[]) (C := R_N) (T := T_N) (N := 5) hz in_N (hz _ w_24)
  obtain ⟨c1, i1, k1⟩ := u_known (s := s) (args := #[]) (C := R_O) (T := T_O) (N := 5) hz in_O (hz _ w_47)
  obtain ⟨c2, i2, k2⟩ := u_known (s := s) (args := #[]) (C := R_S) (T := T_S) (N := 9) hz in_S (hz _ w_220)
  obtain ⟨c3, i3, k3⟩ := u_known (s := s) (args := #[]) (C := R_B) (T := T_B) (N := 7) hz in_B (hz _ w_14)
  obtain ⟨c4, i4, k4⟩ := u_known (s := s) (args := #[]) (C := R_M) (T := T_M) (N := 23) hz in_M (hz _ w_535)
  obtain ⟨cI, kI, pI, hcI, hkI, hdI⟩ := Cond.arrayClass_spec (hz _ w_45)
  obtain ⟨cL, kL, pL, hcL, hkL, hdL⟩ := Cond.arrayClass_spec (hz _ w_750)
  have hAO : va_AO "BorderDays$Shape" s := va_AO.of (hts0 _ (List.mem_of_getElem? (i := 53) (by decide +kernel)))
  obtain ⟨pS, cS, kS, hpS, -, hkS, hdS, hcS⟩ := Cond.arrayOver_spec (va_AO.use (A := #[]) hAO)
  have hK : va_K ((fun k => match k with | 0 => c0 | 1 => c1 | 2 => c2 | 3 => c3 | _ => c4), (fun k => match k with | 0 => i0 | 1 => i1 | 2 => i2 | 3 => i3 | _ => i4)) vwCl [] s := by
    refine ⟨fun q r hq => ?_, fun k q hq => by cases hq⟩
    rcases q with _ | _ | _ | _ | _ | q
    · cases hq; exact k0
    · cases hq; exact k1
    · cases hq; exact k2
    · cases hq; exact k3
    · cases hq; exact k4
    · cases hq
  refine ⟨_, _, cI, cS, cL, ⟨hz, fun w hw => ?_, hK, fun n z => ⟨fun k h => (by cases h), kI, hkI, pI, hdI⟩, fun n z => ⟨fun k h => (by cases h), kS, hkS, pS, hdS⟩, kS, pS, hkS, hdS, hpS, hcS⟩, ⟨hcI, hAO⟩, ⟨hst, ⟨xa_at hts0 hgv xa_0 k_B_NSE, xa_at hts0 hgv xa_1 k_B_ISE, xa_at hts0 hgv xa_2 k_B_IAE, xa_at hts0 hgv xa_3 k_O_ISE⟩, fun q hq => ?_⟩, ⟨fun n z => ⟨fun k h => (by cases h), kL, hkL, pL, hdL⟩, va_Nc.of (flat_of_before _ hgv _ (by decide +kernel)), va_Nc.of (flat_of_before _ hgv _ (by decide +kernel)), va_Nc.of (flat_of_before _ hgv _ (by decide +kernel))⟩, hcL⟩
  · simp only [z_nst, List.mem_cons, List.not_mem_nil, or_false] at hw
    rcases hw with rfl | rfl | rfl
    · exact va_Nw.of rfl (hts0 _ (List.mem_of_getElem? (i := 353) (by decide +kernel)))
    · exact va_Nw.of rfl (hts0 _ (List.mem_of_getElem? (i := 366) (by decide +kernel)))
    · exact va_Nw.of rfl (hts0 _ (List.mem_of_getElem? (i := 534) (by decide +kernel)))
  · simp only [List.mem_cons, List.not_mem_nil, or_false] at hq
    have sr : ∀ (own tx : String) (k : Nat) (d : ClassId), s.vm.findClass own = some d → (Cond.stringRef own k tx).before #[Value.ref b] s = true → ∃ a, vk_R own k tx a s := fun own tx k d hd h => by
      obtain ⟨k9, cf, i9, a, -, -, -, -, -, hev⟩ := Cond.stringRef_spec hd h
      exact ⟨a, h, hev⟩
    rcases hq with rfl | rfl | rfl | rfl | rfl | rfl | rfl | rfl | rfl | rfl | rfl | rfl | rfl | rfl | rfl
    · exact sr _ _ _ _ k3.2.1 (hts0 _ (List.mem_of_getElem? (i := 175) (by decide +kernel)))
    · exact sr _ _ _ _ k3.2.1 (hts0 _ (List.mem_of_getElem? (i := 211) (by decide +kernel)))
    · exact sr _ _ _ _ k3.2.1 (hts0 _ (List.mem_of_getElem? (i := 242) (by decide +kernel)))
    · exact sr _ _ _ _ k3.2.1 (hts0 _ (List.mem_of_getElem? (i := 249) (by decide +kernel)))
    · exact sr _ _ _ _ k3.2.1 (hts0 _ (List.mem_of_getElem? (i := 250) (by decide +kernel)))
    · exact sr _ _ _ _ k3.2.1 (hts0 _ (List.mem_of_getElem? (i := 299) (by decide +kernel)))
    · exact sr _ _ _ _ k3.2.1 (hts0 _ (List.mem_of_getElem? (i := 303) (by decide +kernel)))
    · exact sr _ _ _ _ k3.2.1 (hts0 _ (List.mem_of_getElem? (i := 312) (by decide +kernel)))
    · exact sr _ _ _ _ k3.2.1 (hts0 _ (List.mem_of_getElem? (i := 409) (by decide +kernel)))
    · exact sr _ _ _ _ k3.2.1 (hts0 _ (List.mem_of_getElem? (i := 478) (by decide +kernel)))
    · exact sr _ _ _ _ k3.2.1 (hts0 _ (List.mem_of_getElem? (i := 483) (by decide +kernel)))
    · exact sr _ _ _ _ k3.2.1 (hts0 _ (List.mem_of_getElem? (i := 510) (by decide +kernel)))
    · exact sr _ _ _ _ k3.2.1 (hts0 _ (List.mem_of_getElem? (i := 525) (by decide +kernel)))
    · exact sr _ _ _ _ k1.2.1 (hts0 _ (List.mem_of_getElem? (i := 552) (by decide +kernel)))
    · exact sr _ _ _ _ k3.2.1 (hts0 _ (List.mem_of_getElem? (i := 561) (by decide +kernel)))
