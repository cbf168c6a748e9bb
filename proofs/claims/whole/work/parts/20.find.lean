theorem po_or_as (a b c : Option (Nat × Nat × Nat)) : po_or (po_or a b) c = po_or a (po_or b c) := by cases a <;> rfl
section S8
variable {s0 : State} {dC : Nat → ClassId} {dI : Nat → Nat → Nat} {cI cS : ClassId} {l : Launch}
set_option maxRecDepth 100000 in
set_option maxHeartbeats 4000000 in
theorem c_O_find (G : z_G s0 (dC, dI) cI cS) (a b1 b2 b3 b4 n : Nat) (mx my px py : Nat → Int32) (x y a0 : Int32) (t0 : Nat × Nat × Nat) (hn : n ≤ 12) (hf : po_fi mx my x y n n 0 = some t0) (hq : ∀ i j k : Nat, i < 12 → j < 12 → k < 12 → ¬ po_sh mx my j k x y + po_sh mx my k i x y + po_sh mx my i j x y = 0 → ¬ 2 * (if 0 < po_sh mx my j k x y + po_sh mx my k i x y + po_sh mx my i j x y then po_sh mx my j k x y + po_sh mx my k i x y + po_sh mx my i j x y else -(po_sh mx my j k x y + po_sh mx my k i x y + po_sh mx my i j x y)) = 0) : Met l y_O_find [Cond.code y_O_find b_O_find 8 (some .int)] ({ frames := 3, cells := 0, slots := 0, locals := 84 }) (z_Pc s0 [.ref a, .int x, .int y, .int a0] (fun H => z_Om (dC, dI) cI H a b1 b2 b3 b4 n mx my px py)) (z_Qr (some (.int (po_val mx my (if a0 = 0 then px else py) t0.1 t0.2.1 t0.2.2 x y)))) 0 0 z_no := by
  refine z_ofW (by decide +kernel) (Nat.le_of_ble_eq_true rfl) ?_
  intro p e s m below meth c hx hb hml hr hown hlocks hnm hW0 hB ls hl
  have hts := z_hts (args := [.ref a, .int x, .int y, .int a0].toArray) G.1 hW0
  have hN := z_nstW G.2.1 hW0
  have hK := va_K.moved hW0.alike G.2.2.1
  have hAI := arrOfT_moved hW0.alike G.2.2.2.1
  have hl : lv_has ls 8 [(0, .ref a), (1, .int x), (2, .int y), (3, .int a0)] := hl
  have hOm := hB
  obtain ⟨hO, hA1, hA2, hA3, hA4⟩ := id hB
  have loops : ∀ f : Nat, (∀ (i : Nat), (n - i) * 400 + 399 < f → (i ≤ n) → (po_fi mx my x y n (n - i) i = some t0) → ∀ ls : Array Slot, lv_has ls 8 [(0, .ref a), (1, .int x), (2, .int y), (3, .int a0), (4, .int (nI i))] → W p l e ({ frames := 3, cells := 0, slots := 0, locals := 84 }) s m [.ref a, .int x, .int y, .int a0].toArray below meth c s.heap [] 0 0 (MQ below (z_Qr (some (.int (po_val mx my (if a0 = 0 then px else py) t0.1 t0.2.1 t0.2.2 x y)))) [.ref a, .int x, .int y, .int a0].toArray s 0 0 z_no) (F0 m 3 ls [])) ∧ (∀ (i j : Nat), (n - i) * 400 + (n - j) * 20 + 19 < f → (i < n) → (j ≤ n) → (po_or (po_fj mx my x y n i (n - j) j) (po_fi mx my x y n (n - (i + 1)) (i + 1)) = some t0) → ∀ ls : Array Slot, lv_has ls 8 [(0, .ref a), (1, .int x), (2, .int y), (3, .int a0), (4, .int (nI i)), (5, .int (nI j))] → W p l e ({ frames := 3, cells := 0, slots := 0, locals := 84 }) s m [.ref a, .int x, .int y, .int a0].toArray below meth c s.heap [] 0 0 (MQ below (z_Qr (some (.int (po_val mx my (if a0 = 0 then px else py) t0.1 t0.2.1 t0.2.2 x y)))) [.ref a, .int x, .int y, .int a0].toArray s 0 0 z_no) (F0 m 18 ls [])) ∧ (∀ (i j k : Nat), (n - i) * 400 + (n - j) * 20 + (n - k) < f → (i < n) → (j < n) → (k ≤ n) → (po_or (po_fk mx my x y i j (n - k) k) (po_or (po_fj mx my x y n i (n - (j + 1)) (j + 1)) (po_fi mx my x y n (n - (i + 1)) (i + 1))) = some t0) → ∀ ls : Array Slot, lv_has ls 8 [(0, .ref a), (1, .int x), (2, .int y), (3, .int a0), (4, .int (nI i)), (5, .int (nI j)), (6, .int (nI k))] → W p l e ({ frames := 3, cells := 0, slots := 0, locals := 84 }) s m [.ref a, .int x, .int y, .int a0].toArray below meth c s.heap [] 0 0 (MQ below (z_Qr (some (.int (po_val mx my (if a0 = 0 then px else py) t0.1 t0.2.1 t0.2.2 x y)))) [.ref a, .int x, .int y, .int a0].toArray s 0 0 z_no) (F0 m 33 ls [])) := by
    intro f
    induction f with
    | zero => exact ⟨fun _ h => absurd h (Nat.not_lt_zero _), fun _ _ h => absurd h (Nat.not_lt_zero _), fun _ _ _ h => absurd h (Nat.not_lt_zero _)⟩
    | succ f ih =>
      refine ⟨?_, ?_, ?_⟩
      · skip
        intro i hmu hi hres ls hl
        refine lv_iload hx hb d_O_find_3 (lv_at hl 4 rfl) ?_
        refine lv_aload_n hx hb d_O_find_5 rfl (lv_at hl 0 rfl) ?_
        refine va_get (D := (dC, dI)) (ci := 1) (v := .int (nI n)) (C := R_O) (T := T_O) (N := 5) hx hb hts in_O hown hK hO.P 0 rfl rfl 4 (by decide) (hts _ w_56) (fun _ h9 => h9) rfl d_O_find_6 ?_
        refine lv_icmp_ge (tgt := 107) hx hb d_O_find_9 (by decide) (fun c_101 => ?_) (fun c_101 => ?_)
        · skip
          have c_101 : n ≤ i := (nI_leI (a := n) (b := i) (by omega) (by omega)).mp c_101
          exfalso
          rw [show n - i = 0 by omega] at hres
          simp [po_fi] at hres
        · skip
          have c_101 : ¬ (n ≤ i) := fun h => c_101 ((nI_leI (a := n) (b := i) (by omega) (by omega)).mpr h)
          refine lv_iload hx hb d_O_find_12 (lv_at hl 4 rfl) ?_
          refine lv_iconst (v := 1) hx hb d_O_find_14 (by decide) ?_
          refine lv_iadd hx hb d_O_find_15 ?_
          refine z_topi (y := nI (i + 1)) (nI_add i 1) ?_
          refine lv_istore (lv' := [(5, .int (nI (i + 1))), (0, .ref a), (1, .int x), (2, .int y), (3, .int a0), (4, .int (nI i))]) hx hb d_O_find_16 hl (by decide) rfl (fun ls hl => ?_)
          exact ih.2.1 i (i + 1) (by omega) (by omega) (by omega) (by rw [show n - i = (n - (i + 1)) + 1 by omega] at hres; simpa only [po_fi] using hres) ls (lv_sub hl [1, 2, 3, 4, 5, 0] rfl)
      · skip
        intro i j hmu hi hj hres ls hl
        refine lv_iload hx hb d_O_find_18 (lv_at hl 5 rfl) ?_
        refine lv_aload_n hx hb d_O_find_20 rfl (lv_at hl 0 rfl) ?_
        refine va_get (D := (dC, dI)) (ci := 1) (v := .int (nI n)) (C := R_O) (T := T_O) (N := 5) hx hb hts in_O hown hK hO.P 0 rfl rfl 4 (by decide) (hts _ w_56) (fun _ h9 => h9) rfl d_O_find_21 ?_
        refine lv_icmp_ge (tgt := 101) hx hb d_O_find_24 (by decide) (fun c_201 => ?_) (fun c_201 => ?_)
        · skip
          have c_201 : n ≤ j := (nI_leI (a := n) (b := j) (by omega) (by omega)).mp c_201
          refine lv_iinc (v := nI (i + 1)) (lv' := [(4, .int (nI (i + 1))), (0, .ref a), (1, .int x), (2, .int y), (3, .int a0), (5, .int (nI j))]) hx hb d_O_find_101 hl (k := 4) rfl (nI_1 i) (by decide) rfl (fun ls hl => ?_)
          refine lv_goto (tgt := 3) hx hb d_O_find_104 (by decide) ?_
          exact ih.1 (i + 1) (by omega) (by omega) (by rw [show n - j = 0 by omega] at hres; simpa only [po_fj, po_or] using hres) ls (lv_sub hl [1, 2, 3, 4, 0] rfl)
        · skip
          have c_201 : ¬ (n ≤ j) := fun h => c_201 ((nI_leI (a := n) (b := j) (by omega) (by omega)).mpr h)
          refine lv_iload hx hb d_O_find_27 (lv_at hl 5 rfl) ?_
          refine lv_iconst (v := 1) hx hb d_O_find_29 (by decide) ?_
          refine lv_iadd hx hb d_O_find_30 ?_
          refine z_topi (y := nI (j + 1)) (nI_add j 1) ?_
          refine lv_istore (lv' := [(6, .int (nI (j + 1))), (0, .ref a), (1, .int x), (2, .int y), (3, .int a0), (4, .int (nI i)), (5, .int (nI j))]) hx hb d_O_find_31 hl (by decide) rfl (fun ls hl => ?_)
          exact ih.2.2 i j (j + 1) (by omega) (by omega) (by omega) (by omega) (by rw [show n - j = (n - (j + 1)) + 1 by omega] at hres; simp only [po_fj] at hres; rw [po_or_as] at hres; exact hres) ls (lv_sub hl [1, 2, 3, 4, 5, 6, 0] rfl)
      · skip
        intro i j k hmu hi hj hk hres ls hl
        refine lv_iload hx hb d_O_find_33 (lv_at hl 6 rfl) ?_
        refine lv_aload_n hx hb d_O_find_35 rfl (lv_at hl 0 rfl) ?_
        refine va_get (D := (dC, dI)) (ci := 1) (v := .int (nI n)) (C := R_O) (T := T_O) (N := 5) hx hb hts in_O hown hK hO.P 0 rfl rfl 4 (by decide) (hts _ w_56) (fun _ h9 => h9) rfl d_O_find_36 ?_
        refine lv_icmp_ge (tgt := 95) hx hb d_O_find_39 (by decide) (fun c_301 => ?_) (fun c_301 => ?_)
        · skip
          have c_301 : n ≤ k := (nI_leI (a := n) (b := k) (by omega) (by omega)).mp c_301
          refine lv_iinc (v := nI (j + 1)) (lv' := [(5, .int (nI (j + 1))), (0, .ref a), (1, .int x), (2, .int y), (3, .int a0), (4, .int (nI i)), (6, .int (nI k))]) hx hb d_O_find_95 hl (k := 5) rfl (nI_1 j) (by decide) rfl (fun ls hl => ?_)
          refine lv_goto (tgt := 18) hx hb d_O_find_98 (by decide) ?_
          exact ih.2.1 i (j + 1) (by omega) (by omega) (by omega) (by rw [show n - k = 0 by omega] at hres; simpa only [po_fk, po_or] using hres) ls (lv_sub hl [1, 2, 3, 4, 5, 0] rfl)
        · skip
          have c_301 : ¬ (n ≤ k) := fun h => c_301 ((nI_leI (a := n) (b := k) (by omega) (by omega)).mpr h)
          refine lv_aload_n hx hb d_O_find_42 rfl (lv_at hl 0 rfl) ?_
          refine lv_iload hx hb d_O_find_43 (lv_at hl 4 rfl) ?_
          refine lv_iload hx hb d_O_find_45 (lv_at hl 5 rfl) ?_
          refine lv_iload hx hb d_O_find_47 (lv_at hl 6 rfl) ?_
          refine lv_iload_n hx hb d_O_find_49 rfl (lv_at hl 1 rfl) ?_
          refine lv_iload_n hx hb d_O_find_50 rfl (lv_at hl 2 rfl) ?_
          refine z_rdV (n := 5) (C := R_O) (rest := []) ⟨hx, hb, hml, hown, hts⟩ hW0 (c_O_haveBetween G a b1 b2 b3 b4 n mx my px py i j k x y (by omega) (by omega) (by omega)) w_502 w_499 w_501 wp_15 w_3 (by decide +kernel) ⟨rfl, rfl, Nat.le_of_ble_eq_true rfl, Nat.le_of_ble_eq_true rfl⟩ (hO.recv hK rfl) (hOm) rfl rfl hl.1 (Nat.le_of_ble_eq_true rfl) d_O_find_51 ⟨Nat.zero_le _, Nat.zero_le _⟩ ?_
          refine lv_if_eq (tgt := 89) hx hb d_O_find_54 (by decide) (fun c_302 => ?_) (fun c_302 => ?_)
          · skip
            have c_302 : (po_hb mx my i j k x y) = false := pi_b_0.mp c_302
            refine lv_iinc (v := nI (k + 1)) (lv' := [(6, .int (nI (k + 1))), (0, .ref a), (1, .int x), (2, .int y), (3, .int a0), (4, .int (nI i)), (5, .int (nI j))]) hx hb d_O_find_89 hl (k := 6) rfl (nI_1 k) (by decide) rfl (fun ls hl => ?_)
            refine lv_goto (tgt := 33) hx hb d_O_find_92 (by decide) ?_
            exact ih.2.2 i j (k + 1) (by omega) (by omega) (by omega) (by omega) (by rw [show n - k = (n - (k + 1)) + 1 by omega] at hres; simpa [po_fk, c_302] using hres) ls (lv_sub hl [1, 2, 3, 4, 5, 6, 0] rfl)
          · skip
            have c_302 : (po_hb mx my i j k x y) = true := pi_b_1.mp c_302
            refine lv_iload_n hx hb d_O_find_57 rfl (lv_at hl 3 rfl) ?_
            refine lv_if_ne (tgt := 68) hx hb d_O_find_58 (by decide) (fun c_303 => ?_) (fun c_303 => ?_)
            · skip
              refine lv_aload_n hx hb d_O_find_68 rfl (lv_at hl 0 rfl) ?_
              refine va_get (D := (dC, dI)) (ci := 1) (v := .ref b4) (C := R_O) (T := T_O) (N := 5) hx hb hts in_O hown hK hO.P 0 rfl rfl 3 (by decide) (hts _ w_55) (fun _ h9 => h9) rfl d_O_find_69 ?_
              refine lv_astore (lv' := [(7, .ref b4), (0, .ref a), (1, .int x), (2, .int y), (3, .int a0), (4, .int (nI i)), (5, .int (nI j)), (6, .int (nI k))]) hx hb d_O_find_72 hl (by decide) rfl (fun ls hl => ?_)
              refine lv_aload_n hx hb d_O_find_74 rfl (lv_at hl 1 rfl) ?_
              refine lv_iload hx hb d_O_find_75 (lv_at hl 5 rfl) ?_
              refine lv_iload hx hb d_O_find_77 (lv_at hl 6 rfl) ?_
              refine lv_iload hx hb d_O_find_79 (lv_at hl 7 rfl) ?_
              refine lv_iload_n hx hb d_O_find_81 rfl (lv_at hl 2 rfl) ?_
              refine lv_iload_n hx hb d_O_find_82 rfl (lv_at hl 3 rfl) ?_
              refine lv_aload hx hb d_O_find_83 (lv_at hl 0 rfl) ?_
              refine z_rdV (n := 6) (C := R_O) (rest := []) ⟨hx, hb, hml, hown, hts⟩ hW0 (c_O_valueBetween G a b1 b2 b3 b4 n mx my px py b4 py i j k x y (by omega) (by omega) (by omega) (hq i j k (by omega) (by omega) (by omega))) w_511 w_508 w_510 wp_17 w_3 (by decide +kernel) ⟨rfl, rfl, Nat.le_of_ble_eq_true rfl, Nat.le_of_ble_eq_true rfl⟩ (hO.recv hK rfl) (⟨hOm, hA4⟩) rfl rfl hl.1 (Nat.le_of_ble_eq_true rfl) d_O_find_85 ⟨Nat.zero_le _, Nat.zero_le _⟩ ?_
              exact z_iret hx hb hr hlocks (by rw [show n - k = (n - (k + 1)) + 1 by omega] at hres; simp [po_fk, po_or, c_302] at hres; subst hres; simp [c_303]) d_O_find_88
            · skip
              refine lv_aload_n hx hb d_O_find_61 rfl (lv_at hl 0 rfl) ?_
              refine va_get (D := (dC, dI)) (ci := 1) (v := .ref b3) (C := R_O) (T := T_O) (N := 5) hx hb hts in_O hown hK hO.P 0 rfl rfl 2 (by decide) (hts _ w_54) (fun _ h9 => h9) rfl d_O_find_62 ?_
              refine lv_goto (tgt := 72) hx hb d_O_find_65 (by decide) ?_
              refine lv_astore (lv' := [(7, .ref b3), (0, .ref a), (1, .int x), (2, .int y), (3, .int a0), (4, .int (nI i)), (5, .int (nI j)), (6, .int (nI k))]) hx hb d_O_find_72 hl (by decide) rfl (fun ls hl => ?_)
              refine lv_aload_n hx hb d_O_find_74 rfl (lv_at hl 1 rfl) ?_
              refine lv_iload hx hb d_O_find_75 (lv_at hl 5 rfl) ?_
              refine lv_iload hx hb d_O_find_77 (lv_at hl 6 rfl) ?_
              refine lv_iload hx hb d_O_find_79 (lv_at hl 7 rfl) ?_
              refine lv_iload_n hx hb d_O_find_81 rfl (lv_at hl 2 rfl) ?_
              refine lv_iload_n hx hb d_O_find_82 rfl (lv_at hl 3 rfl) ?_
              refine lv_aload hx hb d_O_find_83 (lv_at hl 0 rfl) ?_
              refine z_rdV (n := 6) (C := R_O) (rest := []) ⟨hx, hb, hml, hown, hts⟩ hW0 (c_O_valueBetween G a b1 b2 b3 b4 n mx my px py b3 px i j k x y (by omega) (by omega) (by omega) (hq i j k (by omega) (by omega) (by omega))) w_511 w_508 w_510 wp_17 w_3 (by decide +kernel) ⟨rfl, rfl, Nat.le_of_ble_eq_true rfl, Nat.le_of_ble_eq_true rfl⟩ (hO.recv hK rfl) (⟨hOm, hA3⟩) rfl rfl hl.1 (Nat.le_of_ble_eq_true rfl) d_O_find_85 ⟨Nat.zero_le _, Nat.zero_le _⟩ ?_
              exact z_iret hx hb hr hlocks (by rw [show n - k = (n - (k + 1)) + 1 by omega] at hres; simp [po_fk, po_or, c_302] at hres; subst hres; simp [c_303]) d_O_find_88
  refine lv_iconst (v := 0) hx hb d_O_find_0 (by decide) ?_
  refine lv_istore (lv' := [(4, .int 0), (0, .ref a), (1, .int x), (2, .int y), (3, .int a0)]) hx hb d_O_find_1 hl (by decide) rfl (fun ls hl => ?_)
  exact (loops (((n - 0) * 400 + 399) + 1)).1 0 (by omega) (by omega) (by simpa using hf) ls (lv_sub hl [1, 2, 3, 4, 0] rfl)
set_option maxRecDepth 100000 in
set_option maxHeartbeats 4000000 in
theorem t_O_find (G : z_G s0 (dC, dI) cI cS) (hT : z_T s0 l) (a b1 b2 b3 b4 n : Nat) (mx my px py : Nat → Int32) (x y a0 : Int32) (hn : n ≤ 12) (hf : po_fi mx my x y n n 0 = none) : xt_Met l y_O_find [Cond.code y_O_find b_O_find 8 (some .int)] ({ frames := 6, cells := 1, slots := 6, locals := 82 }) (z_Pc s0 [.ref a, .int x, .int y, .int a0] (fun H => z_Old s0 H ∧ z_Om (dC, dI) cI H a b1 b2 b3 b4 n mx my px py)) "java/lang/IllegalStateException" := by
  refine z_ofWX (by decide +kernel) (Nat.le_of_ble_eq_true rfl) ?_
  intro p e s m below meth c hx hb hml hadm hown hlocks hno hW0 hB ls hl
  have hts := z_hts (args := [.ref a, .int x, .int y, .int a0].toArray) G.1 hW0
  have hN := z_nstW G.2.1 hW0
  have hK := va_K.moved hW0.alike G.2.2.1
  have hAI := arrOfT_moved hW0.alike G.2.2.2.1
  have hl : lv_has ls 8 [(0, .ref a), (1, .int x), (2, .int y), (3, .int a0)] := hl
  obtain ⟨hOld, hOm⟩ := id hB
  obtain ⟨hO, hA1, hA2, hA3, hA4⟩ := id hOm
  have loops : ∀ f : Nat, (∀ (i : Nat), (n - i) * 400 + 399 < f → (i ≤ n) → (po_fi mx my x y n (n - i) i = none) → ∀ ls : Array Slot, lv_has ls 8 [(0, .ref a), (1, .int x), (2, .int y), (3, .int a0), (4, .int (nI i))] → W p l e ({ frames := 6, cells := 1, slots := 6, locals := 82 }) s m [.ref a, .int x, .int y, .int a0].toArray below meth c s.heap [] 0 0 (xt_Z below "java/lang/IllegalStateException" [.ref a, .int x, .int y, .int a0].toArray s) (F0 m 3 ls [])) ∧ (∀ (i j : Nat), (n - i) * 400 + (n - j) * 20 + 19 < f → (i < n) → (j ≤ n) → (po_or (po_fj mx my x y n i (n - j) j) (po_fi mx my x y n (n - (i + 1)) (i + 1)) = none) → ∀ ls : Array Slot, lv_has ls 8 [(0, .ref a), (1, .int x), (2, .int y), (3, .int a0), (4, .int (nI i)), (5, .int (nI j))] → W p l e ({ frames := 6, cells := 1, slots := 6, locals := 82 }) s m [.ref a, .int x, .int y, .int a0].toArray below meth c s.heap [] 0 0 (xt_Z below "java/lang/IllegalStateException" [.ref a, .int x, .int y, .int a0].toArray s) (F0 m 18 ls [])) ∧ (∀ (i j k : Nat), (n - i) * 400 + (n - j) * 20 + (n - k) < f → (i < n) → (j < n) → (k ≤ n) → (po_or (po_fk mx my x y i j (n - k) k) (po_or (po_fj mx my x y n i (n - (j + 1)) (j + 1)) (po_fi mx my x y n (n - (i + 1)) (i + 1))) = none) → ∀ ls : Array Slot, lv_has ls 8 [(0, .ref a), (1, .int x), (2, .int y), (3, .int a0), (4, .int (nI i)), (5, .int (nI j)), (6, .int (nI k))] → W p l e ({ frames := 6, cells := 1, slots := 6, locals := 82 }) s m [.ref a, .int x, .int y, .int a0].toArray below meth c s.heap [] 0 0 (xt_Z below "java/lang/IllegalStateException" [.ref a, .int x, .int y, .int a0].toArray s) (F0 m 33 ls [])) := by
    intro f
    induction f with
    | zero => exact ⟨fun _ h => absurd h (Nat.not_lt_zero _), fun _ _ h => absurd h (Nat.not_lt_zero _), fun _ _ _ h => absurd h (Nat.not_lt_zero _)⟩
    | succ f ih =>
      refine ⟨?_, ?_, ?_⟩
      · skip
        intro i hmu hi hres ls hl
        refine lv_iload hx hb d_O_find_3 (lv_at hl 4 rfl) ?_
        refine lv_aload_n hx hb d_O_find_5 rfl (lv_at hl 0 rfl) ?_
        refine va_get (D := (dC, dI)) (ci := 1) (v := .int (nI n)) (C := R_O) (T := T_O) (N := 5) hx hb hts in_O hown hK hO.P 0 rfl rfl 4 (by decide) (hts _ w_56) (fun _ h9 => h9) rfl d_O_find_6 ?_
        refine lv_icmp_ge (tgt := 107) hx hb d_O_find_9 (by decide) (fun c_101 => ?_) (fun c_101 => ?_)
        · skip
          have c_101 : n ≤ i := (nI_leI (a := n) (b := i) (by omega) (by omega)).mp c_101
          exact xt_new hx hb hT.1 hown hW0 hOld (by decide +kernel) hT.2.1.2.2.2 k_O_ISE k_7 (hT.2.2 (R_O, 38, "no three marks place the point") (List.mem_of_getElem? (i := 13) rfl)) (hts _ w_520) (hts _ w_9) hno hlocks (hl.1.trans hml.symm) d_O_find_107 d_O_find_110 d_O_find_111 d_O_find_113 d_O_find_116 (Nat.le_of_ble_eq_true rfl) (Nat.le_of_ble_eq_true rfl) (Nat.le_of_ble_eq_true rfl) (Nat.le_of_ble_eq_true rfl)
        · skip
          have c_101 : ¬ (n ≤ i) := fun h => c_101 ((nI_leI (a := n) (b := i) (by omega) (by omega)).mpr h)
          refine lv_iload hx hb d_O_find_12 (lv_at hl 4 rfl) ?_
          refine lv_iconst (v := 1) hx hb d_O_find_14 (by decide) ?_
          refine lv_iadd hx hb d_O_find_15 ?_
          refine z_topi (y := nI (i + 1)) (nI_add i 1) ?_
          refine lv_istore (lv' := [(5, .int (nI (i + 1))), (0, .ref a), (1, .int x), (2, .int y), (3, .int a0), (4, .int (nI i))]) hx hb d_O_find_16 hl (by decide) rfl (fun ls hl => ?_)
          exact ih.2.1 i (i + 1) (by omega) (by omega) (by omega) (by rw [show n - i = (n - (i + 1)) + 1 by omega] at hres; simpa only [po_fi] using hres) ls (lv_sub hl [1, 2, 3, 4, 5, 0] rfl)
      · skip
        intro i j hmu hi hj hres ls hl
        refine lv_iload hx hb d_O_find_18 (lv_at hl 5 rfl) ?_
        refine lv_aload_n hx hb d_O_find_20 rfl (lv_at hl 0 rfl) ?_
        refine va_get (D := (dC, dI)) (ci := 1) (v := .int (nI n)) (C := R_O) (T := T_O) (N := 5) hx hb hts in_O hown hK hO.P 0 rfl rfl 4 (by decide) (hts _ w_56) (fun _ h9 => h9) rfl d_O_find_21 ?_
        refine lv_icmp_ge (tgt := 101) hx hb d_O_find_24 (by decide) (fun c_201 => ?_) (fun c_201 => ?_)
        · skip
          have c_201 : n ≤ j := (nI_leI (a := n) (b := j) (by omega) (by omega)).mp c_201
          refine lv_iinc (v := nI (i + 1)) (lv' := [(4, .int (nI (i + 1))), (0, .ref a), (1, .int x), (2, .int y), (3, .int a0), (5, .int (nI j))]) hx hb d_O_find_101 hl (k := 4) rfl (nI_1 i) (by decide) rfl (fun ls hl => ?_)
          refine lv_goto (tgt := 3) hx hb d_O_find_104 (by decide) ?_
          exact ih.1 (i + 1) (by omega) (by omega) (by rw [show n - j = 0 by omega] at hres; simpa only [po_fj, po_or] using hres) ls (lv_sub hl [1, 2, 3, 4, 0] rfl)
        · skip
          have c_201 : ¬ (n ≤ j) := fun h => c_201 ((nI_leI (a := n) (b := j) (by omega) (by omega)).mpr h)
          refine lv_iload hx hb d_O_find_27 (lv_at hl 5 rfl) ?_
          refine lv_iconst (v := 1) hx hb d_O_find_29 (by decide) ?_
          refine lv_iadd hx hb d_O_find_30 ?_
          refine z_topi (y := nI (j + 1)) (nI_add j 1) ?_
          refine lv_istore (lv' := [(6, .int (nI (j + 1))), (0, .ref a), (1, .int x), (2, .int y), (3, .int a0), (4, .int (nI i)), (5, .int (nI j))]) hx hb d_O_find_31 hl (by decide) rfl (fun ls hl => ?_)
          exact ih.2.2 i j (j + 1) (by omega) (by omega) (by omega) (by omega) (by rw [show n - j = (n - (j + 1)) + 1 by omega] at hres; simp only [po_fj] at hres; rw [po_or_as] at hres; exact hres) ls (lv_sub hl [1, 2, 3, 4, 5, 6, 0] rfl)
      · skip
        intro i j k hmu hi hj hk hres ls hl
        refine lv_iload hx hb d_O_find_33 (lv_at hl 6 rfl) ?_
        refine lv_aload_n hx hb d_O_find_35 rfl (lv_at hl 0 rfl) ?_
        refine va_get (D := (dC, dI)) (ci := 1) (v := .int (nI n)) (C := R_O) (T := T_O) (N := 5) hx hb hts in_O hown hK hO.P 0 rfl rfl 4 (by decide) (hts _ w_56) (fun _ h9 => h9) rfl d_O_find_36 ?_
        refine lv_icmp_ge (tgt := 95) hx hb d_O_find_39 (by decide) (fun c_301 => ?_) (fun c_301 => ?_)
        · skip
          have c_301 : n ≤ k := (nI_leI (a := n) (b := k) (by omega) (by omega)).mp c_301
          refine lv_iinc (v := nI (j + 1)) (lv' := [(5, .int (nI (j + 1))), (0, .ref a), (1, .int x), (2, .int y), (3, .int a0), (4, .int (nI i)), (6, .int (nI k))]) hx hb d_O_find_95 hl (k := 5) rfl (nI_1 j) (by decide) rfl (fun ls hl => ?_)
          refine lv_goto (tgt := 18) hx hb d_O_find_98 (by decide) ?_
          exact ih.2.1 i (j + 1) (by omega) (by omega) (by omega) (by rw [show n - k = 0 by omega] at hres; simpa only [po_fk, po_or] using hres) ls (lv_sub hl [1, 2, 3, 4, 5, 0] rfl)
        · skip
          have c_301 : ¬ (n ≤ k) := fun h => c_301 ((nI_leI (a := n) (b := k) (by omega) (by omega)).mpr h)
          refine lv_aload_n hx hb d_O_find_42 rfl (lv_at hl 0 rfl) ?_
          refine lv_iload hx hb d_O_find_43 (lv_at hl 4 rfl) ?_
          refine lv_iload hx hb d_O_find_45 (lv_at hl 5 rfl) ?_
          refine lv_iload hx hb d_O_find_47 (lv_at hl 6 rfl) ?_
          refine lv_iload_n hx hb d_O_find_49 rfl (lv_at hl 1 rfl) ?_
          refine lv_iload_n hx hb d_O_find_50 rfl (lv_at hl 2 rfl) ?_
          refine z_rdV (n := 5) (C := R_O) (rest := []) ⟨hx, hb, hml, hown, hts⟩ hW0 (c_O_haveBetween G a b1 b2 b3 b4 n mx my px py i j k x y (by omega) (by omega) (by omega)) w_502 w_499 w_501 wp_15 w_3 (by decide +kernel) ⟨rfl, rfl, Nat.le_of_ble_eq_true rfl, Nat.le_of_ble_eq_true rfl⟩ (hO.recv hK rfl) (hOm) rfl rfl hl.1 (Nat.le_of_ble_eq_true rfl) d_O_find_51 ⟨Nat.zero_le _, Nat.zero_le _⟩ ?_
          refine lv_if_eq (tgt := 89) hx hb d_O_find_54 (by decide) (fun c_302 => ?_) (fun c_302 => ?_)
          · skip
            have c_302 : (po_hb mx my i j k x y) = false := pi_b_0.mp c_302
            refine lv_iinc (v := nI (k + 1)) (lv' := [(6, .int (nI (k + 1))), (0, .ref a), (1, .int x), (2, .int y), (3, .int a0), (4, .int (nI i)), (5, .int (nI j))]) hx hb d_O_find_89 hl (k := 6) rfl (nI_1 k) (by decide) rfl (fun ls hl => ?_)
            refine lv_goto (tgt := 33) hx hb d_O_find_92 (by decide) ?_
            exact ih.2.2 i j (k + 1) (by omega) (by omega) (by omega) (by omega) (by rw [show n - k = (n - (k + 1)) + 1 by omega] at hres; simpa [po_fk, c_302] using hres) ls (lv_sub hl [1, 2, 3, 4, 5, 6, 0] rfl)
          · skip
            have c_302 : (po_hb mx my i j k x y) = true := pi_b_1.mp c_302
            exfalso
            rw [show n - k = (n - (k + 1)) + 1 by omega] at hres
            simp [po_fk, po_or, c_302] at hres
  refine lv_iconst (v := 0) hx hb d_O_find_0 (by decide) ?_
  refine lv_istore (lv' := [(4, .int 0), (0, .ref a), (1, .int x), (2, .int y), (3, .int a0)]) hx hb d_O_find_1 hl (by decide) rfl (fun ls hl => ?_)
  exact (loops (((n - 0) * 400 + 399) + 1)).1 0 (by omega) (by omega) (by simpa using hf) ls (lv_sub hl [1, 2, 3, 4, 0] rfl)
set_option maxRecDepth 100000 in
set_option maxHeartbeats 4000000 in
theorem c_B_placed (G : z_G s0 (dC, dI) cI cS) (A : Nat → Nat) (np ns nc nn nm : Nat) (fv : Nat → Nat → Int32) (so sf st : Nat → Int32) (sn sc : Nat → Nat) (sp : Nat → Option Nat) (sx sy : Nat → Nat → Int32) (x y a0 : Int32) (hax : a0 = 0 ∨ a0 = 1) (hp : z_pt x y) (t0 : Nat × Nat × Nat) (hf : po_fi (fv 5) (fv 6) x y nm nm 0 = some t0) (hq : ∀ i j k : Nat, i < 12 → j < 12 → k < 12 → ¬ po_sh (fv 5) (fv 6) j k x y + po_sh (fv 5) (fv 6) k i x y + po_sh (fv 5) (fv 6) i j x y = 0 → ¬ 2 * (if 0 < po_sh (fv 5) (fv 6) j k x y + po_sh (fv 5) (fv 6) k i x y + po_sh (fv 5) (fv 6) i j x y then po_sh (fv 5) (fv 6) j k x y + po_sh (fv 5) (fv 6) k i x y + po_sh (fv 5) (fv 6) i j x y else -(po_sh (fv 5) (fv 6) j k x y + po_sh (fv 5) (fv 6) k i x y + po_sh (fv 5) (fv 6) i j x y)) = 0) : Met l y_B_placed [Cond.code y_B_placed b_B_placed 4 (some .int)] ({ frames := 4, cells := 0, slots := 0, locals := 111 }) (z_Pc s0 [.ref (A 0), .int x, .int y, .int a0] (fun H => z_BD (dC, dI) cI cS H A np ns nc nn nm fv so sf st sn sc sp sx sy)) (z_Qr (some (.int (po_val (fv 5) (fv 6) (if a0 = 0 then fv 7 else fv 8) t0.1 t0.2.1 t0.2.2 x y)))) 0 0 z_no := by
  refine z_ofW (by decide +kernel) (Nat.le_of_ble_eq_true rfl) ?_
  intro p e s m below meth c hx hb hml hr hown hlocks hnm hW0 hB ls hl
  have hts := z_hts (args := [.ref (A 0), .int x, .int y, .int a0].toArray) G.1 hW0
  have hN := z_nstW G.2.1 hW0
  have hK := va_K.moved hW0.alike G.2.2.1
  have hAI := arrOfT_moved hW0.alike G.2.2.2.1
  have hl : lv_has ls 4 [(0, .ref (A 0)), (1, .int x), (2, .int y), (3, .int a0)] := hl
  obtain ⟨⟨hO0, hO1, hO2, hB3, hFA, hSH⟩, hinj, ⟨hnp, hns, hnn, hnm, hnc⟩, hsb⟩ := id hB
  have hAS := arrOfT_moved hW0.alike G.2.2.2.2.1
  have hOm : z_Om (dC, dI) cI s.heap (A 2) (A 9) (A 10) (A 11) (A 12) nm (fv 5) (fv 6) (fv 7) (fv 8) := ⟨hO2, hFA 5 (by omega), hFA 6 (by omega), hFA 7 (by omega), hFA 8 (by omega)⟩
  refine lv_iload_n hx hb d_B_placed_0 rfl (lv_at hl 3 rfl) ?_
  refine z_rdSv (n := 1) (rest := []) ⟨hx, hb, hml, hown, hts⟩ hW0 (c_B_requireAxis G a0 hax) w_493 w_491 w_492 w_1 (by decide +kernel) ⟨rfl, rfl, Nat.le_of_ble_eq_true rfl, Nat.le_of_ble_eq_true rfl⟩ (trivial) rfl rfl hl.1 (Nat.le_of_ble_eq_true rfl) d_B_placed_1 ⟨Nat.zero_le _, Nat.zero_le _⟩ ?_
  refine lv_iload_n hx hb d_B_placed_4 rfl (lv_at hl 1 rfl) ?_
  refine lv_iload_n hx hb d_B_placed_5 rfl (lv_at hl 2 rfl) ?_
  refine z_rdSv (n := 2) (rest := []) ⟨hx, hb, hml, hown, hts⟩ hW0 (c_B_requirePoint G x y hp) w_271 w_269 w_270 w_1 (by decide +kernel) ⟨rfl, rfl, Nat.le_of_ble_eq_true rfl, Nat.le_of_ble_eq_true rfl⟩ (trivial) rfl rfl hl.1 (Nat.le_of_ble_eq_true rfl) d_B_placed_6 ⟨Nat.zero_le _, Nat.zero_le _⟩ ?_
  refine lv_aload_n hx hb d_B_placed_9 rfl (lv_at hl 0 rfl) ?_
  refine va_get (D := (dC, dI)) (ci := 3) (v := .ref (A 2)) (C := R_B) (T := T_B) (N := 7) hx hb hts in_B hown hK hO0.P 0 rfl rfl 6 (by decide) (hts _ w_74) (fun _ h9 => h9) rfl d_B_placed_10 ?_
  refine lv_iload_n hx hb d_B_placed_13 rfl (lv_at hl 1 rfl) ?_
  refine lv_iload_n hx hb d_B_placed_14 rfl (lv_at hl 2 rfl) ?_
  refine lv_iload_n hx hb d_B_placed_15 rfl (lv_at hl 3 rfl) ?_
  refine z_rdV (n := 3) (C := R_O) (rest := []) ⟨hx, hb, hml, hown, hts⟩ hW0 (c_O_find G (A 2) (A 9) (A 10) (A 11) (A 12) nm (fv 5) (fv 6) (fv 7) (fv 8) x y a0 t0 hnm hf hq) w_498 w_495 w_496 w_497 w_3 (by decide +kernel) ⟨rfl, rfl, Nat.le_of_ble_eq_true rfl, Nat.le_of_ble_eq_true rfl⟩ (hO2.recv hK rfl) (hOm) rfl rfl hl.1 (Nat.le_of_ble_eq_true rfl) d_B_placed_16 ⟨Nat.zero_le _, Nat.zero_le _⟩ ?_
  exact z_iret hx hb hr hlocks (by rfl) d_B_placed_19
set_option maxRecDepth 100000 in
set_option maxHeartbeats 4000000 in
theorem t_B_placed_3 (G : z_G s0 (dC, dI) cI cS) (hT : z_T s0 l) (A : Nat → Nat) (np ns nc nn nm : Nat) (fv : Nat → Nat → Int32) (so sf st : Nat → Int32) (sn sc : Nat → Nat) (sp : Nat → Option Nat) (sx sy : Nat → Nat → Int32) (x y a0 : Int32) (hax : a0 = 0 ∨ a0 = 1) (hp : z_pt x y) (hf : po_fi (fv 5) (fv 6) x y nm nm 0 = none) : xt_Met l y_B_placed [Cond.code y_B_placed b_B_placed 4 (some .int)] ({ frames := 7, cells := 1, slots := 6, locals := 109 }) (z_Pc s0 [.ref (A 0), .int x, .int y, .int a0] (fun H => z_Old s0 H ∧ z_BD (dC, dI) cI cS H A np ns nc nn nm fv so sf st sn sc sp sx sy)) "java/lang/IllegalStateException" := by
  refine z_ofWX (by decide +kernel) (Nat.le_of_ble_eq_true rfl) ?_
  intro p e s m below meth c hx hb hml hadm hown hlocks hno hW0 hB ls hl
  have hts := z_hts (args := [.ref (A 0), .int x, .int y, .int a0].toArray) G.1 hW0
  have hN := z_nstW G.2.1 hW0
  have hK := va_K.moved hW0.alike G.2.2.1
  have hAI := arrOfT_moved hW0.alike G.2.2.2.1
  have hl : lv_has ls 4 [(0, .ref (A 0)), (1, .int x), (2, .int y), (3, .int a0)] := hl
  obtain ⟨hOld, hB1⟩ := id hB
  obtain ⟨⟨hO0, hO1, hO2, hB3, hFA, hSH⟩, hinj, ⟨hnp, hns, hnn, hnm, hnc⟩, hsb⟩ := id hB1
  have hAS := arrOfT_moved hW0.alike G.2.2.2.2.1
  have hOm : z_Om (dC, dI) cI s.heap (A 2) (A 9) (A 10) (A 11) (A 12) nm (fv 5) (fv 6) (fv 7) (fv 8) := ⟨hO2, hFA 5 (by omega), hFA 6 (by omega), hFA 7 (by omega), hFA 8 (by omega)⟩
  refine lv_iload_n hx hb d_B_placed_0 rfl (lv_at hl 3 rfl) ?_
  refine z_rdSv (n := 1) (rest := []) ⟨hx, hb, hml, hown, hts⟩ hW0 (c_B_requireAxis G a0 hax) w_493 w_491 w_492 w_1 (by decide +kernel) ⟨rfl, rfl, Nat.le_of_ble_eq_true rfl, Nat.le_of_ble_eq_true rfl⟩ (trivial) rfl rfl hl.1 (Nat.le_of_ble_eq_true rfl) d_B_placed_1 ⟨Nat.zero_le _, Nat.zero_le _⟩ ?_
  refine lv_iload_n hx hb d_B_placed_4 rfl (lv_at hl 1 rfl) ?_
  refine lv_iload_n hx hb d_B_placed_5 rfl (lv_at hl 2 rfl) ?_
  refine z_rdSv (n := 2) (rest := []) ⟨hx, hb, hml, hown, hts⟩ hW0 (c_B_requirePoint G x y hp) w_271 w_269 w_270 w_1 (by decide +kernel) ⟨rfl, rfl, Nat.le_of_ble_eq_true rfl, Nat.le_of_ble_eq_true rfl⟩ (trivial) rfl rfl hl.1 (Nat.le_of_ble_eq_true rfl) d_B_placed_6 ⟨Nat.zero_le _, Nat.zero_le _⟩ ?_
  refine lv_aload_n hx hb d_B_placed_9 rfl (lv_at hl 0 rfl) ?_
  refine va_get (D := (dC, dI)) (ci := 3) (v := .ref (A 2)) (C := R_B) (T := T_B) (N := 7) hx hb hts in_B hown hK hO0.P 0 rfl rfl 6 (by decide) (hts _ w_74) (fun _ h9 => h9) rfl d_B_placed_10 ?_
  refine lv_iload_n hx hb d_B_placed_13 rfl (lv_at hl 1 rfl) ?_
  refine lv_iload_n hx hb d_B_placed_14 rfl (lv_at hl 2 rfl) ?_
  refine lv_iload_n hx hb d_B_placed_15 rfl (lv_at hl 3 rfl) ?_
  exact z_thV (n := 3) (C := R_O) (rest := []) ⟨hx, hb, hml, hown, hts⟩ hW0 hno hlocks (t_O_find G hT (A 2) (A 9) (A 10) (A 11) (A 12) nm (fv 5) (fv 6) (fv 7) (fv 8) x y a0 hnm hf) w_498 w_495 w_496 w_497 w_3 (by decide +kernel) ⟨rfl, rfl, Nat.le_of_ble_eq_true rfl, Nat.le_of_ble_eq_true rfl⟩ (hO2.recv hK rfl) (⟨hOld, hOm⟩) rfl rfl hl.1 (Nat.le_of_ble_eq_true rfl) d_B_placed_16 ⟨Nat.le_of_ble_eq_true rfl, Nat.le_of_ble_eq_true rfl⟩
end S8
