section S2
variable {s0 : State} {dC : Nat → ClassId} {dI : Nat → Nat → Nat} {cI cS : ClassId} {l : Launch}
set_option maxRecDepth 100000 in
set_option maxHeartbeats 4000000 in
theorem c_S_contains (G : z_G s0 (dC, dI) cI cS) (a ax ay n : Nat) (num own fr to_ ca : Int32) (pv : Value) (xs ys : Nat → Int32) (x y : Int32) (hn : n ≤ 12) : Met l y_S_contains [Cond.code y_S_contains b_S_contains 5 (some .boolean)] ({ frames := 3, cells := 0, slots := 0, locals := 73 }) (z_Pc s0 [.ref a, .int x, .int y] (fun H => z_Sh (dC, dI) cI H a ax ay n num own fr to_ ca pv xs ys)) (z_Qr (some (.int (pi_b (pc_in xs ys n x y))))) 0 0 z_no := by
  refine z_ofW (by decide +kernel) (Nat.le_of_ble_eq_true rfl) ?_
  intro p e s m below meth c hx hb hml hr hown hlocks hnm hW0 hB ls hl
  have hts := z_hts (args := [.ref a, .int x, .int y].toArray) G.1 hW0
  have hN := z_nstW G.2.1 hW0
  have hK := va_K.moved hW0.alike G.2.2.1
  have hAI := arrOfT_moved hW0.alike G.2.2.2.1
  have hl : lv_has ls 5 [(0, .ref a), (1, .int x), (2, .int y)] := hl
  obtain ⟨hO, hX, hY⟩ := id hB
  have loops : ∀ f : Nat, (∀ (i : Nat) (b : Bool), n - i < f → (i ≤ n) → (pc_cont xs ys n x y (n - i) i b = pc_in xs ys n x y) → ∀ ls : Array Slot, lv_has ls 5 [(0, .ref a), (1, .int x), (2, .int y), (3, .int (pi_b b)), (4, .int (nI i))] → W p l e ({ frames := 3, cells := 0, slots := 0, locals := 73 }) s m [.ref a, .int x, .int y].toArray below meth c s.heap [] 0 0 (MQ below (z_Qr (some (.int (pi_b (pc_in xs ys n x y))))) [.ref a, .int x, .int y].toArray s 0 0 z_no) (F0 m 5 ls [])) := by
    intro f
    induction f with
    | zero => exact fun _ _ h => absurd h (Nat.not_lt_zero _)
    | succ f ih =>
      intro i b hmu hi hres ls hl
      refine lv_iload hx hb d_S_contains_5 (lv_at hl 4 rfl) ?_
      refine lv_aload_n hx hb d_S_contains_7 rfl (lv_at hl 0 rfl) ?_
      refine va_get (D := (dC, dI)) (ci := 2) (v := .int (nI n)) (C := R_S) (T := T_S) (N := 9) hx hb hts in_S hown hK hO.P 0 rfl rfl 6 (by decide) (hts _ w_233) (fun _ h9 => h9) rfl d_S_contains_8 ?_
      refine lv_icmp_ge (tgt := 54) hx hb d_S_contains_11 (by decide) (fun c_101 => ?_) (fun c_101 => ?_)
      · skip
        have c_101 : n ≤ i := (nI_leI (a := n) (b := i) (by omega) (by omega)).mp c_101
        refine lv_iload_n hx hb d_S_contains_54 rfl (lv_at hl 3 rfl) ?_
        exact z_zret hx hb hr hlocks (by rw [show n - i = 0 by omega] at hres; simp only [pc_cont] at hres; rw [hres]) d_S_contains_55
      · skip
        have c_101 : ¬ (n ≤ i) := fun h => c_101 ((nI_leI (a := n) (b := i) (by omega) (by omega)).mpr h)
        refine lv_aload_n hx hb d_S_contains_14 rfl (lv_at hl 0 rfl) ?_
        refine lv_iload hx hb d_S_contains_15 (lv_at hl 4 rfl) ?_
        refine lv_iload_n hx hb d_S_contains_17 rfl (lv_at hl 1 rfl) ?_
        refine lv_iload_n hx hb d_S_contains_18 rfl (lv_at hl 2 rfl) ?_
        refine z_rdV (n := 3) (C := R_S) (rest := []) ⟨hx, hb, hml, hown, hts⟩ hW0 (c_S_isOnLine G a ax ay n num own fr to_ ca pv xs ys i x y (by omega) hn) w_321 w_318 w_320 wp_8 w_11 (by decide +kernel) ⟨rfl, rfl, Nat.le_of_ble_eq_true rfl, Nat.le_of_ble_eq_true rfl⟩ (hO.recv hK rfl) (hB) rfl rfl hl.1 (Nat.le_of_ble_eq_true rfl) d_S_contains_19 ⟨Nat.zero_le _, Nat.zero_le _⟩ ?_
        refine lv_if_eq (tgt := 27) hx hb d_S_contains_22 (by decide) (fun c_102 => ?_) (fun c_102 => ?_)
        · skip
          have c_102 : (pc_on xs ys n i x y) = false := pi_b_0.mp c_102
          refine lv_aload_n hx hb d_S_contains_27 rfl (lv_at hl 0 rfl) ?_
          refine lv_iload hx hb d_S_contains_28 (lv_at hl 4 rfl) ?_
          refine lv_iload_n hx hb d_S_contains_30 rfl (lv_at hl 1 rfl) ?_
          refine lv_iload_n hx hb d_S_contains_31 rfl (lv_at hl 2 rfl) ?_
          refine z_rdV (n := 3) (C := R_S) (rest := []) ⟨hx, hb, hml, hown, hts⟩ hW0 (c_S_isLineRightOf G a ax ay n num own fr to_ ca pv xs ys i x y (by omega) hn) w_386 w_383 w_385 wp_12 w_11 (by decide +kernel) ⟨rfl, rfl, Nat.le_of_ble_eq_true rfl, Nat.le_of_ble_eq_true rfl⟩ (hO.recv hK rfl) (hB) rfl rfl hl.1 (Nat.le_of_ble_eq_true rfl) d_S_contains_32 ⟨Nat.zero_le _, Nat.zero_le _⟩ ?_
          refine lv_if_eq (tgt := 48) hx hb d_S_contains_35 (by decide) (fun c_103 => ?_) (fun c_103 => ?_)
          · skip
            have c_103 : (pc_rt xs ys n i x y) = false := pi_b_0.mp c_103
            refine lv_iinc (v := nI (i + 1)) (lv' := [(4, .int (nI (i + 1))), (0, .ref a), (1, .int x), (2, .int y), (3, .int (pi_b b))]) hx hb d_S_contains_48 hl (k := 4) rfl (nI_1 i) (by decide) rfl (fun ls hl => ?_)
            refine lv_goto (tgt := 5) hx hb d_S_contains_51 (by decide) ?_
            exact ih (i + 1) b (by omega) (by omega) (by rw [show n - i = (n - (i + 1)) + 1 by omega] at hres; simpa [pc_cont, c_101, c_102, c_103] using hres) ls (lv_sub hl [1, 2, 3, 4, 0] rfl)
          · skip
            have c_103 : (pc_rt xs ys n i x y) = true := pi_b_1.mp c_103
            refine lv_iload_n hx hb d_S_contains_38 rfl (lv_at hl 3 rfl) ?_
            refine lv_if_ne (tgt := 46) hx hb d_S_contains_39 (by decide) (fun c_104 => ?_) (fun c_104 => ?_)
            · skip
              have c_104 : b = true := pi_b_1.mp c_104
              refine lv_iconst (v := 0) hx hb d_S_contains_46 (by decide) ?_
              refine lv_istore_n (lv' := [(3, .int 0), (0, .ref a), (1, .int x), (2, .int y), (4, .int (nI i))]) hx hb d_S_contains_47 rfl hl (by decide) rfl (fun ls hl => ?_)
              refine lv_iinc (v := nI (i + 1)) (lv' := [(4, .int (nI (i + 1))), (3, .int 0), (0, .ref a), (1, .int x), (2, .int y)]) hx hb d_S_contains_48 hl (k := 4) rfl (nI_1 i) (by decide) rfl (fun ls hl => ?_)
              refine lv_goto (tgt := 5) hx hb d_S_contains_51 (by decide) ?_
              exact ih (i + 1) false (by omega) (by omega) (by rw [show n - i = (n - (i + 1)) + 1 by omega] at hres; simpa [pc_cont, c_101, c_102, c_103, c_104] using hres) ls (lv_sub hl [2, 3, 4, 1, 0] rfl)
            · skip
              have c_104 : b = false := pi_b_0.mp c_104
              refine lv_iconst (v := 1) hx hb d_S_contains_42 (by decide) ?_
              refine lv_goto (tgt := 47) hx hb d_S_contains_43 (by decide) ?_
              refine lv_istore_n (lv' := [(3, .int 1), (0, .ref a), (1, .int x), (2, .int y), (4, .int (nI i))]) hx hb d_S_contains_47 rfl hl (by decide) rfl (fun ls hl => ?_)
              refine lv_iinc (v := nI (i + 1)) (lv' := [(4, .int (nI (i + 1))), (3, .int 1), (0, .ref a), (1, .int x), (2, .int y)]) hx hb d_S_contains_48 hl (k := 4) rfl (nI_1 i) (by decide) rfl (fun ls hl => ?_)
              refine lv_goto (tgt := 5) hx hb d_S_contains_51 (by decide) ?_
              exact ih (i + 1) true (by omega) (by omega) (by rw [show n - i = (n - (i + 1)) + 1 by omega] at hres; simpa [pc_cont, c_101, c_102, c_103, c_104] using hres) ls (lv_sub hl [2, 3, 4, 1, 0] rfl)
        · skip
          have c_102 : (pc_on xs ys n i x y) = true := pi_b_1.mp c_102
          refine lv_iconst (v := 1) hx hb d_S_contains_25 (by decide) ?_
          exact z_zret hx hb hr hlocks (by rw [show n - i = (n - (i + 1)) + 1 by omega] at hres; simp [pc_cont, c_101, c_102] at hres; simp [pi_b, hres]) d_S_contains_26
  refine lv_iconst (v := 0) hx hb d_S_contains_0 (by decide) ?_
  refine lv_istore_n (lv' := [(3, .int 0), (0, .ref a), (1, .int x), (2, .int y)]) hx hb d_S_contains_1 rfl hl (by decide) rfl (fun ls hl => ?_)
  refine lv_iconst (v := 0) hx hb d_S_contains_2 (by decide) ?_
  refine lv_istore (lv' := [(4, .int 0), (3, .int 0), (0, .ref a), (1, .int x), (2, .int y)]) hx hb d_S_contains_3 hl (by decide) rfl (fun ls hl => ?_)
  exact (loops ((n - 0) + 1)) 0 false (by omega) (by omega) (by simp [pc_in]) ls (lv_sub hl [2, 3, 4, 1, 0] rfl)
set_option maxRecDepth 100000 in
set_option maxHeartbeats 4000000 in
theorem c_S_canClose (G : z_G s0 (dC, dI) cI cS) (a ax ay n : Nat) (num own fr to_ ca : Int32) (pv : Value) (xs ys : Nat → Int32) (hn : n ≤ 12) : Met l y_S_canClose [Cond.code y_S_canClose b_S_canClose 3 (some .boolean)] ({ frames := 6, cells := 0, slots := 0, locals := 139 }) (z_Pc s0 [.ref a] (fun H => z_Sh (dC, dI) cI H a ax ay n num own fr to_ ca pv xs ys)) (z_Qr (some (.int (pi_b (pc_can xs ys n ca))))) 0 0 z_no := by
  refine z_ofW (by decide +kernel) (Nat.le_of_ble_eq_true rfl) ?_
  intro p e s m below meth c hx hb hml hr hown hlocks hnm hW0 hB ls hl
  have hts := z_hts (args := [.ref a].toArray) G.1 hW0
  have hN := z_nstW G.2.1 hW0
  have hK := va_K.moved hW0.alike G.2.2.1
  have hAI := arrOfT_moved hW0.alike G.2.2.2.1
  have hl : lv_has ls 3 [(0, .ref a)] := hl
  obtain ⟨hO, hX, hY⟩ := id hB
  have loops : ∀ f : Nat, (∀ (i : Nat), (n - i) * 14 + 13 < f → (i ≤ n) → (pc_cci xs ys n (n - i) i = pc_can xs ys n ca) → ∀ ls : Array Slot, lv_has ls 3 [(0, .ref a), (1, .int (nI i))] → W p l e ({ frames := 6, cells := 0, slots := 0, locals := 139 }) s m [.ref a].toArray below meth c s.heap [] 0 0 (MQ below (z_Qr (some (.int (pi_b (pc_can xs ys n ca))))) [.ref a].toArray s 0 0 z_no) (F0 m 19 ls [])) ∧ (∀ (i j : Nat), (n - i) * 14 + (n - j) < f → (i < n) → (j ≤ n) → ((if pc_ccj xs ys n i (n - j) j = true then pc_cci xs ys n (n - (i + 1)) (i + 1) else false) = pc_can xs ys n ca) → ∀ ls : Array Slot, lv_has ls 3 [(0, .ref a), (1, .int (nI i)), (2, .int (nI j))] → W p l e ({ frames := 6, cells := 0, slots := 0, locals := 139 }) s m [.ref a].toArray below meth c s.heap [] 0 0 (MQ below (z_Qr (some (.int (pi_b (pc_can xs ys n ca))))) [.ref a].toArray s 0 0 z_no) (F0 m 31 ls [])) := by
    intro f
    induction f with
    | zero => exact ⟨fun _ h => absurd h (Nat.not_lt_zero _), fun _ _ h => absurd h (Nat.not_lt_zero _)⟩
    | succ f ih =>
      refine ⟨?_, ?_⟩
      · skip
        intro i hmu hi hres ls hl
        refine lv_iload_n hx hb d_S_canClose_19 rfl (lv_at hl 1 rfl) ?_
        refine lv_aload_n hx hb d_S_canClose_20 rfl (lv_at hl 0 rfl) ?_
        refine va_get (D := (dC, dI)) (ci := 2) (v := .int (nI n)) (C := R_S) (T := T_S) (N := 9) hx hb hts in_S hown hK hO.P 0 rfl rfl 6 (by decide) (hts _ w_233) (fun _ h9 => h9) rfl d_S_canClose_21 ?_
        refine lv_icmp_ge (tgt := 71) hx hb d_S_canClose_24 (by decide) (fun c_101 => ?_) (fun c_101 => ?_)
        · skip
          have c_101 : n ≤ i := (nI_leI (a := n) (b := i) (by omega) (by omega)).mp c_101
          refine lv_iconst (v := 1) hx hb d_S_canClose_71 (by decide) ?_
          exact z_zret hx hb hr hlocks (by rw [show n - i = 0 by omega] at hres; simp only [pc_cci] at hres; simp [pi_b, ← hres]) d_S_canClose_72
        · skip
          have c_101 : ¬ (n ≤ i) := fun h => c_101 ((nI_leI (a := n) (b := i) (by omega) (by omega)).mpr h)
          refine lv_iload_n hx hb d_S_canClose_27 rfl (lv_at hl 1 rfl) ?_
          refine lv_iconst (v := 1) hx hb d_S_canClose_28 (by decide) ?_
          refine lv_iadd hx hb d_S_canClose_29 ?_
          refine z_topi (y := nI (i + 1)) (nI_add i 1) ?_
          refine lv_istore_n (lv' := [(2, .int (nI (i + 1))), (0, .ref a), (1, .int (nI i))]) hx hb d_S_canClose_30 rfl hl (by decide) rfl (fun ls hl => ?_)
          exact ih.2 i (i + 1) (by omega) (by omega) (by omega) (by rw [show n - i = (n - (i + 1)) + 1 by omega] at hres; simpa only [pc_cci] using hres) ls (lv_sub hl [1, 2, 0] rfl)
      · skip
        intro i j hmu hi hj hres ls hl
        refine lv_iload_n hx hb d_S_canClose_31 rfl (lv_at hl 2 rfl) ?_
        refine lv_aload_n hx hb d_S_canClose_32 rfl (lv_at hl 0 rfl) ?_
        refine va_get (D := (dC, dI)) (ci := 2) (v := .int (nI n)) (C := R_S) (T := T_S) (N := 9) hx hb hts in_S hown hK hO.P 0 rfl rfl 6 (by decide) (hts _ w_233) (fun _ h9 => h9) rfl d_S_canClose_33 ?_
        refine lv_icmp_ge (tgt := 65) hx hb d_S_canClose_36 (by decide) (fun c_201 => ?_) (fun c_201 => ?_)
        · skip
          have c_201 : n ≤ j := (nI_leI (a := n) (b := j) (by omega) (by omega)).mp c_201
          refine lv_iinc (v := nI (i + 1)) (lv' := [(1, .int (nI (i + 1))), (0, .ref a), (2, .int (nI j))]) hx hb d_S_canClose_65 hl (k := 1) rfl (nI_1 i) (by decide) rfl (fun ls hl => ?_)
          refine lv_goto (tgt := 19) hx hb d_S_canClose_68 (by decide) ?_
          exact ih.1 (i + 1) (by omega) (by omega) (by rw [show n - j = 0 by omega] at hres; simpa [pc_ccj] using hres) ls (lv_sub hl [1, 0] rfl)
        · skip
          have c_201 : ¬ (n ≤ j) := fun h => c_201 ((nI_leI (a := n) (b := j) (by omega) (by omega)).mpr h)
          refine lv_aload_n hx hb d_S_canClose_39 rfl (lv_at hl 0 rfl) ?_
          refine lv_iload_n hx hb d_S_canClose_40 rfl (lv_at hl 1 rfl) ?_
          refine lv_iload_n hx hb d_S_canClose_41 rfl (lv_at hl 2 rfl) ?_
          refine z_rdV (n := 2) (C := R_S) (rest := []) ⟨hx, hb, hml, hown, hts⟩ hW0 (c_S_sameCorner G a ax ay n num own fr to_ ca pv xs ys i j (by omega) (by omega) hn) w_301 w_298 w_300 wp_3 w_11 (by decide +kernel) ⟨rfl, rfl, Nat.le_of_ble_eq_true rfl, Nat.le_of_ble_eq_true rfl⟩ (hO.recv hK rfl) (hB) rfl rfl hl.1 (Nat.le_of_ble_eq_true rfl) d_S_canClose_42 ⟨Nat.zero_le _, Nat.zero_le _⟩ ?_
          refine lv_if_ne (tgt := 57) hx hb d_S_canClose_45 (by decide) (fun c_202 => ?_) (fun c_202 => ?_)
          · skip
            have c_202 : (pc_same xs ys i j) = true := pi_b_1.mp c_202
            refine lv_iconst (v := 0) hx hb d_S_canClose_57 (by decide) ?_
            exact z_zret hx hb hr hlocks (by rw [show n - j = (n - (j + 1)) + 1 by omega] at hres; simp [pc_ccj, c_201, c_202] at hres; simp [pi_b, hres]) d_S_canClose_58
          · skip
            have c_202 : (pc_same xs ys i j) = false := pi_b_0.mp c_202
            refine lv_aload_n hx hb d_S_canClose_48 rfl (lv_at hl 0 rfl) ?_
            refine lv_iload_n hx hb d_S_canClose_49 rfl (lv_at hl 1 rfl) ?_
            refine lv_iload_n hx hb d_S_canClose_50 rfl (lv_at hl 2 rfl) ?_
            refine z_rdV (n := 2) (C := R_S) (rest := []) ⟨hx, hb, hml, hown, hts⟩ hW0 (c_S_linesClash G a ax ay n num own fr to_ ca pv xs ys i j (by omega) (by omega) hn) w_305 w_302 w_304 wp_4 w_11 (by decide +kernel) ⟨rfl, rfl, Nat.le_of_ble_eq_true rfl, Nat.le_of_ble_eq_true rfl⟩ (hO.recv hK rfl) (hB) rfl rfl hl.1 (Nat.le_of_ble_eq_true rfl) d_S_canClose_51 ⟨Nat.zero_le _, Nat.zero_le _⟩ ?_
            refine lv_if_eq (tgt := 59) hx hb d_S_canClose_54 (by decide) (fun c_203 => ?_) (fun c_203 => ?_)
            · skip
              have c_203 : (pc_clash xs ys n i j) = false := pi_b_0.mp c_203
              refine lv_iinc (v := nI (j + 1)) (lv' := [(2, .int (nI (j + 1))), (0, .ref a), (1, .int (nI i))]) hx hb d_S_canClose_59 hl (k := 2) rfl (nI_1 j) (by decide) rfl (fun ls hl => ?_)
              refine lv_goto (tgt := 31) hx hb d_S_canClose_62 (by decide) ?_
              exact ih.2 i (j + 1) (by omega) (by omega) (by omega) (by rw [show n - j = (n - (j + 1)) + 1 by omega] at hres; simpa [pc_ccj, c_201, c_202, c_203] using hres) ls (lv_sub hl [1, 2, 0] rfl)
            · skip
              have c_203 : (pc_clash xs ys n i j) = true := pi_b_1.mp c_203
              refine lv_iconst (v := 0) hx hb d_S_canClose_57 (by decide) ?_
              exact z_zret hx hb hr hlocks (by rw [show n - j = (n - (j + 1)) + 1 by omega] at hres; simp [pc_ccj, c_201, c_202, c_203] at hres; simp [pi_b, hres]) d_S_canClose_58
  refine lv_aload_n hx hb d_S_canClose_0 rfl (lv_at hl 0 rfl) ?_
  refine z_rdV (n := 0) (C := R_S) (rest := []) ⟨hx, hb, hml, hown, hts⟩ hW0 (c_S_isClosed G a ax ay n num own fr to_ ca pv xs ys) w_276 w_297 w_274 w_275 w_11 (by decide +kernel) ⟨rfl, rfl, Nat.le_of_ble_eq_true rfl, Nat.le_of_ble_eq_true rfl⟩ (hO.recv hK rfl) (hB) rfl rfl hl.1 (Nat.le_of_ble_eq_true rfl) d_S_canClose_1 ⟨Nat.zero_le _, Nat.zero_le _⟩ ?_
  refine lv_if_ne (tgt := 15) hx hb d_S_canClose_4 (by decide) (fun c_1 => ?_) (fun c_1 => ?_)
  · skip
    have c_1 : (0 < ca) := of_decide_eq_true (pi_b_1.mp c_1)
    refine lv_iconst (v := 0) hx hb d_S_canClose_15 (by decide) ?_
    exact z_zret hx hb hr hlocks (by simp [pi_b, pc_can, c_1]) d_S_canClose_16
  · skip
    have c_1 : ¬ (0 < ca) := of_decide_eq_false (pi_b_0.mp c_1)
    refine lv_aload_n hx hb d_S_canClose_7 rfl (lv_at hl 0 rfl) ?_
    refine va_get (D := (dC, dI)) (ci := 2) (v := .int (nI n)) (C := R_S) (T := T_S) (N := 9) hx hb hts in_S hown hK hO.P 0 rfl rfl 6 (by decide) (hts _ w_233) (fun _ h9 => h9) rfl d_S_canClose_8 ?_
    refine lv_iconst (v := 3) hx hb d_S_canClose_11 (by decide) ?_
    refine lv_icmp_ge (tgt := 17) hx hb d_S_canClose_12 (by decide) (fun c_2 => ?_) (fun c_2 => ?_)
    · skip
      have c_2 : 3 ≤ n := (nI_leI (a := 3) (b := n) (by omega) (by omega)).mp c_2
      refine lv_iconst (v := 0) hx hb d_S_canClose_17 (by decide) ?_
      refine lv_istore_n (lv' := [(1, .int 0), (0, .ref a)]) hx hb d_S_canClose_18 rfl hl (by decide) rfl (fun ls hl => ?_)
      exact (loops (((n - 0) * 14 + 13) + 1)).1 0 (by omega) (by omega) (by rw [pc_can, if_neg c_1, if_neg (by omega)]; rfl) ls (lv_sub hl [1, 0] rfl)
    · skip
      have c_2 : ¬ (3 ≤ n) := fun h => c_2 ((nI_leI (a := 3) (b := n) (by omega) (by omega)).mpr h)
      refine lv_iconst (v := 0) hx hb d_S_canClose_15 (by decide) ?_
      exact z_zret hx hb hr hlocks (by simp [pi_b, pc_can, c_1, c_2]) d_S_canClose_16
set_option maxRecDepth 100000 in
set_option maxHeartbeats 4000000 in
theorem c_S_containsCornersOf (G : z_G s0 (dC, dI) cI cS) (a ax ay n : Nat) (num own fr to_ ca : Int32) (pv : Value) (xs ys : Nat → Int32) (a2 ax2 ay2 n2 : Nat) (num2 own2 fr2 to_2 ca2 : Int32) (pv2 : Value) (xs2 ys2 : Nat → Int32) (hn : n ≤ 12) (hn2 : n2 ≤ 12) : Met l y_S_containsCornersOf [Cond.code y_S_containsCornersOf b_S_containsCornersOf 3 (some .boolean)] ({ frames := 4, cells := 0, slots := 0, locals := 97 }) (z_Pc s0 [.ref a, .ref a2] (fun H => z_Sh (dC, dI) cI H a ax ay n num own fr to_ ca pv xs ys ∧ z_Sh (dC, dI) cI H a2 ax2 ay2 n2 num2 own2 fr2 to_2 ca2 pv2 xs2 ys2)) (z_Qr (some (.int (pi_b (pc_all xs ys n xs2 ys2 n2 0))))) 0 0 z_no := by
  refine z_ofW (by decide +kernel) (Nat.le_of_ble_eq_true rfl) ?_
  intro p e s m below meth c hx hb hml hr hown hlocks hnm hW0 hB ls hl
  have hts := z_hts (args := [.ref a, .ref a2].toArray) G.1 hW0
  have hN := z_nstW G.2.1 hW0
  have hK := va_K.moved hW0.alike G.2.2.1
  have hAI := arrOfT_moved hW0.alike G.2.2.2.1
  have hl : lv_has ls 3 [(0, .ref a), (1, .ref a2)] := hl
  obtain ⟨⟨hO, hX, hY⟩, hO2, hX2, hY2⟩ := id hB
  have loops : ∀ f : Nat, (∀ (i : Nat), n2 - i < f → (i ≤ n2) → (pc_all xs ys n xs2 ys2 (n2 - i) i = pc_all xs ys n xs2 ys2 n2 0) → ∀ ls : Array Slot, lv_has ls 3 [(0, .ref a), (1, .ref a2), (2, .int (nI i))] → W p l e ({ frames := 4, cells := 0, slots := 0, locals := 97 }) s m [.ref a, .ref a2].toArray below meth c s.heap [] 0 0 (MQ below (z_Qr (some (.int (pi_b (pc_all xs ys n xs2 ys2 n2 0))))) [.ref a, .ref a2].toArray s 0 0 z_no) (F0 m 2 ls [])) := by
    intro f
    induction f with
    | zero => exact fun _ h => absurd h (Nat.not_lt_zero _)
    | succ f ih =>
      intro i hmu hi hres ls hl
      refine lv_iload_n hx hb d_S_containsCornersOf_2 rfl (lv_at hl 2 rfl) ?_
      refine lv_aload_n hx hb d_S_containsCornersOf_3 rfl (lv_at hl 1 rfl) ?_
      refine va_get (D := (dC, dI)) (ci := 2) (v := .int (nI n2)) (C := R_S) (T := T_S) (N := 9) hx hb hts in_S hown hK hO2.P 0 rfl rfl 6 (by decide) (hts _ w_233) (fun _ h9 => h9) rfl d_S_containsCornersOf_4 ?_
      refine lv_icmp_ge (tgt := 37) hx hb d_S_containsCornersOf_7 (by decide) (fun c_101 => ?_) (fun c_101 => ?_)
      · skip
        have c_101 : n2 ≤ i := (nI_leI (a := n2) (b := i) (by omega) (by omega)).mp c_101
        refine lv_iconst (v := 1) hx hb d_S_containsCornersOf_37 (by decide) ?_
        exact z_zret hx hb hr hlocks (by rw [show n2 - i = 0 by omega] at hres; simp only [pc_all] at hres; simp [pi_b, ← hres]) d_S_containsCornersOf_38
      · skip
        have c_101 : ¬ (n2 ≤ i) := fun h => c_101 ((nI_leI (a := n2) (b := i) (by omega) (by omega)).mpr h)
        refine lv_aload_n hx hb d_S_containsCornersOf_10 rfl (lv_at hl 0 rfl) ?_
        refine lv_aload_n hx hb d_S_containsCornersOf_11 rfl (lv_at hl 1 rfl) ?_
        refine va_get (D := (dC, dI)) (ci := 2) (v := .ref ax2) (C := R_S) (T := T_S) (N := 9) hx hb hts in_S hown hK hO2.P 0 rfl rfl 4 (by decide) (hts _ w_231) (fun _ h9 => h9) rfl d_S_containsCornersOf_12 ?_
        refine lv_iload_n hx hb d_S_containsCornersOf_15 rfl (lv_at hl 2 rfl) ?_
        refine z_iald hx hb hAI hX2 (by omega) (by decide) d_S_containsCornersOf_16 ?_
        refine lv_aload_n hx hb d_S_containsCornersOf_17 rfl (lv_at hl 1 rfl) ?_
        refine va_get (D := (dC, dI)) (ci := 2) (v := .ref ay2) (C := R_S) (T := T_S) (N := 9) hx hb hts in_S hown hK hO2.P 0 rfl rfl 5 (by decide) (hts _ w_232) (fun _ h9 => h9) rfl d_S_containsCornersOf_18 ?_
        refine lv_iload_n hx hb d_S_containsCornersOf_21 rfl (lv_at hl 2 rfl) ?_
        refine z_iald hx hb hAI hY2 (by omega) (by decide) d_S_containsCornersOf_22 ?_
        refine z_rdV (n := 2) (C := R_S) (rest := []) ⟨hx, hb, hml, hown, hts⟩ hW0 (c_S_contains G a ax ay n num own fr to_ ca pv xs ys (xs2 i) (ys2 i) hn) w_382 w_423 w_380 w_381 w_11 (by decide +kernel) ⟨rfl, rfl, Nat.le_of_ble_eq_true rfl, Nat.le_of_ble_eq_true rfl⟩ (hO.recv hK rfl) (hB.1) rfl rfl hl.1 (Nat.le_of_ble_eq_true rfl) d_S_containsCornersOf_23 ⟨Nat.zero_le _, Nat.zero_le _⟩ ?_
        refine lv_if_ne (tgt := 31) hx hb d_S_containsCornersOf_26 (by decide) (fun c_102 => ?_) (fun c_102 => ?_)
        · skip
          have c_102 : (pc_in xs ys n (xs2 i) (ys2 i)) = true := pi_b_1.mp c_102
          refine lv_iinc (v := nI (i + 1)) (lv' := [(2, .int (nI (i + 1))), (0, .ref a), (1, .ref a2)]) hx hb d_S_containsCornersOf_31 hl (k := 2) rfl (nI_1 i) (by decide) rfl (fun ls hl => ?_)
          refine lv_goto (tgt := 2) hx hb d_S_containsCornersOf_34 (by decide) ?_
          exact ih (i + 1) (by omega) (by omega) (by rw [show n2 - i = (n2 - (i + 1)) + 1 by omega] at hres; simpa [pc_all, c_101, c_102] using hres) ls (lv_sub hl [1, 2, 0] rfl)
        · skip
          have c_102 : (pc_in xs ys n (xs2 i) (ys2 i)) = false := pi_b_0.mp c_102
          refine lv_iconst (v := 0) hx hb d_S_containsCornersOf_29 (by decide) ?_
          exact z_zret hx hb hr hlocks (by rw [show n2 - i = (n2 - (i + 1)) + 1 by omega] at hres; simp [pc_all, c_101, c_102] at hres; simp [pi_b, hres]) d_S_containsCornersOf_30
  refine lv_iconst (v := 0) hx hb d_S_containsCornersOf_0 (by decide) ?_
  refine lv_istore_n (lv' := [(2, .int 0), (0, .ref a), (1, .ref a2)]) hx hb d_S_containsCornersOf_1 rfl hl (by decide) rfl (fun ls hl => ?_)
  exact (loops ((n2 - 0) + 1)) 0 (by omega) (by omega) (by rfl) ls (lv_sub hl [1, 2, 0] rfl)
set_option maxRecDepth 100000 in
set_option maxHeartbeats 4000000 in
theorem c_S_doubledArea (G : z_G s0 (dC, dI) cI cS) (a ax ay n : Nat) (num own fr to_ ca : Int32) (pv : Value) (xs ys : Nat → Int32) (hn : n ≤ 12) : Met l y_S_doubledArea [Cond.code y_S_doubledArea b_S_doubledArea 4 (some .int)] ({ frames := 1, cells := 0, slots := 0, locals := 25 }) (z_Pc s0 [.ref a] (fun H => z_Sh (dC, dI) cI H a ax ay n num own fr to_ ca pv xs ys)) (z_Qr (some (.int (pc_area xs ys n)))) 0 0 z_no := by
  refine z_ofW (by decide +kernel) (Nat.le_of_ble_eq_true rfl) ?_
  intro p e s m below meth c hx hb hml hr hown hlocks hnm hW0 hB ls hl
  have hts := z_hts (args := [.ref a].toArray) G.1 hW0
  have hN := z_nstW G.2.1 hW0
  have hK := va_K.moved hW0.alike G.2.2.1
  have hAI := arrOfT_moved hW0.alike G.2.2.2.1
  have hl : lv_has ls 4 [(0, .ref a)] := hl
  obtain ⟨hO, hX, hY⟩ := id hB
  have loops : ∀ f : Nat, (∀ (i : Nat) (b : Int64), n - i < f → (i ≤ n) → (pc_sum xs ys n (n - i) i b = pc_sum xs ys n n 0 0) → ∀ ls : Array Slot, lv_has ls 4 [(0, .ref a), (1, .long b), (3, .int (nI i))] → W p l e ({ frames := 1, cells := 0, slots := 0, locals := 25 }) s m [.ref a].toArray below meth c s.heap [] 0 0 (MQ below (z_Qr (some (.int (pc_area xs ys n)))) [.ref a].toArray s 0 0 z_no) (F0 m 4 ls [])) := by
    intro f
    induction f with
    | zero => exact fun _ _ h => absurd h (Nat.not_lt_zero _)
    | succ f ih =>
      intro i b hmu hi hres ls hl
      have hx1 : i < n → pc_nx n i < n := pc_nx_lt
      refine lv_iload_n hx hb d_S_doubledArea_4 rfl (lv_at hl 2 rfl) ?_
      refine lv_aload_n hx hb d_S_doubledArea_5 rfl (lv_at hl 0 rfl) ?_
      refine va_get (D := (dC, dI)) (ci := 2) (v := .int (nI n)) (C := R_S) (T := T_S) (N := 9) hx hb hts in_S hown hK hO.P 0 rfl rfl 6 (by decide) (hts _ w_233) (fun _ h9 => h9) rfl d_S_doubledArea_6 ?_
      refine lv_icmp_ge (tgt := 58) hx hb d_S_doubledArea_9 (by decide) (fun c_101 => ?_) (fun c_101 => ?_)
      · skip
        have c_101 : n ≤ i := (nI_leI (a := n) (b := i) (by omega) (by omega)).mp c_101
        refine lv_lload_n hx hb d_S_doubledArea_58 rfl (lv_at hl 1 rfl) ?_
        refine va_mabs_long hx hb (hml.trans hl.1.symm) hown (hts _ w_405) (hts _ w_406) (hts _ w_12) (hts _ w_407) (Nat.le_of_ble_eq_true rfl) (Nat.le_of_ble_eq_true rfl) (Nat.zero_le _) (Nat.zero_le _) d_S_doubledArea_59 ?_
        refine lv_l2i hx hb d_S_doubledArea_62 rfl ?_
        exact z_iret hx hb hr hlocks (by rw [show n - i = 0 by omega] at hres; simp only [pc_sum] at hres; unfold pc_area; rw [← hres]) d_S_doubledArea_63
      · skip
        have c_101 : ¬ (n ≤ i) := fun h => c_101 ((nI_leI (a := n) (b := i) (by omega) (by omega)).mpr h)
        refine lv_lload_n hx hb d_S_doubledArea_12 rfl (lv_at hl 1 rfl) ?_
        refine lv_iconst (v := 0) hx hb d_S_doubledArea_13 (by decide) ?_
        refine lv_iconst (v := 0) hx hb d_S_doubledArea_14 (by decide) ?_
        refine lv_aload_n hx hb d_S_doubledArea_15 rfl (lv_at hl 0 rfl) ?_
        refine va_get (D := (dC, dI)) (ci := 2) (v := .ref ax) (C := R_S) (T := T_S) (N := 9) hx hb hts in_S hown hK hO.P 0 rfl rfl 4 (by decide) (hts _ w_231) (fun _ h9 => h9) rfl d_S_doubledArea_16 ?_
        refine lv_iload_n hx hb d_S_doubledArea_19 rfl (lv_at hl 2 rfl) ?_
        refine z_iald hx hb hAI hX (by omega) (by decide) d_S_doubledArea_20 ?_
        refine lv_aload_n hx hb d_S_doubledArea_21 rfl (lv_at hl 0 rfl) ?_
        refine va_get (D := (dC, dI)) (ci := 2) (v := .ref ay) (C := R_S) (T := T_S) (N := 9) hx hb hts in_S hown hK hO.P 0 rfl rfl 5 (by decide) (hts _ w_232) (fun _ h9 => h9) rfl d_S_doubledArea_22 ?_
        refine lv_iload_n hx hb d_S_doubledArea_25 rfl (lv_at hl 2 rfl) ?_
        refine z_iald hx hb hAI hY (by omega) (by decide) d_S_doubledArea_26 ?_
        refine lv_aload_n hx hb d_S_doubledArea_27 rfl (lv_at hl 0 rfl) ?_
        refine va_get (D := (dC, dI)) (ci := 2) (v := .ref ax) (C := R_S) (T := T_S) (N := 9) hx hb hts in_S hown hK hO.P 0 rfl rfl 4 (by decide) (hts _ w_231) (fun _ h9 => h9) rfl d_S_doubledArea_28 ?_
        refine lv_aload_n hx hb d_S_doubledArea_31 rfl (lv_at hl 0 rfl) ?_
        refine lv_iload_n hx hb d_S_doubledArea_32 rfl (lv_at hl 2 rfl) ?_
        refine z_rdV (n := 1) (C := R_S) (rest := [.ref ax, .int (ys i), .int (xs i), .int 0, .int 0, .long b]) ⟨hx, hb, hml, hown, hts⟩ hW0 (c_S_next G a ax ay n num own fr to_ ca pv xs ys i (by omega) hn) w_309 w_306 w_308 wp_5 w_11 (by decide +kernel) ⟨rfl, rfl, Nat.le_of_ble_eq_true rfl, Nat.le_of_ble_eq_true rfl⟩ (hO.recv hK rfl) (hB) rfl rfl hl.1 (Nat.le_of_ble_eq_true rfl) d_S_doubledArea_33 ⟨Nat.zero_le _, Nat.zero_le _⟩ ?_
        refine z_iald hx hb hAI hX (by omega) (by decide) d_S_doubledArea_36 ?_
        refine lv_aload_n hx hb d_S_doubledArea_37 rfl (lv_at hl 0 rfl) ?_
        refine va_get (D := (dC, dI)) (ci := 2) (v := .ref ay) (C := R_S) (T := T_S) (N := 9) hx hb hts in_S hown hK hO.P 0 rfl rfl 5 (by decide) (hts _ w_232) (fun _ h9 => h9) rfl d_S_doubledArea_38 ?_
        refine lv_aload_n hx hb d_S_doubledArea_41 rfl (lv_at hl 0 rfl) ?_
        refine lv_iload_n hx hb d_S_doubledArea_42 rfl (lv_at hl 2 rfl) ?_
        refine z_rdV (n := 1) (C := R_S) (rest := [.ref ay, .int (xs (pc_nx n i)), .int (ys i), .int (xs i), .int 0, .int 0, .long b]) ⟨hx, hb, hml, hown, hts⟩ hW0 (c_S_next G a ax ay n num own fr to_ ca pv xs ys i (by omega) hn) w_309 w_306 w_308 wp_5 w_11 (by decide +kernel) ⟨rfl, rfl, Nat.le_of_ble_eq_true rfl, Nat.le_of_ble_eq_true rfl⟩ (hO.recv hK rfl) (hB) rfl rfl hl.1 (Nat.le_of_ble_eq_true rfl) d_S_doubledArea_43 ⟨Nat.zero_le _, Nat.zero_le _⟩ ?_
        refine z_iald hx hb hAI hY (by omega) (by decide) d_S_doubledArea_46 ?_
        refine z_rdSN (n := 6) (rest := [.long b]) (host := R_B) ⟨hx, hb, hml, hown, hts⟩ hW0 (c_B_turn G 0 0 (xs i) (ys i) (xs (pc_nx n i)) (ys (pc_nx n i))) w_337 (hN _ (List.mem_of_getElem? (i := 1) rfl)) w_336 w_1 (by decide +kernel) ⟨rfl, rfl, Nat.le_of_ble_eq_true rfl, Nat.le_of_ble_eq_true rfl⟩ (trivial) rfl rfl hl.1 (Nat.le_of_ble_eq_true rfl) d_S_doubledArea_47 ⟨Nat.zero_le _, Nat.zero_le _⟩ ?_
        refine lv_ladd hx hb d_S_doubledArea_50 ?_
        refine lv_lstore_n (lv' := [(1, .long (b + (pc_turn 0 0 (xs i) (ys i) (xs (pc_nx n i)) (ys (pc_nx n i))))), (0, .ref a), (3, .int (nI i))]) hx hb d_S_doubledArea_51 rfl hl (by decide) rfl (fun ls hl => ?_)
        refine lv_iinc (v := nI (i + 1)) (lv' := [(3, .int (nI (i + 1))), (1, .long (b + (pc_turn 0 0 (xs i) (ys i) (xs (pc_nx n i)) (ys (pc_nx n i))))), (0, .ref a)]) hx hb d_S_doubledArea_52 hl (k := 2) rfl (nI_1 i) (by decide) rfl (fun ls hl => ?_)
        refine lv_goto (tgt := 4) hx hb d_S_doubledArea_55 (by decide) ?_
        exact ih (i + 1) (b + (pc_turn 0 0 (xs i) (ys i) (xs (pc_nx n i)) (ys (pc_nx n i)))) (by omega) (by omega) (by rw [show n - i = (n - (i + 1)) + 1 by omega] at hres; simpa only [pc_sum] using hres) ls (lv_sub hl [2, 1, 0] rfl)
  refine lv_lconst (v := 0) hx hb d_S_doubledArea_0 (by decide) ?_
  refine lv_lstore_n (lv' := [(1, .long 0), (0, .ref a)]) hx hb d_S_doubledArea_1 rfl hl (by decide) rfl (fun ls hl => ?_)
  refine lv_iconst (v := 0) hx hb d_S_doubledArea_2 (by decide) ?_
  refine lv_istore_n (lv' := [(3, .int 0), (1, .long 0), (0, .ref a)]) hx hb d_S_doubledArea_3 rfl hl (by decide) rfl (fun ls hl => ?_)
  exact (loops ((n - 0) + 1)) 0 0 (by omega) (by omega) (by rfl) ls (lv_sub hl [2, 1, 0] rfl)
set_option maxRecDepth 100000 in
set_option maxHeartbeats 4000000 in
theorem c_S_leastSquareTo (G : z_G s0 (dC, dI) cI cS) (a ax ay n : Nat) (num own fr to_ ca : Int32) (pv : Value) (xs ys : Nat → Int32) (a2 ax2 ay2 n2 : Nat) (num2 own2 fr2 to_2 ca2 : Int32) (pv2 : Value) (xs2 ys2 : Nat → Int32) (hn : n ≤ 12) (hn2 : n2 ≤ 12) (h0 : 0 < n) (h02 : 0 < n2) : Met l y_S_leastSquareTo [Cond.code y_S_leastSquareTo b_S_leastSquareTo 5 (some .int)] ({ frames := 1, cells := 0, slots := 0, locals := 25 }) (z_Pc s0 [.ref a, .ref a2] (fun H => z_Sh (dC, dI) cI H a ax ay n num own fr to_ ca pv xs ys ∧ z_Sh (dC, dI) cI H a2 ax2 ay2 n2 num2 own2 fr2 to_2 ca2 pv2 xs2 ys2)) (z_Qr (some (.int (pc_least xs ys n xs2 ys2 n2)))) 0 0 z_no := by
  refine z_ofW (by decide +kernel) (Nat.le_of_ble_eq_true rfl) ?_
  intro p e s m below meth c hx hb hml hr hown hlocks hnm hW0 hB ls hl
  have hts := z_hts (args := [.ref a, .ref a2].toArray) G.1 hW0
  have hN := z_nstW G.2.1 hW0
  have hK := va_K.moved hW0.alike G.2.2.1
  have hAI := arrOfT_moved hW0.alike G.2.2.2.1
  have hl : lv_has ls 5 [(0, .ref a), (1, .ref a2)] := hl
  obtain ⟨⟨hO, hX, hY⟩, hO2, hX2, hY2⟩ := id hB
  have loops : ∀ f : Nat, (∀ (i : Nat) (b : Int32), (n - i) * 14 + 13 < f → (i ≤ n) → (pc_li xs ys xs2 ys2 n2 (n - i) i b = pc_least xs ys n xs2 ys2 n2) → ∀ ls : Array Slot, lv_has ls 5 [(0, .ref a), (1, .ref a2), (2, .int b), (3, .int (nI i))] → W p l e ({ frames := 1, cells := 0, slots := 0, locals := 25 }) s m [.ref a, .ref a2].toArray below meth c s.heap [] 0 0 (MQ below (z_Qr (some (.int (pc_least xs ys n xs2 ys2 n2)))) [.ref a, .ref a2].toArray s 0 0 z_no) (F0 m 10 ls [])) ∧ (∀ (i j : Nat) (b : Int32), (n - i) * 14 + (n2 - j) < f → (i < n) → (j ≤ n2) → (pc_li xs ys xs2 ys2 n2 (n - (i + 1)) (i + 1) (pc_lj xs ys xs2 ys2 i (n2 - j) j b) = pc_least xs ys n xs2 ys2 n2) → ∀ ls : Array Slot, lv_has ls 5 [(0, .ref a), (1, .ref a2), (2, .int b), (3, .int (nI i)), (4, .int (nI j))] → W p l e ({ frames := 1, cells := 0, slots := 0, locals := 25 }) s m [.ref a, .ref a2].toArray below meth c s.heap [] 0 0 (MQ below (z_Qr (some (.int (pc_least xs ys n xs2 ys2 n2)))) [.ref a, .ref a2].toArray s 0 0 z_no) (F0 m 21 ls [])) := by
    intro f
    induction f with
    | zero => exact ⟨fun _ _ h => absurd h (Nat.not_lt_zero _), fun _ _ _ h => absurd h (Nat.not_lt_zero _)⟩
    | succ f ih =>
      refine ⟨?_, ?_⟩
      · skip
        intro i b hmu hi hres ls hl
        refine lv_iload_n hx hb d_S_leastSquareTo_10 rfl (lv_at hl 3 rfl) ?_
        refine lv_aload_n hx hb d_S_leastSquareTo_11 rfl (lv_at hl 0 rfl) ?_
        refine va_get (D := (dC, dI)) (ci := 2) (v := .int (nI n)) (C := R_S) (T := T_S) (N := 9) hx hb hts in_S hown hK hO.P 0 rfl rfl 6 (by decide) (hts _ w_233) (fun _ h9 => h9) rfl d_S_leastSquareTo_12 ?_
        refine lv_icmp_ge (tgt := 55) hx hb d_S_leastSquareTo_15 (by decide) (fun c_101 => ?_) (fun c_101 => ?_)
        · skip
          have c_101 : n ≤ i := (nI_leI (a := n) (b := i) (by omega) (by omega)).mp c_101
          refine lv_iload_n hx hb d_S_leastSquareTo_55 rfl (lv_at hl 2 rfl) ?_
          exact z_iret hx hb hr hlocks (by rw [show n - i = 0 by omega] at hres; simpa only [pc_li] using hres) d_S_leastSquareTo_56
        · skip
          have c_101 : ¬ (n ≤ i) := fun h => c_101 ((nI_leI (a := n) (b := i) (by omega) (by omega)).mpr h)
          refine lv_iconst (v := 0) hx hb d_S_leastSquareTo_18 (by decide) ?_
          refine lv_istore (lv' := [(4, .int 0), (0, .ref a), (1, .ref a2), (2, .int b), (3, .int (nI i))]) hx hb d_S_leastSquareTo_19 hl (by decide) rfl (fun ls hl => ?_)
          exact ih.2 i 0 b (by omega) (by omega) (by omega) (by rw [show n - i = (n - (i + 1)) + 1 by omega] at hres; simpa only [pc_li, Nat.sub_zero] using hres) ls (lv_sub hl [1, 2, 3, 4, 0] rfl)
      · skip
        intro i j b hmu hi hj hres ls hl
        refine lv_iload hx hb d_S_leastSquareTo_21 (lv_at hl 4 rfl) ?_
        refine lv_aload_n hx hb d_S_leastSquareTo_23 rfl (lv_at hl 1 rfl) ?_
        refine va_get (D := (dC, dI)) (ci := 2) (v := .int (nI n2)) (C := R_S) (T := T_S) (N := 9) hx hb hts in_S hown hK hO2.P 0 rfl rfl 6 (by decide) (hts _ w_233) (fun _ h9 => h9) rfl d_S_leastSquareTo_24 ?_
        refine lv_icmp_ge (tgt := 49) hx hb d_S_leastSquareTo_27 (by decide) (fun c_201 => ?_) (fun c_201 => ?_)
        · skip
          have c_201 : n2 ≤ j := (nI_leI (a := n2) (b := j) (by omega) (by omega)).mp c_201
          refine lv_iinc (v := nI (i + 1)) (lv' := [(3, .int (nI (i + 1))), (0, .ref a), (1, .ref a2), (2, .int b), (4, .int (nI j))]) hx hb d_S_leastSquareTo_49 hl (k := 3) rfl (nI_1 i) (by decide) rfl (fun ls hl => ?_)
          refine lv_goto (tgt := 10) hx hb d_S_leastSquareTo_52 (by decide) ?_
          exact ih.1 (i + 1) b (by omega) (by omega) (by rw [show n2 - j = 0 by omega] at hres; simpa only [pc_lj] using hres) ls (lv_sub hl [1, 2, 3, 0] rfl)
        · skip
          have c_201 : ¬ (n2 ≤ j) := fun h => c_201 ((nI_leI (a := n2) (b := j) (by omega) (by omega)).mpr h)
          refine lv_iload_n hx hb d_S_leastSquareTo_30 rfl (lv_at hl 2 rfl) ?_
          refine lv_aload_n hx hb d_S_leastSquareTo_31 rfl (lv_at hl 0 rfl) ?_
          refine lv_iload_n hx hb d_S_leastSquareTo_32 rfl (lv_at hl 3 rfl) ?_
          refine lv_aload_n hx hb d_S_leastSquareTo_33 rfl (lv_at hl 1 rfl) ?_
          refine lv_iload hx hb d_S_leastSquareTo_34 (lv_at hl 4 rfl) ?_
          refine z_rdV (n := 3) (C := R_S) (rest := [.int b]) ⟨hx, hb, hml, hown, hts⟩ hW0 (c_S_squareBetween G a ax ay n num own fr to_ ca pv xs ys a2 ax2 ay2 n2 num2 own2 fr2 to_2 ca2 pv2 xs2 ys2 i j (by omega) (by omega) hn hn2) w_438 w_435 w_437 wp_14 w_11 (by decide +kernel) ⟨rfl, rfl, Nat.le_of_ble_eq_true rfl, Nat.le_of_ble_eq_true rfl⟩ (hO.recv hK rfl) (hB) rfl rfl hl.1 (Nat.le_of_ble_eq_true rfl) d_S_leastSquareTo_36 ⟨Nat.zero_le _, Nat.zero_le _⟩ ?_
          refine va_mmin hx hb (hml.trans hl.1.symm) hown (hts _ w_439) (hts _ w_326) (hts _ w_12) (hts _ w_327) (Nat.le_of_ble_eq_true rfl) (Nat.le_of_ble_eq_true rfl) (Nat.zero_le _) (Nat.zero_le _) d_S_leastSquareTo_39 ?_
          refine lv_istore_n (lv' := [(2, .int (if (pc_sq xs ys i xs2 ys2 j) < b then pc_sq xs ys i xs2 ys2 j else b)), (0, .ref a), (1, .ref a2), (3, .int (nI i)), (4, .int (nI j))]) hx hb d_S_leastSquareTo_42 rfl hl (by decide) rfl (fun ls hl => ?_)
          refine lv_iinc (v := nI (j + 1)) (lv' := [(4, .int (nI (j + 1))), (2, .int (if (pc_sq xs ys i xs2 ys2 j) < b then pc_sq xs ys i xs2 ys2 j else b)), (0, .ref a), (1, .ref a2), (3, .int (nI i))]) hx hb d_S_leastSquareTo_43 hl (k := 4) rfl (nI_1 j) (by decide) rfl (fun ls hl => ?_)
          refine lv_goto (tgt := 21) hx hb d_S_leastSquareTo_46 (by decide) ?_
          exact ih.2 i (j + 1) (if (pc_sq xs ys i xs2 ys2 j) < b then pc_sq xs ys i xs2 ys2 j else b) (by omega) (by omega) (by omega) (by rw [show n2 - j = (n2 - (j + 1)) + 1 by omega] at hres; simpa only [pc_lj] using hres) ls (lv_sub hl [2, 3, 1, 4, 0] rfl)
  refine lv_aload_n hx hb d_S_leastSquareTo_0 rfl (lv_at hl 0 rfl) ?_
  refine lv_iconst (v := 0) hx hb d_S_leastSquareTo_1 (by decide) ?_
  refine lv_aload_n hx hb d_S_leastSquareTo_2 rfl (lv_at hl 1 rfl) ?_
  refine lv_iconst (v := 0) hx hb d_S_leastSquareTo_3 (by decide) ?_
  refine z_rdV (n := 3) (C := R_S) (rest := []) ⟨hx, hb, hml, hown, hts⟩ hW0 (c_S_squareBetween G a ax ay n num own fr to_ ca pv xs ys a2 ax2 ay2 n2 num2 own2 fr2 to_2 ca2 pv2 xs2 ys2 0 0 (by omega) (by omega) hn hn2) w_438 w_435 w_437 wp_14 w_11 (by decide +kernel) ⟨rfl, rfl, Nat.le_of_ble_eq_true rfl, Nat.le_of_ble_eq_true rfl⟩ (hO.recv hK rfl) (hB) rfl rfl hl.1 (Nat.le_of_ble_eq_true rfl) d_S_leastSquareTo_4 ⟨Nat.zero_le _, Nat.zero_le _⟩ ?_
  refine lv_istore_n (lv' := [(2, .int (pc_sq xs ys 0 xs2 ys2 0)), (0, .ref a), (1, .ref a2)]) hx hb d_S_leastSquareTo_7 rfl hl (by decide) rfl (fun ls hl => ?_)
  refine lv_iconst (v := 0) hx hb d_S_leastSquareTo_8 (by decide) ?_
  refine lv_istore_n (lv' := [(3, .int 0), (2, .int (pc_sq xs ys 0 xs2 ys2 0)), (0, .ref a), (1, .ref a2)]) hx hb d_S_leastSquareTo_9 rfl hl (by decide) rfl (fun ls hl => ?_)
  exact (loops (((n - 0) * 14 + 13) + 1)).1 0 (pc_sq xs ys 0 xs2 ys2 0) (by omega) (by omega) (by rfl) ls (lv_sub hl [2, 3, 1, 0] rfl)
end S2
