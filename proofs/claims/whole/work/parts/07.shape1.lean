/-- a Shape, and its two arrays -/
def z_Sh (D : va_G) (cI : ClassId) (H : Heap) (a ax ay n : Nat) (num own fr to_ ca : Int32) (pv : Value) (xs ys : Nat → Int32) : Prop :=
  z_O D H a 2 [.int num, .int own, .int fr, .int to_, .ref ax, .ref ay, .int (nI n), .int ca, pv] ∧ z_A cI H ax 12 xs ∧ z_A cI H ay 12 ys
section S1
variable {s0 : State} {dC : Nat → ClassId} {dI : Nat → Nat → Nat} {cI cS : ClassId} {l : Launch}
set_option maxRecDepth 100000 in
set_option maxHeartbeats 4000000 in
theorem c_B_turn (G : z_G s0 (dC, dI) cI cS) (ax ay bx bY cx cy : Int32) : Met l y_B_turn [Cond.code y_B_turn b_B_turn 6 (some .long)] ({ frames := 0, cells := 0, slots := 0, locals := 0 }) (z_Pc s0 [.int ax, .int ay, .int bx, .int bY, .int cx, .int cy] (fun H => True)) (z_Qr (some (.long (pc_turn ax ay bx bY cx cy)))) 0 0 z_no := by
  refine z_ofW (by decide +kernel) (Nat.le_of_ble_eq_true rfl) ?_
  intro p e s m below meth c hx hb hml hr hown hlocks hnm hW0 hB ls hl
  have hts := z_hts (args := [.int ax, .int ay, .int bx, .int bY, .int cx, .int cy].toArray) G.1 hW0
  have hN := z_nstW G.2.1 hW0
  have hK := va_K.moved hW0.alike G.2.2.1
  have hAI := arrOfT_moved hW0.alike G.2.2.2.1
  have hl : lv_has ls 6 [(0, .int ax), (1, .int ay), (2, .int bx), (3, .int bY), (4, .int cx), (5, .int cy)] := hl
  refine lv_iload_n hx hb d_B_turn_0 rfl (lv_at hl 2 rfl) ?_
  refine lv_iload_n hx hb d_B_turn_1 rfl (lv_at hl 0 rfl) ?_
  refine lv_isub hx hb d_B_turn_2 ?_
  refine lv_i2l hx hb d_B_turn_3 rfl ?_
  refine lv_iload hx hb d_B_turn_4 (lv_at hl 5 rfl) ?_
  refine lv_iload_n hx hb d_B_turn_6 rfl (lv_at hl 1 rfl) ?_
  refine lv_isub hx hb d_B_turn_7 ?_
  refine lv_i2l hx hb d_B_turn_8 rfl ?_
  refine lv_lmul hx hb d_B_turn_9 ?_
  refine lv_iload_n hx hb d_B_turn_10 rfl (lv_at hl 3 rfl) ?_
  refine lv_iload_n hx hb d_B_turn_11 rfl (lv_at hl 1 rfl) ?_
  refine lv_isub hx hb d_B_turn_12 ?_
  refine lv_i2l hx hb d_B_turn_13 rfl ?_
  refine lv_iload hx hb d_B_turn_14 (lv_at hl 4 rfl) ?_
  refine lv_iload_n hx hb d_B_turn_16 rfl (lv_at hl 0 rfl) ?_
  refine lv_isub hx hb d_B_turn_17 ?_
  refine lv_i2l hx hb d_B_turn_18 rfl ?_
  refine lv_lmul hx hb d_B_turn_19 ?_
  refine lv_lsub hx hb d_B_turn_20 ?_
  exact z_lret hx hb hr hlocks (by rfl) d_B_turn_21
set_option maxRecDepth 100000 in
set_option maxHeartbeats 4000000 in
theorem c_B_isBetween (G : z_G s0 (dC, dI) cI cS) (e1 o1 v1 : Int32) : Met l y_B_isBetween [Cond.code y_B_isBetween b_B_isBetween 3 (some .boolean)] ({ frames := 1, cells := 0, slots := 0, locals := 21 }) (z_Pc s0 [.int e1, .int o1, .int v1] (fun H => True)) (z_Qr (some (.int (pi_b (pc_btw e1 o1 v1))))) 0 0 z_no := by
  refine z_ofW (by decide +kernel) (Nat.le_of_ble_eq_true rfl) ?_
  intro p e s m below meth c hx hb hml hr hown hlocks hnm hW0 hB ls hl
  have hts := z_hts (args := [.int e1, .int o1, .int v1].toArray) G.1 hW0
  have hN := z_nstW G.2.1 hW0
  have hK := va_K.moved hW0.alike G.2.2.1
  have hAI := arrOfT_moved hW0.alike G.2.2.2.1
  have hl : lv_has ls 3 [(0, .int e1), (1, .int o1), (2, .int v1)] := hl
  refine lv_iload_n hx hb d_B_isBetween_0 rfl (lv_at hl 0 rfl) ?_
  refine lv_iload_n hx hb d_B_isBetween_1 rfl (lv_at hl 1 rfl) ?_
  refine va_mmin hx hb (hml.trans hl.1.symm) hown (hts _ w_325) (hts _ w_326) (hts _ w_12) (hts _ w_327) (Nat.le_of_ble_eq_true rfl) (Nat.le_of_ble_eq_true rfl) (Nat.zero_le _) (Nat.zero_le _) d_B_isBetween_2 ?_
  refine lv_iload_n hx hb d_B_isBetween_5 rfl (lv_at hl 2 rfl) ?_
  refine lv_icmp_gt (tgt := 22) hx hb d_B_isBetween_6 (by decide) (fun c_1 => ?_) (fun c_1 => ?_)
  · skip
    have c_1' : ¬ ((if o1 < e1 then o1 else e1) ≤ v1) := Int32.not_le.mpr c_1
    refine lv_iconst (v := 0) hx hb d_B_isBetween_22 (by decide) ?_
    exact z_zret hx hb hr hlocks (by simp [pi_b, pc_btw, c_1, c_1']) d_B_isBetween_23
  · skip
    have c_1' : (if o1 < e1 then o1 else e1) ≤ v1 := Int32.not_lt.mp c_1
    refine lv_iload_n hx hb d_B_isBetween_9 rfl (lv_at hl 2 rfl) ?_
    refine lv_iload_n hx hb d_B_isBetween_10 rfl (lv_at hl 0 rfl) ?_
    refine lv_iload_n hx hb d_B_isBetween_11 rfl (lv_at hl 1 rfl) ?_
    refine va_mmax hx hb (hml.trans hl.1.symm) hown (hts _ w_328) (hts _ w_329) (hts _ w_12) (hts _ w_330) (Nat.le_of_ble_eq_true rfl) (Nat.le_of_ble_eq_true rfl) (Nat.zero_le _) (Nat.zero_le _) d_B_isBetween_12 ?_
    refine lv_icmp_gt (tgt := 22) hx hb d_B_isBetween_15 (by decide) (fun c_2 => ?_) (fun c_2 => ?_)
    · skip
      have c_2' : ¬ (v1 ≤ (if e1 < o1 then o1 else e1)) := Int32.not_le.mpr c_2
      refine lv_iconst (v := 0) hx hb d_B_isBetween_22 (by decide) ?_
      exact z_zret hx hb hr hlocks (by simp [pi_b, pc_btw, c_1, c_1', c_2, c_2']) d_B_isBetween_23
    · skip
      have c_2' : v1 ≤ (if e1 < o1 then o1 else e1) := Int32.not_lt.mp c_2
      refine lv_iconst (v := 1) hx hb d_B_isBetween_18 (by decide) ?_
      refine lv_goto (tgt := 23) hx hb d_B_isBetween_19 (by decide) ?_
      exact z_zret hx hb hr hlocks (by simp [pi_b, pc_btw, c_1, c_1', c_2, c_2']) d_B_isBetween_23
set_option maxRecDepth 100000 in
set_option maxHeartbeats 4000000 in
theorem c_S_next (G : z_G s0 (dC, dI) cI cS) (a ax ay n : Nat) (num own fr to_ ca : Int32) (pv : Value) (xs ys : Nat → Int32) (k : Nat) (hk : k < n) (hn : n ≤ 12) : Met l y_S_next [Cond.code y_S_next b_S_next 2 (some .int)] ({ frames := 0, cells := 0, slots := 0, locals := 0 }) (z_Pc s0 [.ref a, .int (nI k)] (fun H => z_Sh (dC, dI) cI H a ax ay n num own fr to_ ca pv xs ys)) (z_Qr (some (.int (nI (pc_nx n k))))) 0 0 z_no := by
  refine z_ofW (by decide +kernel) (Nat.le_of_ble_eq_true rfl) ?_
  intro p e s m below meth c hx hb hml hr hown hlocks hnm hW0 hB ls hl
  have hts := z_hts (args := [.ref a, .int (nI k)].toArray) G.1 hW0
  have hN := z_nstW G.2.1 hW0
  have hK := va_K.moved hW0.alike G.2.2.1
  have hAI := arrOfT_moved hW0.alike G.2.2.2.1
  have hl : lv_has ls 2 [(0, .ref a), (1, .int (nI k))] := hl
  obtain ⟨hO, hX, hY⟩ := id hB
  refine lv_iload_n hx hb d_S_next_0 rfl (lv_at hl 1 rfl) ?_
  refine lv_iconst (v := 1) hx hb d_S_next_1 (by decide) ?_
  refine lv_iadd hx hb d_S_next_2 ?_
  refine z_topi (y := nI (k + 1)) (nI_add k 1) ?_
  refine lv_aload_n hx hb d_S_next_3 rfl (lv_at hl 0 rfl) ?_
  refine va_get (D := (dC, dI)) (ci := 2) (v := .int (nI n)) (C := R_S) (T := T_S) (N := 9) hx hb hts in_S hown hK hO.P 0 rfl rfl 6 (by decide) (hts _ w_233) (fun _ h9 => h9) rfl d_S_next_4 ?_
  refine lv_icmp_ge (tgt := 16) hx hb d_S_next_7 (by decide) (fun c_1 => ?_) (fun c_1 => ?_)
  · skip
    have c_1 : n ≤ (k + 1) := (nI_leI (a := n) (b := k + 1) (by omega) (by omega)).mp c_1
    refine lv_iconst (v := 0) hx hb d_S_next_16 (by decide) ?_
    exact z_iret hx hb hr hlocks (by unfold pc_nx; first | rw [if_pos (by omega)] | rw [if_neg (by omega)]; first | rfl | decide) d_S_next_17
  · skip
    have c_1 : ¬ (n ≤ (k + 1)) := fun h => c_1 ((nI_leI (a := n) (b := k + 1) (by omega) (by omega)).mpr h)
    refine lv_iload_n hx hb d_S_next_10 rfl (lv_at hl 1 rfl) ?_
    refine lv_iconst (v := 1) hx hb d_S_next_11 (by decide) ?_
    refine lv_iadd hx hb d_S_next_12 ?_
    refine z_topi (y := nI (k + 1)) (nI_add k 1) ?_
    refine lv_goto (tgt := 17) hx hb d_S_next_13 (by decide) ?_
    exact z_iret hx hb hr hlocks (by unfold pc_nx; first | rw [if_pos (by omega)] | rw [if_neg (by omega)]; first | rfl | decide) d_S_next_17
set_option maxRecDepth 100000 in
set_option maxHeartbeats 4000000 in
theorem c_S_isClosed (G : z_G s0 (dC, dI) cI cS) (a ax ay n : Nat) (num own fr to_ ca : Int32) (pv : Value) (xs ys : Nat → Int32) : Met l y_S_isClosed [Cond.code y_S_isClosed b_S_isClosed 1 (some .boolean)] ({ frames := 0, cells := 0, slots := 0, locals := 0 }) (z_Pc s0 [.ref a] (fun H => z_Sh (dC, dI) cI H a ax ay n num own fr to_ ca pv xs ys)) (z_Qr (some (.int (pi_b (decide (0 < ca)))))) 0 0 z_no := by
  refine z_ofW (by decide +kernel) (Nat.le_of_ble_eq_true rfl) ?_
  intro p e s m below meth c hx hb hml hr hown hlocks hnm hW0 hB ls hl
  have hts := z_hts (args := [.ref a].toArray) G.1 hW0
  have hN := z_nstW G.2.1 hW0
  have hK := va_K.moved hW0.alike G.2.2.1
  have hAI := arrOfT_moved hW0.alike G.2.2.2.1
  have hl : lv_has ls 1 [(0, .ref a)] := hl
  obtain ⟨hO, hX, hY⟩ := id hB
  refine lv_aload_n hx hb d_S_isClosed_0 rfl (lv_at hl 0 rfl) ?_
  refine va_get (D := (dC, dI)) (ci := 2) (v := .int ca) (C := R_S) (T := T_S) (N := 9) hx hb hts in_S hown hK hO.P 0 rfl rfl 7 (by decide) (hts _ w_234) (fun _ h9 => h9) rfl d_S_isClosed_1 ?_
  refine lv_if_le (tgt := 11) hx hb d_S_isClosed_4 (by decide) (fun c_1 => ?_) (fun c_1 => ?_)
  · skip
    have c_1' : ¬ ((0 : Int32) < ca) := Int32.not_lt.mpr c_1
    refine lv_iconst (v := 0) hx hb d_S_isClosed_11 (by decide) ?_
    exact z_zret hx hb hr hlocks (by simp [pi_b, decide_eq_true_eq, c_1, c_1']) d_S_isClosed_12
  · skip
    have c_1' : (0 : Int32) < ca := Int32.not_le.mp c_1
    refine lv_iconst (v := 1) hx hb d_S_isClosed_7 (by decide) ?_
    refine lv_goto (tgt := 12) hx hb d_S_isClosed_8 (by decide) ?_
    exact z_zret hx hb hr hlocks (by simp [pi_b, decide_eq_true_eq, c_1, c_1']) d_S_isClosed_12
set_option maxRecDepth 100000 in
set_option maxHeartbeats 4000000 in
theorem c_S_isFull (G : z_G s0 (dC, dI) cI cS) (a ax ay n : Nat) (num own fr to_ ca : Int32) (pv : Value) (xs ys : Nat → Int32) (hn : n ≤ 12) : Met l y_S_isFull [Cond.code y_S_isFull b_S_isFull 1 (some .boolean)] ({ frames := 0, cells := 0, slots := 0, locals := 0 }) (z_Pc s0 [.ref a] (fun H => z_Sh (dC, dI) cI H a ax ay n num own fr to_ ca pv xs ys)) (z_Qr (some (.int (pi_b (decide (12 ≤ n)))))) 0 0 z_no := by
  refine z_ofW (by decide +kernel) (Nat.le_of_ble_eq_true rfl) ?_
  intro p e s m below meth c hx hb hml hr hown hlocks hnm hW0 hB ls hl
  have hts := z_hts (args := [.ref a].toArray) G.1 hW0
  have hN := z_nstW G.2.1 hW0
  have hK := va_K.moved hW0.alike G.2.2.1
  have hAI := arrOfT_moved hW0.alike G.2.2.2.1
  have hl : lv_has ls 1 [(0, .ref a)] := hl
  obtain ⟨hO, hX, hY⟩ := id hB
  refine lv_aload_n hx hb d_S_isFull_0 rfl (lv_at hl 0 rfl) ?_
  refine va_get (D := (dC, dI)) (ci := 2) (v := .int (nI n)) (C := R_S) (T := T_S) (N := 9) hx hb hts in_S hown hK hO.P 0 rfl rfl 6 (by decide) (hts _ w_233) (fun _ h9 => h9) rfl d_S_isFull_1 ?_
  refine lv_bipush (v := 12) hx hb d_S_isFull_4 (by decide) ?_
  refine lv_icmp_lt (tgt := 13) hx hb d_S_isFull_6 (by decide) (fun c_1 => ?_) (fun c_1 => ?_)
  · skip
    have c_1 : n < 12 := (nI_ltI (a := n) (b := 12) (by omega) (by omega)).mp c_1
    refine lv_iconst (v := 0) hx hb d_S_isFull_13 (by decide) ?_
    exact z_zret hx hb hr hlocks (by simp only [pi_b, decide_eq_true_eq]; first | rw [if_pos (by omega)] | rw [if_neg (by omega)]) d_S_isFull_14
  · skip
    have c_1 : ¬ (n < 12) := fun h => c_1 ((nI_ltI (a := n) (b := 12) (by omega) (by omega)).mpr h)
    refine lv_iconst (v := 1) hx hb d_S_isFull_9 (by decide) ?_
    refine lv_goto (tgt := 14) hx hb d_S_isFull_10 (by decide) ?_
    exact z_zret hx hb hr hlocks (by simp only [pi_b, decide_eq_true_eq]; first | rw [if_pos (by omega)] | rw [if_neg (by omega)]) d_S_isFull_14
set_option maxRecDepth 100000 in
set_option maxHeartbeats 4000000 in
theorem c_S_holdsFor (G : z_G s0 (dC, dI) cI cS) (a ax ay n : Nat) (num own fr to_ ca : Int32) (pv : Value) (xs ys : Nat → Int32) (p1 d1 : Int32) : Met l y_S_holdsFor [Cond.code y_S_holdsFor b_S_holdsFor 3 (some .boolean)] ({ frames := 1, cells := 0, slots := 0, locals := 20 }) (z_Pc s0 [.ref a, .int p1, .int d1] (fun H => z_Sh (dC, dI) cI H a ax ay n num own fr to_ ca pv xs ys)) (z_Qr (some (.int (pi_b (decide (0 < ca) && (decide (own = p1) && (decide (fr ≤ d1) && decide (d1 ≤ to_)))))))) 0 0 z_no := by
  refine z_ofW (by decide +kernel) (Nat.le_of_ble_eq_true rfl) ?_
  intro p e s m below meth c hx hb hml hr hown hlocks hnm hW0 hB ls hl
  have hts := z_hts (args := [.ref a, .int p1, .int d1].toArray) G.1 hW0
  have hN := z_nstW G.2.1 hW0
  have hK := va_K.moved hW0.alike G.2.2.1
  have hAI := arrOfT_moved hW0.alike G.2.2.2.1
  have hl : lv_has ls 3 [(0, .ref a), (1, .int p1), (2, .int d1)] := hl
  obtain ⟨hO, hX, hY⟩ := id hB
  refine lv_aload_n hx hb d_S_holdsFor_0 rfl (lv_at hl 0 rfl) ?_
  refine z_rdV (n := 0) (C := R_S) (rest := []) ⟨hx, hb, hml, hown, hts⟩ hW0 (c_S_isClosed G a ax ay n num own fr to_ ca pv xs ys) w_276 w_297 w_274 w_275 w_11 (by decide +kernel) ⟨rfl, rfl, Nat.le_of_ble_eq_true rfl, Nat.le_of_ble_eq_true rfl⟩ (hO.recv hK rfl) (hB) rfl rfl hl.1 (Nat.le_of_ble_eq_true rfl) d_S_holdsFor_1 ⟨Nat.zero_le _, Nat.zero_le _⟩ ?_
  refine lv_if_eq (tgt := 35) hx hb d_S_holdsFor_4 (by decide) (fun c_1 => ?_) (fun c_1 => ?_)
  · skip
    have c_1 : ¬ (0 < ca) := of_decide_eq_false (pi_b_0.mp c_1)
    refine lv_iconst (v := 0) hx hb d_S_holdsFor_35 (by decide) ?_
    exact z_zret hx hb hr hlocks (by simp [pi_b, Bool.and_eq_true, c_1]) d_S_holdsFor_36
  · skip
    have c_1 : (0 < ca) := of_decide_eq_true (pi_b_1.mp c_1)
    refine lv_aload_n hx hb d_S_holdsFor_7 rfl (lv_at hl 0 rfl) ?_
    refine va_get (D := (dC, dI)) (ci := 2) (v := .int own) (C := R_S) (T := T_S) (N := 9) hx hb hts in_S hown hK hO.P 0 rfl rfl 1 (by decide) (hts _ w_227) (fun _ h9 => h9) rfl d_S_holdsFor_8 ?_
    refine lv_iload_n hx hb d_S_holdsFor_11 rfl (lv_at hl 1 rfl) ?_
    refine lv_icmp_ne (tgt := 35) hx hb d_S_holdsFor_12 (by decide) (fun c_2 => ?_) (fun c_2 => ?_)
    · skip
      refine lv_iconst (v := 0) hx hb d_S_holdsFor_35 (by decide) ?_
      exact z_zret hx hb hr hlocks (by simp [pi_b, Bool.and_eq_true, c_1, c_2]) d_S_holdsFor_36
    · skip
      refine lv_aload_n hx hb d_S_holdsFor_15 rfl (lv_at hl 0 rfl) ?_
      refine va_get (D := (dC, dI)) (ci := 2) (v := .int fr) (C := R_S) (T := T_S) (N := 9) hx hb hts in_S hown hK hO.P 0 rfl rfl 2 (by decide) (hts _ w_229) (fun _ h9 => h9) rfl d_S_holdsFor_16 ?_
      refine lv_iload_n hx hb d_S_holdsFor_19 rfl (lv_at hl 2 rfl) ?_
      refine lv_icmp_gt (tgt := 35) hx hb d_S_holdsFor_20 (by decide) (fun c_3 => ?_) (fun c_3 => ?_)
      · skip
        have c_3' : ¬ (fr ≤ d1) := Int32.not_le.mpr c_3
        refine lv_iconst (v := 0) hx hb d_S_holdsFor_35 (by decide) ?_
        exact z_zret hx hb hr hlocks (by simp [pi_b, Bool.and_eq_true, c_1, c_2, c_3, c_3']) d_S_holdsFor_36
      · skip
        have c_3' : fr ≤ d1 := Int32.not_lt.mp c_3
        refine lv_iload_n hx hb d_S_holdsFor_23 rfl (lv_at hl 2 rfl) ?_
        refine lv_aload_n hx hb d_S_holdsFor_24 rfl (lv_at hl 0 rfl) ?_
        refine va_get (D := (dC, dI)) (ci := 2) (v := .int to_) (C := R_S) (T := T_S) (N := 9) hx hb hts in_S hown hK hO.P 0 rfl rfl 3 (by decide) (hts _ w_230) (fun _ h9 => h9) rfl d_S_holdsFor_25 ?_
        refine lv_icmp_gt (tgt := 35) hx hb d_S_holdsFor_28 (by decide) (fun c_4 => ?_) (fun c_4 => ?_)
        · skip
          have c_4' : ¬ (d1 ≤ to_) := Int32.not_le.mpr c_4
          refine lv_iconst (v := 0) hx hb d_S_holdsFor_35 (by decide) ?_
          exact z_zret hx hb hr hlocks (by simp [pi_b, Bool.and_eq_true, c_1, c_2, c_3, c_3', c_4, c_4']) d_S_holdsFor_36
        · skip
          have c_4' : d1 ≤ to_ := Int32.not_lt.mp c_4
          refine lv_iconst (v := 1) hx hb d_S_holdsFor_31 (by decide) ?_
          refine lv_goto (tgt := 36) hx hb d_S_holdsFor_32 (by decide) ?_
          exact z_zret hx hb hr hlocks (by simp [pi_b, Bool.and_eq_true, c_1, c_2, c_3, c_3', c_4, c_4']) d_S_holdsFor_36
set_option maxRecDepth 100000 in
set_option maxHeartbeats 4000000 in
theorem c_S_sameCorner (G : z_G s0 (dC, dI) cI cS) (a ax ay n : Nat) (num own fr to_ ca : Int32) (pv : Value) (xs ys : Nat → Int32) (i j : Nat) (hi : i < n) (hj : j < n) (hn : n ≤ 12) : Met l y_S_sameCorner [Cond.code y_S_sameCorner b_S_sameCorner 3 (some .boolean)] ({ frames := 0, cells := 0, slots := 0, locals := 0 }) (z_Pc s0 [.ref a, .int (nI i), .int (nI j)] (fun H => z_Sh (dC, dI) cI H a ax ay n num own fr to_ ca pv xs ys)) (z_Qr (some (.int (pi_b (pc_same xs ys i j))))) 0 0 z_no := by
  refine z_ofW (by decide +kernel) (Nat.le_of_ble_eq_true rfl) ?_
  intro p e s m below meth c hx hb hml hr hown hlocks hnm hW0 hB ls hl
  have hts := z_hts (args := [.ref a, .int (nI i), .int (nI j)].toArray) G.1 hW0
  have hN := z_nstW G.2.1 hW0
  have hK := va_K.moved hW0.alike G.2.2.1
  have hAI := arrOfT_moved hW0.alike G.2.2.2.1
  have hl : lv_has ls 3 [(0, .ref a), (1, .int (nI i)), (2, .int (nI j))] := hl
  obtain ⟨hO, hX, hY⟩ := id hB
  refine lv_aload_n hx hb d_S_sameCorner_0 rfl (lv_at hl 0 rfl) ?_
  refine va_get (D := (dC, dI)) (ci := 2) (v := .ref ax) (C := R_S) (T := T_S) (N := 9) hx hb hts in_S hown hK hO.P 0 rfl rfl 4 (by decide) (hts _ w_231) (fun _ h9 => h9) rfl d_S_sameCorner_1 ?_
  refine lv_iload_n hx hb d_S_sameCorner_4 rfl (lv_at hl 1 rfl) ?_
  refine z_iald hx hb hAI hX (by omega) (by decide) d_S_sameCorner_5 ?_
  refine lv_aload_n hx hb d_S_sameCorner_6 rfl (lv_at hl 0 rfl) ?_
  refine va_get (D := (dC, dI)) (ci := 2) (v := .ref ax) (C := R_S) (T := T_S) (N := 9) hx hb hts in_S hown hK hO.P 0 rfl rfl 4 (by decide) (hts _ w_231) (fun _ h9 => h9) rfl d_S_sameCorner_7 ?_
  refine lv_iload_n hx hb d_S_sameCorner_10 rfl (lv_at hl 2 rfl) ?_
  refine z_iald hx hb hAI hX (by omega) (by decide) d_S_sameCorner_11 ?_
  refine lv_icmp_ne (tgt := 34) hx hb d_S_sameCorner_12 (by decide) (fun c_1 => ?_) (fun c_1 => ?_)
  · skip
    refine lv_iconst (v := 0) hx hb d_S_sameCorner_34 (by decide) ?_
    exact z_zret hx hb hr hlocks (by simp [pi_b, pc_same, c_1]) d_S_sameCorner_35
  · skip
    refine lv_aload_n hx hb d_S_sameCorner_15 rfl (lv_at hl 0 rfl) ?_
    refine va_get (D := (dC, dI)) (ci := 2) (v := .ref ay) (C := R_S) (T := T_S) (N := 9) hx hb hts in_S hown hK hO.P 0 rfl rfl 5 (by decide) (hts _ w_232) (fun _ h9 => h9) rfl d_S_sameCorner_16 ?_
    refine lv_iload_n hx hb d_S_sameCorner_19 rfl (lv_at hl 1 rfl) ?_
    refine z_iald hx hb hAI hY (by omega) (by decide) d_S_sameCorner_20 ?_
    refine lv_aload_n hx hb d_S_sameCorner_21 rfl (lv_at hl 0 rfl) ?_
    refine va_get (D := (dC, dI)) (ci := 2) (v := .ref ay) (C := R_S) (T := T_S) (N := 9) hx hb hts in_S hown hK hO.P 0 rfl rfl 5 (by decide) (hts _ w_232) (fun _ h9 => h9) rfl d_S_sameCorner_22 ?_
    refine lv_iload_n hx hb d_S_sameCorner_25 rfl (lv_at hl 2 rfl) ?_
    refine z_iald hx hb hAI hY (by omega) (by decide) d_S_sameCorner_26 ?_
    refine lv_icmp_ne (tgt := 34) hx hb d_S_sameCorner_27 (by decide) (fun c_2 => ?_) (fun c_2 => ?_)
    · skip
      refine lv_iconst (v := 0) hx hb d_S_sameCorner_34 (by decide) ?_
      exact z_zret hx hb hr hlocks (by simp [pi_b, pc_same, c_1, c_2]) d_S_sameCorner_35
    · skip
      refine lv_iconst (v := 1) hx hb d_S_sameCorner_30 (by decide) ?_
      refine lv_goto (tgt := 35) hx hb d_S_sameCorner_31 (by decide) ?_
      exact z_zret hx hb hr hlocks (by simp [pi_b, pc_same, c_1, c_2]) d_S_sameCorner_35
set_option maxRecDepth 100000 in
set_option maxHeartbeats 4000000 in
theorem c_S_side (G : z_G s0 (dC, dI) cI cS) (a ax ay n : Nat) (num own fr to_ ca : Int32) (pv : Value) (xs ys : Nat → Int32) (i : Nat) (x y : Int32) (hi : i < n) (hn : n ≤ 12) : Met l y_S_side [Cond.code y_S_side b_S_side 5 (some .long)] ({ frames := 1, cells := 0, slots := 0, locals := 25 }) (z_Pc s0 [.ref a, .int (nI i), .int x, .int y] (fun H => z_Sh (dC, dI) cI H a ax ay n num own fr to_ ca pv xs ys)) (z_Qr (some (.long (pc_side xs ys n i x y)))) 0 0 z_no := by
  refine z_ofW (by decide +kernel) (Nat.le_of_ble_eq_true rfl) ?_
  intro p e s m below meth c hx hb hml hr hown hlocks hnm hW0 hB ls hl
  have hts := z_hts (args := [.ref a, .int (nI i), .int x, .int y].toArray) G.1 hW0
  have hN := z_nstW G.2.1 hW0
  have hK := va_K.moved hW0.alike G.2.2.1
  have hAI := arrOfT_moved hW0.alike G.2.2.2.1
  have hl : lv_has ls 5 [(0, .ref a), (1, .int (nI i)), (2, .int x), (3, .int y)] := hl
  obtain ⟨hO, hX, hY⟩ := id hB
  have hx1 := pc_nx_lt hi
  refine lv_aload_n hx hb d_S_side_0 rfl (lv_at hl 0 rfl) ?_
  refine lv_iload_n hx hb d_S_side_1 rfl (lv_at hl 1 rfl) ?_
  refine z_rdV (n := 1) (C := R_S) (rest := []) ⟨hx, hb, hml, hown, hts⟩ hW0 (c_S_next G a ax ay n num own fr to_ ca pv xs ys i (by omega) hn) w_309 w_306 w_308 wp_5 w_11 (by decide +kernel) ⟨rfl, rfl, Nat.le_of_ble_eq_true rfl, Nat.le_of_ble_eq_true rfl⟩ (hO.recv hK rfl) (hB) rfl rfl hl.1 (Nat.le_of_ble_eq_true rfl) d_S_side_2 ⟨Nat.zero_le _, Nat.zero_le _⟩ ?_
  refine lv_istore (lv' := [(4, .int (nI (pc_nx n i))), (0, .ref a), (1, .int (nI i)), (2, .int x), (3, .int y)]) hx hb d_S_side_5 hl (by decide) rfl (fun ls hl => ?_)
  refine lv_aload_n hx hb d_S_side_7 rfl (lv_at hl 1 rfl) ?_
  refine va_get (D := (dC, dI)) (ci := 2) (v := .ref ax) (C := R_S) (T := T_S) (N := 9) hx hb hts in_S hown hK hO.P 0 rfl rfl 4 (by decide) (hts _ w_231) (fun _ h9 => h9) rfl d_S_side_8 ?_
  refine lv_iload_n hx hb d_S_side_11 rfl (lv_at hl 2 rfl) ?_
  refine z_iald hx hb hAI hX (by omega) (by decide) d_S_side_12 ?_
  refine lv_aload_n hx hb d_S_side_13 rfl (lv_at hl 1 rfl) ?_
  refine va_get (D := (dC, dI)) (ci := 2) (v := .ref ay) (C := R_S) (T := T_S) (N := 9) hx hb hts in_S hown hK hO.P 0 rfl rfl 5 (by decide) (hts _ w_232) (fun _ h9 => h9) rfl d_S_side_14 ?_
  refine lv_iload_n hx hb d_S_side_17 rfl (lv_at hl 2 rfl) ?_
  refine z_iald hx hb hAI hY (by omega) (by decide) d_S_side_18 ?_
  refine lv_aload_n hx hb d_S_side_19 rfl (lv_at hl 1 rfl) ?_
  refine va_get (D := (dC, dI)) (ci := 2) (v := .ref ax) (C := R_S) (T := T_S) (N := 9) hx hb hts in_S hown hK hO.P 0 rfl rfl 4 (by decide) (hts _ w_231) (fun _ h9 => h9) rfl d_S_side_20 ?_
  refine lv_iload hx hb d_S_side_23 (lv_at hl 0 rfl) ?_
  refine z_iald hx hb hAI hX (by omega) (by decide) d_S_side_25 ?_
  refine lv_aload_n hx hb d_S_side_26 rfl (lv_at hl 1 rfl) ?_
  refine va_get (D := (dC, dI)) (ci := 2) (v := .ref ay) (C := R_S) (T := T_S) (N := 9) hx hb hts in_S hown hK hO.P 0 rfl rfl 5 (by decide) (hts _ w_232) (fun _ h9 => h9) rfl d_S_side_27 ?_
  refine lv_iload hx hb d_S_side_30 (lv_at hl 0 rfl) ?_
  refine z_iald hx hb hAI hY (by omega) (by decide) d_S_side_32 ?_
  refine lv_iload_n hx hb d_S_side_33 rfl (lv_at hl 3 rfl) ?_
  refine lv_iload_n hx hb d_S_side_34 rfl (lv_at hl 4 rfl) ?_
  refine z_rdSN (n := 6) (rest := []) (host := R_B) ⟨hx, hb, hml, hown, hts⟩ hW0 (c_B_turn G (xs i) (ys i) (xs (pc_nx n i)) (ys (pc_nx n i)) x y) w_337 (hN _ (List.mem_of_getElem? (i := 1) rfl)) w_336 w_1 (by decide +kernel) ⟨rfl, rfl, Nat.le_of_ble_eq_true rfl, Nat.le_of_ble_eq_true rfl⟩ (trivial) rfl rfl hl.1 (Nat.le_of_ble_eq_true rfl) d_S_side_35 ⟨Nat.zero_le _, Nat.zero_le _⟩ ?_
  exact z_lret hx hb hr hlocks (by rfl) d_S_side_38
set_option maxRecDepth 100000 in
set_option maxHeartbeats 4000000 in
theorem c_S_isOnLine (G : z_G s0 (dC, dI) cI cS) (a ax ay n : Nat) (num own fr to_ ca : Int32) (pv : Value) (xs ys : Nat → Int32) (i : Nat) (x y : Int32) (hi : i < n) (hn : n ≤ 12) : Met l y_S_isOnLine [Cond.code y_S_isOnLine b_S_isOnLine 5 (some .boolean)] ({ frames := 2, cells := 0, slots := 0, locals := 49 }) (z_Pc s0 [.ref a, .int (nI i), .int x, .int y] (fun H => z_Sh (dC, dI) cI H a ax ay n num own fr to_ ca pv xs ys)) (z_Qr (some (.int (pi_b (pc_on xs ys n i x y))))) 0 0 z_no := by
  refine z_ofW (by decide +kernel) (Nat.le_of_ble_eq_true rfl) ?_
  intro p e s m below meth c hx hb hml hr hown hlocks hnm hW0 hB ls hl
  have hts := z_hts (args := [.ref a, .int (nI i), .int x, .int y].toArray) G.1 hW0
  have hN := z_nstW G.2.1 hW0
  have hK := va_K.moved hW0.alike G.2.2.1
  have hAI := arrOfT_moved hW0.alike G.2.2.2.1
  have hl : lv_has ls 5 [(0, .ref a), (1, .int (nI i)), (2, .int x), (3, .int y)] := hl
  obtain ⟨hO, hX, hY⟩ := id hB
  have hx1 := pc_nx_lt hi
  refine lv_aload_n hx hb d_S_isOnLine_0 rfl (lv_at hl 0 rfl) ?_
  refine lv_iload_n hx hb d_S_isOnLine_1 rfl (lv_at hl 1 rfl) ?_
  refine z_rdV (n := 1) (C := R_S) (rest := []) ⟨hx, hb, hml, hown, hts⟩ hW0 (c_S_next G a ax ay n num own fr to_ ca pv xs ys i (by omega) hn) w_309 w_306 w_308 wp_5 w_11 (by decide +kernel) ⟨rfl, rfl, Nat.le_of_ble_eq_true rfl, Nat.le_of_ble_eq_true rfl⟩ (hO.recv hK rfl) (hB) rfl rfl hl.1 (Nat.le_of_ble_eq_true rfl) d_S_isOnLine_2 ⟨Nat.zero_le _, Nat.zero_le _⟩ ?_
  refine lv_istore (lv' := [(4, .int (nI (pc_nx n i))), (0, .ref a), (1, .int (nI i)), (2, .int x), (3, .int y)]) hx hb d_S_isOnLine_5 hl (by decide) rfl (fun ls hl => ?_)
  refine lv_aload_n hx hb d_S_isOnLine_7 rfl (lv_at hl 1 rfl) ?_
  refine va_get (D := (dC, dI)) (ci := 2) (v := .ref ax) (C := R_S) (T := T_S) (N := 9) hx hb hts in_S hown hK hO.P 0 rfl rfl 4 (by decide) (hts _ w_231) (fun _ h9 => h9) rfl d_S_isOnLine_8 ?_
  refine lv_iload_n hx hb d_S_isOnLine_11 rfl (lv_at hl 2 rfl) ?_
  refine z_iald hx hb hAI hX (by omega) (by decide) d_S_isOnLine_12 ?_
  refine lv_aload_n hx hb d_S_isOnLine_13 rfl (lv_at hl 1 rfl) ?_
  refine va_get (D := (dC, dI)) (ci := 2) (v := .ref ax) (C := R_S) (T := T_S) (N := 9) hx hb hts in_S hown hK hO.P 0 rfl rfl 4 (by decide) (hts _ w_231) (fun _ h9 => h9) rfl d_S_isOnLine_14 ?_
  refine lv_iload hx hb d_S_isOnLine_17 (lv_at hl 0 rfl) ?_
  refine z_iald hx hb hAI hX (by omega) (by decide) d_S_isOnLine_19 ?_
  refine lv_iload_n hx hb d_S_isOnLine_20 rfl (lv_at hl 3 rfl) ?_
  refine z_rdSN (n := 3) (rest := []) (host := R_B) ⟨hx, hb, hml, hown, hts⟩ hW0 (c_B_isBetween G (xs i) (xs (pc_nx n i)) x) w_324 (hN _ (List.mem_of_getElem? (i := 0) rfl)) w_323 w_1 (by decide +kernel) ⟨rfl, rfl, Nat.le_of_ble_eq_true rfl, Nat.le_of_ble_eq_true rfl⟩ (trivial) rfl rfl hl.1 (Nat.le_of_ble_eq_true rfl) d_S_isOnLine_21 ⟨Nat.zero_le _, Nat.zero_le _⟩ ?_
  refine lv_if_eq (tgt := 63) hx hb d_S_isOnLine_24 (by decide) (fun c_1 => ?_) (fun c_1 => ?_)
  · skip
    have c_1 : (pc_btw (xs i) (xs (pc_nx n i)) x) = false := pi_b_0.mp c_1
    refine lv_iconst (v := 0) hx hb d_S_isOnLine_63 (by decide) ?_
    exact z_zret hx hb hr hlocks (by simp [pi_b, pc_on, c_1]) d_S_isOnLine_64
  · skip
    have c_1 : (pc_btw (xs i) (xs (pc_nx n i)) x) = true := pi_b_1.mp c_1
    refine lv_aload_n hx hb d_S_isOnLine_27 rfl (lv_at hl 1 rfl) ?_
    refine va_get (D := (dC, dI)) (ci := 2) (v := .ref ay) (C := R_S) (T := T_S) (N := 9) hx hb hts in_S hown hK hO.P 0 rfl rfl 5 (by decide) (hts _ w_232) (fun _ h9 => h9) rfl d_S_isOnLine_28 ?_
    refine lv_iload_n hx hb d_S_isOnLine_31 rfl (lv_at hl 2 rfl) ?_
    refine z_iald hx hb hAI hY (by omega) (by decide) d_S_isOnLine_32 ?_
    refine lv_aload_n hx hb d_S_isOnLine_33 rfl (lv_at hl 1 rfl) ?_
    refine va_get (D := (dC, dI)) (ci := 2) (v := .ref ay) (C := R_S) (T := T_S) (N := 9) hx hb hts in_S hown hK hO.P 0 rfl rfl 5 (by decide) (hts _ w_232) (fun _ h9 => h9) rfl d_S_isOnLine_34 ?_
    refine lv_iload hx hb d_S_isOnLine_37 (lv_at hl 0 rfl) ?_
    refine z_iald hx hb hAI hY (by omega) (by decide) d_S_isOnLine_39 ?_
    refine lv_iload_n hx hb d_S_isOnLine_40 rfl (lv_at hl 4 rfl) ?_
    refine z_rdSN (n := 3) (rest := []) (host := R_B) ⟨hx, hb, hml, hown, hts⟩ hW0 (c_B_isBetween G (ys i) (ys (pc_nx n i)) y) w_324 (hN _ (List.mem_of_getElem? (i := 0) rfl)) w_323 w_1 (by decide +kernel) ⟨rfl, rfl, Nat.le_of_ble_eq_true rfl, Nat.le_of_ble_eq_true rfl⟩ (trivial) rfl rfl hl.1 (Nat.le_of_ble_eq_true rfl) d_S_isOnLine_41 ⟨Nat.zero_le _, Nat.zero_le _⟩ ?_
    refine lv_if_eq (tgt := 63) hx hb d_S_isOnLine_44 (by decide) (fun c_2 => ?_) (fun c_2 => ?_)
    · skip
      have c_2 : (pc_btw (ys i) (ys (pc_nx n i)) y) = false := pi_b_0.mp c_2
      refine lv_iconst (v := 0) hx hb d_S_isOnLine_63 (by decide) ?_
      exact z_zret hx hb hr hlocks (by simp [pi_b, pc_on, c_1, c_2]) d_S_isOnLine_64
    · skip
      have c_2 : (pc_btw (ys i) (ys (pc_nx n i)) y) = true := pi_b_1.mp c_2
      refine lv_aload_n hx hb d_S_isOnLine_47 rfl (lv_at hl 1 rfl) ?_
      refine lv_iload_n hx hb d_S_isOnLine_48 rfl (lv_at hl 2 rfl) ?_
      refine lv_iload_n hx hb d_S_isOnLine_49 rfl (lv_at hl 3 rfl) ?_
      refine lv_iload_n hx hb d_S_isOnLine_50 rfl (lv_at hl 4 rfl) ?_
      refine z_rdV (n := 3) (C := R_S) (rest := []) ⟨hx, hb, hml, hown, hts⟩ hW0 (c_S_side G a ax ay n num own fr to_ ca pv xs ys i x y (by omega) hn) w_334 w_331 w_333 wp_9 w_11 (by decide +kernel) ⟨rfl, rfl, Nat.le_of_ble_eq_true rfl, Nat.le_of_ble_eq_true rfl⟩ (hO.recv hK rfl) (hB) rfl rfl hl.1 (Nat.le_of_ble_eq_true rfl) d_S_isOnLine_51 ⟨Nat.zero_le _, Nat.zero_le _⟩ ?_
      refine lv_lconst (v := 0) hx hb d_S_isOnLine_54 (by decide) ?_
      refine W.lcmp hx hb d_S_isOnLine_55 ?_
      refine lv_if_ne (tgt := 63) hx hb d_S_isOnLine_56 (by decide) (fun c_3 => ?_) (fun c_3 => ?_)
      · skip
        have c_3 : ¬ ((pc_side xs ys n i x y) = 0) := fun h => c_3 ((lg_cmp_eq _ _).mpr h)
        refine lv_iconst (v := 0) hx hb d_S_isOnLine_63 (by decide) ?_
        exact z_zret hx hb hr hlocks (by simp [pi_b, pc_on, c_1, c_2, c_3]) d_S_isOnLine_64
      · skip
        have c_3 : (pc_side xs ys n i x y) = 0 := (lg_cmp_eq _ _).mp c_3
        refine lv_iconst (v := 1) hx hb d_S_isOnLine_59 (by decide) ?_
        refine lv_goto (tgt := 64) hx hb d_S_isOnLine_60 (by decide) ?_
        exact z_zret hx hb hr hlocks (by simp [pi_b, pc_on, c_1, c_2, c_3]) d_S_isOnLine_64
set_option maxRecDepth 100000 in
set_option maxHeartbeats 4000000 in
theorem c_S_isLineRightOf (G : z_G s0 (dC, dI) cI cS) (a ax ay n : Nat) (num own fr to_ ca : Int32) (pv : Value) (xs ys : Nat → Int32) (i : Nat) (x y : Int32) (hi : i < n) (hn : n ≤ 12) : Met l y_S_isLineRightOf [Cond.code y_S_isLineRightOf b_S_isLineRightOf 5 (some .boolean)] ({ frames := 2, cells := 0, slots := 0, locals := 49 }) (z_Pc s0 [.ref a, .int (nI i), .int x, .int y] (fun H => z_Sh (dC, dI) cI H a ax ay n num own fr to_ ca pv xs ys)) (z_Qr (some (.int (pi_b (pc_rt xs ys n i x y))))) 0 0 z_no := by
  refine z_ofW (by decide +kernel) (Nat.le_of_ble_eq_true rfl) ?_
  intro p e s m below meth c hx hb hml hr hown hlocks hnm hW0 hB ls hl
  have hts := z_hts (args := [.ref a, .int (nI i), .int x, .int y].toArray) G.1 hW0
  have hN := z_nstW G.2.1 hW0
  have hK := va_K.moved hW0.alike G.2.2.1
  have hAI := arrOfT_moved hW0.alike G.2.2.2.1
  have hl : lv_has ls 5 [(0, .ref a), (1, .int (nI i)), (2, .int x), (3, .int y)] := hl
  obtain ⟨hO, hX, hY⟩ := id hB
  have hx1 := pc_nx_lt hi
  refine lv_aload_n hx hb d_S_isLineRightOf_0 rfl (lv_at hl 0 rfl) ?_
  refine lv_iload_n hx hb d_S_isLineRightOf_1 rfl (lv_at hl 1 rfl) ?_
  refine z_rdV (n := 1) (C := R_S) (rest := []) ⟨hx, hb, hml, hown, hts⟩ hW0 (c_S_next G a ax ay n num own fr to_ ca pv xs ys i (by omega) hn) w_309 w_306 w_308 wp_5 w_11 (by decide +kernel) ⟨rfl, rfl, Nat.le_of_ble_eq_true rfl, Nat.le_of_ble_eq_true rfl⟩ (hO.recv hK rfl) (hB) rfl rfl hl.1 (Nat.le_of_ble_eq_true rfl) d_S_isLineRightOf_2 ⟨Nat.zero_le _, Nat.zero_le _⟩ ?_
  refine lv_istore (lv' := [(4, .int (nI (pc_nx n i))), (0, .ref a), (1, .int (nI i)), (2, .int x), (3, .int y)]) hx hb d_S_isLineRightOf_5 hl (by decide) rfl (fun ls hl => ?_)
  refine lv_aload_n hx hb d_S_isLineRightOf_7 rfl (lv_at hl 1 rfl) ?_
  refine va_get (D := (dC, dI)) (ci := 2) (v := .ref ay) (C := R_S) (T := T_S) (N := 9) hx hb hts in_S hown hK hO.P 0 rfl rfl 5 (by decide) (hts _ w_232) (fun _ h9 => h9) rfl d_S_isLineRightOf_8 ?_
  refine lv_iload_n hx hb d_S_isLineRightOf_11 rfl (lv_at hl 2 rfl) ?_
  refine z_iald hx hb hAI hY (by omega) (by decide) d_S_isLineRightOf_12 ?_
  refine lv_iload_n hx hb d_S_isLineRightOf_13 rfl (lv_at hl 4 rfl) ?_
  refine lv_icmp_gt (tgt := 46) hx hb d_S_isLineRightOf_14 (by decide) (fun c_1 => ?_) (fun c_1 => ?_)
  · skip
    have c_1' : ¬ ((ys i) ≤ y) := Int32.not_le.mpr c_1
    refine lv_aload_n hx hb d_S_isLineRightOf_46 rfl (lv_at hl 1 rfl) ?_
    refine va_get (D := (dC, dI)) (ci := 2) (v := .ref ay) (C := R_S) (T := T_S) (N := 9) hx hb hts in_S hown hK hO.P 0 rfl rfl 5 (by decide) (hts _ w_232) (fun _ h9 => h9) rfl d_S_isLineRightOf_47 ?_
    refine lv_iload hx hb d_S_isLineRightOf_50 (lv_at hl 0 rfl) ?_
    refine z_iald hx hb hAI hY (by omega) (by decide) d_S_isLineRightOf_52 ?_
    refine lv_iload_n hx hb d_S_isLineRightOf_53 rfl (lv_at hl 4 rfl) ?_
    refine lv_icmp_gt (tgt := 83) hx hb d_S_isLineRightOf_54 (by decide) (fun c_2 => ?_) (fun c_2 => ?_)
    · skip
      have c_2' : ¬ ((ys (pc_nx n i)) ≤ y) := Int32.not_le.mpr c_2
      refine lv_iconst (v := 0) hx hb d_S_isLineRightOf_83 (by decide) ?_
      exact z_zret hx hb hr hlocks (by simp [pi_b, pc_rt, c_1, c_1', c_2, c_2']) d_S_isLineRightOf_84
    · skip
      have c_2' : (ys (pc_nx n i)) ≤ y := Int32.not_lt.mp c_2
      refine lv_iload_n hx hb d_S_isLineRightOf_57 rfl (lv_at hl 4 rfl) ?_
      refine lv_aload_n hx hb d_S_isLineRightOf_58 rfl (lv_at hl 1 rfl) ?_
      refine va_get (D := (dC, dI)) (ci := 2) (v := .ref ay) (C := R_S) (T := T_S) (N := 9) hx hb hts in_S hown hK hO.P 0 rfl rfl 5 (by decide) (hts _ w_232) (fun _ h9 => h9) rfl d_S_isLineRightOf_59 ?_
      refine lv_iload_n hx hb d_S_isLineRightOf_62 rfl (lv_at hl 2 rfl) ?_
      refine z_iald hx hb hAI hY (by omega) (by decide) d_S_isLineRightOf_63 ?_
      refine lv_icmp_ge (tgt := 83) hx hb d_S_isLineRightOf_64 (by decide) (fun c_3 => ?_) (fun c_3 => ?_)
      · skip
        have c_3' : ¬ (y < (ys i)) := Int32.not_lt.mpr c_3
        exact absurd c_1 c_3'
      · skip
        have c_3' : y < (ys i) := Int32.not_le.mp c_3
        refine lv_aload_n hx hb d_S_isLineRightOf_67 rfl (lv_at hl 1 rfl) ?_
        refine lv_iload_n hx hb d_S_isLineRightOf_68 rfl (lv_at hl 2 rfl) ?_
        refine lv_iload_n hx hb d_S_isLineRightOf_69 rfl (lv_at hl 3 rfl) ?_
        refine lv_iload_n hx hb d_S_isLineRightOf_70 rfl (lv_at hl 4 rfl) ?_
        refine z_rdV (n := 3) (C := R_S) (rest := []) ⟨hx, hb, hml, hown, hts⟩ hW0 (c_S_side G a ax ay n num own fr to_ ca pv xs ys i x y (by omega) hn) w_334 w_331 w_333 wp_9 w_11 (by decide +kernel) ⟨rfl, rfl, Nat.le_of_ble_eq_true rfl, Nat.le_of_ble_eq_true rfl⟩ (hO.recv hK rfl) (hB) rfl rfl hl.1 (Nat.le_of_ble_eq_true rfl) d_S_isLineRightOf_71 ⟨Nat.zero_le _, Nat.zero_le _⟩ ?_
        refine lv_lconst (v := 0) hx hb d_S_isLineRightOf_74 (by decide) ?_
        refine W.lcmp hx hb d_S_isLineRightOf_75 ?_
        refine lv_if_ge (tgt := 83) hx hb d_S_isLineRightOf_76 (by decide) (fun c_4 => ?_) (fun c_4 => ?_)
        · skip
          have c_4 : 0 ≤ (pc_side xs ys n i x y) := (lg_cmp_ge _ _).mp c_4
          have c_4' : ¬ ((pc_side xs ys n i x y) < 0) := Int64.not_lt.mpr c_4
          refine lv_iconst (v := 0) hx hb d_S_isLineRightOf_83 (by decide) ?_
          exact z_zret hx hb hr hlocks (by simp [pi_b, pc_rt, c_1, c_1', c_2, c_2', c_3, c_3', c_4, c_4']) d_S_isLineRightOf_84
        · skip
          have c_4 : ¬ (0 ≤ (pc_side xs ys n i x y)) := fun h => c_4 ((lg_cmp_ge _ _).mpr h)
          have c_4' : (pc_side xs ys n i x y) < 0 := Int64.not_le.mp c_4
          refine lv_iconst (v := 1) hx hb d_S_isLineRightOf_79 (by decide) ?_
          refine lv_goto (tgt := 84) hx hb d_S_isLineRightOf_80 (by decide) ?_
          exact z_zret hx hb hr hlocks (by simp [pi_b, pc_rt, c_1, c_1', c_2, c_2', c_3, c_3', c_4, c_4']) d_S_isLineRightOf_84
  · skip
    have c_1' : (ys i) ≤ y := Int32.not_lt.mp c_1
    refine lv_iload_n hx hb d_S_isLineRightOf_17 rfl (lv_at hl 4 rfl) ?_
    refine lv_aload_n hx hb d_S_isLineRightOf_18 rfl (lv_at hl 1 rfl) ?_
    refine va_get (D := (dC, dI)) (ci := 2) (v := .ref ay) (C := R_S) (T := T_S) (N := 9) hx hb hts in_S hown hK hO.P 0 rfl rfl 5 (by decide) (hts _ w_232) (fun _ h9 => h9) rfl d_S_isLineRightOf_19 ?_
    refine lv_iload hx hb d_S_isLineRightOf_22 (lv_at hl 0 rfl) ?_
    refine z_iald hx hb hAI hY (by omega) (by decide) d_S_isLineRightOf_24 ?_
    refine lv_icmp_ge (tgt := 46) hx hb d_S_isLineRightOf_25 (by decide) (fun c_5 => ?_) (fun c_5 => ?_)
    · skip
      have c_5' : ¬ (y < (ys (pc_nx n i))) := Int32.not_lt.mpr c_5
      refine lv_aload_n hx hb d_S_isLineRightOf_46 rfl (lv_at hl 1 rfl) ?_
      refine va_get (D := (dC, dI)) (ci := 2) (v := .ref ay) (C := R_S) (T := T_S) (N := 9) hx hb hts in_S hown hK hO.P 0 rfl rfl 5 (by decide) (hts _ w_232) (fun _ h9 => h9) rfl d_S_isLineRightOf_47 ?_
      refine lv_iload hx hb d_S_isLineRightOf_50 (lv_at hl 0 rfl) ?_
      refine z_iald hx hb hAI hY (by omega) (by decide) d_S_isLineRightOf_52 ?_
      refine lv_iload_n hx hb d_S_isLineRightOf_53 rfl (lv_at hl 4 rfl) ?_
      refine lv_icmp_gt (tgt := 83) hx hb d_S_isLineRightOf_54 (by decide) (fun c_6 => ?_) (fun c_6 => ?_)
      · skip
        have c_6' : ¬ ((ys (pc_nx n i)) ≤ y) := Int32.not_le.mpr c_6
        exact absurd c_5 c_6'
      · skip
        have c_6' : (ys (pc_nx n i)) ≤ y := Int32.not_lt.mp c_6
        refine lv_iload_n hx hb d_S_isLineRightOf_57 rfl (lv_at hl 4 rfl) ?_
        refine lv_aload_n hx hb d_S_isLineRightOf_58 rfl (lv_at hl 1 rfl) ?_
        refine va_get (D := (dC, dI)) (ci := 2) (v := .ref ay) (C := R_S) (T := T_S) (N := 9) hx hb hts in_S hown hK hO.P 0 rfl rfl 5 (by decide) (hts _ w_232) (fun _ h9 => h9) rfl d_S_isLineRightOf_59 ?_
        refine lv_iload_n hx hb d_S_isLineRightOf_62 rfl (lv_at hl 2 rfl) ?_
        refine z_iald hx hb hAI hY (by omega) (by decide) d_S_isLineRightOf_63 ?_
        refine lv_icmp_ge (tgt := 83) hx hb d_S_isLineRightOf_64 (by decide) (fun c_7 => ?_) (fun c_7 => ?_)
        · skip
          have c_7' : ¬ (y < (ys i)) := Int32.not_lt.mpr c_7
          refine lv_iconst (v := 0) hx hb d_S_isLineRightOf_83 (by decide) ?_
          exact z_zret hx hb hr hlocks (by simp [pi_b, pc_rt, c_1, c_1', c_5, c_5', c_6, c_6', c_7, c_7']) d_S_isLineRightOf_84
        · skip
          have c_7' : y < (ys i) := Int32.not_le.mp c_7
          exact absurd c_7' c_1
    · skip
      have c_5' : y < (ys (pc_nx n i)) := Int32.not_le.mp c_5
      refine lv_aload_n hx hb d_S_isLineRightOf_28 rfl (lv_at hl 1 rfl) ?_
      refine lv_iload_n hx hb d_S_isLineRightOf_29 rfl (lv_at hl 2 rfl) ?_
      refine lv_iload_n hx hb d_S_isLineRightOf_30 rfl (lv_at hl 3 rfl) ?_
      refine lv_iload_n hx hb d_S_isLineRightOf_31 rfl (lv_at hl 4 rfl) ?_
      refine z_rdV (n := 3) (C := R_S) (rest := []) ⟨hx, hb, hml, hown, hts⟩ hW0 (c_S_side G a ax ay n num own fr to_ ca pv xs ys i x y (by omega) hn) w_334 w_331 w_333 wp_9 w_11 (by decide +kernel) ⟨rfl, rfl, Nat.le_of_ble_eq_true rfl, Nat.le_of_ble_eq_true rfl⟩ (hO.recv hK rfl) (hB) rfl rfl hl.1 (Nat.le_of_ble_eq_true rfl) d_S_isLineRightOf_32 ⟨Nat.zero_le _, Nat.zero_le _⟩ ?_
      refine lv_lconst (v := 0) hx hb d_S_isLineRightOf_35 (by decide) ?_
      refine W.lcmp hx hb d_S_isLineRightOf_36 ?_
      refine lv_if_le (tgt := 44) hx hb d_S_isLineRightOf_37 (by decide) (fun c_8 => ?_) (fun c_8 => ?_)
      · skip
        have c_8 : (pc_side xs ys n i x y) ≤ 0 := (lg_cmp_le _ _).mp c_8
        have c_8' : ¬ (0 < (pc_side xs ys n i x y)) := Int64.not_lt.mpr c_8
        refine lv_iconst (v := 0) hx hb d_S_isLineRightOf_44 (by decide) ?_
        exact z_zret hx hb hr hlocks (by simp [pi_b, pc_rt, c_1, c_1', c_5, c_5', c_8, c_8']) d_S_isLineRightOf_45
      · skip
        have c_8 : ¬ ((pc_side xs ys n i x y) ≤ 0) := fun h => c_8 ((lg_cmp_le _ _).mpr h)
        have c_8' : 0 < (pc_side xs ys n i x y) := Int64.not_le.mp c_8
        refine lv_iconst (v := 1) hx hb d_S_isLineRightOf_40 (by decide) ?_
        refine lv_goto (tgt := 45) hx hb d_S_isLineRightOf_41 (by decide) ?_
        exact z_zret hx hb hr hlocks (by simp [pi_b, pc_rt, c_1, c_1', c_5, c_5', c_8, c_8']) d_S_isLineRightOf_45
set_option maxRecDepth 100000 in
set_option maxHeartbeats 4000000 in
theorem c_S_hasCorner (G : z_G s0 (dC, dI) cI cS) (a ax ay n : Nat) (num own fr to_ ca : Int32) (pv : Value) (xs ys : Nat → Int32) (i j : Nat) (hi : i < n) (hj : j < n) (hn : n ≤ 12) : Met l y_S_hasCorner [Cond.code y_S_hasCorner b_S_hasCorner 3 (some .boolean)] ({ frames := 3, cells := 0, slots := 0, locals := 73 }) (z_Pc s0 [.ref a, .int (nI i), .int (nI j)] (fun H => z_Sh (dC, dI) cI H a ax ay n num own fr to_ ca pv xs ys)) (z_Qr (some (.int (pi_b (pc_hc xs ys n i j))))) 0 0 z_no := by
  refine z_ofW (by decide +kernel) (Nat.le_of_ble_eq_true rfl) ?_
  intro p e s m below meth c hx hb hml hr hown hlocks hnm hW0 hB ls hl
  have hts := z_hts (args := [.ref a, .int (nI i), .int (nI j)].toArray) G.1 hW0
  have hN := z_nstW G.2.1 hW0
  have hK := va_K.moved hW0.alike G.2.2.1
  have hAI := arrOfT_moved hW0.alike G.2.2.2.1
  have hl : lv_has ls 3 [(0, .ref a), (1, .int (nI i)), (2, .int (nI j))] := hl
  obtain ⟨hO, hX, hY⟩ := id hB
  refine lv_aload_n hx hb d_S_hasCorner_0 rfl (lv_at hl 0 rfl) ?_
  refine lv_iload_n hx hb d_S_hasCorner_1 rfl (lv_at hl 1 rfl) ?_
  refine lv_aload_n hx hb d_S_hasCorner_2 rfl (lv_at hl 0 rfl) ?_
  refine va_get (D := (dC, dI)) (ci := 2) (v := .ref ax) (C := R_S) (T := T_S) (N := 9) hx hb hts in_S hown hK hO.P 0 rfl rfl 4 (by decide) (hts _ w_231) (fun _ h9 => h9) rfl d_S_hasCorner_3 ?_
  refine lv_iload_n hx hb d_S_hasCorner_6 rfl (lv_at hl 2 rfl) ?_
  refine z_iald hx hb hAI hX (by omega) (by decide) d_S_hasCorner_7 ?_
  refine lv_aload_n hx hb d_S_hasCorner_8 rfl (lv_at hl 0 rfl) ?_
  refine va_get (D := (dC, dI)) (ci := 2) (v := .ref ay) (C := R_S) (T := T_S) (N := 9) hx hb hts in_S hown hK hO.P 0 rfl rfl 5 (by decide) (hts _ w_232) (fun _ h9 => h9) rfl d_S_hasCorner_9 ?_
  refine lv_iload_n hx hb d_S_hasCorner_12 rfl (lv_at hl 2 rfl) ?_
  refine z_iald hx hb hAI hY (by omega) (by decide) d_S_hasCorner_13 ?_
  refine z_rdV (n := 3) (C := R_S) (rest := []) ⟨hx, hb, hml, hown, hts⟩ hW0 (c_S_isOnLine G a ax ay n num own fr to_ ca pv xs ys i (xs j) (ys j) (by omega) hn) w_321 w_318 w_320 wp_8 w_11 (by decide +kernel) ⟨rfl, rfl, Nat.le_of_ble_eq_true rfl, Nat.le_of_ble_eq_true rfl⟩ (hO.recv hK rfl) (hB) rfl rfl hl.1 (Nat.le_of_ble_eq_true rfl) d_S_hasCorner_14 ⟨Nat.zero_le _, Nat.zero_le _⟩ ?_
  exact z_zret hx hb hr hlocks (by rfl) d_S_hasCorner_17
set_option maxRecDepth 100000 in
set_option maxHeartbeats 4000000 in
theorem c_S_foldsBack (G : z_G s0 (dC, dI) cI cS) (a ax ay n : Nat) (num own fr to_ ca : Int32) (pv : Value) (xs ys : Nat → Int32) (i j : Nat) (hi : i < n) (hj : j < n) (hn : n ≤ 12) : Met l y_S_foldsBack [Cond.code y_S_foldsBack b_S_foldsBack 3 (some .boolean)] ({ frames := 4, cells := 0, slots := 0, locals := 95 }) (z_Pc s0 [.ref a, .int (nI i), .int (nI j)] (fun H => z_Sh (dC, dI) cI H a ax ay n num own fr to_ ca pv xs ys)) (z_Qr (some (.int (pi_b (pc_fold xs ys n i j))))) 0 0 z_no := by
  refine z_ofW (by decide +kernel) (Nat.le_of_ble_eq_true rfl) ?_
  intro p e s m below meth c hx hb hml hr hown hlocks hnm hW0 hB ls hl
  have hts := z_hts (args := [.ref a, .int (nI i), .int (nI j)].toArray) G.1 hW0
  have hN := z_nstW G.2.1 hW0
  have hK := va_K.moved hW0.alike G.2.2.1
  have hAI := arrOfT_moved hW0.alike G.2.2.2.1
  have hl : lv_has ls 3 [(0, .ref a), (1, .int (nI i)), (2, .int (nI j))] := hl
  obtain ⟨hO, hX, hY⟩ := id hB
  have hx1 := pc_nx_lt hi
  have hx2 := pc_nx_lt hj
  refine lv_aload_n hx hb d_S_foldsBack_0 rfl (lv_at hl 0 rfl) ?_
  refine lv_iload_n hx hb d_S_foldsBack_1 rfl (lv_at hl 1 rfl) ?_
  refine lv_aload_n hx hb d_S_foldsBack_2 rfl (lv_at hl 0 rfl) ?_
  refine lv_iload_n hx hb d_S_foldsBack_3 rfl (lv_at hl 2 rfl) ?_
  refine z_rdV (n := 1) (C := R_S) (rest := [.int (nI i), .ref a]) ⟨hx, hb, hml, hown, hts⟩ hW0 (c_S_next G a ax ay n num own fr to_ ca pv xs ys j (by omega) hn) w_309 w_306 w_308 wp_5 w_11 (by decide +kernel) ⟨rfl, rfl, Nat.le_of_ble_eq_true rfl, Nat.le_of_ble_eq_true rfl⟩ (hO.recv hK rfl) (hB) rfl rfl hl.1 (Nat.le_of_ble_eq_true rfl) d_S_foldsBack_4 ⟨Nat.zero_le _, Nat.zero_le _⟩ ?_
  refine z_rdV (n := 2) (C := R_S) (rest := []) ⟨hx, hb, hml, hown, hts⟩ hW0 (c_S_hasCorner G a ax ay n num own fr to_ ca pv xs ys i (pc_nx n j) (by omega) (by omega) hn) w_317 w_314 w_316 wp_7 w_11 (by decide +kernel) ⟨rfl, rfl, Nat.le_of_ble_eq_true rfl, Nat.le_of_ble_eq_true rfl⟩ (hO.recv hK rfl) (hB) rfl rfl hl.1 (Nat.le_of_ble_eq_true rfl) d_S_foldsBack_7 ⟨Nat.zero_le _, Nat.zero_le _⟩ ?_
  refine lv_if_ne (tgt := 22) hx hb d_S_foldsBack_10 (by decide) (fun c_1 => ?_) (fun c_1 => ?_)
  · skip
    have c_1 : (pc_hc xs ys n i (pc_nx n j)) = true := pi_b_1.mp c_1
    refine lv_iconst (v := 1) hx hb d_S_foldsBack_22 (by decide) ?_
    refine lv_goto (tgt := 27) hx hb d_S_foldsBack_23 (by decide) ?_
    exact z_zret hx hb hr hlocks (by simp [pi_b, pc_fold, c_1]) d_S_foldsBack_27
  · skip
    have c_1 : (pc_hc xs ys n i (pc_nx n j)) = false := pi_b_0.mp c_1
    refine lv_aload_n hx hb d_S_foldsBack_13 rfl (lv_at hl 0 rfl) ?_
    refine lv_iload_n hx hb d_S_foldsBack_14 rfl (lv_at hl 2 rfl) ?_
    refine lv_iload_n hx hb d_S_foldsBack_15 rfl (lv_at hl 1 rfl) ?_
    refine z_rdV (n := 2) (C := R_S) (rest := []) ⟨hx, hb, hml, hown, hts⟩ hW0 (c_S_hasCorner G a ax ay n num own fr to_ ca pv xs ys j i (by omega) (by omega) hn) w_317 w_314 w_316 wp_7 w_11 (by decide +kernel) ⟨rfl, rfl, Nat.le_of_ble_eq_true rfl, Nat.le_of_ble_eq_true rfl⟩ (hO.recv hK rfl) (hB) rfl rfl hl.1 (Nat.le_of_ble_eq_true rfl) d_S_foldsBack_16 ⟨Nat.zero_le _, Nat.zero_le _⟩ ?_
    refine lv_if_eq (tgt := 26) hx hb d_S_foldsBack_19 (by decide) (fun c_2 => ?_) (fun c_2 => ?_)
    · skip
      have c_2 : (pc_hc xs ys n j i) = false := pi_b_0.mp c_2
      refine lv_iconst (v := 0) hx hb d_S_foldsBack_26 (by decide) ?_
      exact z_zret hx hb hr hlocks (by simp [pi_b, pc_fold, c_1, c_2]) d_S_foldsBack_27
    · skip
      have c_2 : (pc_hc xs ys n j i) = true := pi_b_1.mp c_2
      refine lv_iconst (v := 1) hx hb d_S_foldsBack_22 (by decide) ?_
      refine lv_goto (tgt := 27) hx hb d_S_foldsBack_23 (by decide) ?_
      exact z_zret hx hb hr hlocks (by simp [pi_b, pc_fold, c_1, c_2]) d_S_foldsBack_27
set_option maxRecDepth 100000 in
set_option maxHeartbeats 4000000 in
theorem c_S_parts (G : z_G s0 (dC, dI) cI cS) (a ax ay n : Nat) (num own fr to_ ca : Int32) (pv : Value) (xs ys : Nat → Int32) (i j : Nat) (hi : i < n) (hj : j < n) (hn : n ≤ 12) : Met l y_S_parts [Cond.code y_S_parts b_S_parts 7 (some .boolean)] ({ frames := 2, cells := 0, slots := 0, locals := 49 }) (z_Pc s0 [.ref a, .int (nI i), .int (nI j)] (fun H => z_Sh (dC, dI) cI H a ax ay n num own fr to_ ca pv xs ys)) (z_Qr (some (.int (pi_b (pc_parts xs ys n i j))))) 0 0 z_no := by
  refine z_ofW (by decide +kernel) (Nat.le_of_ble_eq_true rfl) ?_
  intro p e s m below meth c hx hb hml hr hown hlocks hnm hW0 hB ls hl
  have hts := z_hts (args := [.ref a, .int (nI i), .int (nI j)].toArray) G.1 hW0
  have hN := z_nstW G.2.1 hW0
  have hK := va_K.moved hW0.alike G.2.2.1
  have hAI := arrOfT_moved hW0.alike G.2.2.2.1
  have hl : lv_has ls 7 [(0, .ref a), (1, .int (nI i)), (2, .int (nI j))] := hl
  obtain ⟨hO, hX, hY⟩ := id hB
  have hx1 := pc_nx_lt hi
  have hx2 := pc_nx_lt hj
  refine lv_aload_n hx hb d_S_parts_0 rfl (lv_at hl 0 rfl) ?_
  refine lv_iload_n hx hb d_S_parts_1 rfl (lv_at hl 1 rfl) ?_
  refine lv_aload_n hx hb d_S_parts_2 rfl (lv_at hl 0 rfl) ?_
  refine va_get (D := (dC, dI)) (ci := 2) (v := .ref ax) (C := R_S) (T := T_S) (N := 9) hx hb hts in_S hown hK hO.P 0 rfl rfl 4 (by decide) (hts _ w_231) (fun _ h9 => h9) rfl d_S_parts_3 ?_
  refine lv_iload_n hx hb d_S_parts_6 rfl (lv_at hl 2 rfl) ?_
  refine z_iald hx hb hAI hX (by omega) (by decide) d_S_parts_7 ?_
  refine lv_aload_n hx hb d_S_parts_8 rfl (lv_at hl 0 rfl) ?_
  refine va_get (D := (dC, dI)) (ci := 2) (v := .ref ay) (C := R_S) (T := T_S) (N := 9) hx hb hts in_S hown hK hO.P 0 rfl rfl 5 (by decide) (hts _ w_232) (fun _ h9 => h9) rfl d_S_parts_9 ?_
  refine lv_iload_n hx hb d_S_parts_12 rfl (lv_at hl 2 rfl) ?_
  refine z_iald hx hb hAI hY (by omega) (by decide) d_S_parts_13 ?_
  refine z_rdV (n := 3) (C := R_S) (rest := []) ⟨hx, hb, hml, hown, hts⟩ hW0 (c_S_side G a ax ay n num own fr to_ ca pv xs ys i (xs j) (ys j) (by omega) hn) w_334 w_331 w_333 wp_9 w_11 (by decide +kernel) ⟨rfl, rfl, Nat.le_of_ble_eq_true rfl, Nat.le_of_ble_eq_true rfl⟩ (hO.recv hK rfl) (hB) rfl rfl hl.1 (Nat.le_of_ble_eq_true rfl) d_S_parts_14 ⟨Nat.zero_le _, Nat.zero_le _⟩ ?_
  refine lv_lstore_n (lv' := [(3, .long (pc_side xs ys n i (xs j) (ys j))), (0, .ref a), (1, .int (nI i)), (2, .int (nI j))]) hx hb d_S_parts_17 rfl hl (by decide) rfl (fun ls hl => ?_)
  refine lv_aload_n hx hb d_S_parts_18 rfl (lv_at hl 1 rfl) ?_
  refine lv_iload_n hx hb d_S_parts_19 rfl (lv_at hl 2 rfl) ?_
  refine lv_aload_n hx hb d_S_parts_20 rfl (lv_at hl 1 rfl) ?_
  refine va_get (D := (dC, dI)) (ci := 2) (v := .ref ax) (C := R_S) (T := T_S) (N := 9) hx hb hts in_S hown hK hO.P 0 rfl rfl 4 (by decide) (hts _ w_231) (fun _ h9 => h9) rfl d_S_parts_21 ?_
  refine lv_aload_n hx hb d_S_parts_24 rfl (lv_at hl 1 rfl) ?_
  refine lv_iload_n hx hb d_S_parts_25 rfl (lv_at hl 3 rfl) ?_
  refine z_rdV (n := 1) (C := R_S) (rest := [.ref ax, .int (nI i), .ref a]) ⟨hx, hb, hml, hown, hts⟩ hW0 (c_S_next G a ax ay n num own fr to_ ca pv xs ys j (by omega) hn) w_309 w_306 w_308 wp_5 w_11 (by decide +kernel) ⟨rfl, rfl, Nat.le_of_ble_eq_true rfl, Nat.le_of_ble_eq_true rfl⟩ (hO.recv hK rfl) (hB) rfl rfl hl.1 (Nat.le_of_ble_eq_true rfl) d_S_parts_26 ⟨Nat.zero_le _, Nat.zero_le _⟩ ?_
  refine z_iald hx hb hAI hX (by omega) (by decide) d_S_parts_29 ?_
  refine lv_aload_n hx hb d_S_parts_30 rfl (lv_at hl 1 rfl) ?_
  refine va_get (D := (dC, dI)) (ci := 2) (v := .ref ay) (C := R_S) (T := T_S) (N := 9) hx hb hts in_S hown hK hO.P 0 rfl rfl 5 (by decide) (hts _ w_232) (fun _ h9 => h9) rfl d_S_parts_31 ?_
  refine lv_aload_n hx hb d_S_parts_34 rfl (lv_at hl 1 rfl) ?_
  refine lv_iload_n hx hb d_S_parts_35 rfl (lv_at hl 3 rfl) ?_
  refine z_rdV (n := 1) (C := R_S) (rest := [.ref ay, .int (xs (pc_nx n j)), .int (nI i), .ref a]) ⟨hx, hb, hml, hown, hts⟩ hW0 (c_S_next G a ax ay n num own fr to_ ca pv xs ys j (by omega) hn) w_309 w_306 w_308 wp_5 w_11 (by decide +kernel) ⟨rfl, rfl, Nat.le_of_ble_eq_true rfl, Nat.le_of_ble_eq_true rfl⟩ (hO.recv hK rfl) (hB) rfl rfl hl.1 (Nat.le_of_ble_eq_true rfl) d_S_parts_36 ⟨Nat.zero_le _, Nat.zero_le _⟩ ?_
  refine z_iald hx hb hAI hY (by omega) (by decide) d_S_parts_39 ?_
  refine z_rdV (n := 3) (C := R_S) (rest := []) ⟨hx, hb, hml, hown, hts⟩ hW0 (c_S_side G a ax ay n num own fr to_ ca pv xs ys i (xs (pc_nx n j)) (ys (pc_nx n j)) (by omega) hn) w_334 w_331 w_333 wp_9 w_11 (by decide +kernel) ⟨rfl, rfl, Nat.le_of_ble_eq_true rfl, Nat.le_of_ble_eq_true rfl⟩ (hO.recv hK rfl) (hB) rfl rfl hl.1 (Nat.le_of_ble_eq_true rfl) d_S_parts_40 ⟨Nat.zero_le _, Nat.zero_le _⟩ ?_
  refine lv_lstore (lv' := [(5, .long (pc_side xs ys n i (xs (pc_nx n j)) (ys (pc_nx n j)))), (3, .long (pc_side xs ys n i (xs j) (ys j))), (0, .ref a), (1, .int (nI i)), (2, .int (nI j))]) hx hb d_S_parts_43 hl (by decide) rfl (fun ls hl => ?_)
  refine lv_lload_n hx hb d_S_parts_45 rfl (lv_at hl 1 rfl) ?_
  refine lv_lconst (v := 0) hx hb d_S_parts_46 (by decide) ?_
  refine W.lcmp hx hb d_S_parts_47 ?_
  refine lv_if_ge (tgt := 58) hx hb d_S_parts_48 (by decide) (fun c_1 => ?_) (fun c_1 => ?_)
  · skip
    have c_1 : 0 ≤ (pc_side xs ys n i (xs j) (ys j)) := (lg_cmp_ge _ _).mp c_1
    have c_1' : ¬ ((pc_side xs ys n i (xs j) (ys j)) < 0) := Int64.not_lt.mpr c_1
    refine lv_lload_n hx hb d_S_parts_58 rfl (lv_at hl 1 rfl) ?_
    refine lv_lconst (v := 0) hx hb d_S_parts_59 (by decide) ?_
    refine W.lcmp hx hb d_S_parts_60 ?_
    refine lv_if_le (tgt := 75) hx hb d_S_parts_61 (by decide) (fun c_2 => ?_) (fun c_2 => ?_)
    · skip
      have c_2 : (pc_side xs ys n i (xs j) (ys j)) ≤ 0 := (lg_cmp_le _ _).mp c_2
      have c_2' : ¬ (0 < (pc_side xs ys n i (xs j) (ys j))) := Int64.not_lt.mpr c_2
      refine lv_iconst (v := 0) hx hb d_S_parts_75 (by decide) ?_
      exact z_zret hx hb hr hlocks (by simp [pi_b, pc_parts, c_1, c_1', c_2, c_2']) d_S_parts_76
    · skip
      have c_2 : ¬ ((pc_side xs ys n i (xs j) (ys j)) ≤ 0) := fun h => c_2 ((lg_cmp_le _ _).mpr h)
      have c_2' : 0 < (pc_side xs ys n i (xs j) (ys j)) := Int64.not_le.mp c_2
      refine lv_lload hx hb d_S_parts_64 (lv_at hl 0 rfl) ?_
      refine lv_lconst (v := 0) hx hb d_S_parts_66 (by decide) ?_
      refine W.lcmp hx hb d_S_parts_67 ?_
      refine lv_if_ge (tgt := 75) hx hb d_S_parts_68 (by decide) (fun c_3 => ?_) (fun c_3 => ?_)
      · skip
        have c_3 : 0 ≤ (pc_side xs ys n i (xs (pc_nx n j)) (ys (pc_nx n j))) := (lg_cmp_ge _ _).mp c_3
        have c_3' : ¬ ((pc_side xs ys n i (xs (pc_nx n j)) (ys (pc_nx n j))) < 0) := Int64.not_lt.mpr c_3
        refine lv_iconst (v := 0) hx hb d_S_parts_75 (by decide) ?_
        exact z_zret hx hb hr hlocks (by simp [pi_b, pc_parts, c_1, c_1', c_2, c_2', c_3, c_3']) d_S_parts_76
      · skip
        have c_3 : ¬ (0 ≤ (pc_side xs ys n i (xs (pc_nx n j)) (ys (pc_nx n j)))) := fun h => c_3 ((lg_cmp_ge _ _).mpr h)
        have c_3' : (pc_side xs ys n i (xs (pc_nx n j)) (ys (pc_nx n j))) < 0 := Int64.not_le.mp c_3
        refine lv_iconst (v := 1) hx hb d_S_parts_71 (by decide) ?_
        refine lv_goto (tgt := 76) hx hb d_S_parts_72 (by decide) ?_
        exact z_zret hx hb hr hlocks (by simp [pi_b, pc_parts, c_1, c_1', c_2, c_2', c_3, c_3']) d_S_parts_76
  · skip
    have c_1 : ¬ (0 ≤ (pc_side xs ys n i (xs j) (ys j))) := fun h => c_1 ((lg_cmp_ge _ _).mpr h)
    have c_1' : (pc_side xs ys n i (xs j) (ys j)) < 0 := Int64.not_le.mp c_1
    refine lv_lload hx hb d_S_parts_51 (lv_at hl 0 rfl) ?_
    refine lv_lconst (v := 0) hx hb d_S_parts_53 (by decide) ?_
    refine W.lcmp hx hb d_S_parts_54 ?_
    refine lv_if_gt (tgt := 71) hx hb d_S_parts_55 (by decide) (fun c_4 => ?_) (fun c_4 => ?_)
    · skip
      have c_4 : 0 < (pc_side xs ys n i (xs (pc_nx n j)) (ys (pc_nx n j))) := (lg_cmp_gt _ _).mp c_4
      have c_4' : ¬ ((pc_side xs ys n i (xs (pc_nx n j)) (ys (pc_nx n j))) ≤ 0) := Int64.not_le.mpr c_4
      refine lv_iconst (v := 1) hx hb d_S_parts_71 (by decide) ?_
      refine lv_goto (tgt := 76) hx hb d_S_parts_72 (by decide) ?_
      exact z_zret hx hb hr hlocks (by simp [pi_b, pc_parts, c_1, c_1', c_4, c_4']) d_S_parts_76
    · skip
      have c_4 : ¬ (0 < (pc_side xs ys n i (xs (pc_nx n j)) (ys (pc_nx n j)))) := fun h => c_4 ((lg_cmp_gt _ _).mpr h)
      have c_4' : (pc_side xs ys n i (xs (pc_nx n j)) (ys (pc_nx n j))) ≤ 0 := Int64.not_lt.mp c_4
      refine lv_lload_n hx hb d_S_parts_58 rfl (lv_at hl 1 rfl) ?_
      refine lv_lconst (v := 0) hx hb d_S_parts_59 (by decide) ?_
      refine W.lcmp hx hb d_S_parts_60 ?_
      refine lv_if_le (tgt := 75) hx hb d_S_parts_61 (by decide) (fun c_5 => ?_) (fun c_5 => ?_)
      · skip
        have c_5 : (pc_side xs ys n i (xs j) (ys j)) ≤ 0 := (lg_cmp_le _ _).mp c_5
        have c_5' : ¬ (0 < (pc_side xs ys n i (xs j) (ys j))) := Int64.not_lt.mpr c_5
        refine lv_iconst (v := 0) hx hb d_S_parts_75 (by decide) ?_
        exact z_zret hx hb hr hlocks (by simp [pi_b, pc_parts, c_1, c_1', c_4, c_4', c_5, c_5']) d_S_parts_76
      · skip
        have c_5 : ¬ ((pc_side xs ys n i (xs j) (ys j)) ≤ 0) := fun h => c_5 ((lg_cmp_le _ _).mpr h)
        have c_5' : 0 < (pc_side xs ys n i (xs j) (ys j)) := Int64.not_le.mp c_5
        refine lv_lload hx hb d_S_parts_64 (lv_at hl 0 rfl) ?_
        refine lv_lconst (v := 0) hx hb d_S_parts_66 (by decide) ?_
        refine W.lcmp hx hb d_S_parts_67 ?_
        refine lv_if_ge (tgt := 75) hx hb d_S_parts_68 (by decide) (fun c_6 => ?_) (fun c_6 => ?_)
        · skip
          have c_6 : 0 ≤ (pc_side xs ys n i (xs (pc_nx n j)) (ys (pc_nx n j))) := (lg_cmp_ge _ _).mp c_6
          have c_6' : ¬ ((pc_side xs ys n i (xs (pc_nx n j)) (ys (pc_nx n j))) < 0) := Int64.not_lt.mpr c_6
          refine lv_iconst (v := 0) hx hb d_S_parts_75 (by decide) ?_
          exact z_zret hx hb hr hlocks (by simp [pi_b, pc_parts, c_1, c_1', c_4, c_4', c_5, c_5', c_6, c_6']) d_S_parts_76
        · skip
          have c_6 : ¬ (0 ≤ (pc_side xs ys n i (xs (pc_nx n j)) (ys (pc_nx n j)))) := fun h => c_6 ((lg_cmp_ge _ _).mpr h)
          have c_6' : (pc_side xs ys n i (xs (pc_nx n j)) (ys (pc_nx n j))) < 0 := Int64.not_le.mp c_6
          refine lv_iconst (v := 1) hx hb d_S_parts_71 (by decide) ?_
          refine lv_goto (tgt := 76) hx hb d_S_parts_72 (by decide) ?_
          exact z_zret hx hb hr hlocks (by simp [pi_b, pc_parts, c_1, c_1', c_4, c_4', c_5, c_5', c_6, c_6']) d_S_parts_76
set_option maxRecDepth 100000 in
set_option maxHeartbeats 4000000 in
theorem c_S_linesClash (G : z_G s0 (dC, dI) cI cS) (a ax ay n : Nat) (num own fr to_ ca : Int32) (pv : Value) (xs ys : Nat → Int32) (i j : Nat) (hi : i < n) (hj : j < n) (hn : n ≤ 12) : Met l y_S_linesClash [Cond.code y_S_linesClash b_S_linesClash 3 (some .boolean)] ({ frames := 5, cells := 0, slots := 0, locals := 117 }) (z_Pc s0 [.ref a, .int (nI i), .int (nI j)] (fun H => z_Sh (dC, dI) cI H a ax ay n num own fr to_ ca pv xs ys)) (z_Qr (some (.int (pi_b (pc_clash xs ys n i j))))) 0 0 z_no := by
  refine z_ofW (by decide +kernel) (Nat.le_of_ble_eq_true rfl) ?_
  intro p e s m below meth c hx hb hml hr hown hlocks hnm hW0 hB ls hl
  have hts := z_hts (args := [.ref a, .int (nI i), .int (nI j)].toArray) G.1 hW0
  have hN := z_nstW G.2.1 hW0
  have hK := va_K.moved hW0.alike G.2.2.1
  have hAI := arrOfT_moved hW0.alike G.2.2.2.1
  have hl : lv_has ls 3 [(0, .ref a), (1, .int (nI i)), (2, .int (nI j))] := hl
  obtain ⟨hO, hX, hY⟩ := id hB
  have hx1 := pc_nx_lt hi
  have hx2 := pc_nx_lt hj
  refine lv_aload_n hx hb d_S_linesClash_0 rfl (lv_at hl 0 rfl) ?_
  refine lv_iload_n hx hb d_S_linesClash_1 rfl (lv_at hl 1 rfl) ?_
  refine z_rdV (n := 1) (C := R_S) (rest := []) ⟨hx, hb, hml, hown, hts⟩ hW0 (c_S_next G a ax ay n num own fr to_ ca pv xs ys i (by omega) hn) w_309 w_306 w_308 wp_5 w_11 (by decide +kernel) ⟨rfl, rfl, Nat.le_of_ble_eq_true rfl, Nat.le_of_ble_eq_true rfl⟩ (hO.recv hK rfl) (hB) rfl rfl hl.1 (Nat.le_of_ble_eq_true rfl) d_S_linesClash_2 ⟨Nat.zero_le _, Nat.zero_le _⟩ ?_
  refine lv_iload_n hx hb d_S_linesClash_5 rfl (lv_at hl 2 rfl) ?_
  refine lv_icmp_ne (tgt := 16) hx hb d_S_linesClash_6 (by decide) (fun c_1 => ?_) (fun c_1 => ?_)
  · skip
    have c_1 : ¬ ((pc_nx n i) = j) := fun h => c_1 ((nI_eq (a := pc_nx n i) (b := j) (by omega) (by omega)).mpr h)
    refine lv_aload_n hx hb d_S_linesClash_16 rfl (lv_at hl 0 rfl) ?_
    refine lv_iload_n hx hb d_S_linesClash_17 rfl (lv_at hl 2 rfl) ?_
    refine z_rdV (n := 1) (C := R_S) (rest := []) ⟨hx, hb, hml, hown, hts⟩ hW0 (c_S_next G a ax ay n num own fr to_ ca pv xs ys j (by omega) hn) w_309 w_306 w_308 wp_5 w_11 (by decide +kernel) ⟨rfl, rfl, Nat.le_of_ble_eq_true rfl, Nat.le_of_ble_eq_true rfl⟩ (hO.recv hK rfl) (hB) rfl rfl hl.1 (Nat.le_of_ble_eq_true rfl) d_S_linesClash_18 ⟨Nat.zero_le _, Nat.zero_le _⟩ ?_
    refine lv_iload_n hx hb d_S_linesClash_21 rfl (lv_at hl 1 rfl) ?_
    refine lv_icmp_ne (tgt := 32) hx hb d_S_linesClash_22 (by decide) (fun c_2 => ?_) (fun c_2 => ?_)
    · skip
      have c_2 : ¬ ((pc_nx n j) = i) := fun h => c_2 ((nI_eq (a := pc_nx n j) (b := i) (by omega) (by omega)).mpr h)
      refine lv_aload_n hx hb d_S_linesClash_32 rfl (lv_at hl 0 rfl) ?_
      refine lv_iload_n hx hb d_S_linesClash_33 rfl (lv_at hl 1 rfl) ?_
      refine lv_iload_n hx hb d_S_linesClash_34 rfl (lv_at hl 2 rfl) ?_
      refine z_rdV (n := 2) (C := R_S) (rest := []) ⟨hx, hb, hml, hown, hts⟩ hW0 (c_S_hasCorner G a ax ay n num own fr to_ ca pv xs ys i j (by omega) (by omega) hn) w_317 w_314 w_316 wp_7 w_11 (by decide +kernel) ⟨rfl, rfl, Nat.le_of_ble_eq_true rfl, Nat.le_of_ble_eq_true rfl⟩ (hO.recv hK rfl) (hB) rfl rfl hl.1 (Nat.le_of_ble_eq_true rfl) d_S_linesClash_35 ⟨Nat.zero_le _, Nat.zero_le _⟩ ?_
      refine lv_if_ne (tgt := 94) hx hb d_S_linesClash_38 (by decide) (fun c_3 => ?_) (fun c_3 => ?_)
      · skip
        have c_3 : (pc_hc xs ys n i j) = true := pi_b_1.mp c_3
        refine lv_iconst (v := 1) hx hb d_S_linesClash_94 (by decide) ?_
        refine lv_goto (tgt := 99) hx hb d_S_linesClash_95 (by decide) ?_
        exact z_zret hx hb hr hlocks (by simp [pi_b, pc_clash, c_1, c_2, c_3]) d_S_linesClash_99
      · skip
        have c_3 : (pc_hc xs ys n i j) = false := pi_b_0.mp c_3
        refine lv_aload_n hx hb d_S_linesClash_41 rfl (lv_at hl 0 rfl) ?_
        refine lv_iload_n hx hb d_S_linesClash_42 rfl (lv_at hl 1 rfl) ?_
        refine lv_aload_n hx hb d_S_linesClash_43 rfl (lv_at hl 0 rfl) ?_
        refine lv_iload_n hx hb d_S_linesClash_44 rfl (lv_at hl 2 rfl) ?_
        refine z_rdV (n := 1) (C := R_S) (rest := [.int (nI i), .ref a]) ⟨hx, hb, hml, hown, hts⟩ hW0 (c_S_next G a ax ay n num own fr to_ ca pv xs ys j (by omega) hn) w_309 w_306 w_308 wp_5 w_11 (by decide +kernel) ⟨rfl, rfl, Nat.le_of_ble_eq_true rfl, Nat.le_of_ble_eq_true rfl⟩ (hO.recv hK rfl) (hB) rfl rfl hl.1 (Nat.le_of_ble_eq_true rfl) d_S_linesClash_45 ⟨Nat.zero_le _, Nat.zero_le _⟩ ?_
        refine z_rdV (n := 2) (C := R_S) (rest := []) ⟨hx, hb, hml, hown, hts⟩ hW0 (c_S_hasCorner G a ax ay n num own fr to_ ca pv xs ys i (pc_nx n j) (by omega) (by omega) hn) w_317 w_314 w_316 wp_7 w_11 (by decide +kernel) ⟨rfl, rfl, Nat.le_of_ble_eq_true rfl, Nat.le_of_ble_eq_true rfl⟩ (hO.recv hK rfl) (hB) rfl rfl hl.1 (Nat.le_of_ble_eq_true rfl) d_S_linesClash_48 ⟨Nat.zero_le _, Nat.zero_le _⟩ ?_
        refine lv_if_ne (tgt := 94) hx hb d_S_linesClash_51 (by decide) (fun c_4 => ?_) (fun c_4 => ?_)
        · skip
          have c_4 : (pc_hc xs ys n i (pc_nx n j)) = true := pi_b_1.mp c_4
          refine lv_iconst (v := 1) hx hb d_S_linesClash_94 (by decide) ?_
          refine lv_goto (tgt := 99) hx hb d_S_linesClash_95 (by decide) ?_
          exact z_zret hx hb hr hlocks (by simp [pi_b, pc_clash, c_1, c_2, c_3, c_4]) d_S_linesClash_99
        · skip
          have c_4 : (pc_hc xs ys n i (pc_nx n j)) = false := pi_b_0.mp c_4
          refine lv_aload_n hx hb d_S_linesClash_54 rfl (lv_at hl 0 rfl) ?_
          refine lv_iload_n hx hb d_S_linesClash_55 rfl (lv_at hl 2 rfl) ?_
          refine lv_iload_n hx hb d_S_linesClash_56 rfl (lv_at hl 1 rfl) ?_
          refine z_rdV (n := 2) (C := R_S) (rest := []) ⟨hx, hb, hml, hown, hts⟩ hW0 (c_S_hasCorner G a ax ay n num own fr to_ ca pv xs ys j i (by omega) (by omega) hn) w_317 w_314 w_316 wp_7 w_11 (by decide +kernel) ⟨rfl, rfl, Nat.le_of_ble_eq_true rfl, Nat.le_of_ble_eq_true rfl⟩ (hO.recv hK rfl) (hB) rfl rfl hl.1 (Nat.le_of_ble_eq_true rfl) d_S_linesClash_57 ⟨Nat.zero_le _, Nat.zero_le _⟩ ?_
          refine lv_if_ne (tgt := 94) hx hb d_S_linesClash_60 (by decide) (fun c_5 => ?_) (fun c_5 => ?_)
          · skip
            have c_5 : (pc_hc xs ys n j i) = true := pi_b_1.mp c_5
            refine lv_iconst (v := 1) hx hb d_S_linesClash_94 (by decide) ?_
            refine lv_goto (tgt := 99) hx hb d_S_linesClash_95 (by decide) ?_
            exact z_zret hx hb hr hlocks (by simp [pi_b, pc_clash, c_1, c_2, c_3, c_4, c_5]) d_S_linesClash_99
          · skip
            have c_5 : (pc_hc xs ys n j i) = false := pi_b_0.mp c_5
            refine lv_aload_n hx hb d_S_linesClash_63 rfl (lv_at hl 0 rfl) ?_
            refine lv_iload_n hx hb d_S_linesClash_64 rfl (lv_at hl 2 rfl) ?_
            refine lv_aload_n hx hb d_S_linesClash_65 rfl (lv_at hl 0 rfl) ?_
            refine lv_iload_n hx hb d_S_linesClash_66 rfl (lv_at hl 1 rfl) ?_
            refine z_rdV (n := 1) (C := R_S) (rest := [.int (nI j), .ref a]) ⟨hx, hb, hml, hown, hts⟩ hW0 (c_S_next G a ax ay n num own fr to_ ca pv xs ys i (by omega) hn) w_309 w_306 w_308 wp_5 w_11 (by decide +kernel) ⟨rfl, rfl, Nat.le_of_ble_eq_true rfl, Nat.le_of_ble_eq_true rfl⟩ (hO.recv hK rfl) (hB) rfl rfl hl.1 (Nat.le_of_ble_eq_true rfl) d_S_linesClash_67 ⟨Nat.zero_le _, Nat.zero_le _⟩ ?_
            refine z_rdV (n := 2) (C := R_S) (rest := []) ⟨hx, hb, hml, hown, hts⟩ hW0 (c_S_hasCorner G a ax ay n num own fr to_ ca pv xs ys j (pc_nx n i) (by omega) (by omega) hn) w_317 w_314 w_316 wp_7 w_11 (by decide +kernel) ⟨rfl, rfl, Nat.le_of_ble_eq_true rfl, Nat.le_of_ble_eq_true rfl⟩ (hO.recv hK rfl) (hB) rfl rfl hl.1 (Nat.le_of_ble_eq_true rfl) d_S_linesClash_70 ⟨Nat.zero_le _, Nat.zero_le _⟩ ?_
            refine lv_if_ne (tgt := 94) hx hb d_S_linesClash_73 (by decide) (fun c_6 => ?_) (fun c_6 => ?_)
            · skip
              have c_6 : (pc_hc xs ys n j (pc_nx n i)) = true := pi_b_1.mp c_6
              refine lv_iconst (v := 1) hx hb d_S_linesClash_94 (by decide) ?_
              refine lv_goto (tgt := 99) hx hb d_S_linesClash_95 (by decide) ?_
              exact z_zret hx hb hr hlocks (by simp [pi_b, pc_clash, c_1, c_2, c_3, c_4, c_5, c_6]) d_S_linesClash_99
            · skip
              have c_6 : (pc_hc xs ys n j (pc_nx n i)) = false := pi_b_0.mp c_6
              refine lv_aload_n hx hb d_S_linesClash_76 rfl (lv_at hl 0 rfl) ?_
              refine lv_iload_n hx hb d_S_linesClash_77 rfl (lv_at hl 1 rfl) ?_
              refine lv_iload_n hx hb d_S_linesClash_78 rfl (lv_at hl 2 rfl) ?_
              refine z_rdV (n := 2) (C := R_S) (rest := []) ⟨hx, hb, hml, hown, hts⟩ hW0 (c_S_parts G a ax ay n num own fr to_ ca pv xs ys i j (by omega) (by omega) hn) w_341 w_338 w_340 wp_10 w_11 (by decide +kernel) ⟨rfl, rfl, Nat.le_of_ble_eq_true rfl, Nat.le_of_ble_eq_true rfl⟩ (hO.recv hK rfl) (hB) rfl rfl hl.1 (Nat.le_of_ble_eq_true rfl) d_S_linesClash_79 ⟨Nat.zero_le _, Nat.zero_le _⟩ ?_
              refine lv_if_eq (tgt := 98) hx hb d_S_linesClash_82 (by decide) (fun c_7 => ?_) (fun c_7 => ?_)
              · skip
                have c_7 : (pc_parts xs ys n i j) = false := pi_b_0.mp c_7
                refine lv_iconst (v := 0) hx hb d_S_linesClash_98 (by decide) ?_
                exact z_zret hx hb hr hlocks (by simp [pi_b, pc_clash, c_1, c_2, c_3, c_4, c_5, c_6, c_7]) d_S_linesClash_99
              · skip
                have c_7 : (pc_parts xs ys n i j) = true := pi_b_1.mp c_7
                refine lv_aload_n hx hb d_S_linesClash_85 rfl (lv_at hl 0 rfl) ?_
                refine lv_iload_n hx hb d_S_linesClash_86 rfl (lv_at hl 2 rfl) ?_
                refine lv_iload_n hx hb d_S_linesClash_87 rfl (lv_at hl 1 rfl) ?_
                refine z_rdV (n := 2) (C := R_S) (rest := []) ⟨hx, hb, hml, hown, hts⟩ hW0 (c_S_parts G a ax ay n num own fr to_ ca pv xs ys j i (by omega) (by omega) hn) w_341 w_338 w_340 wp_10 w_11 (by decide +kernel) ⟨rfl, rfl, Nat.le_of_ble_eq_true rfl, Nat.le_of_ble_eq_true rfl⟩ (hO.recv hK rfl) (hB) rfl rfl hl.1 (Nat.le_of_ble_eq_true rfl) d_S_linesClash_88 ⟨Nat.zero_le _, Nat.zero_le _⟩ ?_
                refine lv_if_eq (tgt := 98) hx hb d_S_linesClash_91 (by decide) (fun c_8 => ?_) (fun c_8 => ?_)
                · skip
                  have c_8 : (pc_parts xs ys n j i) = false := pi_b_0.mp c_8
                  refine lv_iconst (v := 0) hx hb d_S_linesClash_98 (by decide) ?_
                  exact z_zret hx hb hr hlocks (by simp [pi_b, pc_clash, c_1, c_2, c_3, c_4, c_5, c_6, c_7, c_8]) d_S_linesClash_99
                · skip
                  have c_8 : (pc_parts xs ys n j i) = true := pi_b_1.mp c_8
                  refine lv_iconst (v := 1) hx hb d_S_linesClash_94 (by decide) ?_
                  refine lv_goto (tgt := 99) hx hb d_S_linesClash_95 (by decide) ?_
                  exact z_zret hx hb hr hlocks (by simp [pi_b, pc_clash, c_1, c_2, c_3, c_4, c_5, c_6, c_7, c_8]) d_S_linesClash_99
    · skip
      have c_2 : (pc_nx n j) = i := (nI_eq (a := pc_nx n j) (b := i) (by omega) (by omega)).mp c_2
      refine lv_aload_n hx hb d_S_linesClash_25 rfl (lv_at hl 0 rfl) ?_
      refine lv_iload_n hx hb d_S_linesClash_26 rfl (lv_at hl 2 rfl) ?_
      refine lv_iload_n hx hb d_S_linesClash_27 rfl (lv_at hl 1 rfl) ?_
      refine z_rdV (n := 2) (C := R_S) (rest := []) ⟨hx, hb, hml, hown, hts⟩ hW0 (c_S_foldsBack G a ax ay n num own fr to_ ca pv xs ys j i (by omega) (by omega) hn) w_313 w_310 w_312 wp_6 w_11 (by decide +kernel) ⟨rfl, rfl, Nat.le_of_ble_eq_true rfl, Nat.le_of_ble_eq_true rfl⟩ (hO.recv hK rfl) (hB) rfl rfl hl.1 (Nat.le_of_ble_eq_true rfl) d_S_linesClash_28 ⟨Nat.zero_le _, Nat.zero_le _⟩ ?_
      exact z_zret hx hb hr hlocks (by simp [pi_b, pc_clash, c_1, c_2]) d_S_linesClash_31
  · skip
    have c_1 : (pc_nx n i) = j := (nI_eq (a := pc_nx n i) (b := j) (by omega) (by omega)).mp c_1
    refine lv_aload_n hx hb d_S_linesClash_9 rfl (lv_at hl 0 rfl) ?_
    refine lv_iload_n hx hb d_S_linesClash_10 rfl (lv_at hl 1 rfl) ?_
    refine lv_iload_n hx hb d_S_linesClash_11 rfl (lv_at hl 2 rfl) ?_
    refine z_rdV (n := 2) (C := R_S) (rest := []) ⟨hx, hb, hml, hown, hts⟩ hW0 (c_S_foldsBack G a ax ay n num own fr to_ ca pv xs ys i j (by omega) (by omega) hn) w_313 w_310 w_312 wp_6 w_11 (by decide +kernel) ⟨rfl, rfl, Nat.le_of_ble_eq_true rfl, Nat.le_of_ble_eq_true rfl⟩ (hO.recv hK rfl) (hB) rfl rfl hl.1 (Nat.le_of_ble_eq_true rfl) d_S_linesClash_12 ⟨Nat.zero_le _, Nat.zero_le _⟩ ?_
    exact z_zret hx hb hr hlocks (by simp [pi_b, pc_clash, c_1]) d_S_linesClash_15
set_option maxRecDepth 100000 in
set_option maxHeartbeats 4000000 in
theorem c_S_squareBetween (G : z_G s0 (dC, dI) cI cS) (a ax ay n : Nat) (num own fr to_ ca : Int32) (pv : Value) (xs ys : Nat → Int32) (a2 ax2 ay2 n2 : Nat) (num2 own2 fr2 to_2 ca2 : Int32) (pv2 : Value) (xs2 ys2 : Nat → Int32) (i j : Nat) (hi : i < n) (hj : j < n2) (hn : n ≤ 12) (hn2 : n2 ≤ 12) : Met l y_S_squareBetween [Cond.code y_S_squareBetween b_S_squareBetween 6 (some .int)] ({ frames := 0, cells := 0, slots := 0, locals := 0 }) (z_Pc s0 [.ref a, .int (nI i), .ref a2, .int (nI j)] (fun H => z_Sh (dC, dI) cI H a ax ay n num own fr to_ ca pv xs ys ∧ z_Sh (dC, dI) cI H a2 ax2 ay2 n2 num2 own2 fr2 to_2 ca2 pv2 xs2 ys2)) (z_Qr (some (.int (pc_sq xs ys i xs2 ys2 j)))) 0 0 z_no := by
  refine z_ofW (by decide +kernel) (Nat.le_of_ble_eq_true rfl) ?_
  intro p e s m below meth c hx hb hml hr hown hlocks hnm hW0 hB ls hl
  have hts := z_hts (args := [.ref a, .int (nI i), .ref a2, .int (nI j)].toArray) G.1 hW0
  have hN := z_nstW G.2.1 hW0
  have hK := va_K.moved hW0.alike G.2.2.1
  have hAI := arrOfT_moved hW0.alike G.2.2.2.1
  have hl : lv_has ls 6 [(0, .ref a), (1, .int (nI i)), (2, .ref a2), (3, .int (nI j))] := hl
  obtain ⟨⟨hO, hX, hY⟩, hO2, hX2, hY2⟩ := id hB
  refine lv_aload_n hx hb d_S_squareBetween_0 rfl (lv_at hl 0 rfl) ?_
  refine va_get (D := (dC, dI)) (ci := 2) (v := .ref ax) (C := R_S) (T := T_S) (N := 9) hx hb hts in_S hown hK hO.P 0 rfl rfl 4 (by decide) (hts _ w_231) (fun _ h9 => h9) rfl d_S_squareBetween_1 ?_
  refine lv_iload_n hx hb d_S_squareBetween_4 rfl (lv_at hl 1 rfl) ?_
  refine z_iald hx hb hAI hX (by omega) (by decide) d_S_squareBetween_5 ?_
  refine lv_aload_n hx hb d_S_squareBetween_6 rfl (lv_at hl 2 rfl) ?_
  refine va_get (D := (dC, dI)) (ci := 2) (v := .ref ax2) (C := R_S) (T := T_S) (N := 9) hx hb hts in_S hown hK hO2.P 0 rfl rfl 4 (by decide) (hts _ w_231) (fun _ h9 => h9) rfl d_S_squareBetween_7 ?_
  refine lv_iload_n hx hb d_S_squareBetween_10 rfl (lv_at hl 3 rfl) ?_
  refine z_iald hx hb hAI hX2 (by omega) (by decide) d_S_squareBetween_11 ?_
  refine lv_isub hx hb d_S_squareBetween_12 ?_
  refine lv_istore (lv' := [(4, .int ((xs i) - (xs2 j))), (0, .ref a), (1, .int (nI i)), (2, .ref a2), (3, .int (nI j))]) hx hb d_S_squareBetween_13 hl (by decide) rfl (fun ls hl => ?_)
  refine lv_aload_n hx hb d_S_squareBetween_15 rfl (lv_at hl 1 rfl) ?_
  refine va_get (D := (dC, dI)) (ci := 2) (v := .ref ay) (C := R_S) (T := T_S) (N := 9) hx hb hts in_S hown hK hO.P 0 rfl rfl 5 (by decide) (hts _ w_232) (fun _ h9 => h9) rfl d_S_squareBetween_16 ?_
  refine lv_iload_n hx hb d_S_squareBetween_19 rfl (lv_at hl 2 rfl) ?_
  refine z_iald hx hb hAI hY (by omega) (by decide) d_S_squareBetween_20 ?_
  refine lv_aload_n hx hb d_S_squareBetween_21 rfl (lv_at hl 3 rfl) ?_
  refine va_get (D := (dC, dI)) (ci := 2) (v := .ref ay2) (C := R_S) (T := T_S) (N := 9) hx hb hts in_S hown hK hO2.P 0 rfl rfl 5 (by decide) (hts _ w_232) (fun _ h9 => h9) rfl d_S_squareBetween_22 ?_
  refine lv_iload_n hx hb d_S_squareBetween_25 rfl (lv_at hl 4 rfl) ?_
  refine z_iald hx hb hAI hY2 (by omega) (by decide) d_S_squareBetween_26 ?_
  refine lv_isub hx hb d_S_squareBetween_27 ?_
  refine lv_istore (lv' := [(5, .int ((ys i) - (ys2 j))), (4, .int ((xs i) - (xs2 j))), (0, .ref a), (1, .int (nI i)), (2, .ref a2), (3, .int (nI j))]) hx hb d_S_squareBetween_28 hl (by decide) rfl (fun ls hl => ?_)
  refine lv_iload hx hb d_S_squareBetween_30 (lv_at hl 1 rfl) ?_
  refine lv_iload hx hb d_S_squareBetween_32 (lv_at hl 1 rfl) ?_
  refine lv_imul hx hb d_S_squareBetween_34 ?_
  refine lv_iload hx hb d_S_squareBetween_35 (lv_at hl 0 rfl) ?_
  refine lv_iload hx hb d_S_squareBetween_37 (lv_at hl 0 rfl) ?_
  refine lv_imul hx hb d_S_squareBetween_39 ?_
  refine lv_iadd hx hb d_S_squareBetween_40 ?_
  exact z_iret hx hb hr hlocks (by rfl) d_S_squareBetween_41
end S1
