section M1
variable {s0 : State} {dC : Nat → ClassId} {dI : Nat → Nat → Nat} {cI cS : ClassId} {l : Launch}
set_option maxRecDepth 100000 in
set_option maxHeartbeats 4000000 in
theorem c_M_isPoint (G : z_G s0 (dC, dI) cI cS) (x y : Int32) : Met l y_M_isPoint [Cond.code y_M_isPoint b_M_isPoint 2 (some .boolean)] ({ frames := 0, cells := 0, slots := 0, locals := 0 }) (z_Pc s0 [.int x, .int y] (fun H => True)) (z_Qr (some (.int (pi_b (pm_pt x y))))) 0 0 z_no := by
  refine z_ofW (by decide +kernel) (Nat.le_of_ble_eq_true rfl) ?_
  intro p e s m below meth c hx hb hml hr hown hlocks hnm hW0 hB ls hl
  have hts := z_hts (args := [.int x, .int y].toArray) G.1 hW0
  have hN := z_nstW G.2.1 hW0
  have hK := va_K.moved hW0.alike G.2.2.1
  have hAI := arrOfT_moved hW0.alike G.2.2.2.1
  have hl : lv_has ls 2 [(0, .int x), (1, .int y)] := hl
  refine lv_iload_n hx hb d_M_isPoint_0 rfl (lv_at hl 0 rfl) ?_
  refine lv_sipush (v := (-10000)) hx hb d_M_isPoint_1 (by decide) ?_
  refine lv_icmp_lt (tgt := 32) hx hb d_M_isPoint_4 (by decide) (fun c_1 => ?_) (fun c_1 => ?_)
  · skip
    have c_1' : ¬ ((-10000) ≤ x) := Int32.not_le.mpr c_1
    refine lv_iconst (v := 0) hx hb d_M_isPoint_32 (by decide) ?_
    exact z_zret hx hb hr hlocks (by simp [pi_b, pm_pt, c_1, c_1']) d_M_isPoint_33
  · skip
    have c_1' : (-10000) ≤ x := Int32.not_lt.mp c_1
    refine lv_iload_n hx hb d_M_isPoint_7 rfl (lv_at hl 0 rfl) ?_
    refine lv_sipush (v := 10000) hx hb d_M_isPoint_8 (by decide) ?_
    refine lv_icmp_gt (tgt := 32) hx hb d_M_isPoint_11 (by decide) (fun c_2 => ?_) (fun c_2 => ?_)
    · skip
      have c_2' : ¬ (x ≤ (10000 : Int32)) := Int32.not_le.mpr c_2
      refine lv_iconst (v := 0) hx hb d_M_isPoint_32 (by decide) ?_
      exact z_zret hx hb hr hlocks (by simp [pi_b, pm_pt, c_1, c_1', c_2, c_2']) d_M_isPoint_33
    · skip
      have c_2' : x ≤ (10000 : Int32) := Int32.not_lt.mp c_2
      refine lv_iload_n hx hb d_M_isPoint_14 rfl (lv_at hl 1 rfl) ?_
      refine lv_sipush (v := (-10000)) hx hb d_M_isPoint_15 (by decide) ?_
      refine lv_icmp_lt (tgt := 32) hx hb d_M_isPoint_18 (by decide) (fun c_3 => ?_) (fun c_3 => ?_)
      · skip
        have c_3' : ¬ ((-10000) ≤ y) := Int32.not_le.mpr c_3
        refine lv_iconst (v := 0) hx hb d_M_isPoint_32 (by decide) ?_
        exact z_zret hx hb hr hlocks (by simp [pi_b, pm_pt, c_1, c_1', c_2, c_2', c_3, c_3']) d_M_isPoint_33
      · skip
        have c_3' : (-10000) ≤ y := Int32.not_lt.mp c_3
        refine lv_iload_n hx hb d_M_isPoint_21 rfl (lv_at hl 1 rfl) ?_
        refine lv_sipush (v := 10000) hx hb d_M_isPoint_22 (by decide) ?_
        refine lv_icmp_gt (tgt := 32) hx hb d_M_isPoint_25 (by decide) (fun c_4 => ?_) (fun c_4 => ?_)
        · skip
          have c_4' : ¬ (y ≤ (10000 : Int32)) := Int32.not_le.mpr c_4
          refine lv_iconst (v := 0) hx hb d_M_isPoint_32 (by decide) ?_
          exact z_zret hx hb hr hlocks (by simp [pi_b, pm_pt, c_1, c_1', c_2, c_2', c_3, c_3', c_4, c_4']) d_M_isPoint_33
        · skip
          have c_4' : y ≤ (10000 : Int32) := Int32.not_lt.mp c_4
          refine lv_iconst (v := 1) hx hb d_M_isPoint_28 (by decide) ?_
          refine lv_goto (tgt := 33) hx hb d_M_isPoint_29 (by decide) ?_
          exact z_zret hx hb hr hlocks (by simp [pi_b, pm_pt, c_1, c_1', c_2, c_2', c_3, c_3', c_4, c_4']) d_M_isPoint_33
set_option maxRecDepth 100000 in
set_option maxHeartbeats 4000000 in
theorem c_M_isDay (G : z_G s0 (dC, dI) cI cS) (x : Int32) : Met l y_M_isDay [Cond.code y_M_isDay b_M_isDay 1 (some .boolean)] ({ frames := 0, cells := 0, slots := 0, locals := 0 }) (z_Pc s0 [.int x] (fun H => True)) (z_Qr (some (.int (pi_b (pm_day x))))) 0 0 z_no := by
  refine z_ofW (by decide +kernel) (Nat.le_of_ble_eq_true rfl) ?_
  intro p e s m below meth c hx hb hml hr hown hlocks hnm hW0 hB ls hl
  have hts := z_hts (args := [.int x].toArray) G.1 hW0
  have hN := z_nstW G.2.1 hW0
  have hK := va_K.moved hW0.alike G.2.2.1
  have hAI := arrOfT_moved hW0.alike G.2.2.2.1
  have hl : lv_has ls 1 [(0, .int x)] := hl
  refine lv_iload_n hx hb d_M_isDay_0 rfl (lv_at hl 0 rfl) ?_
  refine lv_if_lt (tgt := 14) hx hb d_M_isDay_1 (by decide) (fun c_1 => ?_) (fun c_1 => ?_)
  · skip
    have c_1' : ¬ ((0 : Int32) ≤ x) := Int32.not_le.mpr c_1
    refine lv_iconst (v := 0) hx hb d_M_isDay_14 (by decide) ?_
    exact z_zret hx hb hr hlocks (by simp [pi_b, pm_day, c_1, c_1']) d_M_isDay_15
  · skip
    have c_1' : (0 : Int32) ≤ x := Int32.not_lt.mp c_1
    refine lv_iload_n hx hb d_M_isDay_4 rfl (lv_at hl 0 rfl) ?_
    refine lv_ldc hx hb hown (hts _ w_633) d_M_isDay_5 ?_
    refine lv_icmp_gt (tgt := 14) hx hb d_M_isDay_7 (by decide) (fun c_2 => ?_) (fun c_2 => ?_)
    · skip
      have c_2' : ¬ (x ≤ (100000 : Int32)) := Int32.not_le.mpr c_2
      refine lv_iconst (v := 0) hx hb d_M_isDay_14 (by decide) ?_
      exact z_zret hx hb hr hlocks (by simp [pi_b, pm_day, c_1, c_1', c_2, c_2']) d_M_isDay_15
    · skip
      have c_2' : x ≤ (100000 : Int32) := Int32.not_lt.mp c_2
      refine lv_iconst (v := 1) hx hb d_M_isDay_10 (by decide) ?_
      refine lv_goto (tgt := 15) hx hb d_M_isDay_11 (by decide) ?_
      exact z_zret hx hb hr hlocks (by simp [pi_b, pm_day, c_1, c_1', c_2, c_2']) d_M_isDay_15
set_option maxRecDepth 100000 in
set_option maxHeartbeats 4000000 in
theorem c_M_side (G : z_G s0 (dC, dI) cI cS) (ax ay bx bY cx cy : Int32) : Met l y_M_side [Cond.code y_M_side b_M_side 6 (some .int)] ({ frames := 0, cells := 0, slots := 0, locals := 0 }) (z_Pc s0 [.int ax, .int ay, .int bx, .int bY, .int cx, .int cy] (fun H => True)) (z_Qr (some (.int (pm_side ax ay bx bY cx cy)))) 0 0 z_no := by
  refine z_ofW (by decide +kernel) (Nat.le_of_ble_eq_true rfl) ?_
  intro p e s m below meth c hx hb hml hr hown hlocks hnm hW0 hB ls hl
  have hts := z_hts (args := [.int ax, .int ay, .int bx, .int bY, .int cx, .int cy].toArray) G.1 hW0
  have hN := z_nstW G.2.1 hW0
  have hK := va_K.moved hW0.alike G.2.2.1
  have hAI := arrOfT_moved hW0.alike G.2.2.2.1
  have hl : lv_has ls 6 [(0, .int ax), (1, .int ay), (2, .int bx), (3, .int bY), (4, .int cx), (5, .int cy)] := hl
  refine lv_iload_n hx hb d_M_side_0 rfl (lv_at hl 2 rfl) ?_
  refine lv_iload_n hx hb d_M_side_1 rfl (lv_at hl 0 rfl) ?_
  refine lv_isub hx hb d_M_side_2 ?_
  refine lv_iload hx hb d_M_side_3 (lv_at hl 5 rfl) ?_
  refine lv_iload_n hx hb d_M_side_5 rfl (lv_at hl 1 rfl) ?_
  refine lv_isub hx hb d_M_side_6 ?_
  refine lv_imul hx hb d_M_side_7 ?_
  refine lv_iload_n hx hb d_M_side_8 rfl (lv_at hl 3 rfl) ?_
  refine lv_iload_n hx hb d_M_side_9 rfl (lv_at hl 1 rfl) ?_
  refine lv_isub hx hb d_M_side_10 ?_
  refine lv_iload hx hb d_M_side_11 (lv_at hl 4 rfl) ?_
  refine lv_iload_n hx hb d_M_side_13 rfl (lv_at hl 0 rfl) ?_
  refine lv_isub hx hb d_M_side_14 ?_
  refine lv_imul hx hb d_M_side_15 ?_
  refine lv_isub hx hb d_M_side_16 ?_
  exact z_iret hx hb hr hlocks (by rfl) d_M_side_17
set_option maxRecDepth 100000 in
set_option maxHeartbeats 4000000 in
theorem c_M_sign (G : z_G s0 (dC, dI) cI cS) (v : Int32) : Met l y_M_sign [Cond.code y_M_sign b_M_sign 1 (some .int)] ({ frames := 0, cells := 0, slots := 0, locals := 0 }) (z_Pc s0 [.int v] (fun H => True)) (z_Qr (some (.int (pm_sign v)))) 0 0 z_no := by
  refine z_ofW (by decide +kernel) (Nat.le_of_ble_eq_true rfl) ?_
  intro p e s m below meth c hx hb hml hr hown hlocks hnm hW0 hB ls hl
  have hts := z_hts (args := [.int v].toArray) G.1 hW0
  have hN := z_nstW G.2.1 hW0
  have hK := va_K.moved hW0.alike G.2.2.1
  have hAI := arrOfT_moved hW0.alike G.2.2.2.1
  have hl : lv_has ls 1 [(0, .int v)] := hl
  refine lv_iload_n hx hb d_M_sign_0 rfl (lv_at hl 0 rfl) ?_
  refine lv_if_le (tgt := 8) hx hb d_M_sign_1 (by decide) (fun c_1 => ?_) (fun c_1 => ?_)
  · skip
    have c_1' : ¬ ((0 : Int32) < v) := Int32.not_lt.mpr c_1
    refine lv_iload_n hx hb d_M_sign_8 rfl (lv_at hl 0 rfl) ?_
    refine lv_if_ge (tgt := 16) hx hb d_M_sign_9 (by decide) (fun c_2 => ?_) (fun c_2 => ?_)
    · skip
      have c_2' : ¬ (v < (0 : Int32)) := Int32.not_lt.mpr c_2
      refine lv_iconst (v := 0) hx hb d_M_sign_16 (by decide) ?_
      exact z_iret hx hb hr hlocks (by simp [pi_b, pm_sign, c_1, c_1', c_2, c_2']) d_M_sign_17
    · skip
      have c_2' : v < (0 : Int32) := Int32.not_le.mp c_2
      refine lv_iconst (v := (-1)) hx hb d_M_sign_12 (by decide) ?_
      refine lv_goto (tgt := 17) hx hb d_M_sign_13 (by decide) ?_
      exact z_iret hx hb hr hlocks (by simp [pi_b, pm_sign, c_1, c_1', c_2, c_2']) d_M_sign_17
  · skip
    have c_1' : (0 : Int32) < v := Int32.not_le.mp c_1
    refine lv_iconst (v := 1) hx hb d_M_sign_4 (by decide) ?_
    refine lv_goto (tgt := 17) hx hb d_M_sign_5 (by decide) ?_
    exact z_iret hx hb hr hlocks (by simp [pi_b, pm_sign, c_1, c_1']) d_M_sign_17
set_option maxRecDepth 100000 in
set_option maxHeartbeats 4000000 in
theorem c_M_between (G : z_G s0 (dC, dI) cI cS) (v a b : Int32) : Met l y_M_between [Cond.code y_M_between b_M_between 3 (some .boolean)] ({ frames := 0, cells := 0, slots := 0, locals := 0 }) (z_Pc s0 [.int v, .int a, .int b] (fun H => True)) (z_Qr (some (.int (pi_b (pm_btw v a b))))) 0 0 z_no := by
  refine z_ofW (by decide +kernel) (Nat.le_of_ble_eq_true rfl) ?_
  intro p e s m below meth c hx hb hml hr hown hlocks hnm hW0 hB ls hl
  have hts := z_hts (args := [.int v, .int a, .int b].toArray) G.1 hW0
  have hN := z_nstW G.2.1 hW0
  have hK := va_K.moved hW0.alike G.2.2.1
  have hAI := arrOfT_moved hW0.alike G.2.2.2.1
  have hl : lv_has ls 3 [(0, .int v), (1, .int a), (2, .int b)] := hl
  refine lv_iload_n hx hb d_M_between_0 rfl (lv_at hl 0 rfl) ?_
  refine lv_iload_n hx hb d_M_between_1 rfl (lv_at hl 1 rfl) ?_
  refine lv_icmp_lt (tgt := 10) hx hb d_M_between_2 (by decide) (fun c_1 => ?_) (fun c_1 => ?_)
  · skip
    have c_1' : ¬ (a ≤ v) := Int32.not_le.mpr c_1
    refine lv_iload_n hx hb d_M_between_10 rfl (lv_at hl 0 rfl) ?_
    refine lv_iload_n hx hb d_M_between_11 rfl (lv_at hl 2 rfl) ?_
    refine lv_icmp_lt (tgt := 24) hx hb d_M_between_12 (by decide) (fun c_2 => ?_) (fun c_2 => ?_)
    · skip
      have c_2' : ¬ (b ≤ v) := Int32.not_le.mpr c_2
      refine lv_iconst (v := 0) hx hb d_M_between_24 (by decide) ?_
      exact z_zret hx hb hr hlocks (by simp [pi_b, pm_btw, c_1, c_1', c_2, c_2']) d_M_between_25
    · skip
      have c_2' : b ≤ v := Int32.not_lt.mp c_2
      refine lv_iload_n hx hb d_M_between_15 rfl (lv_at hl 0 rfl) ?_
      refine lv_iload_n hx hb d_M_between_16 rfl (lv_at hl 1 rfl) ?_
      refine lv_icmp_gt (tgt := 24) hx hb d_M_between_17 (by decide) (fun c_3 => ?_) (fun c_3 => ?_)
      · skip
        have c_3' : ¬ (v ≤ a) := Int32.not_le.mpr c_3
        refine lv_iconst (v := 0) hx hb d_M_between_24 (by decide) ?_
        exact z_zret hx hb hr hlocks (by simp [pi_b, pm_btw, c_1, c_1', c_2, c_2', c_3, c_3']) d_M_between_25
      · skip
        have c_3' : v ≤ a := Int32.not_lt.mp c_3
        refine lv_iconst (v := 1) hx hb d_M_between_20 (by decide) ?_
        refine lv_goto (tgt := 25) hx hb d_M_between_21 (by decide) ?_
        exact z_zret hx hb hr hlocks (by simp [pi_b, pm_btw, c_1, c_1', c_2, c_2', c_3, c_3']) d_M_between_25
  · skip
    have c_1' : a ≤ v := Int32.not_lt.mp c_1
    refine lv_iload_n hx hb d_M_between_5 rfl (lv_at hl 0 rfl) ?_
    refine lv_iload_n hx hb d_M_between_6 rfl (lv_at hl 2 rfl) ?_
    refine lv_icmp_le (tgt := 20) hx hb d_M_between_7 (by decide) (fun c_4 => ?_) (fun c_4 => ?_)
    · skip
      have c_4' : ¬ (b < v) := Int32.not_lt.mpr c_4
      refine lv_iconst (v := 1) hx hb d_M_between_20 (by decide) ?_
      refine lv_goto (tgt := 25) hx hb d_M_between_21 (by decide) ?_
      exact z_zret hx hb hr hlocks (by simp [pi_b, pm_btw, c_1, c_1', c_4, c_4']) d_M_between_25
    · skip
      have c_4' : b < v := Int32.not_le.mp c_4
      refine lv_iload_n hx hb d_M_between_10 rfl (lv_at hl 0 rfl) ?_
      refine lv_iload_n hx hb d_M_between_11 rfl (lv_at hl 2 rfl) ?_
      refine lv_icmp_lt (tgt := 24) hx hb d_M_between_12 (by decide) (fun c_5 => ?_) (fun c_5 => ?_)
      · skip
        have c_5' : ¬ (b ≤ v) := Int32.not_le.mpr c_5
        refine lv_iconst (v := 0) hx hb d_M_between_24 (by decide) ?_
        exact z_zret hx hb hr hlocks (by simp [pi_b, pm_btw, c_1, c_1', c_4, c_4', c_5, c_5']) d_M_between_25
      · skip
        have c_5' : b ≤ v := Int32.not_lt.mp c_5
        refine lv_iload_n hx hb d_M_between_15 rfl (lv_at hl 0 rfl) ?_
        refine lv_iload_n hx hb d_M_between_16 rfl (lv_at hl 1 rfl) ?_
        refine lv_icmp_gt (tgt := 24) hx hb d_M_between_17 (by decide) (fun c_6 => ?_) (fun c_6 => ?_)
        · skip
          have c_6' : ¬ (v ≤ a) := Int32.not_le.mpr c_6
          refine lv_iconst (v := 0) hx hb d_M_between_24 (by decide) ?_
          exact z_zret hx hb hr hlocks (by simp [pi_b, pm_btw, c_1, c_1', c_4, c_4', c_5, c_5', c_6, c_6']) d_M_between_25
        · skip
          have c_6' : v ≤ a := Int32.not_lt.mp c_6
          refine lv_iconst (v := 1) hx hb d_M_between_20 (by decide) ?_
          refine lv_goto (tgt := 25) hx hb d_M_between_21 (by decide) ?_
          exact z_zret hx hb hr hlocks (by simp [pi_b, pm_btw, c_1, c_1', c_4, c_4', c_5, c_5', c_6, c_6']) d_M_between_25
set_option maxRecDepth 100000 in
set_option maxHeartbeats 4000000 in
theorem c_M_isPlace (G : z_G s0 (dC, dI) cI cS) (E : Nat → Nat) (th : Int32) (mp ms mc mn mm : Nat) (gv : Nat → Nat → Int32) (x : Int32) : Met l y_M_isPlace [Cond.code y_M_isPlace b_M_isPlace 2 (some .boolean)] ({ frames := 0, cells := 0, slots := 0, locals := 0 }) (z_Pc s0 [.ref (E 0), .int x] (fun H => z_Md (dC, dI) cI H E th mp ms mc mn mm gv)) (z_Qr (some (.int (pi_b (pm_idx mp x))))) 0 0 z_no := by
  refine z_ofW (by decide +kernel) (Nat.le_of_ble_eq_true rfl) ?_
  intro p e s m below meth c hx hb hml hr hown hlocks hnm hW0 hB ls hl
  have hts := z_hts (args := [.ref (E 0), .int x].toArray) G.1 hW0
  have hN := z_nstW G.2.1 hW0
  have hK := va_K.moved hW0.alike G.2.2.1
  have hAI := arrOfT_moved hW0.alike G.2.2.2.1
  have hl : lv_has ls 2 [(0, .ref (E 0)), (1, .int x)] := hl
  obtain ⟨⟨hE0, hGA⟩, hEi, ⟨hmp, hms, hmn, hmm, hmc⟩⟩ := id hB
  refine lv_iload_n hx hb d_M_isPlace_0 rfl (lv_at hl 1 rfl) ?_
  refine lv_if_lt (tgt := 16) hx hb d_M_isPlace_1 (by decide) (fun c_1 => ?_) (fun c_1 => ?_)
  · skip
    have c_1' : ¬ ((0 : Int32) ≤ x) := Int32.not_le.mpr c_1
    refine lv_iconst (v := 0) hx hb d_M_isPlace_16 (by decide) ?_
    exact z_zret hx hb hr hlocks (by simp [pi_b, pm_idx, c_1, c_1']) d_M_isPlace_17
  · skip
    have c_1' : (0 : Int32) ≤ x := Int32.not_lt.mp c_1
    refine lv_iload_n hx hb d_M_isPlace_4 rfl (lv_at hl 1 rfl) ?_
    refine lv_aload_n hx hb d_M_isPlace_5 rfl (lv_at hl 0 rfl) ?_
    refine va_get (D := (dC, dI)) (ci := 4) (v := .int (nI mp)) (C := R_M) (T := T_M) (N := 23) hx hb hts in_M hown hK hE0.P 0 rfl rfl 1 (by decide) (hts _ w_541) (fun _ h9 => h9) rfl d_M_isPlace_6 ?_
    refine lv_icmp_ge (tgt := 16) hx hb d_M_isPlace_9 (by decide) (fun c_2 => ?_) (fun c_2 => ?_)
    · skip
      have c_2' : ¬ (x < (nI mp)) := Int32.not_lt.mpr c_2
      refine lv_iconst (v := 0) hx hb d_M_isPlace_16 (by decide) ?_
      exact z_zret hx hb hr hlocks (by simp [pi_b, pm_idx, c_1, c_1', c_2, c_2']) d_M_isPlace_17
    · skip
      have c_2' : x < (nI mp) := Int32.not_le.mp c_2
      refine lv_iconst (v := 1) hx hb d_M_isPlace_12 (by decide) ?_
      refine lv_goto (tgt := 17) hx hb d_M_isPlace_13 (by decide) ?_
      exact z_zret hx hb hr hlocks (by simp [pi_b, pm_idx, c_1, c_1', c_2, c_2']) d_M_isPlace_17
set_option maxRecDepth 100000 in
set_option maxHeartbeats 4000000 in
theorem c_M_isShape (G : z_G s0 (dC, dI) cI cS) (E : Nat → Nat) (th : Int32) (mp ms mc mn mm : Nat) (gv : Nat → Nat → Int32) (x : Int32) : Met l y_M_isShape [Cond.code y_M_isShape b_M_isShape 2 (some .boolean)] ({ frames := 0, cells := 0, slots := 0, locals := 0 }) (z_Pc s0 [.ref (E 0), .int x] (fun H => z_Md (dC, dI) cI H E th mp ms mc mn mm gv)) (z_Qr (some (.int (pi_b (pm_idx ms x))))) 0 0 z_no := by
  refine z_ofW (by decide +kernel) (Nat.le_of_ble_eq_true rfl) ?_
  intro p e s m below meth c hx hb hml hr hown hlocks hnm hW0 hB ls hl
  have hts := z_hts (args := [.ref (E 0), .int x].toArray) G.1 hW0
  have hN := z_nstW G.2.1 hW0
  have hK := va_K.moved hW0.alike G.2.2.1
  have hAI := arrOfT_moved hW0.alike G.2.2.2.1
  have hl : lv_has ls 2 [(0, .ref (E 0)), (1, .int x)] := hl
  obtain ⟨⟨hE0, hGA⟩, hEi, ⟨hmp, hms, hmn, hmm, hmc⟩⟩ := id hB
  refine lv_iload_n hx hb d_M_isShape_0 rfl (lv_at hl 1 rfl) ?_
  refine lv_if_lt (tgt := 16) hx hb d_M_isShape_1 (by decide) (fun c_1 => ?_) (fun c_1 => ?_)
  · skip
    have c_1' : ¬ ((0 : Int32) ≤ x) := Int32.not_le.mpr c_1
    refine lv_iconst (v := 0) hx hb d_M_isShape_16 (by decide) ?_
    exact z_zret hx hb hr hlocks (by simp [pi_b, pm_idx, c_1, c_1']) d_M_isShape_17
  · skip
    have c_1' : (0 : Int32) ≤ x := Int32.not_lt.mp c_1
    refine lv_iload_n hx hb d_M_isShape_4 rfl (lv_at hl 1 rfl) ?_
    refine lv_aload_n hx hb d_M_isShape_5 rfl (lv_at hl 0 rfl) ?_
    refine va_get (D := (dC, dI)) (ci := 4) (v := .int (nI ms)) (C := R_M) (T := T_M) (N := 23) hx hb hts in_M hown hK hE0.P 0 rfl rfl 3 (by decide) (hts _ w_543) (fun _ h9 => h9) rfl d_M_isShape_6 ?_
    refine lv_icmp_ge (tgt := 16) hx hb d_M_isShape_9 (by decide) (fun c_2 => ?_) (fun c_2 => ?_)
    · skip
      have c_2' : ¬ (x < (nI ms)) := Int32.not_lt.mpr c_2
      refine lv_iconst (v := 0) hx hb d_M_isShape_16 (by decide) ?_
      exact z_zret hx hb hr hlocks (by simp [pi_b, pm_idx, c_1, c_1', c_2, c_2']) d_M_isShape_17
    · skip
      have c_2' : x < (nI ms) := Int32.not_le.mp c_2
      refine lv_iconst (v := 1) hx hb d_M_isShape_12 (by decide) ?_
      refine lv_goto (tgt := 17) hx hb d_M_isShape_13 (by decide) ?_
      exact z_zret hx hb hr hlocks (by simp [pi_b, pm_idx, c_1, c_1', c_2, c_2']) d_M_isShape_17
set_option maxRecDepth 100000 in
set_option maxHeartbeats 4000000 in
theorem c_M_thrown (G : z_G s0 (dC, dI) cI cS) (E : Nat → Nat) (th : Int32) (mp ms mc mn mm : Nat) (gv : Nat → Nat → Int32)  : Met l y_M_thrown [Cond.code y_M_thrown b_M_thrown 1 (some .int)] ({ frames := 0, cells := 0, slots := 0, locals := 0 }) (z_Pc s0 [.ref (E 0)] (fun H => z_Md (dC, dI) cI H E th mp ms mc mn mm gv)) (z_Qr (some (.int th))) 0 0 z_no := by
  refine z_ofW (by decide +kernel) (Nat.le_of_ble_eq_true rfl) ?_
  intro p e s m below meth c hx hb hml hr hown hlocks hnm hW0 hB ls hl
  have hts := z_hts (args := [.ref (E 0)].toArray) G.1 hW0
  have hN := z_nstW G.2.1 hW0
  have hK := va_K.moved hW0.alike G.2.2.1
  have hAI := arrOfT_moved hW0.alike G.2.2.2.1
  have hl : lv_has ls 1 [(0, .ref (E 0))] := hl
  obtain ⟨⟨hE0, hGA⟩, hEi, ⟨hmp, hms, hmn, hmm, hmc⟩⟩ := id hB
  refine lv_aload_n hx hb d_M_thrown_0 rfl (lv_at hl 0 rfl) ?_
  refine va_get (D := (dC, dI)) (ci := 4) (v := .int th) (C := R_M) (T := T_M) (N := 23) hx hb hts in_M hown hK hE0.P 0 rfl rfl 0 (by decide) (hts _ w_540) (fun _ h9 => h9) rfl d_M_thrown_1 ?_
  exact z_iret hx hb hr hlocks (by rfl) d_M_thrown_4
set_option maxRecDepth 100000 in
set_option maxHeartbeats 4000000 in
theorem c_M_isOn (G : z_G s0 (dC, dI) cI cS) (E : Nat → Nat) (th : Int32) (mp ms mc mn mm : Nat) (gv : Nat → Nat → Int32) (i j : Nat) (x y : Int32) (hi : i < 384) (hj : j < 384) : Met l y_M_isOn [Cond.code y_M_isOn b_M_isOn 5 (some .boolean)] ({ frames := 1, cells := 0, slots := 0, locals := 25 }) (z_Pc s0 [.ref (E 0), .int (nI i), .int (nI j), .int x, .int y] (fun H => z_Md (dC, dI) cI H E th mp ms mc mn mm gv)) (z_Qr (some (.int (pi_b (pm_on (gv 5) (gv 6) i j x y))))) 0 0 z_no := by
  refine z_ofW (by decide +kernel) (Nat.le_of_ble_eq_true rfl) ?_
  intro p e s m below meth c hx hb hml hr hown hlocks hnm hW0 hB ls hl
  have hts := z_hts (args := [.ref (E 0), .int (nI i), .int (nI j), .int x, .int y].toArray) G.1 hW0
  have hN := z_nstW G.2.1 hW0
  have hK := va_K.moved hW0.alike G.2.2.1
  have hAI := arrOfT_moved hW0.alike G.2.2.2.1
  have hl : lv_has ls 5 [(0, .ref (E 0)), (1, .int (nI i)), (2, .int (nI j)), (3, .int x), (4, .int y)] := hl
  obtain ⟨⟨hE0, hGA⟩, hEi, ⟨hmp, hms, hmn, hmm, hmc⟩⟩ := id hB
  refine lv_aload_n hx hb d_M_isOn_0 rfl (lv_at hl 0 rfl) ?_
  refine va_get (D := (dC, dI)) (ci := 4) (v := .ref (E 6)) (C := R_M) (T := T_M) (N := 23) hx hb hts in_M hown hK hE0.P 0 rfl rfl 8 (by decide) (hts _ w_548) (fun _ h9 => h9) rfl d_M_isOn_1 ?_
  refine lv_iload_n hx hb d_M_isOn_4 rfl (lv_at hl 1 rfl) ?_
  refine z_iald hx hb hAI (show z_A cI _ (E 6) 384 (gv 5) from hGA 5 (by omega)) (by omega) (by decide) d_M_isOn_5 ?_
  refine lv_aload_n hx hb d_M_isOn_6 rfl (lv_at hl 0 rfl) ?_
  refine va_get (D := (dC, dI)) (ci := 4) (v := .ref (E 7)) (C := R_M) (T := T_M) (N := 23) hx hb hts in_M hown hK hE0.P 0 rfl rfl 9 (by decide) (hts _ w_549) (fun _ h9 => h9) rfl d_M_isOn_7 ?_
  refine lv_iload_n hx hb d_M_isOn_10 rfl (lv_at hl 1 rfl) ?_
  refine z_iald hx hb hAI (show z_A cI _ (E 7) 384 (gv 6) from hGA 6 (by omega)) (by omega) (by decide) d_M_isOn_11 ?_
  refine lv_aload_n hx hb d_M_isOn_12 rfl (lv_at hl 0 rfl) ?_
  refine va_get (D := (dC, dI)) (ci := 4) (v := .ref (E 6)) (C := R_M) (T := T_M) (N := 23) hx hb hts in_M hown hK hE0.P 0 rfl rfl 8 (by decide) (hts _ w_548) (fun _ h9 => h9) rfl d_M_isOn_13 ?_
  refine lv_iload_n hx hb d_M_isOn_16 rfl (lv_at hl 2 rfl) ?_
  refine z_iald hx hb hAI (show z_A cI _ (E 6) 384 (gv 5) from hGA 5 (by omega)) (by omega) (by decide) d_M_isOn_17 ?_
  refine lv_aload_n hx hb d_M_isOn_18 rfl (lv_at hl 0 rfl) ?_
  refine va_get (D := (dC, dI)) (ci := 4) (v := .ref (E 7)) (C := R_M) (T := T_M) (N := 23) hx hb hts in_M hown hK hE0.P 0 rfl rfl 9 (by decide) (hts _ w_549) (fun _ h9 => h9) rfl d_M_isOn_19 ?_
  refine lv_iload_n hx hb d_M_isOn_22 rfl (lv_at hl 2 rfl) ?_
  refine z_iald hx hb hAI (show z_A cI _ (E 7) 384 (gv 6) from hGA 6 (by omega)) (by omega) (by decide) d_M_isOn_23 ?_
  refine lv_iload_n hx hb d_M_isOn_24 rfl (lv_at hl 3 rfl) ?_
  refine lv_iload hx hb d_M_isOn_25 (lv_at hl 4 rfl) ?_
  refine z_rdS (n := 6) (rest := []) ⟨hx, hb, hml, hown, hts⟩ hW0 (c_M_side G ((gv 5) i) ((gv 6) i) ((gv 5) j) ((gv 6) j) x y) w_663 w_661 w_662 w_4 (by decide +kernel) ⟨rfl, rfl, Nat.le_of_ble_eq_true rfl, Nat.le_of_ble_eq_true rfl⟩ (trivial) rfl rfl hl.1 (Nat.le_of_ble_eq_true rfl) d_M_isOn_27 ⟨Nat.zero_le _, Nat.zero_le _⟩ ?_
  refine lv_if_ne (tgt := 76) hx hb d_M_isOn_30 (by decide) (fun c_1 => ?_) (fun c_1 => ?_)
  · skip
    refine lv_iconst (v := 0) hx hb d_M_isOn_76 (by decide) ?_
    exact z_zret hx hb hr hlocks (by simp [pi_b, pm_on, c_1]) d_M_isOn_77
  · skip
    refine lv_iload_n hx hb d_M_isOn_33 rfl (lv_at hl 3 rfl) ?_
    refine lv_aload_n hx hb d_M_isOn_34 rfl (lv_at hl 0 rfl) ?_
    refine va_get (D := (dC, dI)) (ci := 4) (v := .ref (E 6)) (C := R_M) (T := T_M) (N := 23) hx hb hts in_M hown hK hE0.P 0 rfl rfl 8 (by decide) (hts _ w_548) (fun _ h9 => h9) rfl d_M_isOn_35 ?_
    refine lv_iload_n hx hb d_M_isOn_38 rfl (lv_at hl 1 rfl) ?_
    refine z_iald hx hb hAI (show z_A cI _ (E 6) 384 (gv 5) from hGA 5 (by omega)) (by omega) (by decide) d_M_isOn_39 ?_
    refine lv_aload_n hx hb d_M_isOn_40 rfl (lv_at hl 0 rfl) ?_
    refine va_get (D := (dC, dI)) (ci := 4) (v := .ref (E 6)) (C := R_M) (T := T_M) (N := 23) hx hb hts in_M hown hK hE0.P 0 rfl rfl 8 (by decide) (hts _ w_548) (fun _ h9 => h9) rfl d_M_isOn_41 ?_
    refine lv_iload_n hx hb d_M_isOn_44 rfl (lv_at hl 2 rfl) ?_
    refine z_iald hx hb hAI (show z_A cI _ (E 6) 384 (gv 5) from hGA 5 (by omega)) (by omega) (by decide) d_M_isOn_45 ?_
    refine z_rdS (n := 3) (rest := []) ⟨hx, hb, hml, hown, hts⟩ hW0 (c_M_between G x ((gv 5) i) ((gv 5) j)) w_666 w_664 w_665 w_4 (by decide +kernel) ⟨rfl, rfl, Nat.le_of_ble_eq_true rfl, Nat.le_of_ble_eq_true rfl⟩ (trivial) rfl rfl hl.1 (Nat.le_of_ble_eq_true rfl) d_M_isOn_46 ⟨Nat.zero_le _, Nat.zero_le _⟩ ?_
    refine lv_if_eq (tgt := 76) hx hb d_M_isOn_49 (by decide) (fun c_2 => ?_) (fun c_2 => ?_)
    · skip
      have c_2 : (pm_btw x ((gv 5) i) ((gv 5) j)) = false := pi_b_0.mp c_2
      refine lv_iconst (v := 0) hx hb d_M_isOn_76 (by decide) ?_
      exact z_zret hx hb hr hlocks (by simp [pi_b, pm_on, c_1, c_2]) d_M_isOn_77
    · skip
      have c_2 : (pm_btw x ((gv 5) i) ((gv 5) j)) = true := pi_b_1.mp c_2
      refine lv_iload hx hb d_M_isOn_52 (lv_at hl 4 rfl) ?_
      refine lv_aload_n hx hb d_M_isOn_54 rfl (lv_at hl 0 rfl) ?_
      refine va_get (D := (dC, dI)) (ci := 4) (v := .ref (E 7)) (C := R_M) (T := T_M) (N := 23) hx hb hts in_M hown hK hE0.P 0 rfl rfl 9 (by decide) (hts _ w_549) (fun _ h9 => h9) rfl d_M_isOn_55 ?_
      refine lv_iload_n hx hb d_M_isOn_58 rfl (lv_at hl 1 rfl) ?_
      refine z_iald hx hb hAI (show z_A cI _ (E 7) 384 (gv 6) from hGA 6 (by omega)) (by omega) (by decide) d_M_isOn_59 ?_
      refine lv_aload_n hx hb d_M_isOn_60 rfl (lv_at hl 0 rfl) ?_
      refine va_get (D := (dC, dI)) (ci := 4) (v := .ref (E 7)) (C := R_M) (T := T_M) (N := 23) hx hb hts in_M hown hK hE0.P 0 rfl rfl 9 (by decide) (hts _ w_549) (fun _ h9 => h9) rfl d_M_isOn_61 ?_
      refine lv_iload_n hx hb d_M_isOn_64 rfl (lv_at hl 2 rfl) ?_
      refine z_iald hx hb hAI (show z_A cI _ (E 7) 384 (gv 6) from hGA 6 (by omega)) (by omega) (by decide) d_M_isOn_65 ?_
      refine z_rdS (n := 3) (rest := []) ⟨hx, hb, hml, hown, hts⟩ hW0 (c_M_between G y ((gv 6) i) ((gv 6) j)) w_666 w_664 w_665 w_4 (by decide +kernel) ⟨rfl, rfl, Nat.le_of_ble_eq_true rfl, Nat.le_of_ble_eq_true rfl⟩ (trivial) rfl rfl hl.1 (Nat.le_of_ble_eq_true rfl) d_M_isOn_66 ⟨Nat.zero_le _, Nat.zero_le _⟩ ?_
      refine lv_if_eq (tgt := 76) hx hb d_M_isOn_69 (by decide) (fun c_3 => ?_) (fun c_3 => ?_)
      · skip
        have c_3 : (pm_btw y ((gv 6) i) ((gv 6) j)) = false := pi_b_0.mp c_3
        refine lv_iconst (v := 0) hx hb d_M_isOn_76 (by decide) ?_
        exact z_zret hx hb hr hlocks (by simp [pi_b, pm_on, c_1, c_2, c_3]) d_M_isOn_77
      · skip
        have c_3 : (pm_btw y ((gv 6) i) ((gv 6) j)) = true := pi_b_1.mp c_3
        refine lv_iconst (v := 1) hx hb d_M_isOn_72 (by decide) ?_
        refine lv_goto (tgt := 77) hx hb d_M_isOn_73 (by decide) ?_
        exact z_zret hx hb hr hlocks (by simp [pi_b, pm_on, c_1, c_2, c_3]) d_M_isOn_77
set_option maxRecDepth 100000 in
set_option maxHeartbeats 4000000 in
theorem c_M_meet (G : z_G s0 (dC, dI) cI cS) (E : Nat → Nat) (th : Int32) (mp ms mc mn mm : Nat) (gv : Nat → Nat → Int32) (i j k q : Nat) (hi : i < 384) (hj : j < 384) (hk : k < 384) (hq : q < 384) : Met l y_M_meet [Cond.code y_M_meet b_M_meet 7 (some .boolean)] ({ frames := 2, cells := 0, slots := 0, locals := 49 }) (z_Pc s0 [.ref (E 0), .int (nI i), .int (nI j), .int (nI k), .int (nI q)] (fun H => z_Md (dC, dI) cI H E th mp ms mc mn mm gv)) (z_Qr (some (.int (pi_b (pm_meet (gv 5) (gv 6) i j k q))))) 0 0 z_no := by
  refine z_ofW (by decide +kernel) (Nat.le_of_ble_eq_true rfl) ?_
  intro p e s m below meth c hx hb hml hr hown hlocks hnm hW0 hB ls hl
  have hts := z_hts (args := [.ref (E 0), .int (nI i), .int (nI j), .int (nI k), .int (nI q)].toArray) G.1 hW0
  have hN := z_nstW G.2.1 hW0
  have hK := va_K.moved hW0.alike G.2.2.1
  have hAI := arrOfT_moved hW0.alike G.2.2.2.1
  have hl : lv_has ls 7 [(0, .ref (E 0)), (1, .int (nI i)), (2, .int (nI j)), (3, .int (nI k)), (4, .int (nI q))] := hl
  obtain ⟨⟨hE0, hGA⟩, hEi, ⟨hmp, hms, hmn, hmm, hmc⟩⟩ := id hB
  refine lv_aload_n hx hb d_M_meet_0 rfl (lv_at hl 0 rfl) ?_
  refine lv_iload_n hx hb d_M_meet_1 rfl (lv_at hl 1 rfl) ?_
  refine lv_iload_n hx hb d_M_meet_2 rfl (lv_at hl 2 rfl) ?_
  refine lv_aload_n hx hb d_M_meet_3 rfl (lv_at hl 0 rfl) ?_
  refine va_get (D := (dC, dI)) (ci := 4) (v := .ref (E 6)) (C := R_M) (T := T_M) (N := 23) hx hb hts in_M hown hK hE0.P 0 rfl rfl 8 (by decide) (hts _ w_548) (fun _ h9 => h9) rfl d_M_meet_4 ?_
  refine lv_iload_n hx hb d_M_meet_7 rfl (lv_at hl 3 rfl) ?_
  refine z_iald hx hb hAI (show z_A cI _ (E 6) 384 (gv 5) from hGA 5 (by omega)) (by omega) (by decide) d_M_meet_8 ?_
  refine lv_aload_n hx hb d_M_meet_9 rfl (lv_at hl 0 rfl) ?_
  refine va_get (D := (dC, dI)) (ci := 4) (v := .ref (E 7)) (C := R_M) (T := T_M) (N := 23) hx hb hts in_M hown hK hE0.P 0 rfl rfl 9 (by decide) (hts _ w_549) (fun _ h9 => h9) rfl d_M_meet_10 ?_
  refine lv_iload_n hx hb d_M_meet_13 rfl (lv_at hl 3 rfl) ?_
  refine z_iald hx hb hAI (show z_A cI _ (E 7) 384 (gv 6) from hGA 6 (by omega)) (by omega) (by decide) d_M_meet_14 ?_
  refine z_rdV (n := 4) (C := R_M) (rest := []) ⟨hx, hb, hml, hown, hts⟩ hW0 (c_M_isOn G E th mp ms mc mn mm gv i j ((gv 5) k) ((gv 6) k) (by omega) (by omega)) w_660 w_657 w_659 wp_23 w_4 (by decide +kernel) ⟨rfl, rfl, Nat.le_of_ble_eq_true rfl, Nat.le_of_ble_eq_true rfl⟩ (hE0.recv hK rfl) (hB) rfl rfl hl.1 (Nat.le_of_ble_eq_true rfl) d_M_meet_15 ⟨Nat.zero_le _, Nat.zero_le _⟩ ?_
  refine lv_if_ne (tgt := 88) hx hb d_M_meet_18 (by decide) (fun c_1 => ?_) (fun c_1 => ?_)
  · skip
    have c_1 : (pm_on (gv 5) (gv 6) i j ((gv 5) k) ((gv 6) k)) = true := pi_b_1.mp c_1
    refine lv_iconst (v := 1) hx hb d_M_meet_88 (by decide) ?_
    exact z_zret hx hb hr hlocks (by simp [pi_b, pm_meet, pm_cross, c_1]) d_M_meet_89
  · skip
    have c_1 : (pm_on (gv 5) (gv 6) i j ((gv 5) k) ((gv 6) k)) = false := pi_b_0.mp c_1
    refine lv_aload_n hx hb d_M_meet_21 rfl (lv_at hl 0 rfl) ?_
    refine lv_iload_n hx hb d_M_meet_22 rfl (lv_at hl 1 rfl) ?_
    refine lv_iload_n hx hb d_M_meet_23 rfl (lv_at hl 2 rfl) ?_
    refine lv_aload_n hx hb d_M_meet_24 rfl (lv_at hl 0 rfl) ?_
    refine va_get (D := (dC, dI)) (ci := 4) (v := .ref (E 6)) (C := R_M) (T := T_M) (N := 23) hx hb hts in_M hown hK hE0.P 0 rfl rfl 8 (by decide) (hts _ w_548) (fun _ h9 => h9) rfl d_M_meet_25 ?_
    refine lv_iload hx hb d_M_meet_28 (lv_at hl 4 rfl) ?_
    refine z_iald hx hb hAI (show z_A cI _ (E 6) 384 (gv 5) from hGA 5 (by omega)) (by omega) (by decide) d_M_meet_30 ?_
    refine lv_aload_n hx hb d_M_meet_31 rfl (lv_at hl 0 rfl) ?_
    refine va_get (D := (dC, dI)) (ci := 4) (v := .ref (E 7)) (C := R_M) (T := T_M) (N := 23) hx hb hts in_M hown hK hE0.P 0 rfl rfl 9 (by decide) (hts _ w_549) (fun _ h9 => h9) rfl d_M_meet_32 ?_
    refine lv_iload hx hb d_M_meet_35 (lv_at hl 4 rfl) ?_
    refine z_iald hx hb hAI (show z_A cI _ (E 7) 384 (gv 6) from hGA 6 (by omega)) (by omega) (by decide) d_M_meet_37 ?_
    refine z_rdV (n := 4) (C := R_M) (rest := []) ⟨hx, hb, hml, hown, hts⟩ hW0 (c_M_isOn G E th mp ms mc mn mm gv i j ((gv 5) q) ((gv 6) q) (by omega) (by omega)) w_660 w_657 w_659 wp_23 w_4 (by decide +kernel) ⟨rfl, rfl, Nat.le_of_ble_eq_true rfl, Nat.le_of_ble_eq_true rfl⟩ (hE0.recv hK rfl) (hB) rfl rfl hl.1 (Nat.le_of_ble_eq_true rfl) d_M_meet_38 ⟨Nat.zero_le _, Nat.zero_le _⟩ ?_
    refine lv_if_ne (tgt := 88) hx hb d_M_meet_41 (by decide) (fun c_2 => ?_) (fun c_2 => ?_)
    · skip
      have c_2 : (pm_on (gv 5) (gv 6) i j ((gv 5) q) ((gv 6) q)) = true := pi_b_1.mp c_2
      refine lv_iconst (v := 1) hx hb d_M_meet_88 (by decide) ?_
      exact z_zret hx hb hr hlocks (by simp [pi_b, pm_meet, pm_cross, c_1, c_2]) d_M_meet_89
    · skip
      have c_2 : (pm_on (gv 5) (gv 6) i j ((gv 5) q) ((gv 6) q)) = false := pi_b_0.mp c_2
      refine lv_aload_n hx hb d_M_meet_44 rfl (lv_at hl 0 rfl) ?_
      refine lv_iload_n hx hb d_M_meet_45 rfl (lv_at hl 3 rfl) ?_
      refine lv_iload hx hb d_M_meet_46 (lv_at hl 4 rfl) ?_
      refine lv_aload_n hx hb d_M_meet_48 rfl (lv_at hl 0 rfl) ?_
      refine va_get (D := (dC, dI)) (ci := 4) (v := .ref (E 6)) (C := R_M) (T := T_M) (N := 23) hx hb hts in_M hown hK hE0.P 0 rfl rfl 8 (by decide) (hts _ w_548) (fun _ h9 => h9) rfl d_M_meet_49 ?_
      refine lv_iload_n hx hb d_M_meet_52 rfl (lv_at hl 1 rfl) ?_
      refine z_iald hx hb hAI (show z_A cI _ (E 6) 384 (gv 5) from hGA 5 (by omega)) (by omega) (by decide) d_M_meet_53 ?_
      refine lv_aload_n hx hb d_M_meet_54 rfl (lv_at hl 0 rfl) ?_
      refine va_get (D := (dC, dI)) (ci := 4) (v := .ref (E 7)) (C := R_M) (T := T_M) (N := 23) hx hb hts in_M hown hK hE0.P 0 rfl rfl 9 (by decide) (hts _ w_549) (fun _ h9 => h9) rfl d_M_meet_55 ?_
      refine lv_iload_n hx hb d_M_meet_58 rfl (lv_at hl 1 rfl) ?_
      refine z_iald hx hb hAI (show z_A cI _ (E 7) 384 (gv 6) from hGA 6 (by omega)) (by omega) (by decide) d_M_meet_59 ?_
      refine z_rdV (n := 4) (C := R_M) (rest := []) ⟨hx, hb, hml, hown, hts⟩ hW0 (c_M_isOn G E th mp ms mc mn mm gv k q ((gv 5) i) ((gv 6) i) (by omega) (by omega)) w_660 w_657 w_659 wp_23 w_4 (by decide +kernel) ⟨rfl, rfl, Nat.le_of_ble_eq_true rfl, Nat.le_of_ble_eq_true rfl⟩ (hE0.recv hK rfl) (hB) rfl rfl hl.1 (Nat.le_of_ble_eq_true rfl) d_M_meet_60 ⟨Nat.zero_le _, Nat.zero_le _⟩ ?_
      refine lv_if_ne (tgt := 88) hx hb d_M_meet_63 (by decide) (fun c_3 => ?_) (fun c_3 => ?_)
      · skip
        have c_3 : (pm_on (gv 5) (gv 6) k q ((gv 5) i) ((gv 6) i)) = true := pi_b_1.mp c_3
        refine lv_iconst (v := 1) hx hb d_M_meet_88 (by decide) ?_
        exact z_zret hx hb hr hlocks (by simp [pi_b, pm_meet, pm_cross, c_1, c_2, c_3]) d_M_meet_89
      · skip
        have c_3 : (pm_on (gv 5) (gv 6) k q ((gv 5) i) ((gv 6) i)) = false := pi_b_0.mp c_3
        refine lv_aload_n hx hb d_M_meet_66 rfl (lv_at hl 0 rfl) ?_
        refine lv_iload_n hx hb d_M_meet_67 rfl (lv_at hl 3 rfl) ?_
        refine lv_iload hx hb d_M_meet_68 (lv_at hl 4 rfl) ?_
        refine lv_aload_n hx hb d_M_meet_70 rfl (lv_at hl 0 rfl) ?_
        refine va_get (D := (dC, dI)) (ci := 4) (v := .ref (E 6)) (C := R_M) (T := T_M) (N := 23) hx hb hts in_M hown hK hE0.P 0 rfl rfl 8 (by decide) (hts _ w_548) (fun _ h9 => h9) rfl d_M_meet_71 ?_
        refine lv_iload_n hx hb d_M_meet_74 rfl (lv_at hl 2 rfl) ?_
        refine z_iald hx hb hAI (show z_A cI _ (E 6) 384 (gv 5) from hGA 5 (by omega)) (by omega) (by decide) d_M_meet_75 ?_
        refine lv_aload_n hx hb d_M_meet_76 rfl (lv_at hl 0 rfl) ?_
        refine va_get (D := (dC, dI)) (ci := 4) (v := .ref (E 7)) (C := R_M) (T := T_M) (N := 23) hx hb hts in_M hown hK hE0.P 0 rfl rfl 9 (by decide) (hts _ w_549) (fun _ h9 => h9) rfl d_M_meet_77 ?_
        refine lv_iload_n hx hb d_M_meet_80 rfl (lv_at hl 2 rfl) ?_
        refine z_iald hx hb hAI (show z_A cI _ (E 7) 384 (gv 6) from hGA 6 (by omega)) (by omega) (by decide) d_M_meet_81 ?_
        refine z_rdV (n := 4) (C := R_M) (rest := []) ⟨hx, hb, hml, hown, hts⟩ hW0 (c_M_isOn G E th mp ms mc mn mm gv k q ((gv 5) j) ((gv 6) j) (by omega) (by omega)) w_660 w_657 w_659 wp_23 w_4 (by decide +kernel) ⟨rfl, rfl, Nat.le_of_ble_eq_true rfl, Nat.le_of_ble_eq_true rfl⟩ (hE0.recv hK rfl) (hB) rfl rfl hl.1 (Nat.le_of_ble_eq_true rfl) d_M_meet_82 ⟨Nat.zero_le _, Nat.zero_le _⟩ ?_
        refine lv_if_eq (tgt := 90) hx hb d_M_meet_85 (by decide) (fun c_4 => ?_) (fun c_4 => ?_)
        · skip
          have c_4 : (pm_on (gv 5) (gv 6) k q ((gv 5) j) ((gv 6) j)) = false := pi_b_0.mp c_4
          refine lv_aload_n hx hb d_M_meet_90 rfl (lv_at hl 0 rfl) ?_
          refine va_get (D := (dC, dI)) (ci := 4) (v := .ref (E 6)) (C := R_M) (T := T_M) (N := 23) hx hb hts in_M hown hK hE0.P 0 rfl rfl 8 (by decide) (hts _ w_548) (fun _ h9 => h9) rfl d_M_meet_91 ?_
          refine lv_iload_n hx hb d_M_meet_94 rfl (lv_at hl 1 rfl) ?_
          refine z_iald hx hb hAI (show z_A cI _ (E 6) 384 (gv 5) from hGA 5 (by omega)) (by omega) (by decide) d_M_meet_95 ?_
          refine lv_aload_n hx hb d_M_meet_96 rfl (lv_at hl 0 rfl) ?_
          refine va_get (D := (dC, dI)) (ci := 4) (v := .ref (E 7)) (C := R_M) (T := T_M) (N := 23) hx hb hts in_M hown hK hE0.P 0 rfl rfl 9 (by decide) (hts _ w_549) (fun _ h9 => h9) rfl d_M_meet_97 ?_
          refine lv_iload_n hx hb d_M_meet_100 rfl (lv_at hl 1 rfl) ?_
          refine z_iald hx hb hAI (show z_A cI _ (E 7) 384 (gv 6) from hGA 6 (by omega)) (by omega) (by decide) d_M_meet_101 ?_
          refine lv_aload_n hx hb d_M_meet_102 rfl (lv_at hl 0 rfl) ?_
          refine va_get (D := (dC, dI)) (ci := 4) (v := .ref (E 6)) (C := R_M) (T := T_M) (N := 23) hx hb hts in_M hown hK hE0.P 0 rfl rfl 8 (by decide) (hts _ w_548) (fun _ h9 => h9) rfl d_M_meet_103 ?_
          refine lv_iload_n hx hb d_M_meet_106 rfl (lv_at hl 2 rfl) ?_
          refine z_iald hx hb hAI (show z_A cI _ (E 6) 384 (gv 5) from hGA 5 (by omega)) (by omega) (by decide) d_M_meet_107 ?_
          refine lv_aload_n hx hb d_M_meet_108 rfl (lv_at hl 0 rfl) ?_
          refine va_get (D := (dC, dI)) (ci := 4) (v := .ref (E 7)) (C := R_M) (T := T_M) (N := 23) hx hb hts in_M hown hK hE0.P 0 rfl rfl 9 (by decide) (hts _ w_549) (fun _ h9 => h9) rfl d_M_meet_109 ?_
          refine lv_iload_n hx hb d_M_meet_112 rfl (lv_at hl 2 rfl) ?_
          refine z_iald hx hb hAI (show z_A cI _ (E 7) 384 (gv 6) from hGA 6 (by omega)) (by omega) (by decide) d_M_meet_113 ?_
          refine lv_aload_n hx hb d_M_meet_114 rfl (lv_at hl 0 rfl) ?_
          refine va_get (D := (dC, dI)) (ci := 4) (v := .ref (E 6)) (C := R_M) (T := T_M) (N := 23) hx hb hts in_M hown hK hE0.P 0 rfl rfl 8 (by decide) (hts _ w_548) (fun _ h9 => h9) rfl d_M_meet_115 ?_
          refine lv_iload_n hx hb d_M_meet_118 rfl (lv_at hl 3 rfl) ?_
          refine z_iald hx hb hAI (show z_A cI _ (E 6) 384 (gv 5) from hGA 5 (by omega)) (by omega) (by decide) d_M_meet_119 ?_
          refine lv_aload_n hx hb d_M_meet_120 rfl (lv_at hl 0 rfl) ?_
          refine va_get (D := (dC, dI)) (ci := 4) (v := .ref (E 7)) (C := R_M) (T := T_M) (N := 23) hx hb hts in_M hown hK hE0.P 0 rfl rfl 9 (by decide) (hts _ w_549) (fun _ h9 => h9) rfl d_M_meet_121 ?_
          refine lv_iload_n hx hb d_M_meet_124 rfl (lv_at hl 3 rfl) ?_
          refine z_iald hx hb hAI (show z_A cI _ (E 7) 384 (gv 6) from hGA 6 (by omega)) (by omega) (by decide) d_M_meet_125 ?_
          refine z_rdS (n := 6) (rest := []) ⟨hx, hb, hml, hown, hts⟩ hW0 (c_M_side G ((gv 5) i) ((gv 6) i) ((gv 5) j) ((gv 6) j) ((gv 5) k) ((gv 6) k)) w_663 w_661 w_662 w_4 (by decide +kernel) ⟨rfl, rfl, Nat.le_of_ble_eq_true rfl, Nat.le_of_ble_eq_true rfl⟩ (trivial) rfl rfl hl.1 (Nat.le_of_ble_eq_true rfl) d_M_meet_126 ⟨Nat.zero_le _, Nat.zero_le _⟩ ?_
          refine z_rdS (n := 1) (rest := []) ⟨hx, hb, hml, hown, hts⟩ hW0 (c_M_sign G (pm_side ((gv 5) i) ((gv 6) i) ((gv 5) j) ((gv 6) j) ((gv 5) k) ((gv 6) k))) w_673 w_671 w_672 w_4 (by decide +kernel) ⟨rfl, rfl, Nat.le_of_ble_eq_true rfl, Nat.le_of_ble_eq_true rfl⟩ (trivial) rfl rfl hl.1 (Nat.le_of_ble_eq_true rfl) d_M_meet_129 ⟨Nat.zero_le _, Nat.zero_le _⟩ ?_
          refine lv_aload_n hx hb d_M_meet_132 rfl (lv_at hl 0 rfl) ?_
          refine va_get (D := (dC, dI)) (ci := 4) (v := .ref (E 6)) (C := R_M) (T := T_M) (N := 23) hx hb hts in_M hown hK hE0.P 0 rfl rfl 8 (by decide) (hts _ w_548) (fun _ h9 => h9) rfl d_M_meet_133 ?_
          refine lv_iload_n hx hb d_M_meet_136 rfl (lv_at hl 1 rfl) ?_
          refine z_iald hx hb hAI (show z_A cI _ (E 6) 384 (gv 5) from hGA 5 (by omega)) (by omega) (by decide) d_M_meet_137 ?_
          refine lv_aload_n hx hb d_M_meet_138 rfl (lv_at hl 0 rfl) ?_
          refine va_get (D := (dC, dI)) (ci := 4) (v := .ref (E 7)) (C := R_M) (T := T_M) (N := 23) hx hb hts in_M hown hK hE0.P 0 rfl rfl 9 (by decide) (hts _ w_549) (fun _ h9 => h9) rfl d_M_meet_139 ?_
          refine lv_iload_n hx hb d_M_meet_142 rfl (lv_at hl 1 rfl) ?_
          refine z_iald hx hb hAI (show z_A cI _ (E 7) 384 (gv 6) from hGA 6 (by omega)) (by omega) (by decide) d_M_meet_143 ?_
          refine lv_aload_n hx hb d_M_meet_144 rfl (lv_at hl 0 rfl) ?_
          refine va_get (D := (dC, dI)) (ci := 4) (v := .ref (E 6)) (C := R_M) (T := T_M) (N := 23) hx hb hts in_M hown hK hE0.P 0 rfl rfl 8 (by decide) (hts _ w_548) (fun _ h9 => h9) rfl d_M_meet_145 ?_
          refine lv_iload_n hx hb d_M_meet_148 rfl (lv_at hl 2 rfl) ?_
          refine z_iald hx hb hAI (show z_A cI _ (E 6) 384 (gv 5) from hGA 5 (by omega)) (by omega) (by decide) d_M_meet_149 ?_
          refine lv_aload_n hx hb d_M_meet_150 rfl (lv_at hl 0 rfl) ?_
          refine va_get (D := (dC, dI)) (ci := 4) (v := .ref (E 7)) (C := R_M) (T := T_M) (N := 23) hx hb hts in_M hown hK hE0.P 0 rfl rfl 9 (by decide) (hts _ w_549) (fun _ h9 => h9) rfl d_M_meet_151 ?_
          refine lv_iload_n hx hb d_M_meet_154 rfl (lv_at hl 2 rfl) ?_
          refine z_iald hx hb hAI (show z_A cI _ (E 7) 384 (gv 6) from hGA 6 (by omega)) (by omega) (by decide) d_M_meet_155 ?_
          refine lv_aload_n hx hb d_M_meet_156 rfl (lv_at hl 0 rfl) ?_
          refine va_get (D := (dC, dI)) (ci := 4) (v := .ref (E 6)) (C := R_M) (T := T_M) (N := 23) hx hb hts in_M hown hK hE0.P 0 rfl rfl 8 (by decide) (hts _ w_548) (fun _ h9 => h9) rfl d_M_meet_157 ?_
          refine lv_iload hx hb d_M_meet_160 (lv_at hl 4 rfl) ?_
          refine z_iald hx hb hAI (show z_A cI _ (E 6) 384 (gv 5) from hGA 5 (by omega)) (by omega) (by decide) d_M_meet_162 ?_
          refine lv_aload_n hx hb d_M_meet_163 rfl (lv_at hl 0 rfl) ?_
          refine va_get (D := (dC, dI)) (ci := 4) (v := .ref (E 7)) (C := R_M) (T := T_M) (N := 23) hx hb hts in_M hown hK hE0.P 0 rfl rfl 9 (by decide) (hts _ w_549) (fun _ h9 => h9) rfl d_M_meet_164 ?_
          refine lv_iload hx hb d_M_meet_167 (lv_at hl 4 rfl) ?_
          refine z_iald hx hb hAI (show z_A cI _ (E 7) 384 (gv 6) from hGA 6 (by omega)) (by omega) (by decide) d_M_meet_169 ?_
          refine z_rdS (n := 6) (rest := [.int (pm_sign (pm_side ((gv 5) i) ((gv 6) i) ((gv 5) j) ((gv 6) j) ((gv 5) k) ((gv 6) k)))]) ⟨hx, hb, hml, hown, hts⟩ hW0 (c_M_side G ((gv 5) i) ((gv 6) i) ((gv 5) j) ((gv 6) j) ((gv 5) q) ((gv 6) q)) w_663 w_661 w_662 w_4 (by decide +kernel) ⟨rfl, rfl, Nat.le_of_ble_eq_true rfl, Nat.le_of_ble_eq_true rfl⟩ (trivial) rfl rfl hl.1 (Nat.le_of_ble_eq_true rfl) d_M_meet_170 ⟨Nat.zero_le _, Nat.zero_le _⟩ ?_
          refine z_rdS (n := 1) (rest := [.int (pm_sign (pm_side ((gv 5) i) ((gv 6) i) ((gv 5) j) ((gv 6) j) ((gv 5) k) ((gv 6) k)))]) ⟨hx, hb, hml, hown, hts⟩ hW0 (c_M_sign G (pm_side ((gv 5) i) ((gv 6) i) ((gv 5) j) ((gv 6) j) ((gv 5) q) ((gv 6) q))) w_673 w_671 w_672 w_4 (by decide +kernel) ⟨rfl, rfl, Nat.le_of_ble_eq_true rfl, Nat.le_of_ble_eq_true rfl⟩ (trivial) rfl rfl hl.1 (Nat.le_of_ble_eq_true rfl) d_M_meet_173 ⟨Nat.zero_le _, Nat.zero_le _⟩ ?_
          refine lv_imul hx hb d_M_meet_176 ?_
          refine lv_istore (lv' := [(5, .int ((pm_sign (pm_side ((gv 5) i) ((gv 6) i) ((gv 5) j) ((gv 6) j) ((gv 5) k) ((gv 6) k))) * (pm_sign (pm_side ((gv 5) i) ((gv 6) i) ((gv 5) j) ((gv 6) j) ((gv 5) q) ((gv 6) q))))), (0, .ref (E 0)), (1, .int (nI i)), (2, .int (nI j)), (3, .int (nI k)), (4, .int (nI q))]) hx hb d_M_meet_177 hl (by decide) rfl (fun ls hl => ?_)
          refine lv_aload_n hx hb d_M_meet_179 rfl (lv_at hl 1 rfl) ?_
          refine va_get (D := (dC, dI)) (ci := 4) (v := .ref (E 6)) (C := R_M) (T := T_M) (N := 23) hx hb hts in_M hown hK hE0.P 0 rfl rfl 8 (by decide) (hts _ w_548) (fun _ h9 => h9) rfl d_M_meet_180 ?_
          refine lv_iload_n hx hb d_M_meet_183 rfl (lv_at hl 4 rfl) ?_
          refine z_iald hx hb hAI (show z_A cI _ (E 6) 384 (gv 5) from hGA 5 (by omega)) (by omega) (by decide) d_M_meet_184 ?_
          refine lv_aload_n hx hb d_M_meet_185 rfl (lv_at hl 1 rfl) ?_
          refine va_get (D := (dC, dI)) (ci := 4) (v := .ref (E 7)) (C := R_M) (T := T_M) (N := 23) hx hb hts in_M hown hK hE0.P 0 rfl rfl 9 (by decide) (hts _ w_549) (fun _ h9 => h9) rfl d_M_meet_186 ?_
          refine lv_iload_n hx hb d_M_meet_189 rfl (lv_at hl 4 rfl) ?_
          refine z_iald hx hb hAI (show z_A cI _ (E 7) 384 (gv 6) from hGA 6 (by omega)) (by omega) (by decide) d_M_meet_190 ?_
          refine lv_aload_n hx hb d_M_meet_191 rfl (lv_at hl 1 rfl) ?_
          refine va_get (D := (dC, dI)) (ci := 4) (v := .ref (E 6)) (C := R_M) (T := T_M) (N := 23) hx hb hts in_M hown hK hE0.P 0 rfl rfl 8 (by decide) (hts _ w_548) (fun _ h9 => h9) rfl d_M_meet_192 ?_
          refine lv_iload hx hb d_M_meet_195 (lv_at hl 5 rfl) ?_
          refine z_iald hx hb hAI (show z_A cI _ (E 6) 384 (gv 5) from hGA 5 (by omega)) (by omega) (by decide) d_M_meet_197 ?_
          refine lv_aload_n hx hb d_M_meet_198 rfl (lv_at hl 1 rfl) ?_
          refine va_get (D := (dC, dI)) (ci := 4) (v := .ref (E 7)) (C := R_M) (T := T_M) (N := 23) hx hb hts in_M hown hK hE0.P 0 rfl rfl 9 (by decide) (hts _ w_549) (fun _ h9 => h9) rfl d_M_meet_199 ?_
          refine lv_iload hx hb d_M_meet_202 (lv_at hl 5 rfl) ?_
          refine z_iald hx hb hAI (show z_A cI _ (E 7) 384 (gv 6) from hGA 6 (by omega)) (by omega) (by decide) d_M_meet_204 ?_
          refine lv_aload_n hx hb d_M_meet_205 rfl (lv_at hl 1 rfl) ?_
          refine va_get (D := (dC, dI)) (ci := 4) (v := .ref (E 6)) (C := R_M) (T := T_M) (N := 23) hx hb hts in_M hown hK hE0.P 0 rfl rfl 8 (by decide) (hts _ w_548) (fun _ h9 => h9) rfl d_M_meet_206 ?_
          refine lv_iload_n hx hb d_M_meet_209 rfl (lv_at hl 2 rfl) ?_
          refine z_iald hx hb hAI (show z_A cI _ (E 6) 384 (gv 5) from hGA 5 (by omega)) (by omega) (by decide) d_M_meet_210 ?_
          refine lv_aload_n hx hb d_M_meet_211 rfl (lv_at hl 1 rfl) ?_
          refine va_get (D := (dC, dI)) (ci := 4) (v := .ref (E 7)) (C := R_M) (T := T_M) (N := 23) hx hb hts in_M hown hK hE0.P 0 rfl rfl 9 (by decide) (hts _ w_549) (fun _ h9 => h9) rfl d_M_meet_212 ?_
          refine lv_iload_n hx hb d_M_meet_215 rfl (lv_at hl 2 rfl) ?_
          refine z_iald hx hb hAI (show z_A cI _ (E 7) 384 (gv 6) from hGA 6 (by omega)) (by omega) (by decide) d_M_meet_216 ?_
          refine z_rdS (n := 6) (rest := []) ⟨hx, hb, hml, hown, hts⟩ hW0 (c_M_side G ((gv 5) k) ((gv 6) k) ((gv 5) q) ((gv 6) q) ((gv 5) i) ((gv 6) i)) w_663 w_661 w_662 w_4 (by decide +kernel) ⟨rfl, rfl, Nat.le_of_ble_eq_true rfl, Nat.le_of_ble_eq_true rfl⟩ (trivial) rfl rfl hl.1 (Nat.le_of_ble_eq_true rfl) d_M_meet_217 ⟨Nat.zero_le _, Nat.zero_le _⟩ ?_
          refine z_rdS (n := 1) (rest := []) ⟨hx, hb, hml, hown, hts⟩ hW0 (c_M_sign G (pm_side ((gv 5) k) ((gv 6) k) ((gv 5) q) ((gv 6) q) ((gv 5) i) ((gv 6) i))) w_673 w_671 w_672 w_4 (by decide +kernel) ⟨rfl, rfl, Nat.le_of_ble_eq_true rfl, Nat.le_of_ble_eq_true rfl⟩ (trivial) rfl rfl hl.1 (Nat.le_of_ble_eq_true rfl) d_M_meet_220 ⟨Nat.zero_le _, Nat.zero_le _⟩ ?_
          refine lv_aload_n hx hb d_M_meet_223 rfl (lv_at hl 1 rfl) ?_
          refine va_get (D := (dC, dI)) (ci := 4) (v := .ref (E 6)) (C := R_M) (T := T_M) (N := 23) hx hb hts in_M hown hK hE0.P 0 rfl rfl 8 (by decide) (hts _ w_548) (fun _ h9 => h9) rfl d_M_meet_224 ?_
          refine lv_iload_n hx hb d_M_meet_227 rfl (lv_at hl 4 rfl) ?_
          refine z_iald hx hb hAI (show z_A cI _ (E 6) 384 (gv 5) from hGA 5 (by omega)) (by omega) (by decide) d_M_meet_228 ?_
          refine lv_aload_n hx hb d_M_meet_229 rfl (lv_at hl 1 rfl) ?_
          refine va_get (D := (dC, dI)) (ci := 4) (v := .ref (E 7)) (C := R_M) (T := T_M) (N := 23) hx hb hts in_M hown hK hE0.P 0 rfl rfl 9 (by decide) (hts _ w_549) (fun _ h9 => h9) rfl d_M_meet_230 ?_
          refine lv_iload_n hx hb d_M_meet_233 rfl (lv_at hl 4 rfl) ?_
          refine z_iald hx hb hAI (show z_A cI _ (E 7) 384 (gv 6) from hGA 6 (by omega)) (by omega) (by decide) d_M_meet_234 ?_
          refine lv_aload_n hx hb d_M_meet_235 rfl (lv_at hl 1 rfl) ?_
          refine va_get (D := (dC, dI)) (ci := 4) (v := .ref (E 6)) (C := R_M) (T := T_M) (N := 23) hx hb hts in_M hown hK hE0.P 0 rfl rfl 8 (by decide) (hts _ w_548) (fun _ h9 => h9) rfl d_M_meet_236 ?_
          refine lv_iload hx hb d_M_meet_239 (lv_at hl 5 rfl) ?_
          refine z_iald hx hb hAI (show z_A cI _ (E 6) 384 (gv 5) from hGA 5 (by omega)) (by omega) (by decide) d_M_meet_241 ?_
          refine lv_aload_n hx hb d_M_meet_242 rfl (lv_at hl 1 rfl) ?_
          refine va_get (D := (dC, dI)) (ci := 4) (v := .ref (E 7)) (C := R_M) (T := T_M) (N := 23) hx hb hts in_M hown hK hE0.P 0 rfl rfl 9 (by decide) (hts _ w_549) (fun _ h9 => h9) rfl d_M_meet_243 ?_
          refine lv_iload hx hb d_M_meet_246 (lv_at hl 5 rfl) ?_
          refine z_iald hx hb hAI (show z_A cI _ (E 7) 384 (gv 6) from hGA 6 (by omega)) (by omega) (by decide) d_M_meet_248 ?_
          refine lv_aload_n hx hb d_M_meet_249 rfl (lv_at hl 1 rfl) ?_
          refine va_get (D := (dC, dI)) (ci := 4) (v := .ref (E 6)) (C := R_M) (T := T_M) (N := 23) hx hb hts in_M hown hK hE0.P 0 rfl rfl 8 (by decide) (hts _ w_548) (fun _ h9 => h9) rfl d_M_meet_250 ?_
          refine lv_iload_n hx hb d_M_meet_253 rfl (lv_at hl 3 rfl) ?_
          refine z_iald hx hb hAI (show z_A cI _ (E 6) 384 (gv 5) from hGA 5 (by omega)) (by omega) (by decide) d_M_meet_254 ?_
          refine lv_aload_n hx hb d_M_meet_255 rfl (lv_at hl 1 rfl) ?_
          refine va_get (D := (dC, dI)) (ci := 4) (v := .ref (E 7)) (C := R_M) (T := T_M) (N := 23) hx hb hts in_M hown hK hE0.P 0 rfl rfl 9 (by decide) (hts _ w_549) (fun _ h9 => h9) rfl d_M_meet_256 ?_
          refine lv_iload_n hx hb d_M_meet_259 rfl (lv_at hl 3 rfl) ?_
          refine z_iald hx hb hAI (show z_A cI _ (E 7) 384 (gv 6) from hGA 6 (by omega)) (by omega) (by decide) d_M_meet_260 ?_
          refine z_rdS (n := 6) (rest := [.int (pm_sign (pm_side ((gv 5) k) ((gv 6) k) ((gv 5) q) ((gv 6) q) ((gv 5) i) ((gv 6) i)))]) ⟨hx, hb, hml, hown, hts⟩ hW0 (c_M_side G ((gv 5) k) ((gv 6) k) ((gv 5) q) ((gv 6) q) ((gv 5) j) ((gv 6) j)) w_663 w_661 w_662 w_4 (by decide +kernel) ⟨rfl, rfl, Nat.le_of_ble_eq_true rfl, Nat.le_of_ble_eq_true rfl⟩ (trivial) rfl rfl hl.1 (Nat.le_of_ble_eq_true rfl) d_M_meet_261 ⟨Nat.zero_le _, Nat.zero_le _⟩ ?_
          refine z_rdS (n := 1) (rest := [.int (pm_sign (pm_side ((gv 5) k) ((gv 6) k) ((gv 5) q) ((gv 6) q) ((gv 5) i) ((gv 6) i)))]) ⟨hx, hb, hml, hown, hts⟩ hW0 (c_M_sign G (pm_side ((gv 5) k) ((gv 6) k) ((gv 5) q) ((gv 6) q) ((gv 5) j) ((gv 6) j))) w_673 w_671 w_672 w_4 (by decide +kernel) ⟨rfl, rfl, Nat.le_of_ble_eq_true rfl, Nat.le_of_ble_eq_true rfl⟩ (trivial) rfl rfl hl.1 (Nat.le_of_ble_eq_true rfl) d_M_meet_264 ⟨Nat.zero_le _, Nat.zero_le _⟩ ?_
          refine lv_imul hx hb d_M_meet_267 ?_
          refine lv_istore (lv' := [(6, .int ((pm_sign (pm_side ((gv 5) k) ((gv 6) k) ((gv 5) q) ((gv 6) q) ((gv 5) i) ((gv 6) i))) * (pm_sign (pm_side ((gv 5) k) ((gv 6) k) ((gv 5) q) ((gv 6) q) ((gv 5) j) ((gv 6) j))))), (5, .int ((pm_sign (pm_side ((gv 5) i) ((gv 6) i) ((gv 5) j) ((gv 6) j) ((gv 5) k) ((gv 6) k))) * (pm_sign (pm_side ((gv 5) i) ((gv 6) i) ((gv 5) j) ((gv 6) j) ((gv 5) q) ((gv 6) q))))), (0, .ref (E 0)), (1, .int (nI i)), (2, .int (nI j)), (3, .int (nI k)), (4, .int (nI q))]) hx hb d_M_meet_268 hl (by decide) rfl (fun ls hl => ?_)
          refine lv_iload hx hb d_M_meet_270 (lv_at hl 1 rfl) ?_
          refine lv_if_ge (tgt := 284) hx hb d_M_meet_272 (by decide) (fun c_5 => ?_) (fun c_5 => ?_)
          · skip
            have c_5' : ¬ (((pm_sign (pm_side ((gv 5) i) ((gv 6) i) ((gv 5) j) ((gv 6) j) ((gv 5) k) ((gv 6) k))) * (pm_sign (pm_side ((gv 5) i) ((gv 6) i) ((gv 5) j) ((gv 6) j) ((gv 5) q) ((gv 6) q)))) < (0 : Int32)) := Int32.not_lt.mpr c_5
            refine lv_iconst (v := 0) hx hb d_M_meet_284 (by decide) ?_
            exact z_zret hx hb hr hlocks (by simp [pi_b, pm_meet, pm_cross, c_1, c_2, c_3, c_4, c_5, c_5']) d_M_meet_285
          · skip
            have c_5' : ((pm_sign (pm_side ((gv 5) i) ((gv 6) i) ((gv 5) j) ((gv 6) j) ((gv 5) k) ((gv 6) k))) * (pm_sign (pm_side ((gv 5) i) ((gv 6) i) ((gv 5) j) ((gv 6) j) ((gv 5) q) ((gv 6) q)))) < (0 : Int32) := Int32.not_le.mp c_5
            refine lv_iload hx hb d_M_meet_275 (lv_at hl 0 rfl) ?_
            refine lv_if_ge (tgt := 284) hx hb d_M_meet_277 (by decide) (fun c_6 => ?_) (fun c_6 => ?_)
            · skip
              have c_6' : ¬ (((pm_sign (pm_side ((gv 5) k) ((gv 6) k) ((gv 5) q) ((gv 6) q) ((gv 5) i) ((gv 6) i))) * (pm_sign (pm_side ((gv 5) k) ((gv 6) k) ((gv 5) q) ((gv 6) q) ((gv 5) j) ((gv 6) j)))) < (0 : Int32)) := Int32.not_lt.mpr c_6
              refine lv_iconst (v := 0) hx hb d_M_meet_284 (by decide) ?_
              exact z_zret hx hb hr hlocks (by simp [pi_b, pm_meet, pm_cross, c_1, c_2, c_3, c_4, c_5, c_5', c_6, c_6']) d_M_meet_285
            · skip
              have c_6' : ((pm_sign (pm_side ((gv 5) k) ((gv 6) k) ((gv 5) q) ((gv 6) q) ((gv 5) i) ((gv 6) i))) * (pm_sign (pm_side ((gv 5) k) ((gv 6) k) ((gv 5) q) ((gv 6) q) ((gv 5) j) ((gv 6) j)))) < (0 : Int32) := Int32.not_le.mp c_6
              refine lv_iconst (v := 1) hx hb d_M_meet_280 (by decide) ?_
              refine lv_goto (tgt := 285) hx hb d_M_meet_281 (by decide) ?_
              exact z_zret hx hb hr hlocks (by simp [pi_b, pm_meet, pm_cross, c_1, c_2, c_3, c_4, c_5, c_5', c_6, c_6']) d_M_meet_285
        · skip
          have c_4 : (pm_on (gv 5) (gv 6) k q ((gv 5) j) ((gv 6) j)) = true := pi_b_1.mp c_4
          refine lv_iconst (v := 1) hx hb d_M_meet_88 (by decide) ?_
          exact z_zret hx hb hr hlocks (by simp [pi_b, pm_meet, pm_cross, c_1, c_2, c_3, c_4]) d_M_meet_89
set_option maxRecDepth 100000 in
set_option maxHeartbeats 4000000 in
theorem c_M_after (G : z_G s0 (dC, dI) cI cS) (E : Nat → Nat) (th : Int32) (mp ms mc mn mm : Nat) (gv : Nat → Nat → Int32) (q k n : Nat) (hq : q < 32) (hk : k < 100) (hm : gv 4 q = nI n) (hn0 : 0 < n) (hn : n ≤ 12) : Met l y_M_after [Cond.code y_M_after b_M_after 3 (some .int)] ({ frames := 0, cells := 0, slots := 0, locals := 0 }) (z_Pc s0 [.ref (E 0), .int (nI q), .int (nI k)] (fun H => z_Md (dC, dI) cI H E th mp ms mc mn mm gv)) (z_Qr (some (.int (nI (pm_af n q k))))) 0 0 z_no := by
  refine z_ofW (by decide +kernel) (Nat.le_of_ble_eq_true rfl) ?_
  intro p e s m below meth c hx hb hml hr hown hlocks hnm hW0 hB ls hl
  have hts := z_hts (args := [.ref (E 0), .int (nI q), .int (nI k)].toArray) G.1 hW0
  have hN := z_nstW G.2.1 hW0
  have hK := va_K.moved hW0.alike G.2.2.1
  have hAI := arrOfT_moved hW0.alike G.2.2.2.1
  have hl : lv_has ls 3 [(0, .ref (E 0)), (1, .int (nI q)), (2, .int (nI k))] := hl
  obtain ⟨⟨hE0, hGA⟩, hEi, ⟨hmp, hms, hmn, hmm, hmc⟩⟩ := id hB
  refine lv_bipush (v := 12) hx hb d_M_after_0 (by decide) ?_
  refine lv_iload_n hx hb d_M_after_2 rfl (lv_at hl 1 rfl) ?_
  refine lv_imul hx hb d_M_after_3 ?_
  refine z_topi (y := nI (12 * q)) (pk_mul 12 q) ?_
  refine lv_iload_n hx hb d_M_after_4 rfl (lv_at hl 2 rfl) ?_
  refine lv_iconst (v := 1) hx hb d_M_after_5 (by decide) ?_
  refine lv_iadd hx hb d_M_after_6 ?_
  refine z_topi (y := nI (k + 1)) (nI_add k 1) ?_
  refine lv_aload_n hx hb d_M_after_7 rfl (lv_at hl 0 rfl) ?_
  refine va_get (D := (dC, dI)) (ci := 4) (v := .ref (E 5)) (C := R_M) (T := T_M) (N := 23) hx hb hts in_M hown hK hE0.P 0 rfl rfl 7 (by decide) (hts _ w_547) (fun _ h9 => h9) rfl d_M_after_8 ?_
  refine lv_iload_n hx hb d_M_after_11 rfl (lv_at hl 1 rfl) ?_
  refine z_iald hx hb hAI (show z_A cI _ (E 5) 32 (gv 4) from hGA 4 (by omega)) (by omega) (by decide) d_M_after_12 ?_
  refine z_topi (y := nI n) hm ?_
  refine lv_irem hx hb d_M_after_13 (nI_ne0 (n := n) (by omega) (by omega)) ?_
  refine z_topi (y := nI ((k + 1) % n)) (pk_rem (a := k + 1) (d := n) (by omega) (by omega) (by omega)) ?_
  refine lv_iadd hx hb d_M_after_14 ?_
  refine z_topi (y := nI (12 * q + ((k + 1) % n))) (nI_add (12 * q) ((k + 1) % n)) ?_
  exact z_iret hx hb hr hlocks (by rfl) d_M_after_15
set_option maxRecDepth 100000 in
set_option maxHeartbeats 4000000 in
theorem c_M_part (G : z_G s0 (dC, dI) cI cS) (E : Nat → Nat) (th : Int32) (mp ms mc mn mm : Nat) (gv : Nat → Nat → Int32) (i j : Nat) (x y : Int32) (hi : i < 12) (hj : j < 12) : Met l y_M_part [Cond.code y_M_part b_M_part 5 (some .int)] ({ frames := 1, cells := 0, slots := 0, locals := 25 }) (z_Pc s0 [.ref (E 0), .int (nI i), .int (nI j), .int x, .int y] (fun H => z_Md (dC, dI) cI H E th mp ms mc mn mm gv)) (z_Qr (some (.int (pm_side (gv 13 i) (gv 14 i) (gv 13 j) (gv 14 j) x y)))) 0 0 z_no := by
  refine z_ofW (by decide +kernel) (Nat.le_of_ble_eq_true rfl) ?_
  intro p e s m below meth c hx hb hml hr hown hlocks hnm hW0 hB ls hl
  have hts := z_hts (args := [.ref (E 0), .int (nI i), .int (nI j), .int x, .int y].toArray) G.1 hW0
  have hN := z_nstW G.2.1 hW0
  have hK := va_K.moved hW0.alike G.2.2.1
  have hAI := arrOfT_moved hW0.alike G.2.2.2.1
  have hl : lv_has ls 5 [(0, .ref (E 0)), (1, .int (nI i)), (2, .int (nI j)), (3, .int x), (4, .int y)] := hl
  obtain ⟨⟨hE0, hGA⟩, hEi, ⟨hmp, hms, hmn, hmm, hmc⟩⟩ := id hB
  refine lv_aload_n hx hb d_M_part_0 rfl (lv_at hl 0 rfl) ?_
  refine va_get (D := (dC, dI)) (ci := 4) (v := .ref (E 14)) (C := R_M) (T := T_M) (N := 23) hx hb hts in_M hown hK hE0.P 0 rfl rfl 19 (by decide) (hts _ w_559) (fun _ h9 => h9) rfl d_M_part_1 ?_
  refine lv_iload_n hx hb d_M_part_4 rfl (lv_at hl 1 rfl) ?_
  refine z_iald hx hb hAI (show z_A cI _ (E 14) 12 (gv 13) from hGA 13 (by omega)) (by omega) (by decide) d_M_part_5 ?_
  refine lv_aload_n hx hb d_M_part_6 rfl (lv_at hl 0 rfl) ?_
  refine va_get (D := (dC, dI)) (ci := 4) (v := .ref (E 15)) (C := R_M) (T := T_M) (N := 23) hx hb hts in_M hown hK hE0.P 0 rfl rfl 20 (by decide) (hts _ w_560) (fun _ h9 => h9) rfl d_M_part_7 ?_
  refine lv_iload_n hx hb d_M_part_10 rfl (lv_at hl 1 rfl) ?_
  refine z_iald hx hb hAI (show z_A cI _ (E 15) 12 (gv 14) from hGA 14 (by omega)) (by omega) (by decide) d_M_part_11 ?_
  refine lv_aload_n hx hb d_M_part_12 rfl (lv_at hl 0 rfl) ?_
  refine va_get (D := (dC, dI)) (ci := 4) (v := .ref (E 14)) (C := R_M) (T := T_M) (N := 23) hx hb hts in_M hown hK hE0.P 0 rfl rfl 19 (by decide) (hts _ w_559) (fun _ h9 => h9) rfl d_M_part_13 ?_
  refine lv_iload_n hx hb d_M_part_16 rfl (lv_at hl 2 rfl) ?_
  refine z_iald hx hb hAI (show z_A cI _ (E 14) 12 (gv 13) from hGA 13 (by omega)) (by omega) (by decide) d_M_part_17 ?_
  refine lv_aload_n hx hb d_M_part_18 rfl (lv_at hl 0 rfl) ?_
  refine va_get (D := (dC, dI)) (ci := 4) (v := .ref (E 15)) (C := R_M) (T := T_M) (N := 23) hx hb hts in_M hown hK hE0.P 0 rfl rfl 20 (by decide) (hts _ w_560) (fun _ h9 => h9) rfl d_M_part_19 ?_
  refine lv_iload_n hx hb d_M_part_22 rfl (lv_at hl 2 rfl) ?_
  refine z_iald hx hb hAI (show z_A cI _ (E 15) 12 (gv 14) from hGA 14 (by omega)) (by omega) (by decide) d_M_part_23 ?_
  refine lv_iload_n hx hb d_M_part_24 rfl (lv_at hl 3 rfl) ?_
  refine lv_iload hx hb d_M_part_25 (lv_at hl 4 rfl) ?_
  refine z_rdS (n := 6) (rest := []) ⟨hx, hb, hml, hown, hts⟩ hW0 (c_M_side G ((gv 13) i) ((gv 14) i) ((gv 13) j) ((gv 14) j) x y) w_663 w_661 w_662 w_4 (by decide +kernel) ⟨rfl, rfl, Nat.le_of_ble_eq_true rfl, Nat.le_of_ble_eq_true rfl⟩ (trivial) rfl rfl hl.1 (Nat.le_of_ble_eq_true rfl) d_M_part_27 ⟨Nat.zero_le _, Nat.zero_le _⟩ ?_
  exact z_iret hx hb hr hlocks (by rfl) d_M_part_30
set_option maxRecDepth 100000 in
set_option maxHeartbeats 4000000 in
theorem c_M_holds (G : z_G s0 (dC, dI) cI cS) (E : Nat → Nat) (th : Int32) (mp ms mc mn mm : Nat) (gv : Nat → Nat → Int32) (i j k : Nat) (x y : Int32) (hi : i < 12) (hj : j < 12) (hk : k < 12) : Met l y_M_holds [Cond.code y_M_holds b_M_holds 7 (some .boolean)] ({ frames := 2, cells := 0, slots := 0, locals := 49 }) (z_Pc s0 [.ref (E 0), .int (nI i), .int (nI j), .int (nI k), .int x, .int y] (fun H => z_Md (dC, dI) cI H E th mp ms mc mn mm gv)) (z_Qr (some (.int (pi_b (pm_hold (gv 13) (gv 14) i j k x y))))) 0 0 z_no := by
  refine z_ofW (by decide +kernel) (Nat.le_of_ble_eq_true rfl) ?_
  intro p e s m below meth c hx hb hml hr hown hlocks hnm hW0 hB ls hl
  have hts := z_hts (args := [.ref (E 0), .int (nI i), .int (nI j), .int (nI k), .int x, .int y].toArray) G.1 hW0
  have hN := z_nstW G.2.1 hW0
  have hK := va_K.moved hW0.alike G.2.2.1
  have hAI := arrOfT_moved hW0.alike G.2.2.2.1
  have hl : lv_has ls 7 [(0, .ref (E 0)), (1, .int (nI i)), (2, .int (nI j)), (3, .int (nI k)), (4, .int x), (5, .int y)] := hl
  obtain ⟨⟨hE0, hGA⟩, hEi, ⟨hmp, hms, hmn, hmm, hmc⟩⟩ := id hB
  refine lv_aload_n hx hb d_M_holds_0 rfl (lv_at hl 0 rfl) ?_
  refine lv_iload_n hx hb d_M_holds_1 rfl (lv_at hl 1 rfl) ?_
  refine lv_iload_n hx hb d_M_holds_2 rfl (lv_at hl 2 rfl) ?_
  refine lv_aload_n hx hb d_M_holds_3 rfl (lv_at hl 0 rfl) ?_
  refine va_get (D := (dC, dI)) (ci := 4) (v := .ref (E 14)) (C := R_M) (T := T_M) (N := 23) hx hb hts in_M hown hK hE0.P 0 rfl rfl 19 (by decide) (hts _ w_559) (fun _ h9 => h9) rfl d_M_holds_4 ?_
  refine lv_iload_n hx hb d_M_holds_7 rfl (lv_at hl 3 rfl) ?_
  refine z_iald hx hb hAI (show z_A cI _ (E 14) 12 (gv 13) from hGA 13 (by omega)) (by omega) (by decide) d_M_holds_8 ?_
  refine lv_aload_n hx hb d_M_holds_9 rfl (lv_at hl 0 rfl) ?_
  refine va_get (D := (dC, dI)) (ci := 4) (v := .ref (E 15)) (C := R_M) (T := T_M) (N := 23) hx hb hts in_M hown hK hE0.P 0 rfl rfl 20 (by decide) (hts _ w_560) (fun _ h9 => h9) rfl d_M_holds_10 ?_
  refine lv_iload_n hx hb d_M_holds_13 rfl (lv_at hl 3 rfl) ?_
  refine z_iald hx hb hAI (show z_A cI _ (E 15) 12 (gv 14) from hGA 14 (by omega)) (by omega) (by decide) d_M_holds_14 ?_
  refine z_rdV (n := 4) (C := R_M) (rest := []) ⟨hx, hb, hml, hown, hts⟩ hW0 (c_M_part G E th mp ms mc mn mm gv i j ((gv 13) k) ((gv 14) k) (by omega) (by omega)) w_741 w_738 w_740 wp_30 w_4 (by decide +kernel) ⟨rfl, rfl, Nat.le_of_ble_eq_true rfl, Nat.le_of_ble_eq_true rfl⟩ (hE0.recv hK rfl) (hB) rfl rfl hl.1 (Nat.le_of_ble_eq_true rfl) d_M_holds_15 ⟨Nat.zero_le _, Nat.zero_le _⟩ ?_
  refine z_rdS (n := 1) (rest := []) ⟨hx, hb, hml, hown, hts⟩ hW0 (c_M_sign G (pm_side (gv 13 i) (gv 14 i) (gv 13 j) (gv 14 j) ((gv 13) k) ((gv 14) k))) w_673 w_671 w_672 w_4 (by decide +kernel) ⟨rfl, rfl, Nat.le_of_ble_eq_true rfl, Nat.le_of_ble_eq_true rfl⟩ (trivial) rfl rfl hl.1 (Nat.le_of_ble_eq_true rfl) d_M_holds_18 ⟨Nat.zero_le _, Nat.zero_le _⟩ ?_
  refine lv_istore (lv' := [(6, .int (pm_sign (pm_side (gv 13 i) (gv 14 i) (gv 13 j) (gv 14 j) ((gv 13) k) ((gv 14) k)))), (0, .ref (E 0)), (1, .int (nI i)), (2, .int (nI j)), (3, .int (nI k)), (4, .int x), (5, .int y)]) hx hb d_M_holds_21 hl (by decide) rfl (fun ls hl => ?_)
  refine lv_iload hx hb d_M_holds_23 (lv_at hl 0 rfl) ?_
  refine lv_if_eq (tgt := 89) hx hb d_M_holds_25 (by decide) (fun c_1 => ?_) (fun c_1 => ?_)
  · skip
    refine lv_iconst (v := 0) hx hb d_M_holds_89 (by decide) ?_
    exact z_zret hx hb hr hlocks (by simp [pi_b, pm_hold, c_1]) d_M_holds_90
  · skip
    refine lv_iload hx hb d_M_holds_28 (lv_at hl 0 rfl) ?_
    refine lv_aload_n hx hb d_M_holds_30 rfl (lv_at hl 1 rfl) ?_
    refine lv_iload_n hx hb d_M_holds_31 rfl (lv_at hl 2 rfl) ?_
    refine lv_iload_n hx hb d_M_holds_32 rfl (lv_at hl 3 rfl) ?_
    refine lv_iload hx hb d_M_holds_33 (lv_at hl 5 rfl) ?_
    refine lv_iload hx hb d_M_holds_35 (lv_at hl 6 rfl) ?_
    refine z_rdV (n := 4) (C := R_M) (rest := [.int (pm_sign (pm_side (gv 13 i) (gv 14 i) (gv 13 j) (gv 14 j) ((gv 13) k) ((gv 14) k)))]) ⟨hx, hb, hml, hown, hts⟩ hW0 (c_M_part G E th mp ms mc mn mm gv i j x y (by omega) (by omega)) w_741 w_738 w_740 wp_30 w_4 (by decide +kernel) ⟨rfl, rfl, Nat.le_of_ble_eq_true rfl, Nat.le_of_ble_eq_true rfl⟩ (hE0.recv hK rfl) (hB) rfl rfl hl.1 (Nat.le_of_ble_eq_true rfl) d_M_holds_37 ⟨Nat.zero_le _, Nat.zero_le _⟩ ?_
    refine z_rdS (n := 1) (rest := [.int (pm_sign (pm_side (gv 13 i) (gv 14 i) (gv 13 j) (gv 14 j) ((gv 13) k) ((gv 14) k)))]) ⟨hx, hb, hml, hown, hts⟩ hW0 (c_M_sign G (pm_side (gv 13 i) (gv 14 i) (gv 13 j) (gv 14 j) x y)) w_673 w_671 w_672 w_4 (by decide +kernel) ⟨rfl, rfl, Nat.le_of_ble_eq_true rfl, Nat.le_of_ble_eq_true rfl⟩ (trivial) rfl rfl hl.1 (Nat.le_of_ble_eq_true rfl) d_M_holds_40 ⟨Nat.zero_le _, Nat.zero_le _⟩ ?_
    refine lv_imul hx hb d_M_holds_43 ?_
    refine lv_if_lt (tgt := 89) hx hb d_M_holds_44 (by decide) (fun c_2 => ?_) (fun c_2 => ?_)
    · skip
      have c_2' : ¬ ((0 : Int32) ≤ ((pm_sign (pm_side (gv 13 i) (gv 14 i) (gv 13 j) (gv 14 j) ((gv 13) k) ((gv 14) k))) * (pm_sign (pm_side (gv 13 i) (gv 14 i) (gv 13 j) (gv 14 j) x y)))) := Int32.not_le.mpr c_2
      refine lv_iconst (v := 0) hx hb d_M_holds_89 (by decide) ?_
      exact z_zret hx hb hr hlocks (by simp [pi_b, pm_hold, c_1, c_2, c_2']) d_M_holds_90
    · skip
      have c_2' : (0 : Int32) ≤ ((pm_sign (pm_side (gv 13 i) (gv 14 i) (gv 13 j) (gv 14 j) ((gv 13) k) ((gv 14) k))) * (pm_sign (pm_side (gv 13 i) (gv 14 i) (gv 13 j) (gv 14 j) x y))) := Int32.not_lt.mp c_2
      refine lv_iload hx hb d_M_holds_47 (lv_at hl 0 rfl) ?_
      refine lv_aload_n hx hb d_M_holds_49 rfl (lv_at hl 1 rfl) ?_
      refine lv_iload_n hx hb d_M_holds_50 rfl (lv_at hl 3 rfl) ?_
      refine lv_iload_n hx hb d_M_holds_51 rfl (lv_at hl 4 rfl) ?_
      refine lv_iload hx hb d_M_holds_52 (lv_at hl 5 rfl) ?_
      refine lv_iload hx hb d_M_holds_54 (lv_at hl 6 rfl) ?_
      refine z_rdV (n := 4) (C := R_M) (rest := [.int (pm_sign (pm_side (gv 13 i) (gv 14 i) (gv 13 j) (gv 14 j) ((gv 13) k) ((gv 14) k)))]) ⟨hx, hb, hml, hown, hts⟩ hW0 (c_M_part G E th mp ms mc mn mm gv j k x y (by omega) (by omega)) w_741 w_738 w_740 wp_30 w_4 (by decide +kernel) ⟨rfl, rfl, Nat.le_of_ble_eq_true rfl, Nat.le_of_ble_eq_true rfl⟩ (hE0.recv hK rfl) (hB) rfl rfl hl.1 (Nat.le_of_ble_eq_true rfl) d_M_holds_56 ⟨Nat.zero_le _, Nat.zero_le _⟩ ?_
      refine z_rdS (n := 1) (rest := [.int (pm_sign (pm_side (gv 13 i) (gv 14 i) (gv 13 j) (gv 14 j) ((gv 13) k) ((gv 14) k)))]) ⟨hx, hb, hml, hown, hts⟩ hW0 (c_M_sign G (pm_side (gv 13 j) (gv 14 j) (gv 13 k) (gv 14 k) x y)) w_673 w_671 w_672 w_4 (by decide +kernel) ⟨rfl, rfl, Nat.le_of_ble_eq_true rfl, Nat.le_of_ble_eq_true rfl⟩ (trivial) rfl rfl hl.1 (Nat.le_of_ble_eq_true rfl) d_M_holds_59 ⟨Nat.zero_le _, Nat.zero_le _⟩ ?_
      refine lv_imul hx hb d_M_holds_62 ?_
      refine lv_if_lt (tgt := 89) hx hb d_M_holds_63 (by decide) (fun c_3 => ?_) (fun c_3 => ?_)
      · skip
        have c_3' : ¬ ((0 : Int32) ≤ ((pm_sign (pm_side (gv 13 i) (gv 14 i) (gv 13 j) (gv 14 j) ((gv 13) k) ((gv 14) k))) * (pm_sign (pm_side (gv 13 j) (gv 14 j) (gv 13 k) (gv 14 k) x y)))) := Int32.not_le.mpr c_3
        refine lv_iconst (v := 0) hx hb d_M_holds_89 (by decide) ?_
        exact z_zret hx hb hr hlocks (by simp [pi_b, pm_hold, c_1, c_2, c_2', c_3, c_3']) d_M_holds_90
      · skip
        have c_3' : (0 : Int32) ≤ ((pm_sign (pm_side (gv 13 i) (gv 14 i) (gv 13 j) (gv 14 j) ((gv 13) k) ((gv 14) k))) * (pm_sign (pm_side (gv 13 j) (gv 14 j) (gv 13 k) (gv 14 k) x y))) := Int32.not_lt.mp c_3
        refine lv_iload hx hb d_M_holds_66 (lv_at hl 0 rfl) ?_
        refine lv_aload_n hx hb d_M_holds_68 rfl (lv_at hl 1 rfl) ?_
        refine lv_iload_n hx hb d_M_holds_69 rfl (lv_at hl 4 rfl) ?_
        refine lv_iload_n hx hb d_M_holds_70 rfl (lv_at hl 2 rfl) ?_
        refine lv_iload hx hb d_M_holds_71 (lv_at hl 5 rfl) ?_
        refine lv_iload hx hb d_M_holds_73 (lv_at hl 6 rfl) ?_
        refine z_rdV (n := 4) (C := R_M) (rest := [.int (pm_sign (pm_side (gv 13 i) (gv 14 i) (gv 13 j) (gv 14 j) ((gv 13) k) ((gv 14) k)))]) ⟨hx, hb, hml, hown, hts⟩ hW0 (c_M_part G E th mp ms mc mn mm gv k i x y (by omega) (by omega)) w_741 w_738 w_740 wp_30 w_4 (by decide +kernel) ⟨rfl, rfl, Nat.le_of_ble_eq_true rfl, Nat.le_of_ble_eq_true rfl⟩ (hE0.recv hK rfl) (hB) rfl rfl hl.1 (Nat.le_of_ble_eq_true rfl) d_M_holds_75 ⟨Nat.zero_le _, Nat.zero_le _⟩ ?_
        refine z_rdS (n := 1) (rest := [.int (pm_sign (pm_side (gv 13 i) (gv 14 i) (gv 13 j) (gv 14 j) ((gv 13) k) ((gv 14) k)))]) ⟨hx, hb, hml, hown, hts⟩ hW0 (c_M_sign G (pm_side (gv 13 k) (gv 14 k) (gv 13 i) (gv 14 i) x y)) w_673 w_671 w_672 w_4 (by decide +kernel) ⟨rfl, rfl, Nat.le_of_ble_eq_true rfl, Nat.le_of_ble_eq_true rfl⟩ (trivial) rfl rfl hl.1 (Nat.le_of_ble_eq_true rfl) d_M_holds_78 ⟨Nat.zero_le _, Nat.zero_le _⟩ ?_
        refine lv_imul hx hb d_M_holds_81 ?_
        refine lv_if_lt (tgt := 89) hx hb d_M_holds_82 (by decide) (fun c_4 => ?_) (fun c_4 => ?_)
        · skip
          have c_4' : ¬ ((0 : Int32) ≤ ((pm_sign (pm_side (gv 13 i) (gv 14 i) (gv 13 j) (gv 14 j) ((gv 13) k) ((gv 14) k))) * (pm_sign (pm_side (gv 13 k) (gv 14 k) (gv 13 i) (gv 14 i) x y)))) := Int32.not_le.mpr c_4
          refine lv_iconst (v := 0) hx hb d_M_holds_89 (by decide) ?_
          exact z_zret hx hb hr hlocks (by simp [pi_b, pm_hold, c_1, c_2, c_2', c_3, c_3', c_4, c_4']) d_M_holds_90
        · skip
          have c_4' : (0 : Int32) ≤ ((pm_sign (pm_side (gv 13 i) (gv 14 i) (gv 13 j) (gv 14 j) ((gv 13) k) ((gv 14) k))) * (pm_sign (pm_side (gv 13 k) (gv 14 k) (gv 13 i) (gv 14 i) x y))) := Int32.not_lt.mp c_4
          refine lv_iconst (v := 1) hx hb d_M_holds_85 (by decide) ?_
          refine lv_goto (tgt := 90) hx hb d_M_holds_86 (by decide) ?_
          exact z_zret hx hb hr hlocks (by simp [pi_b, pm_hold, c_1, c_2, c_2', c_3, c_3', c_4, c_4']) d_M_holds_90
end M1
