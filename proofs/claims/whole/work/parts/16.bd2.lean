section S5
variable {s0 : State} {dC : Nat → ClassId} {dI : Nat → Nat → Nat} {cI cS : ClassId} {l : Launch}
set_option maxRecDepth 100000 in
set_option maxHeartbeats 4000000 in
theorem c_B_shapeOn (G : z_G s0 (dC, dI) cI cS) (A : Nat → Nat) (np ns nc nn nm : Nat) (fv : Nat → Nat → Int32) (so sf st : Nat → Int32) (sn sc : Nat → Nat) (sp : Nat → Option Nat) (sx sy : Nat → Nat → Int32) (p1 d1 : Int32) : Met l y_B_shapeOn [Cond.code y_B_shapeOn b_B_shapeOn 6 (some (.object "BorderDays$Shape"))] ({ frames := 2, cells := 0, slots := 0, locals := 42 }) (z_Pc s0 [.ref (A 0), .int p1, .int d1] (fun H => z_BD (dC, dI) cI cS H A np ns nc nn nm fv so sf st sn sc sp sx sy)) (z_Qr (some (z_pv A (pb_f so sf st sc ns p1 d1)))) 0 0 z_no := by
  refine z_ofW (by decide +kernel) (Nat.le_of_ble_eq_true rfl) ?_
  intro p e s m below meth c hx hb hml hr hown hlocks hnm hW0 hB ls hl
  have hts := z_hts (args := [.ref (A 0), .int p1, .int d1].toArray) G.1 hW0
  have hN := z_nstW G.2.1 hW0
  have hK := va_K.moved hW0.alike G.2.2.1
  have hAI := arrOfT_moved hW0.alike G.2.2.2.1
  have hl : lv_has ls 6 [(0, .ref (A 0)), (1, .int p1), (2, .int d1)] := hl
  obtain ⟨⟨hO0, hO1, hO2, hB3, hFA, hSH⟩, hinj, ⟨hnp, hns, hnn, hnm, hnc⟩, hsb⟩ := id hB
  have hAS := arrOfT_moved hW0.alike G.2.2.2.2.1
  have loops : ∀ f : Nat, (∀ (i : Nat), ns - i < f → (i ≤ ns) → (pb_on so sf st sc p1 d1 (ns - i) i none = pb_f so sf st sc ns p1 d1) → ∀ ls : Array Slot, lv_has ls 6 [(0, .ref (A 0)), (1, .int p1), (2, .int d1), (3, .null), (4, .int (nI i))] → W p l e ({ frames := 2, cells := 0, slots := 0, locals := 42 }) s m [.ref (A 0), .int p1, .int d1].toArray below meth c s.heap [] 0 0 (MQ below (z_Qr (some (z_pv A (pb_f so sf st sc ns p1 d1)))) [.ref (A 0), .int p1, .int d1].toArray s 0 0 z_no) (F0 m 5 ls [])) ∧ (∀ (i j : Nat), ns - i < f → (i ≤ ns) → (j < ns) → (pb_on so sf st sc p1 d1 (ns - i) i (some j) = pb_f so sf st sc ns p1 d1) → ∀ ls : Array Slot, lv_has ls 6 [(0, .ref (A 0)), (1, .int p1), (2, .int d1), (3, .ref (A (13 + 3 * j))), (4, .int (nI i))] → W p l e ({ frames := 2, cells := 0, slots := 0, locals := 42 }) s m [.ref (A 0), .int p1, .int d1].toArray below meth c s.heap [] 0 0 (MQ below (z_Qr (some (z_pv A (pb_f so sf st sc ns p1 d1)))) [.ref (A 0), .int p1, .int d1].toArray s 0 0 z_no) (F0 m 5 ls [])) := by
    intro f
    induction f with
    | zero => exact ⟨fun _ h => absurd h (Nat.not_lt_zero _), fun _ _ h => absurd h (Nat.not_lt_zero _)⟩
    | succ f ih =>
      refine ⟨?_, ?_⟩
      · skip
        intro i hmu hi hres ls hl
        refine lv_iload hx hb d_B_shapeOn_5 (lv_at hl 4 rfl) ?_
        refine lv_aload_n hx hb d_B_shapeOn_7 rfl (lv_at hl 0 rfl) ?_
        refine va_get (D := (dC, dI)) (ci := 3) (v := .int (nI ns)) (C := R_B) (T := T_B) (N := 7) hx hb hts in_B hown hK hO0.P 0 rfl rfl 3 (by decide) (hts _ w_71) (fun _ h9 => h9) rfl d_B_shapeOn_8 ?_
        refine lv_icmp_ge (tgt := 58) hx hb d_B_shapeOn_11 (by decide) (fun c_101 => ?_) (fun c_101 => ?_)
        · skip
          have c_101 : ns ≤ i := (nI_leI (a := ns) (b := i) (by omega) (by omega)).mp c_101
          refine lv_aload_nN hx hb d_B_shapeOn_58 rfl (lv_at hl 3 rfl) ?_
          exact z_aret hx hb hr hlocks (Or.inl ⟨_, rfl⟩) (Or.inl rfl) (by rw [show ns - i = 0 by omega] at hres; simp only [pb_on] at hres; rw [← hres]; rfl) d_B_shapeOn_59
        · skip
          have c_101 : ¬ (ns ≤ i) := fun h => c_101 ((nI_leI (a := ns) (b := i) (by omega) (by omega)).mpr h)
          refine lv_aload_n hx hb d_B_shapeOn_14 rfl (lv_at hl 0 rfl) ?_
          refine va_get (D := (dC, dI)) (ci := 3) (v := .ref (A 3)) (C := R_B) (T := T_B) (N := 7) hx hb hts in_B hown hK hO0.P 0 rfl rfl 2 (by decide) (hts _ w_70) (fun _ h9 => h9) rfl d_B_shapeOn_15 ?_
          refine lv_iload hx hb d_B_shapeOn_18 (lv_at hl 4 rfl) ?_
          refine z_aald (k := i) (q := A (13 + 3 * i)) hx hb hAS hB3 (by omega) (by decide) (if_pos (by omega)) d_B_shapeOn_20 ?_
          have hS_i := hSH i (by omega)
          have hb_i := hsb i (by omega)
          obtain ⟨hO_i, hX_i, hY_i⟩ := id hS_i
          refine lv_astore (lv' := [(5, .ref (A (13 + 3 * i))), (0, .ref (A 0)), (1, .int p1), (2, .int d1), (3, .null), (4, .int (nI i))]) hx hb d_B_shapeOn_21 hl (by decide) rfl (fun ls hl => ?_)
          refine lv_aload hx hb d_B_shapeOn_23 (lv_at hl 0 rfl) ?_
          refine lv_iload_n hx hb d_B_shapeOn_25 rfl (lv_at hl 2 rfl) ?_
          refine lv_iload_n hx hb d_B_shapeOn_26 rfl (lv_at hl 3 rfl) ?_
          refine z_rdV (n := 2) (C := R_S) (rest := []) ⟨hx, hb, hml, hown, hts⟩ hW0 (c_S_holdsFor G (A (13 + 3 * i)) (A (14 + 3 * i)) (A (15 + 3 * i)) (sn i) (nI i) (so i) (sf i) (st i) (nI (sc i)) (z_pv A (sp i)) (sx i) (sy i) p1 d1) w_367 w_364 w_365 w_366 w_11 (by decide +kernel) ⟨rfl, rfl, Nat.le_of_ble_eq_true rfl, Nat.le_of_ble_eq_true rfl⟩ (hO_i.recv hK rfl) (hS_i) rfl rfl hl.1 (Nat.le_of_ble_eq_true rfl) d_B_shapeOn_27 ⟨Nat.zero_le _, Nat.zero_le _⟩ ?_
          refine lv_if_eq (tgt := 52) hx hb d_B_shapeOn_30 (by decide) (fun c_102 => ?_) (fun c_102 => ?_)
          · skip
            have c_102 : (pb_h so sf st sc p1 d1 i) = false := pi_b_0.mp c_102
            refine lv_iinc (v := nI (i + 1)) (lv' := [(4, .int (nI (i + 1))), (5, .ref (A (13 + 3 * i))), (0, .ref (A 0)), (1, .int p1), (2, .int d1), (3, .null)]) hx hb d_B_shapeOn_52 hl (k := 5) rfl (nI_1 i) (by decide) rfl (fun ls hl => ?_)
            refine lv_goto (tgt := 5) hx hb d_B_shapeOn_55 (by decide) ?_
            exact ih.1 (i + 1) (by omega) (by omega) (by rw [show ns - i = (ns - (i + 1)) + 1 by omega] at hres; simpa [pb_on, pb_nx, c_101, c_102] using hres) ls (lv_sub hl [2, 3, 4, 5, 0] rfl)
          · skip
            have c_102 : (pb_h so sf st sc p1 d1 i) = true := pi_b_1.mp c_102
            refine lv_aload_nN hx hb d_B_shapeOn_33 rfl (lv_at hl 4 rfl) ?_
            refine lv_ifnullN (tgt := 49) hx hb d_B_shapeOn_34 (by decide) ?_
            refine lv_aload hx hb d_B_shapeOn_49 (lv_at hl 0 rfl) ?_
            refine lv_astore_n (lv' := [(3, .ref (A (13 + 3 * i))), (5, .ref (A (13 + 3 * i))), (0, .ref (A 0)), (1, .int p1), (2, .int d1), (4, .int (nI i))]) hx hb d_B_shapeOn_51 rfl hl (by decide) rfl (fun ls hl => ?_)
            refine lv_iinc (v := nI (i + 1)) (lv' := [(4, .int (nI (i + 1))), (3, .ref (A (13 + 3 * i))), (5, .ref (A (13 + 3 * i))), (0, .ref (A 0)), (1, .int p1), (2, .int d1)]) hx hb d_B_shapeOn_52 hl (k := 5) rfl (nI_1 i) (by decide) rfl (fun ls hl => ?_)
            refine lv_goto (tgt := 5) hx hb d_B_shapeOn_55 (by decide) ?_
            exact ih.2 (i + 1) i (by omega) (by omega) (by omega) (by rw [show ns - i = (ns - (i + 1)) + 1 by omega] at hres; simpa [pb_on, pb_nx, c_101, c_102] using hres) ls (lv_sub hl [3, 4, 5, 1, 0] rfl)
      · skip
        intro i j hmu hi hj hres ls hl
        have hS_j := hSH j hj
        have hb_j := hsb j hj
        obtain ⟨hO_j, hX_j, hY_j⟩ := id hS_j
        refine lv_iload hx hb d_B_shapeOn_5 (lv_at hl 4 rfl) ?_
        refine lv_aload_n hx hb d_B_shapeOn_7 rfl (lv_at hl 0 rfl) ?_
        refine va_get (D := (dC, dI)) (ci := 3) (v := .int (nI ns)) (C := R_B) (T := T_B) (N := 7) hx hb hts in_B hown hK hO0.P 0 rfl rfl 3 (by decide) (hts _ w_71) (fun _ h9 => h9) rfl d_B_shapeOn_8 ?_
        refine lv_icmp_ge (tgt := 58) hx hb d_B_shapeOn_11 (by decide) (fun c_201 => ?_) (fun c_201 => ?_)
        · skip
          have c_201 : ns ≤ i := (nI_leI (a := ns) (b := i) (by omega) (by omega)).mp c_201
          refine lv_aload_n hx hb d_B_shapeOn_58 rfl (lv_at hl 3 rfl) ?_
          exact z_aret hx hb hr hlocks (Or.inl ⟨_, rfl⟩) (Or.inr ⟨_, rfl⟩) (by rw [show ns - i = 0 by omega] at hres; simp only [pb_on] at hres; rw [← hres]; rfl) d_B_shapeOn_59
        · skip
          have c_201 : ¬ (ns ≤ i) := fun h => c_201 ((nI_leI (a := ns) (b := i) (by omega) (by omega)).mpr h)
          refine lv_aload_n hx hb d_B_shapeOn_14 rfl (lv_at hl 0 rfl) ?_
          refine va_get (D := (dC, dI)) (ci := 3) (v := .ref (A 3)) (C := R_B) (T := T_B) (N := 7) hx hb hts in_B hown hK hO0.P 0 rfl rfl 2 (by decide) (hts _ w_70) (fun _ h9 => h9) rfl d_B_shapeOn_15 ?_
          refine lv_iload hx hb d_B_shapeOn_18 (lv_at hl 4 rfl) ?_
          refine z_aald (k := i) (q := A (13 + 3 * i)) hx hb hAS hB3 (by omega) (by decide) (if_pos (by omega)) d_B_shapeOn_20 ?_
          have hS_i := hSH i (by omega)
          have hb_i := hsb i (by omega)
          obtain ⟨hO_i, hX_i, hY_i⟩ := id hS_i
          refine lv_astore (lv' := [(5, .ref (A (13 + 3 * i))), (0, .ref (A 0)), (1, .int p1), (2, .int d1), (3, .ref (A (13 + 3 * j))), (4, .int (nI i))]) hx hb d_B_shapeOn_21 hl (by decide) rfl (fun ls hl => ?_)
          refine lv_aload hx hb d_B_shapeOn_23 (lv_at hl 0 rfl) ?_
          refine lv_iload_n hx hb d_B_shapeOn_25 rfl (lv_at hl 2 rfl) ?_
          refine lv_iload_n hx hb d_B_shapeOn_26 rfl (lv_at hl 3 rfl) ?_
          refine z_rdV (n := 2) (C := R_S) (rest := []) ⟨hx, hb, hml, hown, hts⟩ hW0 (c_S_holdsFor G (A (13 + 3 * i)) (A (14 + 3 * i)) (A (15 + 3 * i)) (sn i) (nI i) (so i) (sf i) (st i) (nI (sc i)) (z_pv A (sp i)) (sx i) (sy i) p1 d1) w_367 w_364 w_365 w_366 w_11 (by decide +kernel) ⟨rfl, rfl, Nat.le_of_ble_eq_true rfl, Nat.le_of_ble_eq_true rfl⟩ (hO_i.recv hK rfl) (hS_i) rfl rfl hl.1 (Nat.le_of_ble_eq_true rfl) d_B_shapeOn_27 ⟨Nat.zero_le _, Nat.zero_le _⟩ ?_
          refine lv_if_eq (tgt := 52) hx hb d_B_shapeOn_30 (by decide) (fun c_202 => ?_) (fun c_202 => ?_)
          · skip
            have c_202 : (pb_h so sf st sc p1 d1 i) = false := pi_b_0.mp c_202
            refine lv_iinc (v := nI (i + 1)) (lv' := [(4, .int (nI (i + 1))), (5, .ref (A (13 + 3 * i))), (0, .ref (A 0)), (1, .int p1), (2, .int d1), (3, .ref (A (13 + 3 * j)))]) hx hb d_B_shapeOn_52 hl (k := 5) rfl (nI_1 i) (by decide) rfl (fun ls hl => ?_)
            refine lv_goto (tgt := 5) hx hb d_B_shapeOn_55 (by decide) ?_
            exact ih.2 (i + 1) j (by omega) (by omega) (by omega) (by rw [show ns - i = (ns - (i + 1)) + 1 by omega] at hres; simpa [pb_on, pb_nx, c_201, c_202] using hres) ls (lv_sub hl [2, 3, 4, 5, 0] rfl)
          · skip
            have c_202 : (pb_h so sf st sc p1 d1 i) = true := pi_b_1.mp c_202
            refine lv_aload_n hx hb d_B_shapeOn_33 rfl (lv_at hl 4 rfl) ?_
            refine lv_ifnull hx hb d_B_shapeOn_34 ?_
            refine lv_aload hx hb d_B_shapeOn_37 (lv_at hl 0 rfl) ?_
            refine va_get (D := (dC, dI)) (ci := 2) (v := .int (nI (sc i))) (C := R_S) (T := T_S) (N := 9) hx hb hts in_S hown hK hO_i.P 0 rfl rfl 7 (by decide) (hts _ w_235) (fun _ h9 => h9) rfl d_B_shapeOn_39 ?_
            refine lv_aload_n hx hb d_B_shapeOn_42 rfl (lv_at hl 4 rfl) ?_
            refine va_get (D := (dC, dI)) (ci := 2) (v := .int (nI (sc j))) (C := R_S) (T := T_S) (N := 9) hx hb hts in_S hown hK hO_j.P 0 rfl rfl 7 (by decide) (hts _ w_235) (fun _ h9 => h9) rfl d_B_shapeOn_43 ?_
            refine lv_icmp_le (tgt := 52) hx hb d_B_shapeOn_46 (by decide) (fun c_203 => ?_) (fun c_203 => ?_)
            · skip
              have c_203 : (sc i) ≤ (sc j) := (nI_leI (a := sc i) (b := sc j) (by omega) (by omega)).mp c_203
              refine lv_iinc (v := nI (i + 1)) (lv' := [(4, .int (nI (i + 1))), (5, .ref (A (13 + 3 * i))), (0, .ref (A 0)), (1, .int p1), (2, .int d1), (3, .ref (A (13 + 3 * j)))]) hx hb d_B_shapeOn_52 hl (k := 5) rfl (nI_1 i) (by decide) rfl (fun ls hl => ?_)
              refine lv_goto (tgt := 5) hx hb d_B_shapeOn_55 (by decide) ?_
              exact ih.2 (i + 1) j (by omega) (by omega) (by omega) (by rw [show ns - i = (ns - (i + 1)) + 1 by omega] at hres; simpa [pb_on, pb_nx, c_201, c_202, c_203] using hres) ls (lv_sub hl [2, 3, 4, 5, 0] rfl)
            · skip
              have c_203 : ¬ ((sc i) ≤ (sc j)) := fun h => c_203 ((nI_leI (a := sc i) (b := sc j) (by omega) (by omega)).mpr h)
              refine lv_aload hx hb d_B_shapeOn_49 (lv_at hl 0 rfl) ?_
              refine lv_astore_n (lv' := [(3, .ref (A (13 + 3 * i))), (5, .ref (A (13 + 3 * i))), (0, .ref (A 0)), (1, .int p1), (2, .int d1), (4, .int (nI i))]) hx hb d_B_shapeOn_51 rfl hl (by decide) rfl (fun ls hl => ?_)
              refine lv_iinc (v := nI (i + 1)) (lv' := [(4, .int (nI (i + 1))), (3, .ref (A (13 + 3 * i))), (5, .ref (A (13 + 3 * i))), (0, .ref (A 0)), (1, .int p1), (2, .int d1)]) hx hb d_B_shapeOn_52 hl (k := 5) rfl (nI_1 i) (by decide) rfl (fun ls hl => ?_)
              refine lv_goto (tgt := 5) hx hb d_B_shapeOn_55 (by decide) ?_
              exact ih.2 (i + 1) i (by omega) (by omega) (by omega) (by rw [show ns - i = (ns - (i + 1)) + 1 by omega] at hres; simpa [pb_on, pb_nx, c_201, c_202, c_203] using hres) ls (lv_sub hl [3, 4, 5, 1, 0] rfl)
  refine lv_null hx hb d_B_shapeOn_0 ?_
  refine lv_astore_nN (lv' := [(3, .null), (0, .ref (A 0)), (1, .int p1), (2, .int d1)]) hx hb d_B_shapeOn_1 rfl hl (by decide) rfl (fun ls hl => ?_)
  refine lv_iconst (v := 0) hx hb d_B_shapeOn_2 (by decide) ?_
  refine lv_istore (lv' := [(4, .int 0), (3, .null), (0, .ref (A 0)), (1, .int p1), (2, .int d1)]) hx hb d_B_shapeOn_3 hl (by decide) rfl (fun ls hl => ?_)
  exact (loops ((ns - 0) + 1)).1 0 (by omega) (by omega) (by simp) ls (lv_sub hl [2, 3, 4, 1, 0] rfl)
end S5
