section M5
variable {s0 : State} {dC : Nat → ClassId} {dI : Nat → Nat → Nat} {cI cS : ClassId} {l : Launch}
set_option maxRecDepth 100000 in
set_option maxHeartbeats 4000000 in
theorem c_M_place_no (G : z_G s0 (dC, dI) cI cS) (E : Nat → Nat) (th : Int32) (mp ms mc mn mm : Nat) (gv : Nat → Nat → Int32) (sz : Nat) (x0 : Int32) (hg : ((decide (x0 = -1) || pm_idx mp x0) && ((decide (mp < 16)) && true)) = false) : Met l y_M_place [Cond.code y_M_place b_M_place 2 (some .int)] ({ frames := 1, cells := 0, slots := 0, locals := 23 }) (z_Pc s0 [.ref (E 0), .int x0] (fun H => H.size = sz ∧ z_Md (dC, dI) cI H E th mp ms mc mn mm gv)) (z_Qw (fun r H => r = some (.int 0) ∧ z_Md (dC, dI) cI H E (pm_th (decide (x0 = -1) || pm_idx mp x0) (decide (mp < 16)) true) mp ms mc mn mm gv) (z_fr (z_mF E) sz)) 0 0 (z_fr (z_mF E) sz) := by
  refine z_ofW (by decide +kernel) (Nat.le_of_ble_eq_true rfl) ?_
  intro p e s m below meth c hx hb hml hr hown hlocks hnm hW0 hB ls hl
  have hts := z_hts (args := [.ref (E 0), .int x0].toArray) G.1 hW0
  have hN := z_nstW G.2.1 hW0
  have hK := va_K.moved hW0.alike G.2.2.1
  have hAI := arrOfT_moved hW0.alike G.2.2.2.1
  have hl : lv_has ls 2 [(0, .ref (E 0)), (1, .int x0)] := hl
  obtain ⟨rfl, hB⟩ := hB
  have hS : va_S (z_fr (z_mF E) s.heap.size) s.heap s.heap [] := va_S.rf
  obtain ⟨⟨hE0, hGA⟩, hEi, ⟨hmp, hms, hmn, hmm, hmc⟩⟩ := id hB
  have tail : ∀ ls : Array Slot, lv_has ls 2 [(0, .ref (E 0)), (1, .int x0)] → W p l e ({ frames := 1, cells := 0, slots := 0, locals := 23 }) s m [.ref (E 0), .int x0].toArray below meth c s.heap [] 0 0 (MQ below (z_Qw (fun r H => r = some (.int 0) ∧ z_Md (dC, dI) cI H E (pm_th (decide (x0 = -1) || pm_idx mp x0) (decide (mp < 16)) true) mp ms mc mn mm gv) (z_fr (z_mF E) s.heap.size)) [.ref (E 0), .int x0].toArray s 0 0 (z_fr (z_mF E) s.heap.size)) (F0 m 34 ls [.int (pi_b true), .int (pi_b (decide (mp < 16))), .int (pi_b (decide (x0 = -1) || pm_idx mp x0)), .ref (E 0)]) := by
    intro ls hl
    refine z_wrV (n := 3) (C := R_M) (rest := []) ⟨hx, hb, hml, hown, hts⟩ hW0 (c_M_goes G E th mp ms mc mn mm gv _ (decide (x0 = -1) || pm_idx mp x0) (decide (mp < 16)) true) w_625 w_622 w_624 wp_19 w_4 (by decide +kernel) ⟨rfl, rfl, Nat.le_of_ble_eq_true rfl, Nat.le_of_ble_eq_true rfl⟩ (hE0.recv hK rfl) ⟨rfl, hB⟩ rfl rfl hl.1 (Nat.le_of_ble_eq_true rfl) d_M_place_34 ⟨Nat.le_of_ble_eq_true rfl, Nat.le_of_ble_eq_true rfl⟩ hS (fun q h => h.elim Or.inl (fun h => Or.inr (Nat.le_trans hS.1 h))) (fun H1 locs1 hB hz1 hk1 hS => ?_)
    obtain ⟨⟨hE0, hGA⟩, hEi, ⟨hmp, hms, hmn, hmm, hmc⟩⟩ := id hB
    refine z_topi (y := 0) (by rw [hg]; rfl) ?_
    refine lv_if_ne (tgt := 42) hx hb d_M_place_37 (by decide) (fun c_1 => ?_) (fun c_1 => ?_)
    · skip
      exact absurd (by decide) c_1
    · skip
      refine lv_iconst (v := 0) hx hb d_M_place_40 (by decide) ?_
      exact z_wi hx hb hr hlocks (⟨rfl, hB⟩) hS d_M_place_41
  refine lv_aload_n hx hb d_M_place_0 rfl (lv_at hl 0 rfl) ?_
  refine lv_iload_n hx hb d_M_place_1 rfl (lv_at hl 1 rfl) ?_
  refine lv_iconst (v := (-1)) hx hb d_M_place_2 (by decide) ?_
  refine lv_icmp_eq (tgt := 14) hx hb d_M_place_3 (by decide) (fun c_2 => ?_) (fun c_2 => ?_)
  · skip
    refine lv_iconst (v := 1) hx hb d_M_place_14 (by decide) ?_
    refine lv_goto (tgt := 19) hx hb d_M_place_15 (by decide) ?_
    refine lv_aload_n hx hb d_M_place_19 rfl (lv_at hl 0 rfl) ?_
    refine va_get (D := (dC, dI)) (ci := 4) (v := .int (nI mp)) (C := R_M) (T := T_M) (N := 23) hx hb hts in_M hown hK hE0.P 0 rfl rfl 1 (by decide) (hts _ w_541) (fun _ h9 => h9) rfl d_M_place_20 ?_
    refine lv_bipush (v := 16) hx hb d_M_place_23 (by decide) ?_
    refine lv_icmp_ge (tgt := 32) hx hb d_M_place_25 (by decide) (fun c_3 => ?_) (fun c_3 => ?_)
    · skip
      have c_3 : 16 ≤ mp := (nI_leI (a := 16) (b := mp) (by omega) (by omega)).mp c_3
      refine lv_iconst (v := 0) hx hb d_M_place_32 (by decide) ?_
      refine lv_iconst (v := 1) hx hb d_M_place_33 (by decide) ?_
      refine z_g3 (w1 := pi_b (decide (x0 = -1) || pm_idx mp x0)) (w2 := pi_b (decide (mp < 16))) (w3 := pi_b true) (rfl) (by simp [pi_b, c_2, c_3]) (by simp [pi_b, c_2, c_3]) ?_
      exact tail ls (lv_sub hl [0, 1] rfl)
    · skip
      have c_3 : ¬ (16 ≤ mp) := fun h => c_3 ((nI_leI (a := 16) (b := mp) (by omega) (by omega)).mpr h)
      refine lv_iconst (v := 1) hx hb d_M_place_28 (by decide) ?_
      refine lv_goto (tgt := 33) hx hb d_M_place_29 (by decide) ?_
      refine lv_iconst (v := 1) hx hb d_M_place_33 (by decide) ?_
      refine z_g3 (w1 := pi_b (decide (x0 = -1) || pm_idx mp x0)) (w2 := pi_b (decide (mp < 16))) (w3 := pi_b true) (rfl) (by simp [pi_b, c_2, c_3]) (by simp [pi_b, c_2, c_3]) ?_
      exact tail ls (lv_sub hl [0, 1] rfl)
  · skip
    refine lv_aload_n hx hb d_M_place_6 rfl (lv_at hl 0 rfl) ?_
    refine lv_iload_n hx hb d_M_place_7 rfl (lv_at hl 1 rfl) ?_
    refine z_rdV (n := 1) (C := R_M) (rest := [.ref (E 0)]) ⟨hx, hb, hml, hown, hts⟩ hW0 (c_M_isPlace G E th mp ms mc mn mm gv x0) w_621 w_618 w_620 wp_18 w_4 (by decide +kernel) ⟨rfl, rfl, Nat.le_of_ble_eq_true rfl, Nat.le_of_ble_eq_true rfl⟩ (hE0.recv hK rfl) (hB) rfl rfl hl.1 (Nat.le_of_ble_eq_true rfl) d_M_place_8 ⟨Nat.zero_le _, Nat.zero_le _⟩ ?_
    refine lv_if_eq (tgt := 18) hx hb d_M_place_11 (by decide) (fun c_4 => ?_) (fun c_4 => ?_)
    · skip
      have c_4 : (pm_idx mp x0) = false := pi_b_0.mp c_4
      refine lv_iconst (v := 0) hx hb d_M_place_18 (by decide) ?_
      refine lv_aload_n hx hb d_M_place_19 rfl (lv_at hl 0 rfl) ?_
      refine va_get (D := (dC, dI)) (ci := 4) (v := .int (nI mp)) (C := R_M) (T := T_M) (N := 23) hx hb hts in_M hown hK hE0.P 0 rfl rfl 1 (by decide) (hts _ w_541) (fun _ h9 => h9) rfl d_M_place_20 ?_
      refine lv_bipush (v := 16) hx hb d_M_place_23 (by decide) ?_
      refine lv_icmp_ge (tgt := 32) hx hb d_M_place_25 (by decide) (fun c_5 => ?_) (fun c_5 => ?_)
      · skip
        have c_5 : 16 ≤ mp := (nI_leI (a := 16) (b := mp) (by omega) (by omega)).mp c_5
        refine lv_iconst (v := 0) hx hb d_M_place_32 (by decide) ?_
        refine lv_iconst (v := 1) hx hb d_M_place_33 (by decide) ?_
        refine z_g3 (w1 := pi_b (decide (x0 = -1) || pm_idx mp x0)) (w2 := pi_b (decide (mp < 16))) (w3 := pi_b true) (rfl) (by simp [pi_b, c_2, c_4, c_5]) (by simp [pi_b, c_2, c_4, c_5]) ?_
        exact tail ls (lv_sub hl [0, 1] rfl)
      · skip
        have c_5 : ¬ (16 ≤ mp) := fun h => c_5 ((nI_leI (a := 16) (b := mp) (by omega) (by omega)).mpr h)
        refine lv_iconst (v := 1) hx hb d_M_place_28 (by decide) ?_
        refine lv_goto (tgt := 33) hx hb d_M_place_29 (by decide) ?_
        refine lv_iconst (v := 1) hx hb d_M_place_33 (by decide) ?_
        refine z_g3 (w1 := pi_b (decide (x0 = -1) || pm_idx mp x0)) (w2 := pi_b (decide (mp < 16))) (w3 := pi_b true) (rfl) (by simp [pi_b, c_2, c_4, c_5]) (by simp [pi_b, c_2, c_4, c_5]) ?_
        exact tail ls (lv_sub hl [0, 1] rfl)
    · skip
      have c_4 : (pm_idx mp x0) = true := pi_b_1.mp c_4
      refine lv_iconst (v := 1) hx hb d_M_place_14 (by decide) ?_
      refine lv_goto (tgt := 19) hx hb d_M_place_15 (by decide) ?_
      refine lv_aload_n hx hb d_M_place_19 rfl (lv_at hl 0 rfl) ?_
      refine va_get (D := (dC, dI)) (ci := 4) (v := .int (nI mp)) (C := R_M) (T := T_M) (N := 23) hx hb hts in_M hown hK hE0.P 0 rfl rfl 1 (by decide) (hts _ w_541) (fun _ h9 => h9) rfl d_M_place_20 ?_
      refine lv_bipush (v := 16) hx hb d_M_place_23 (by decide) ?_
      refine lv_icmp_ge (tgt := 32) hx hb d_M_place_25 (by decide) (fun c_6 => ?_) (fun c_6 => ?_)
      · skip
        have c_6 : 16 ≤ mp := (nI_leI (a := 16) (b := mp) (by omega) (by omega)).mp c_6
        refine lv_iconst (v := 0) hx hb d_M_place_32 (by decide) ?_
        refine lv_iconst (v := 1) hx hb d_M_place_33 (by decide) ?_
        refine z_g3 (w1 := pi_b (decide (x0 = -1) || pm_idx mp x0)) (w2 := pi_b (decide (mp < 16))) (w3 := pi_b true) (rfl) (by simp [pi_b, c_2, c_4, c_6]) (by simp [pi_b, c_2, c_4, c_6]) ?_
        exact tail ls (lv_sub hl [0, 1] rfl)
      · skip
        have c_6 : ¬ (16 ≤ mp) := fun h => c_6 ((nI_leI (a := 16) (b := mp) (by omega) (by omega)).mpr h)
        refine lv_iconst (v := 1) hx hb d_M_place_28 (by decide) ?_
        refine lv_goto (tgt := 33) hx hb d_M_place_29 (by decide) ?_
        refine lv_iconst (v := 1) hx hb d_M_place_33 (by decide) ?_
        refine z_g3 (w1 := pi_b (decide (x0 = -1) || pm_idx mp x0)) (w2 := pi_b (decide (mp < 16))) (w3 := pi_b true) (rfl) (by simp [pi_b, c_2, c_4, c_6]) (by simp [pi_b, c_2, c_4, c_6]) ?_
        exact tail ls (lv_sub hl [0, 1] rfl)
set_option maxRecDepth 100000 in
set_option maxHeartbeats 4000000 in
theorem c_M_place_ok (G : z_G s0 (dC, dI) cI cS) (E : Nat → Nat) (th : Int32) (mp ms mc mn mm : Nat) (gv : Nat → Nat → Int32) (sz : Nat) (x0 : Int32) (hlt : mp < 16) (hg : ((decide (x0 = -1) || pm_idx mp x0) && ((decide (mp < 16)) && true)) = true) : Met l y_M_place [Cond.code y_M_place b_M_place 2 (some .int)] ({ frames := 1, cells := 0, slots := 0, locals := 23 }) (z_Pc s0 [.ref (E 0), .int x0] (fun H => H.size = sz ∧ z_Md (dC, dI) cI H E th mp ms mc mn mm gv)) (z_Qw (fun r H => r = some (.int (nI mp)) ∧ z_Md (dC, dI) cI H E 0 (mp + 1) ms mc mn mm (va_up gv 0 (upd (gv 0) mp x0))) (z_fr (z_mF E) sz)) 0 0 (z_fr (z_mF E) sz) := by
  refine z_ofW (by decide +kernel) (Nat.le_of_ble_eq_true rfl) ?_
  intro p e s m below meth c hx hb hml hr hown hlocks hnm hW0 hB ls hl
  have hts := z_hts (args := [.ref (E 0), .int x0].toArray) G.1 hW0
  have hN := z_nstW G.2.1 hW0
  have hK := va_K.moved hW0.alike G.2.2.1
  have hAI := arrOfT_moved hW0.alike G.2.2.2.1
  have hl : lv_has ls 2 [(0, .ref (E 0)), (1, .int x0)] := hl
  obtain ⟨rfl, hB⟩ := hB
  have hS : va_S (z_fr (z_mF E) s.heap.size) s.heap s.heap [] := va_S.rf
  obtain ⟨⟨hE0, hGA⟩, hEi, ⟨hmp, hms, hmn, hmm, hmc⟩⟩ := id hB
  have tail : ∀ ls : Array Slot, lv_has ls 2 [(0, .ref (E 0)), (1, .int x0)] → W p l e ({ frames := 1, cells := 0, slots := 0, locals := 23 }) s m [.ref (E 0), .int x0].toArray below meth c s.heap [] 0 0 (MQ below (z_Qw (fun r H => r = some (.int (nI mp)) ∧ z_Md (dC, dI) cI H E 0 (mp + 1) ms mc mn mm (va_up gv 0 (upd (gv 0) mp x0))) (z_fr (z_mF E) s.heap.size)) [.ref (E 0), .int x0].toArray s 0 0 (z_fr (z_mF E) s.heap.size)) (F0 m 34 ls [.int (pi_b true), .int (pi_b (decide (mp < 16))), .int (pi_b (decide (x0 = -1) || pm_idx mp x0)), .ref (E 0)]) := by
    intro ls hl
    refine z_wrV (n := 3) (C := R_M) (rest := []) ⟨hx, hb, hml, hown, hts⟩ hW0 (c_M_goes G E th mp ms mc mn mm gv _ (decide (x0 = -1) || pm_idx mp x0) (decide (mp < 16)) true) w_625 w_622 w_624 wp_19 w_4 (by decide +kernel) ⟨rfl, rfl, Nat.le_of_ble_eq_true rfl, Nat.le_of_ble_eq_true rfl⟩ (hE0.recv hK rfl) ⟨rfl, hB⟩ rfl rfl hl.1 (Nat.le_of_ble_eq_true rfl) d_M_place_34 ⟨Nat.le_of_ble_eq_true rfl, Nat.le_of_ble_eq_true rfl⟩ hS (fun q h => h.elim Or.inl (fun h => Or.inr (Nat.le_trans hS.1 h))) (fun H1 locs1 hB hz1 hk1 hS => ?_)
    obtain ⟨⟨hE0, hGA⟩, hEi, ⟨hmp, hms, hmn, hmm, hmc⟩⟩ := id hB
    refine z_topi (y := 1) (by rw [hg]; rfl) ?_
    rw [pm_th_ok hg] at hB
    obtain ⟨⟨hE0, hGA⟩, hEi, ⟨hmp, hms, hmn, hmm, hmc⟩⟩ := id hB
    refine lv_if_ne (tgt := 42) hx hb d_M_place_37 (by decide) (fun c_1 => ?_) (fun c_1 => ?_)
    · skip
      refine lv_aload_n hx hb d_M_place_42 rfl (lv_at hl 0 rfl) ?_
      refine va_get (D := (dC, dI)) (ci := 4) (v := .ref (E 1)) (C := R_M) (T := T_M) (N := 23) hx hb hts in_M hown hK hE0.P 0 rfl rfl 2 (by decide) (hts _ w_542) (fun _ h9 => h9) rfl d_M_place_43 ?_
      refine lv_aload_n hx hb d_M_place_46 rfl (lv_at hl 0 rfl) ?_
      refine va_get (D := (dC, dI)) (ci := 4) (v := .int (nI mp)) (C := R_M) (T := T_M) (N := 23) hx hb hts in_M hown hK hE0.P 0 rfl rfl 1 (by decide) (hts _ w_541) (fun _ h9 => h9) rfl d_M_place_47 ?_
      refine lv_iload_n hx hb d_M_place_50 rfl (lv_at hl 1 rfl) ?_
      refine z_iast (k := mp) hx hb hAI (show z_A cI _ (E 1) 16 (gv 0) from hGA 0 (by omega)) hS (Or.inl ⟨1, by omega, rfl⟩) (by omega) (by decide) d_M_place_51 (fun H1 locs1 hz1 hA1 ho1 hS => ?_)
      have hB : z_Md (dC, dI) cI H1 E 0 mp ms mc mn mm (va_up gv 0 (upd (gv 0) mp x0)) := z_Md.store hB (k := 0) (by omega) hA1 ho1
      obtain ⟨⟨hE0, hGA⟩, hEi, ⟨hmp, hms, hmn, hmm, hmc⟩⟩ := id hB
      refine lv_aload_n hx hb d_M_place_52 rfl (lv_at hl 0 rfl) ?_
      refine lv_dup hx hb d_M_place_53 rfl ?_
      refine va_get (D := (dC, dI)) (ci := 4) (v := .int (nI mp)) (C := R_M) (T := T_M) (N := 23) hx hb hts in_M hown hK hE0.P 0 rfl rfl 1 (by decide) (hts _ w_541) (fun _ h9 => h9) rfl d_M_place_54 ?_
      refine lv_iconst (v := 1) hx hb d_M_place_57 (by decide) ?_
      refine lv_iadd hx hb d_M_place_58 ?_
      refine z_topi (y := nI (mp + 1)) (nI_add mp 1) ?_
      refine z_put (D := (dC, dI)) (ci := 4) (v := .int (nI (mp + 1))) (ty := .int) (C := R_M) (T := T_M) (N := 23) hx hb hts in_M t_M t_M_ok nm_M hown hK hE0 hS (Or.inl ⟨0, by omega, rfl⟩) rfl 1 (by decide) (hts _ w_541) (fun _ h9 => h9) rfl (by decide +kernel) rfl rfl (Nat.le_of_ble_eq_true rfl) d_M_place_59 (fun H1 locs1 hz1 hO1 ho1 hS => ?_)
      have hB : z_Md (dC, dI) cI H1 E 0 (mp + 1) ms mc mn mm (va_up gv 0 (upd (gv 0) mp x0)) := z_Md.put hB (show z_O (dC, dI) H1 (E 0) 4 (z_mfs E 0 (mp + 1) ms mc mn mm) from hO1) ho1 ⟨by omega, by omega, by omega, by omega, by omega⟩
      obtain ⟨⟨hE0, hGA⟩, hEi, ⟨hmp, hms, hmn, hmm, hmc⟩⟩ := id hB
      refine lv_aload_n hx hb d_M_place_62 rfl (lv_at hl 0 rfl) ?_
      refine va_get (D := (dC, dI)) (ci := 4) (v := .int (nI (mp + 1))) (C := R_M) (T := T_M) (N := 23) hx hb hts in_M hown hK hE0.P 0 rfl rfl 1 (by decide) (hts _ w_541) (fun _ h9 => h9) rfl d_M_place_63 ?_
      refine lv_iconst (v := 1) hx hb d_M_place_66 (by decide) ?_
      refine lv_isub hx hb d_M_place_67 ?_
      refine z_topi (y := nI mp) (nI_pred mp) ?_
      exact z_wi hx hb hr hlocks (⟨rfl, hB⟩) hS d_M_place_68
    · skip
      exact absurd c_1 (by decide)
  refine lv_aload_n hx hb d_M_place_0 rfl (lv_at hl 0 rfl) ?_
  refine lv_iload_n hx hb d_M_place_1 rfl (lv_at hl 1 rfl) ?_
  refine lv_iconst (v := (-1)) hx hb d_M_place_2 (by decide) ?_
  refine lv_icmp_eq (tgt := 14) hx hb d_M_place_3 (by decide) (fun c_2 => ?_) (fun c_2 => ?_)
  · skip
    refine lv_iconst (v := 1) hx hb d_M_place_14 (by decide) ?_
    refine lv_goto (tgt := 19) hx hb d_M_place_15 (by decide) ?_
    refine lv_aload_n hx hb d_M_place_19 rfl (lv_at hl 0 rfl) ?_
    refine va_get (D := (dC, dI)) (ci := 4) (v := .int (nI mp)) (C := R_M) (T := T_M) (N := 23) hx hb hts in_M hown hK hE0.P 0 rfl rfl 1 (by decide) (hts _ w_541) (fun _ h9 => h9) rfl d_M_place_20 ?_
    refine lv_bipush (v := 16) hx hb d_M_place_23 (by decide) ?_
    refine lv_icmp_ge (tgt := 32) hx hb d_M_place_25 (by decide) (fun c_3 => ?_) (fun c_3 => ?_)
    · skip
      have c_3 : 16 ≤ mp := (nI_leI (a := 16) (b := mp) (by omega) (by omega)).mp c_3
      refine lv_iconst (v := 0) hx hb d_M_place_32 (by decide) ?_
      refine lv_iconst (v := 1) hx hb d_M_place_33 (by decide) ?_
      refine z_g3 (w1 := pi_b (decide (x0 = -1) || pm_idx mp x0)) (w2 := pi_b (decide (mp < 16))) (w3 := pi_b true) (rfl) (by simp [pi_b, c_2, c_3]) (by simp [pi_b, c_2, c_3]) ?_
      exact tail ls (lv_sub hl [0, 1] rfl)
    · skip
      have c_3 : ¬ (16 ≤ mp) := fun h => c_3 ((nI_leI (a := 16) (b := mp) (by omega) (by omega)).mpr h)
      refine lv_iconst (v := 1) hx hb d_M_place_28 (by decide) ?_
      refine lv_goto (tgt := 33) hx hb d_M_place_29 (by decide) ?_
      refine lv_iconst (v := 1) hx hb d_M_place_33 (by decide) ?_
      refine z_g3 (w1 := pi_b (decide (x0 = -1) || pm_idx mp x0)) (w2 := pi_b (decide (mp < 16))) (w3 := pi_b true) (rfl) (by simp [pi_b, c_2, c_3]) (by simp [pi_b, c_2, c_3]) ?_
      exact tail ls (lv_sub hl [0, 1] rfl)
  · skip
    refine lv_aload_n hx hb d_M_place_6 rfl (lv_at hl 0 rfl) ?_
    refine lv_iload_n hx hb d_M_place_7 rfl (lv_at hl 1 rfl) ?_
    refine z_rdV (n := 1) (C := R_M) (rest := [.ref (E 0)]) ⟨hx, hb, hml, hown, hts⟩ hW0 (c_M_isPlace G E th mp ms mc mn mm gv x0) w_621 w_618 w_620 wp_18 w_4 (by decide +kernel) ⟨rfl, rfl, Nat.le_of_ble_eq_true rfl, Nat.le_of_ble_eq_true rfl⟩ (hE0.recv hK rfl) (hB) rfl rfl hl.1 (Nat.le_of_ble_eq_true rfl) d_M_place_8 ⟨Nat.zero_le _, Nat.zero_le _⟩ ?_
    refine lv_if_eq (tgt := 18) hx hb d_M_place_11 (by decide) (fun c_4 => ?_) (fun c_4 => ?_)
    · skip
      have c_4 : (pm_idx mp x0) = false := pi_b_0.mp c_4
      refine lv_iconst (v := 0) hx hb d_M_place_18 (by decide) ?_
      refine lv_aload_n hx hb d_M_place_19 rfl (lv_at hl 0 rfl) ?_
      refine va_get (D := (dC, dI)) (ci := 4) (v := .int (nI mp)) (C := R_M) (T := T_M) (N := 23) hx hb hts in_M hown hK hE0.P 0 rfl rfl 1 (by decide) (hts _ w_541) (fun _ h9 => h9) rfl d_M_place_20 ?_
      refine lv_bipush (v := 16) hx hb d_M_place_23 (by decide) ?_
      refine lv_icmp_ge (tgt := 32) hx hb d_M_place_25 (by decide) (fun c_5 => ?_) (fun c_5 => ?_)
      · skip
        have c_5 : 16 ≤ mp := (nI_leI (a := 16) (b := mp) (by omega) (by omega)).mp c_5
        refine lv_iconst (v := 0) hx hb d_M_place_32 (by decide) ?_
        refine lv_iconst (v := 1) hx hb d_M_place_33 (by decide) ?_
        refine z_g3 (w1 := pi_b (decide (x0 = -1) || pm_idx mp x0)) (w2 := pi_b (decide (mp < 16))) (w3 := pi_b true) (rfl) (by simp [pi_b, c_2, c_4, c_5]) (by simp [pi_b, c_2, c_4, c_5]) ?_
        exact tail ls (lv_sub hl [0, 1] rfl)
      · skip
        have c_5 : ¬ (16 ≤ mp) := fun h => c_5 ((nI_leI (a := 16) (b := mp) (by omega) (by omega)).mpr h)
        refine lv_iconst (v := 1) hx hb d_M_place_28 (by decide) ?_
        refine lv_goto (tgt := 33) hx hb d_M_place_29 (by decide) ?_
        refine lv_iconst (v := 1) hx hb d_M_place_33 (by decide) ?_
        refine z_g3 (w1 := pi_b (decide (x0 = -1) || pm_idx mp x0)) (w2 := pi_b (decide (mp < 16))) (w3 := pi_b true) (rfl) (by simp [pi_b, c_2, c_4, c_5]) (by simp [pi_b, c_2, c_4, c_5]) ?_
        exact tail ls (lv_sub hl [0, 1] rfl)
    · skip
      have c_4 : (pm_idx mp x0) = true := pi_b_1.mp c_4
      refine lv_iconst (v := 1) hx hb d_M_place_14 (by decide) ?_
      refine lv_goto (tgt := 19) hx hb d_M_place_15 (by decide) ?_
      refine lv_aload_n hx hb d_M_place_19 rfl (lv_at hl 0 rfl) ?_
      refine va_get (D := (dC, dI)) (ci := 4) (v := .int (nI mp)) (C := R_M) (T := T_M) (N := 23) hx hb hts in_M hown hK hE0.P 0 rfl rfl 1 (by decide) (hts _ w_541) (fun _ h9 => h9) rfl d_M_place_20 ?_
      refine lv_bipush (v := 16) hx hb d_M_place_23 (by decide) ?_
      refine lv_icmp_ge (tgt := 32) hx hb d_M_place_25 (by decide) (fun c_6 => ?_) (fun c_6 => ?_)
      · skip
        have c_6 : 16 ≤ mp := (nI_leI (a := 16) (b := mp) (by omega) (by omega)).mp c_6
        refine lv_iconst (v := 0) hx hb d_M_place_32 (by decide) ?_
        refine lv_iconst (v := 1) hx hb d_M_place_33 (by decide) ?_
        refine z_g3 (w1 := pi_b (decide (x0 = -1) || pm_idx mp x0)) (w2 := pi_b (decide (mp < 16))) (w3 := pi_b true) (rfl) (by simp [pi_b, c_2, c_4, c_6]) (by simp [pi_b, c_2, c_4, c_6]) ?_
        exact tail ls (lv_sub hl [0, 1] rfl)
      · skip
        have c_6 : ¬ (16 ≤ mp) := fun h => c_6 ((nI_leI (a := 16) (b := mp) (by omega) (by omega)).mpr h)
        refine lv_iconst (v := 1) hx hb d_M_place_28 (by decide) ?_
        refine lv_goto (tgt := 33) hx hb d_M_place_29 (by decide) ?_
        refine lv_iconst (v := 1) hx hb d_M_place_33 (by decide) ?_
        refine z_g3 (w1 := pi_b (decide (x0 = -1) || pm_idx mp x0)) (w2 := pi_b (decide (mp < 16))) (w3 := pi_b true) (rfl) (by simp [pi_b, c_2, c_4, c_6]) (by simp [pi_b, c_2, c_4, c_6]) ?_
        exact tail ls (lv_sub hl [0, 1] rfl)
set_option maxRecDepth 100000 in
set_option maxHeartbeats 4000000 in
theorem c_M_shape_no (G : z_G s0 (dC, dI) cI cS) (E : Nat → Nat) (th : Int32) (mp ms mc mn mm : Nat) (gv : Nat → Nat → Int32) (sz : Nat) (x0 f t : Int32) (hg : ((pm_idx mp x0) && ((pm_day f && (pm_day t && decide (f ≤ t))) && (decide (ms < 32)))) = false) : Met l y_M_shape [Cond.code y_M_shape b_M_shape 4 (some .int)] ({ frames := 1, cells := 0, slots := 0, locals := 23 }) (z_Pc s0 [.ref (E 0), .int x0, .int f, .int t] (fun H => H.size = sz ∧ z_Md (dC, dI) cI H E th mp ms mc mn mm gv)) (z_Qw (fun r H => r = some (.int 0) ∧ z_Md (dC, dI) cI H E (pm_th (pm_idx mp x0) (pm_day f && (pm_day t && decide (f ≤ t))) (decide (ms < 32))) mp ms mc mn mm gv) (z_fr (z_mF E) sz)) 0 0 (z_fr (z_mF E) sz) := by
  refine z_ofW (by decide +kernel) (Nat.le_of_ble_eq_true rfl) ?_
  intro p e s m below meth c hx hb hml hr hown hlocks hnm hW0 hB ls hl
  have hts := z_hts (args := [.ref (E 0), .int x0, .int f, .int t].toArray) G.1 hW0
  have hN := z_nstW G.2.1 hW0
  have hK := va_K.moved hW0.alike G.2.2.1
  have hAI := arrOfT_moved hW0.alike G.2.2.2.1
  have hl : lv_has ls 4 [(0, .ref (E 0)), (1, .int x0), (2, .int f), (3, .int t)] := hl
  obtain ⟨rfl, hB⟩ := hB
  have hS : va_S (z_fr (z_mF E) s.heap.size) s.heap s.heap [] := va_S.rf
  obtain ⟨⟨hE0, hGA⟩, hEi, ⟨hmp, hms, hmn, hmm, hmc⟩⟩ := id hB
  have tail : ∀ ls : Array Slot, lv_has ls 4 [(0, .ref (E 0)), (1, .int x0), (2, .int f), (3, .int t)] → W p l e ({ frames := 1, cells := 0, slots := 0, locals := 23 }) s m [.ref (E 0), .int x0, .int f, .int t].toArray below meth c s.heap [] 0 0 (MQ below (z_Qw (fun r H => r = some (.int 0) ∧ z_Md (dC, dI) cI H E (pm_th (pm_idx mp x0) (pm_day f && (pm_day t && decide (f ≤ t))) (decide (ms < 32))) mp ms mc mn mm gv) (z_fr (z_mF E) s.heap.size)) [.ref (E 0), .int x0, .int f, .int t].toArray s 0 0 (z_fr (z_mF E) s.heap.size)) (F0 m 44 ls [.int (pi_b (decide (ms < 32))), .int (pi_b (pm_day f && (pm_day t && decide (f ≤ t)))), .int (pi_b (pm_idx mp x0)), .ref (E 0)]) := by
    intro ls hl
    refine z_wrV (n := 3) (C := R_M) (rest := []) ⟨hx, hb, hml, hown, hts⟩ hW0 (c_M_goes G E th mp ms mc mn mm gv _ (pm_idx mp x0) (pm_day f && (pm_day t && decide (f ≤ t))) (decide (ms < 32))) w_625 w_622 w_624 wp_19 w_4 (by decide +kernel) ⟨rfl, rfl, Nat.le_of_ble_eq_true rfl, Nat.le_of_ble_eq_true rfl⟩ (hE0.recv hK rfl) ⟨rfl, hB⟩ rfl rfl hl.1 (Nat.le_of_ble_eq_true rfl) d_M_shape_44 ⟨Nat.le_of_ble_eq_true rfl, Nat.le_of_ble_eq_true rfl⟩ hS (fun q h => h.elim Or.inl (fun h => Or.inr (Nat.le_trans hS.1 h))) (fun H1 locs1 hB hz1 hk1 hS => ?_)
    obtain ⟨⟨hE0, hGA⟩, hEi, ⟨hmp, hms, hmn, hmm, hmc⟩⟩ := id hB
    refine z_topi (y := 0) (by rw [hg]; rfl) ?_
    refine lv_if_ne (tgt := 52) hx hb d_M_shape_47 (by decide) (fun c_1 => ?_) (fun c_1 => ?_)
    · skip
      exact absurd (by decide) c_1
    · skip
      refine lv_iconst (v := 0) hx hb d_M_shape_50 (by decide) ?_
      exact z_wi hx hb hr hlocks (⟨rfl, hB⟩) hS d_M_shape_51
  refine lv_aload_n hx hb d_M_shape_0 rfl (lv_at hl 0 rfl) ?_
  refine lv_aload_n hx hb d_M_shape_1 rfl (lv_at hl 0 rfl) ?_
  refine lv_iload_n hx hb d_M_shape_2 rfl (lv_at hl 1 rfl) ?_
  refine z_rdV (n := 1) (C := R_M) (rest := [.ref (E 0)]) ⟨hx, hb, hml, hown, hts⟩ hW0 (c_M_isPlace G E th mp ms mc mn mm gv x0) w_621 w_618 w_620 wp_18 w_4 (by decide +kernel) ⟨rfl, rfl, Nat.le_of_ble_eq_true rfl, Nat.le_of_ble_eq_true rfl⟩ (hE0.recv hK rfl) (hB) rfl rfl hl.1 (Nat.le_of_ble_eq_true rfl) d_M_shape_3 ⟨Nat.zero_le _, Nat.zero_le _⟩ ?_
  refine lv_iload_n hx hb d_M_shape_6 rfl (lv_at hl 2 rfl) ?_
  refine z_rdS (n := 1) (rest := [.int (pi_b (pm_idx mp x0)), .ref (E 0)]) ⟨hx, hb, hml, hown, hts⟩ hW0 (c_M_isDay G f) w_632 w_630 w_631 w_4 (by decide +kernel) ⟨rfl, rfl, Nat.le_of_ble_eq_true rfl, Nat.le_of_ble_eq_true rfl⟩ (trivial) rfl rfl hl.1 (Nat.le_of_ble_eq_true rfl) d_M_shape_7 ⟨Nat.zero_le _, Nat.zero_le _⟩ ?_
  refine lv_if_eq (tgt := 29) hx hb d_M_shape_10 (by decide) (fun c_2 => ?_) (fun c_2 => ?_)
  · skip
    have c_2 : (pm_day f) = false := pi_b_0.mp c_2
    refine lv_iconst (v := 0) hx hb d_M_shape_29 (by decide) ?_
    refine lv_aload_n hx hb d_M_shape_30 rfl (lv_at hl 0 rfl) ?_
    refine va_get (D := (dC, dI)) (ci := 4) (v := .int (nI ms)) (C := R_M) (T := T_M) (N := 23) hx hb hts in_M hown hK hE0.P 0 rfl rfl 3 (by decide) (hts _ w_543) (fun _ h9 => h9) rfl d_M_shape_31 ?_
    refine lv_bipush (v := 32) hx hb d_M_shape_34 (by decide) ?_
    refine lv_icmp_ge (tgt := 43) hx hb d_M_shape_36 (by decide) (fun c_3 => ?_) (fun c_3 => ?_)
    · skip
      have c_3 : 32 ≤ ms := (nI_leI (a := 32) (b := ms) (by omega) (by omega)).mp c_3
      refine lv_iconst (v := 0) hx hb d_M_shape_43 (by decide) ?_
      refine z_g3 (w1 := pi_b (pm_idx mp x0)) (w2 := pi_b (pm_day f && (pm_day t && decide (f ≤ t)))) (w3 := pi_b (decide (ms < 32))) (by simp [pi_b, c_2, c_3]) (by simp [pi_b, c_2, c_3]) (rfl) ?_
      exact tail ls (lv_sub hl [0, 1, 2, 3] rfl)
    · skip
      have c_3 : ¬ (32 ≤ ms) := fun h => c_3 ((nI_leI (a := 32) (b := ms) (by omega) (by omega)).mpr h)
      refine lv_iconst (v := 1) hx hb d_M_shape_39 (by decide) ?_
      refine lv_goto (tgt := 44) hx hb d_M_shape_40 (by decide) ?_
      refine z_g3 (w1 := pi_b (pm_idx mp x0)) (w2 := pi_b (pm_day f && (pm_day t && decide (f ≤ t)))) (w3 := pi_b (decide (ms < 32))) (by simp [pi_b, c_2, c_3]) (by simp [pi_b, c_2, c_3]) (rfl) ?_
      exact tail ls (lv_sub hl [0, 1, 2, 3] rfl)
  · skip
    have c_2 : (pm_day f) = true := pi_b_1.mp c_2
    refine lv_iload_n hx hb d_M_shape_13 rfl (lv_at hl 3 rfl) ?_
    refine z_rdS (n := 1) (rest := [.int (pi_b (pm_idx mp x0)), .ref (E 0)]) ⟨hx, hb, hml, hown, hts⟩ hW0 (c_M_isDay G t) w_632 w_630 w_631 w_4 (by decide +kernel) ⟨rfl, rfl, Nat.le_of_ble_eq_true rfl, Nat.le_of_ble_eq_true rfl⟩ (trivial) rfl rfl hl.1 (Nat.le_of_ble_eq_true rfl) d_M_shape_14 ⟨Nat.zero_le _, Nat.zero_le _⟩ ?_
    refine lv_if_eq (tgt := 29) hx hb d_M_shape_17 (by decide) (fun c_4 => ?_) (fun c_4 => ?_)
    · skip
      have c_4 : (pm_day t) = false := pi_b_0.mp c_4
      refine lv_iconst (v := 0) hx hb d_M_shape_29 (by decide) ?_
      refine lv_aload_n hx hb d_M_shape_30 rfl (lv_at hl 0 rfl) ?_
      refine va_get (D := (dC, dI)) (ci := 4) (v := .int (nI ms)) (C := R_M) (T := T_M) (N := 23) hx hb hts in_M hown hK hE0.P 0 rfl rfl 3 (by decide) (hts _ w_543) (fun _ h9 => h9) rfl d_M_shape_31 ?_
      refine lv_bipush (v := 32) hx hb d_M_shape_34 (by decide) ?_
      refine lv_icmp_ge (tgt := 43) hx hb d_M_shape_36 (by decide) (fun c_5 => ?_) (fun c_5 => ?_)
      · skip
        have c_5 : 32 ≤ ms := (nI_leI (a := 32) (b := ms) (by omega) (by omega)).mp c_5
        refine lv_iconst (v := 0) hx hb d_M_shape_43 (by decide) ?_
        refine z_g3 (w1 := pi_b (pm_idx mp x0)) (w2 := pi_b (pm_day f && (pm_day t && decide (f ≤ t)))) (w3 := pi_b (decide (ms < 32))) (by simp [pi_b, c_2, c_4, c_5]) (by simp [pi_b, c_2, c_4, c_5]) (rfl) ?_
        exact tail ls (lv_sub hl [0, 1, 2, 3] rfl)
      · skip
        have c_5 : ¬ (32 ≤ ms) := fun h => c_5 ((nI_leI (a := 32) (b := ms) (by omega) (by omega)).mpr h)
        refine lv_iconst (v := 1) hx hb d_M_shape_39 (by decide) ?_
        refine lv_goto (tgt := 44) hx hb d_M_shape_40 (by decide) ?_
        refine z_g3 (w1 := pi_b (pm_idx mp x0)) (w2 := pi_b (pm_day f && (pm_day t && decide (f ≤ t)))) (w3 := pi_b (decide (ms < 32))) (by simp [pi_b, c_2, c_4, c_5]) (by simp [pi_b, c_2, c_4, c_5]) (rfl) ?_
        exact tail ls (lv_sub hl [0, 1, 2, 3] rfl)
    · skip
      have c_4 : (pm_day t) = true := pi_b_1.mp c_4
      refine lv_iload_n hx hb d_M_shape_20 rfl (lv_at hl 2 rfl) ?_
      refine lv_iload_n hx hb d_M_shape_21 rfl (lv_at hl 3 rfl) ?_
      refine lv_icmp_gt (tgt := 29) hx hb d_M_shape_22 (by decide) (fun c_6 => ?_) (fun c_6 => ?_)
      · skip
        have c_6' : ¬ (f ≤ t) := Int32.not_le.mpr c_6
        refine lv_iconst (v := 0) hx hb d_M_shape_29 (by decide) ?_
        refine lv_aload_n hx hb d_M_shape_30 rfl (lv_at hl 0 rfl) ?_
        refine va_get (D := (dC, dI)) (ci := 4) (v := .int (nI ms)) (C := R_M) (T := T_M) (N := 23) hx hb hts in_M hown hK hE0.P 0 rfl rfl 3 (by decide) (hts _ w_543) (fun _ h9 => h9) rfl d_M_shape_31 ?_
        refine lv_bipush (v := 32) hx hb d_M_shape_34 (by decide) ?_
        refine lv_icmp_ge (tgt := 43) hx hb d_M_shape_36 (by decide) (fun c_7 => ?_) (fun c_7 => ?_)
        · skip
          have c_7 : 32 ≤ ms := (nI_leI (a := 32) (b := ms) (by omega) (by omega)).mp c_7
          refine lv_iconst (v := 0) hx hb d_M_shape_43 (by decide) ?_
          refine z_g3 (w1 := pi_b (pm_idx mp x0)) (w2 := pi_b (pm_day f && (pm_day t && decide (f ≤ t)))) (w3 := pi_b (decide (ms < 32))) (by simp [pi_b, c_2, c_4, c_6, c_6', c_7]) (by simp [pi_b, c_2, c_4, c_6, c_6', c_7]) (rfl) ?_
          exact tail ls (lv_sub hl [0, 1, 2, 3] rfl)
        · skip
          have c_7 : ¬ (32 ≤ ms) := fun h => c_7 ((nI_leI (a := 32) (b := ms) (by omega) (by omega)).mpr h)
          refine lv_iconst (v := 1) hx hb d_M_shape_39 (by decide) ?_
          refine lv_goto (tgt := 44) hx hb d_M_shape_40 (by decide) ?_
          refine z_g3 (w1 := pi_b (pm_idx mp x0)) (w2 := pi_b (pm_day f && (pm_day t && decide (f ≤ t)))) (w3 := pi_b (decide (ms < 32))) (by simp [pi_b, c_2, c_4, c_6, c_6', c_7]) (by simp [pi_b, c_2, c_4, c_6, c_6', c_7]) (rfl) ?_
          exact tail ls (lv_sub hl [0, 1, 2, 3] rfl)
      · skip
        have c_6' : f ≤ t := Int32.not_lt.mp c_6
        refine lv_iconst (v := 1) hx hb d_M_shape_25 (by decide) ?_
        refine lv_goto (tgt := 30) hx hb d_M_shape_26 (by decide) ?_
        refine lv_aload_n hx hb d_M_shape_30 rfl (lv_at hl 0 rfl) ?_
        refine va_get (D := (dC, dI)) (ci := 4) (v := .int (nI ms)) (C := R_M) (T := T_M) (N := 23) hx hb hts in_M hown hK hE0.P 0 rfl rfl 3 (by decide) (hts _ w_543) (fun _ h9 => h9) rfl d_M_shape_31 ?_
        refine lv_bipush (v := 32) hx hb d_M_shape_34 (by decide) ?_
        refine lv_icmp_ge (tgt := 43) hx hb d_M_shape_36 (by decide) (fun c_8 => ?_) (fun c_8 => ?_)
        · skip
          have c_8 : 32 ≤ ms := (nI_leI (a := 32) (b := ms) (by omega) (by omega)).mp c_8
          refine lv_iconst (v := 0) hx hb d_M_shape_43 (by decide) ?_
          refine z_g3 (w1 := pi_b (pm_idx mp x0)) (w2 := pi_b (pm_day f && (pm_day t && decide (f ≤ t)))) (w3 := pi_b (decide (ms < 32))) (by simp [pi_b, c_2, c_4, c_6, c_6', c_8]) (by simp [pi_b, c_2, c_4, c_6, c_6', c_8]) (rfl) ?_
          exact tail ls (lv_sub hl [0, 1, 2, 3] rfl)
        · skip
          have c_8 : ¬ (32 ≤ ms) := fun h => c_8 ((nI_leI (a := 32) (b := ms) (by omega) (by omega)).mpr h)
          refine lv_iconst (v := 1) hx hb d_M_shape_39 (by decide) ?_
          refine lv_goto (tgt := 44) hx hb d_M_shape_40 (by decide) ?_
          refine z_g3 (w1 := pi_b (pm_idx mp x0)) (w2 := pi_b (pm_day f && (pm_day t && decide (f ≤ t)))) (w3 := pi_b (decide (ms < 32))) (by simp [pi_b, c_2, c_4, c_6, c_6', c_8]) (by simp [pi_b, c_2, c_4, c_6, c_6', c_8]) (rfl) ?_
          exact tail ls (lv_sub hl [0, 1, 2, 3] rfl)
set_option maxRecDepth 100000 in
set_option maxHeartbeats 4000000 in
theorem c_M_shape_ok (G : z_G s0 (dC, dI) cI cS) (E : Nat → Nat) (th : Int32) (mp ms mc mn mm : Nat) (gv : Nat → Nat → Int32) (sz : Nat) (x0 f t : Int32) (hlt : ms < 32) (hg : ((pm_idx mp x0) && ((pm_day f && (pm_day t && decide (f ≤ t))) && (decide (ms < 32)))) = true) : Met l y_M_shape [Cond.code y_M_shape b_M_shape 4 (some .int)] ({ frames := 1, cells := 0, slots := 0, locals := 23 }) (z_Pc s0 [.ref (E 0), .int x0, .int f, .int t] (fun H => H.size = sz ∧ z_Md (dC, dI) cI H E th mp ms mc mn mm gv)) (z_Qw (fun r H => r = some (.int (nI ms)) ∧ z_Md (dC, dI) cI H E 0 mp (ms + 1) mc mn mm (va_up (va_up (va_up (va_up gv 1 (upd (gv 1) ms x0)) 2 (upd (gv 2) ms f)) 3 (upd (gv 3) ms t)) 8 (upd (gv 8) ms (-1)))) (z_fr (z_mF E) sz)) 0 0 (z_fr (z_mF E) sz) := by
  refine z_ofW (by decide +kernel) (Nat.le_of_ble_eq_true rfl) ?_
  intro p e s m below meth c hx hb hml hr hown hlocks hnm hW0 hB ls hl
  have hts := z_hts (args := [.ref (E 0), .int x0, .int f, .int t].toArray) G.1 hW0
  have hN := z_nstW G.2.1 hW0
  have hK := va_K.moved hW0.alike G.2.2.1
  have hAI := arrOfT_moved hW0.alike G.2.2.2.1
  have hl : lv_has ls 4 [(0, .ref (E 0)), (1, .int x0), (2, .int f), (3, .int t)] := hl
  obtain ⟨rfl, hB⟩ := hB
  have hS : va_S (z_fr (z_mF E) s.heap.size) s.heap s.heap [] := va_S.rf
  obtain ⟨⟨hE0, hGA⟩, hEi, ⟨hmp, hms, hmn, hmm, hmc⟩⟩ := id hB
  have tail : ∀ ls : Array Slot, lv_has ls 4 [(0, .ref (E 0)), (1, .int x0), (2, .int f), (3, .int t)] → W p l e ({ frames := 1, cells := 0, slots := 0, locals := 23 }) s m [.ref (E 0), .int x0, .int f, .int t].toArray below meth c s.heap [] 0 0 (MQ below (z_Qw (fun r H => r = some (.int (nI ms)) ∧ z_Md (dC, dI) cI H E 0 mp (ms + 1) mc mn mm (va_up (va_up (va_up (va_up gv 1 (upd (gv 1) ms x0)) 2 (upd (gv 2) ms f)) 3 (upd (gv 3) ms t)) 8 (upd (gv 8) ms (-1)))) (z_fr (z_mF E) s.heap.size)) [.ref (E 0), .int x0, .int f, .int t].toArray s 0 0 (z_fr (z_mF E) s.heap.size)) (F0 m 44 ls [.int (pi_b (decide (ms < 32))), .int (pi_b (pm_day f && (pm_day t && decide (f ≤ t)))), .int (pi_b (pm_idx mp x0)), .ref (E 0)]) := by
    intro ls hl
    refine z_wrV (n := 3) (C := R_M) (rest := []) ⟨hx, hb, hml, hown, hts⟩ hW0 (c_M_goes G E th mp ms mc mn mm gv _ (pm_idx mp x0) (pm_day f && (pm_day t && decide (f ≤ t))) (decide (ms < 32))) w_625 w_622 w_624 wp_19 w_4 (by decide +kernel) ⟨rfl, rfl, Nat.le_of_ble_eq_true rfl, Nat.le_of_ble_eq_true rfl⟩ (hE0.recv hK rfl) ⟨rfl, hB⟩ rfl rfl hl.1 (Nat.le_of_ble_eq_true rfl) d_M_shape_44 ⟨Nat.le_of_ble_eq_true rfl, Nat.le_of_ble_eq_true rfl⟩ hS (fun q h => h.elim Or.inl (fun h => Or.inr (Nat.le_trans hS.1 h))) (fun H1 locs1 hB hz1 hk1 hS => ?_)
    obtain ⟨⟨hE0, hGA⟩, hEi, ⟨hmp, hms, hmn, hmm, hmc⟩⟩ := id hB
    refine z_topi (y := 1) (by rw [hg]; rfl) ?_
    rw [pm_th_ok hg] at hB
    obtain ⟨⟨hE0, hGA⟩, hEi, ⟨hmp, hms, hmn, hmm, hmc⟩⟩ := id hB
    refine lv_if_ne (tgt := 52) hx hb d_M_shape_47 (by decide) (fun c_1 => ?_) (fun c_1 => ?_)
    · skip
      refine lv_aload_n hx hb d_M_shape_52 rfl (lv_at hl 0 rfl) ?_
      refine va_get (D := (dC, dI)) (ci := 4) (v := .ref (E 2)) (C := R_M) (T := T_M) (N := 23) hx hb hts in_M hown hK hE0.P 0 rfl rfl 4 (by decide) (hts _ w_544) (fun _ h9 => h9) rfl d_M_shape_53 ?_
      refine lv_aload_n hx hb d_M_shape_56 rfl (lv_at hl 0 rfl) ?_
      refine va_get (D := (dC, dI)) (ci := 4) (v := .int (nI ms)) (C := R_M) (T := T_M) (N := 23) hx hb hts in_M hown hK hE0.P 0 rfl rfl 3 (by decide) (hts _ w_543) (fun _ h9 => h9) rfl d_M_shape_57 ?_
      refine lv_iload_n hx hb d_M_shape_60 rfl (lv_at hl 1 rfl) ?_
      refine z_iast (k := ms) hx hb hAI (show z_A cI _ (E 2) 32 (gv 1) from hGA 1 (by omega)) hS (Or.inl ⟨2, by omega, rfl⟩) (by omega) (by decide) d_M_shape_61 (fun H1 locs1 hz1 hA1 ho1 hS => ?_)
      have hB : z_Md (dC, dI) cI H1 E 0 mp ms mc mn mm (va_up gv 1 (upd (gv 1) ms x0)) := z_Md.store hB (k := 1) (by omega) hA1 ho1
      obtain ⟨⟨hE0, hGA⟩, hEi, ⟨hmp, hms, hmn, hmm, hmc⟩⟩ := id hB
      refine lv_aload_n hx hb d_M_shape_62 rfl (lv_at hl 0 rfl) ?_
      refine va_get (D := (dC, dI)) (ci := 4) (v := .ref (E 3)) (C := R_M) (T := T_M) (N := 23) hx hb hts in_M hown hK hE0.P 0 rfl rfl 5 (by decide) (hts _ w_545) (fun _ h9 => h9) rfl d_M_shape_63 ?_
      refine lv_aload_n hx hb d_M_shape_66 rfl (lv_at hl 0 rfl) ?_
      refine va_get (D := (dC, dI)) (ci := 4) (v := .int (nI ms)) (C := R_M) (T := T_M) (N := 23) hx hb hts in_M hown hK hE0.P 0 rfl rfl 3 (by decide) (hts _ w_543) (fun _ h9 => h9) rfl d_M_shape_67 ?_
      refine lv_iload_n hx hb d_M_shape_70 rfl (lv_at hl 2 rfl) ?_
      refine z_iast (k := ms) hx hb hAI (show z_A cI _ (E 3) 32 (gv 2) from hGA 2 (by omega)) hS (Or.inl ⟨3, by omega, rfl⟩) (by omega) (by decide) d_M_shape_71 (fun H1 locs1 hz1 hA1 ho1 hS => ?_)
      have hB : z_Md (dC, dI) cI H1 E 0 mp ms mc mn mm (va_up (va_up gv 1 (upd (gv 1) ms x0)) 2 (upd (gv 2) ms f)) := z_Md.store hB (k := 2) (by omega) hA1 ho1
      obtain ⟨⟨hE0, hGA⟩, hEi, ⟨hmp, hms, hmn, hmm, hmc⟩⟩ := id hB
      refine lv_aload_n hx hb d_M_shape_72 rfl (lv_at hl 0 rfl) ?_
      refine va_get (D := (dC, dI)) (ci := 4) (v := .ref (E 4)) (C := R_M) (T := T_M) (N := 23) hx hb hts in_M hown hK hE0.P 0 rfl rfl 6 (by decide) (hts _ w_546) (fun _ h9 => h9) rfl d_M_shape_73 ?_
      refine lv_aload_n hx hb d_M_shape_76 rfl (lv_at hl 0 rfl) ?_
      refine va_get (D := (dC, dI)) (ci := 4) (v := .int (nI ms)) (C := R_M) (T := T_M) (N := 23) hx hb hts in_M hown hK hE0.P 0 rfl rfl 3 (by decide) (hts _ w_543) (fun _ h9 => h9) rfl d_M_shape_77 ?_
      refine lv_iload_n hx hb d_M_shape_80 rfl (lv_at hl 3 rfl) ?_
      refine z_iast (k := ms) hx hb hAI (show z_A cI _ (E 4) 32 (gv 3) from hGA 3 (by omega)) hS (Or.inl ⟨4, by omega, rfl⟩) (by omega) (by decide) d_M_shape_81 (fun H1 locs1 hz1 hA1 ho1 hS => ?_)
      have hB : z_Md (dC, dI) cI H1 E 0 mp ms mc mn mm (va_up (va_up (va_up gv 1 (upd (gv 1) ms x0)) 2 (upd (gv 2) ms f)) 3 (upd (gv 3) ms t)) := z_Md.store hB (k := 3) (by omega) hA1 ho1
      obtain ⟨⟨hE0, hGA⟩, hEi, ⟨hmp, hms, hmn, hmm, hmc⟩⟩ := id hB
      refine lv_aload_n hx hb d_M_shape_82 rfl (lv_at hl 0 rfl) ?_
      refine va_get (D := (dC, dI)) (ci := 4) (v := .ref (E 9)) (C := R_M) (T := T_M) (N := 23) hx hb hts in_M hown hK hE0.P 0 rfl rfl 12 (by decide) (hts _ w_552) (fun _ h9 => h9) rfl d_M_shape_83 ?_
      refine lv_aload_n hx hb d_M_shape_86 rfl (lv_at hl 0 rfl) ?_
      refine va_get (D := (dC, dI)) (ci := 4) (v := .int (nI ms)) (C := R_M) (T := T_M) (N := 23) hx hb hts in_M hown hK hE0.P 0 rfl rfl 3 (by decide) (hts _ w_543) (fun _ h9 => h9) rfl d_M_shape_87 ?_
      refine lv_iconst (v := (-1)) hx hb d_M_shape_90 (by decide) ?_
      refine z_iast (k := ms) hx hb hAI (show z_A cI _ (E 9) 32 (gv 8) from hGA 8 (by omega)) hS (Or.inl ⟨9, by omega, rfl⟩) (by omega) (by decide) d_M_shape_91 (fun H1 locs1 hz1 hA1 ho1 hS => ?_)
      have hB : z_Md (dC, dI) cI H1 E 0 mp ms mc mn mm (va_up (va_up (va_up (va_up gv 1 (upd (gv 1) ms x0)) 2 (upd (gv 2) ms f)) 3 (upd (gv 3) ms t)) 8 (upd (gv 8) ms (-1))) := z_Md.store hB (k := 8) (by omega) hA1 ho1
      obtain ⟨⟨hE0, hGA⟩, hEi, ⟨hmp, hms, hmn, hmm, hmc⟩⟩ := id hB
      refine lv_aload_n hx hb d_M_shape_92 rfl (lv_at hl 0 rfl) ?_
      refine lv_dup hx hb d_M_shape_93 rfl ?_
      refine va_get (D := (dC, dI)) (ci := 4) (v := .int (nI ms)) (C := R_M) (T := T_M) (N := 23) hx hb hts in_M hown hK hE0.P 0 rfl rfl 3 (by decide) (hts _ w_543) (fun _ h9 => h9) rfl d_M_shape_94 ?_
      refine lv_iconst (v := 1) hx hb d_M_shape_97 (by decide) ?_
      refine lv_iadd hx hb d_M_shape_98 ?_
      refine z_topi (y := nI (ms + 1)) (nI_add ms 1) ?_
      refine z_put (D := (dC, dI)) (ci := 4) (v := .int (nI (ms + 1))) (ty := .int) (C := R_M) (T := T_M) (N := 23) hx hb hts in_M t_M t_M_ok nm_M hown hK hE0 hS (Or.inl ⟨0, by omega, rfl⟩) rfl 3 (by decide) (hts _ w_543) (fun _ h9 => h9) rfl (by decide +kernel) rfl rfl (Nat.le_of_ble_eq_true rfl) d_M_shape_99 (fun H1 locs1 hz1 hO1 ho1 hS => ?_)
      have hB : z_Md (dC, dI) cI H1 E 0 mp (ms + 1) mc mn mm (va_up (va_up (va_up (va_up gv 1 (upd (gv 1) ms x0)) 2 (upd (gv 2) ms f)) 3 (upd (gv 3) ms t)) 8 (upd (gv 8) ms (-1))) := z_Md.put hB (show z_O (dC, dI) H1 (E 0) 4 (z_mfs E 0 mp (ms + 1) mc mn mm) from hO1) ho1 ⟨by omega, by omega, by omega, by omega, by omega⟩
      obtain ⟨⟨hE0, hGA⟩, hEi, ⟨hmp, hms, hmn, hmm, hmc⟩⟩ := id hB
      refine lv_aload_n hx hb d_M_shape_102 rfl (lv_at hl 0 rfl) ?_
      refine va_get (D := (dC, dI)) (ci := 4) (v := .int (nI (ms + 1))) (C := R_M) (T := T_M) (N := 23) hx hb hts in_M hown hK hE0.P 0 rfl rfl 3 (by decide) (hts _ w_543) (fun _ h9 => h9) rfl d_M_shape_103 ?_
      refine lv_iconst (v := 1) hx hb d_M_shape_106 (by decide) ?_
      refine lv_isub hx hb d_M_shape_107 ?_
      refine z_topi (y := nI ms) (nI_pred ms) ?_
      exact z_wi hx hb hr hlocks (⟨rfl, hB⟩) hS d_M_shape_108
    · skip
      exact absurd c_1 (by decide)
  refine lv_aload_n hx hb d_M_shape_0 rfl (lv_at hl 0 rfl) ?_
  refine lv_aload_n hx hb d_M_shape_1 rfl (lv_at hl 0 rfl) ?_
  refine lv_iload_n hx hb d_M_shape_2 rfl (lv_at hl 1 rfl) ?_
  refine z_rdV (n := 1) (C := R_M) (rest := [.ref (E 0)]) ⟨hx, hb, hml, hown, hts⟩ hW0 (c_M_isPlace G E th mp ms mc mn mm gv x0) w_621 w_618 w_620 wp_18 w_4 (by decide +kernel) ⟨rfl, rfl, Nat.le_of_ble_eq_true rfl, Nat.le_of_ble_eq_true rfl⟩ (hE0.recv hK rfl) (hB) rfl rfl hl.1 (Nat.le_of_ble_eq_true rfl) d_M_shape_3 ⟨Nat.zero_le _, Nat.zero_le _⟩ ?_
  refine lv_iload_n hx hb d_M_shape_6 rfl (lv_at hl 2 rfl) ?_
  refine z_rdS (n := 1) (rest := [.int (pi_b (pm_idx mp x0)), .ref (E 0)]) ⟨hx, hb, hml, hown, hts⟩ hW0 (c_M_isDay G f) w_632 w_630 w_631 w_4 (by decide +kernel) ⟨rfl, rfl, Nat.le_of_ble_eq_true rfl, Nat.le_of_ble_eq_true rfl⟩ (trivial) rfl rfl hl.1 (Nat.le_of_ble_eq_true rfl) d_M_shape_7 ⟨Nat.zero_le _, Nat.zero_le _⟩ ?_
  refine lv_if_eq (tgt := 29) hx hb d_M_shape_10 (by decide) (fun c_2 => ?_) (fun c_2 => ?_)
  · skip
    have c_2 : (pm_day f) = false := pi_b_0.mp c_2
    refine lv_iconst (v := 0) hx hb d_M_shape_29 (by decide) ?_
    refine lv_aload_n hx hb d_M_shape_30 rfl (lv_at hl 0 rfl) ?_
    refine va_get (D := (dC, dI)) (ci := 4) (v := .int (nI ms)) (C := R_M) (T := T_M) (N := 23) hx hb hts in_M hown hK hE0.P 0 rfl rfl 3 (by decide) (hts _ w_543) (fun _ h9 => h9) rfl d_M_shape_31 ?_
    refine lv_bipush (v := 32) hx hb d_M_shape_34 (by decide) ?_
    refine lv_icmp_ge (tgt := 43) hx hb d_M_shape_36 (by decide) (fun c_3 => ?_) (fun c_3 => ?_)
    · skip
      have c_3 : 32 ≤ ms := (nI_leI (a := 32) (b := ms) (by omega) (by omega)).mp c_3
      refine lv_iconst (v := 0) hx hb d_M_shape_43 (by decide) ?_
      refine z_g3 (w1 := pi_b (pm_idx mp x0)) (w2 := pi_b (pm_day f && (pm_day t && decide (f ≤ t)))) (w3 := pi_b (decide (ms < 32))) (by simp [pi_b, c_2, c_3]) (by simp [pi_b, c_2, c_3]) (rfl) ?_
      exact tail ls (lv_sub hl [0, 1, 2, 3] rfl)
    · skip
      have c_3 : ¬ (32 ≤ ms) := fun h => c_3 ((nI_leI (a := 32) (b := ms) (by omega) (by omega)).mpr h)
      refine lv_iconst (v := 1) hx hb d_M_shape_39 (by decide) ?_
      refine lv_goto (tgt := 44) hx hb d_M_shape_40 (by decide) ?_
      refine z_g3 (w1 := pi_b (pm_idx mp x0)) (w2 := pi_b (pm_day f && (pm_day t && decide (f ≤ t)))) (w3 := pi_b (decide (ms < 32))) (by simp [pi_b, c_2, c_3]) (by simp [pi_b, c_2, c_3]) (rfl) ?_
      exact tail ls (lv_sub hl [0, 1, 2, 3] rfl)
  · skip
    have c_2 : (pm_day f) = true := pi_b_1.mp c_2
    refine lv_iload_n hx hb d_M_shape_13 rfl (lv_at hl 3 rfl) ?_
    refine z_rdS (n := 1) (rest := [.int (pi_b (pm_idx mp x0)), .ref (E 0)]) ⟨hx, hb, hml, hown, hts⟩ hW0 (c_M_isDay G t) w_632 w_630 w_631 w_4 (by decide +kernel) ⟨rfl, rfl, Nat.le_of_ble_eq_true rfl, Nat.le_of_ble_eq_true rfl⟩ (trivial) rfl rfl hl.1 (Nat.le_of_ble_eq_true rfl) d_M_shape_14 ⟨Nat.zero_le _, Nat.zero_le _⟩ ?_
    refine lv_if_eq (tgt := 29) hx hb d_M_shape_17 (by decide) (fun c_4 => ?_) (fun c_4 => ?_)
    · skip
      have c_4 : (pm_day t) = false := pi_b_0.mp c_4
      refine lv_iconst (v := 0) hx hb d_M_shape_29 (by decide) ?_
      refine lv_aload_n hx hb d_M_shape_30 rfl (lv_at hl 0 rfl) ?_
      refine va_get (D := (dC, dI)) (ci := 4) (v := .int (nI ms)) (C := R_M) (T := T_M) (N := 23) hx hb hts in_M hown hK hE0.P 0 rfl rfl 3 (by decide) (hts _ w_543) (fun _ h9 => h9) rfl d_M_shape_31 ?_
      refine lv_bipush (v := 32) hx hb d_M_shape_34 (by decide) ?_
      refine lv_icmp_ge (tgt := 43) hx hb d_M_shape_36 (by decide) (fun c_5 => ?_) (fun c_5 => ?_)
      · skip
        have c_5 : 32 ≤ ms := (nI_leI (a := 32) (b := ms) (by omega) (by omega)).mp c_5
        refine lv_iconst (v := 0) hx hb d_M_shape_43 (by decide) ?_
        refine z_g3 (w1 := pi_b (pm_idx mp x0)) (w2 := pi_b (pm_day f && (pm_day t && decide (f ≤ t)))) (w3 := pi_b (decide (ms < 32))) (by simp [pi_b, c_2, c_4, c_5]) (by simp [pi_b, c_2, c_4, c_5]) (rfl) ?_
        exact tail ls (lv_sub hl [0, 1, 2, 3] rfl)
      · skip
        have c_5 : ¬ (32 ≤ ms) := fun h => c_5 ((nI_leI (a := 32) (b := ms) (by omega) (by omega)).mpr h)
        refine lv_iconst (v := 1) hx hb d_M_shape_39 (by decide) ?_
        refine lv_goto (tgt := 44) hx hb d_M_shape_40 (by decide) ?_
        refine z_g3 (w1 := pi_b (pm_idx mp x0)) (w2 := pi_b (pm_day f && (pm_day t && decide (f ≤ t)))) (w3 := pi_b (decide (ms < 32))) (by simp [pi_b, c_2, c_4, c_5]) (by simp [pi_b, c_2, c_4, c_5]) (rfl) ?_
        exact tail ls (lv_sub hl [0, 1, 2, 3] rfl)
    · skip
      have c_4 : (pm_day t) = true := pi_b_1.mp c_4
      refine lv_iload_n hx hb d_M_shape_20 rfl (lv_at hl 2 rfl) ?_
      refine lv_iload_n hx hb d_M_shape_21 rfl (lv_at hl 3 rfl) ?_
      refine lv_icmp_gt (tgt := 29) hx hb d_M_shape_22 (by decide) (fun c_6 => ?_) (fun c_6 => ?_)
      · skip
        have c_6' : ¬ (f ≤ t) := Int32.not_le.mpr c_6
        refine lv_iconst (v := 0) hx hb d_M_shape_29 (by decide) ?_
        refine lv_aload_n hx hb d_M_shape_30 rfl (lv_at hl 0 rfl) ?_
        refine va_get (D := (dC, dI)) (ci := 4) (v := .int (nI ms)) (C := R_M) (T := T_M) (N := 23) hx hb hts in_M hown hK hE0.P 0 rfl rfl 3 (by decide) (hts _ w_543) (fun _ h9 => h9) rfl d_M_shape_31 ?_
        refine lv_bipush (v := 32) hx hb d_M_shape_34 (by decide) ?_
        refine lv_icmp_ge (tgt := 43) hx hb d_M_shape_36 (by decide) (fun c_7 => ?_) (fun c_7 => ?_)
        · skip
          have c_7 : 32 ≤ ms := (nI_leI (a := 32) (b := ms) (by omega) (by omega)).mp c_7
          refine lv_iconst (v := 0) hx hb d_M_shape_43 (by decide) ?_
          refine z_g3 (w1 := pi_b (pm_idx mp x0)) (w2 := pi_b (pm_day f && (pm_day t && decide (f ≤ t)))) (w3 := pi_b (decide (ms < 32))) (by simp [pi_b, c_2, c_4, c_6, c_6', c_7]) (by simp [pi_b, c_2, c_4, c_6, c_6', c_7]) (rfl) ?_
          exact tail ls (lv_sub hl [0, 1, 2, 3] rfl)
        · skip
          have c_7 : ¬ (32 ≤ ms) := fun h => c_7 ((nI_leI (a := 32) (b := ms) (by omega) (by omega)).mpr h)
          refine lv_iconst (v := 1) hx hb d_M_shape_39 (by decide) ?_
          refine lv_goto (tgt := 44) hx hb d_M_shape_40 (by decide) ?_
          refine z_g3 (w1 := pi_b (pm_idx mp x0)) (w2 := pi_b (pm_day f && (pm_day t && decide (f ≤ t)))) (w3 := pi_b (decide (ms < 32))) (by simp [pi_b, c_2, c_4, c_6, c_6', c_7]) (by simp [pi_b, c_2, c_4, c_6, c_6', c_7]) (rfl) ?_
          exact tail ls (lv_sub hl [0, 1, 2, 3] rfl)
      · skip
        have c_6' : f ≤ t := Int32.not_lt.mp c_6
        refine lv_iconst (v := 1) hx hb d_M_shape_25 (by decide) ?_
        refine lv_goto (tgt := 30) hx hb d_M_shape_26 (by decide) ?_
        refine lv_aload_n hx hb d_M_shape_30 rfl (lv_at hl 0 rfl) ?_
        refine va_get (D := (dC, dI)) (ci := 4) (v := .int (nI ms)) (C := R_M) (T := T_M) (N := 23) hx hb hts in_M hown hK hE0.P 0 rfl rfl 3 (by decide) (hts _ w_543) (fun _ h9 => h9) rfl d_M_shape_31 ?_
        refine lv_bipush (v := 32) hx hb d_M_shape_34 (by decide) ?_
        refine lv_icmp_ge (tgt := 43) hx hb d_M_shape_36 (by decide) (fun c_8 => ?_) (fun c_8 => ?_)
        · skip
          have c_8 : 32 ≤ ms := (nI_leI (a := 32) (b := ms) (by omega) (by omega)).mp c_8
          refine lv_iconst (v := 0) hx hb d_M_shape_43 (by decide) ?_
          refine z_g3 (w1 := pi_b (pm_idx mp x0)) (w2 := pi_b (pm_day f && (pm_day t && decide (f ≤ t)))) (w3 := pi_b (decide (ms < 32))) (by simp [pi_b, c_2, c_4, c_6, c_6', c_8]) (by simp [pi_b, c_2, c_4, c_6, c_6', c_8]) (rfl) ?_
          exact tail ls (lv_sub hl [0, 1, 2, 3] rfl)
        · skip
          have c_8 : ¬ (32 ≤ ms) := fun h => c_8 ((nI_leI (a := 32) (b := ms) (by omega) (by omega)).mpr h)
          refine lv_iconst (v := 1) hx hb d_M_shape_39 (by decide) ?_
          refine lv_goto (tgt := 44) hx hb d_M_shape_40 (by decide) ?_
          refine z_g3 (w1 := pi_b (pm_idx mp x0)) (w2 := pi_b (pm_day f && (pm_day t && decide (f ≤ t)))) (w3 := pi_b (decide (ms < 32))) (by simp [pi_b, c_2, c_4, c_6, c_6', c_8]) (by simp [pi_b, c_2, c_4, c_6, c_6', c_8]) (rfl) ?_
          exact tail ls (lv_sub hl [0, 1, 2, 3] rfl)
set_option maxRecDepth 100000 in
set_option maxHeartbeats 4000000 in
theorem c_M_name_no (G : z_G s0 (dC, dI) cI cS) (E : Nat → Nat) (th : Int32) (mp ms mc mn mm : Nat) (gv : Nat → Nat → Int32) (sz : Nat) (x0 n0 f t : Int32) (hg : ((pm_idx mp x0) && ((pm_day f && (pm_day t && (decide (f ≤ t) && decide (0 ≤ n0)))) && (decide (mn < 40)))) = false) : Met l y_M_name [Cond.code y_M_name b_M_name 5 none] ({ frames := 1, cells := 0, slots := 0, locals := 23 }) (z_Pc s0 [.ref (E 0), .int x0, .int n0, .int f, .int t] (fun H => H.size = sz ∧ z_Md (dC, dI) cI H E th mp ms mc mn mm gv)) (z_Qw (fun r H => r = none ∧ z_Md (dC, dI) cI H E (pm_th (pm_idx mp x0) (pm_day f && (pm_day t && (decide (f ≤ t) && decide (0 ≤ n0)))) (decide (mn < 40))) mp ms mc mn mm gv) (z_fr (z_mF E) sz)) 0 0 (z_fr (z_mF E) sz) := by
  refine z_ofW (by decide +kernel) (Nat.le_of_ble_eq_true rfl) ?_
  intro p e s m below meth c hx hb hml hr hown hlocks hnm hW0 hB ls hl
  have hts := z_hts (args := [.ref (E 0), .int x0, .int n0, .int f, .int t].toArray) G.1 hW0
  have hN := z_nstW G.2.1 hW0
  have hK := va_K.moved hW0.alike G.2.2.1
  have hAI := arrOfT_moved hW0.alike G.2.2.2.1
  have hl : lv_has ls 5 [(0, .ref (E 0)), (1, .int x0), (2, .int n0), (3, .int f), (4, .int t)] := hl
  obtain ⟨rfl, hB⟩ := hB
  have hS : va_S (z_fr (z_mF E) s.heap.size) s.heap s.heap [] := va_S.rf
  obtain ⟨⟨hE0, hGA⟩, hEi, ⟨hmp, hms, hmn, hmm, hmc⟩⟩ := id hB
  have tail : ∀ ls : Array Slot, lv_has ls 5 [(0, .ref (E 0)), (1, .int x0), (2, .int n0), (3, .int f), (4, .int t)] → W p l e ({ frames := 1, cells := 0, slots := 0, locals := 23 }) s m [.ref (E 0), .int x0, .int n0, .int f, .int t].toArray below meth c s.heap [] 0 0 (MQ below (z_Qw (fun r H => r = none ∧ z_Md (dC, dI) cI H E (pm_th (pm_idx mp x0) (pm_day f && (pm_day t && (decide (f ≤ t) && decide (0 ≤ n0)))) (decide (mn < 40))) mp ms mc mn mm gv) (z_fr (z_mF E) s.heap.size)) [.ref (E 0), .int x0, .int n0, .int f, .int t].toArray s 0 0 (z_fr (z_mF E) s.heap.size)) (F0 m 50 ls [.int (pi_b (decide (mn < 40))), .int (pi_b (pm_day f && (pm_day t && (decide (f ≤ t) && decide (0 ≤ n0))))), .int (pi_b (pm_idx mp x0)), .ref (E 0)]) := by
    intro ls hl
    refine z_wrV (n := 3) (C := R_M) (rest := []) ⟨hx, hb, hml, hown, hts⟩ hW0 (c_M_goes G E th mp ms mc mn mm gv _ (pm_idx mp x0) (pm_day f && (pm_day t && (decide (f ≤ t) && decide (0 ≤ n0)))) (decide (mn < 40))) w_625 w_622 w_624 wp_19 w_4 (by decide +kernel) ⟨rfl, rfl, Nat.le_of_ble_eq_true rfl, Nat.le_of_ble_eq_true rfl⟩ (hE0.recv hK rfl) ⟨rfl, hB⟩ rfl rfl hl.1 (Nat.le_of_ble_eq_true rfl) d_M_name_50 ⟨Nat.le_of_ble_eq_true rfl, Nat.le_of_ble_eq_true rfl⟩ hS (fun q h => h.elim Or.inl (fun h => Or.inr (Nat.le_trans hS.1 h))) (fun H1 locs1 hB hz1 hk1 hS => ?_)
    obtain ⟨⟨hE0, hGA⟩, hEi, ⟨hmp, hms, hmn, hmm, hmc⟩⟩ := id hB
    refine z_topi (y := 0) (by rw [hg]; rfl) ?_
    refine lv_if_eq (tgt := 107) hx hb d_M_name_53 (by decide) (fun c_1 => ?_) (fun c_1 => ?_)
    · skip
      exact z_wv hx hb hr hlocks (⟨rfl, hB⟩) hS d_M_name_107
    · skip
      exact absurd (by decide) c_1
  refine lv_aload_n hx hb d_M_name_0 rfl (lv_at hl 0 rfl) ?_
  refine lv_aload_n hx hb d_M_name_1 rfl (lv_at hl 0 rfl) ?_
  refine lv_iload_n hx hb d_M_name_2 rfl (lv_at hl 1 rfl) ?_
  refine z_rdV (n := 1) (C := R_M) (rest := [.ref (E 0)]) ⟨hx, hb, hml, hown, hts⟩ hW0 (c_M_isPlace G E th mp ms mc mn mm gv x0) w_621 w_618 w_620 wp_18 w_4 (by decide +kernel) ⟨rfl, rfl, Nat.le_of_ble_eq_true rfl, Nat.le_of_ble_eq_true rfl⟩ (hE0.recv hK rfl) (hB) rfl rfl hl.1 (Nat.le_of_ble_eq_true rfl) d_M_name_3 ⟨Nat.zero_le _, Nat.zero_le _⟩ ?_
  refine lv_iload_n hx hb d_M_name_6 rfl (lv_at hl 3 rfl) ?_
  refine z_rdS (n := 1) (rest := [.int (pi_b (pm_idx mp x0)), .ref (E 0)]) ⟨hx, hb, hml, hown, hts⟩ hW0 (c_M_isDay G f) w_632 w_630 w_631 w_4 (by decide +kernel) ⟨rfl, rfl, Nat.le_of_ble_eq_true rfl, Nat.le_of_ble_eq_true rfl⟩ (trivial) rfl rfl hl.1 (Nat.le_of_ble_eq_true rfl) d_M_name_7 ⟨Nat.zero_le _, Nat.zero_le _⟩ ?_
  refine lv_if_eq (tgt := 35) hx hb d_M_name_10 (by decide) (fun c_2 => ?_) (fun c_2 => ?_)
  · skip
    have c_2 : (pm_day f) = false := pi_b_0.mp c_2
    refine lv_iconst (v := 0) hx hb d_M_name_35 (by decide) ?_
    refine lv_aload_n hx hb d_M_name_36 rfl (lv_at hl 0 rfl) ?_
    refine va_get (D := (dC, dI)) (ci := 4) (v := .int (nI mn)) (C := R_M) (T := T_M) (N := 23) hx hb hts in_M hown hK hE0.P 0 rfl rfl 13 (by decide) (hts _ w_553) (fun _ h9 => h9) rfl d_M_name_37 ?_
    refine lv_bipush (v := 40) hx hb d_M_name_40 (by decide) ?_
    refine lv_icmp_ge (tgt := 49) hx hb d_M_name_42 (by decide) (fun c_3 => ?_) (fun c_3 => ?_)
    · skip
      have c_3 : 40 ≤ mn := (nI_leI (a := 40) (b := mn) (by omega) (by omega)).mp c_3
      refine lv_iconst (v := 0) hx hb d_M_name_49 (by decide) ?_
      refine z_g3 (w1 := pi_b (pm_idx mp x0)) (w2 := pi_b (pm_day f && (pm_day t && (decide (f ≤ t) && decide (0 ≤ n0))))) (w3 := pi_b (decide (mn < 40))) (by simp [pi_b, c_2, c_3]) (by simp [pi_b, c_2, c_3]) (rfl) ?_
      exact tail ls (lv_sub hl [0, 1, 2, 3, 4] rfl)
    · skip
      have c_3 : ¬ (40 ≤ mn) := fun h => c_3 ((nI_leI (a := 40) (b := mn) (by omega) (by omega)).mpr h)
      refine lv_iconst (v := 1) hx hb d_M_name_45 (by decide) ?_
      refine lv_goto (tgt := 50) hx hb d_M_name_46 (by decide) ?_
      refine z_g3 (w1 := pi_b (pm_idx mp x0)) (w2 := pi_b (pm_day f && (pm_day t && (decide (f ≤ t) && decide (0 ≤ n0))))) (w3 := pi_b (decide (mn < 40))) (by simp [pi_b, c_2, c_3]) (by simp [pi_b, c_2, c_3]) (rfl) ?_
      exact tail ls (lv_sub hl [0, 1, 2, 3, 4] rfl)
  · skip
    have c_2 : (pm_day f) = true := pi_b_1.mp c_2
    refine lv_iload hx hb d_M_name_13 (lv_at hl 4 rfl) ?_
    refine z_rdS (n := 1) (rest := [.int (pi_b (pm_idx mp x0)), .ref (E 0)]) ⟨hx, hb, hml, hown, hts⟩ hW0 (c_M_isDay G t) w_632 w_630 w_631 w_4 (by decide +kernel) ⟨rfl, rfl, Nat.le_of_ble_eq_true rfl, Nat.le_of_ble_eq_true rfl⟩ (trivial) rfl rfl hl.1 (Nat.le_of_ble_eq_true rfl) d_M_name_15 ⟨Nat.zero_le _, Nat.zero_le _⟩ ?_
    refine lv_if_eq (tgt := 35) hx hb d_M_name_18 (by decide) (fun c_4 => ?_) (fun c_4 => ?_)
    · skip
      have c_4 : (pm_day t) = false := pi_b_0.mp c_4
      refine lv_iconst (v := 0) hx hb d_M_name_35 (by decide) ?_
      refine lv_aload_n hx hb d_M_name_36 rfl (lv_at hl 0 rfl) ?_
      refine va_get (D := (dC, dI)) (ci := 4) (v := .int (nI mn)) (C := R_M) (T := T_M) (N := 23) hx hb hts in_M hown hK hE0.P 0 rfl rfl 13 (by decide) (hts _ w_553) (fun _ h9 => h9) rfl d_M_name_37 ?_
      refine lv_bipush (v := 40) hx hb d_M_name_40 (by decide) ?_
      refine lv_icmp_ge (tgt := 49) hx hb d_M_name_42 (by decide) (fun c_5 => ?_) (fun c_5 => ?_)
      · skip
        have c_5 : 40 ≤ mn := (nI_leI (a := 40) (b := mn) (by omega) (by omega)).mp c_5
        refine lv_iconst (v := 0) hx hb d_M_name_49 (by decide) ?_
        refine z_g3 (w1 := pi_b (pm_idx mp x0)) (w2 := pi_b (pm_day f && (pm_day t && (decide (f ≤ t) && decide (0 ≤ n0))))) (w3 := pi_b (decide (mn < 40))) (by simp [pi_b, c_2, c_4, c_5]) (by simp [pi_b, c_2, c_4, c_5]) (rfl) ?_
        exact tail ls (lv_sub hl [0, 1, 2, 3, 4] rfl)
      · skip
        have c_5 : ¬ (40 ≤ mn) := fun h => c_5 ((nI_leI (a := 40) (b := mn) (by omega) (by omega)).mpr h)
        refine lv_iconst (v := 1) hx hb d_M_name_45 (by decide) ?_
        refine lv_goto (tgt := 50) hx hb d_M_name_46 (by decide) ?_
        refine z_g3 (w1 := pi_b (pm_idx mp x0)) (w2 := pi_b (pm_day f && (pm_day t && (decide (f ≤ t) && decide (0 ≤ n0))))) (w3 := pi_b (decide (mn < 40))) (by simp [pi_b, c_2, c_4, c_5]) (by simp [pi_b, c_2, c_4, c_5]) (rfl) ?_
        exact tail ls (lv_sub hl [0, 1, 2, 3, 4] rfl)
    · skip
      have c_4 : (pm_day t) = true := pi_b_1.mp c_4
      refine lv_iload_n hx hb d_M_name_21 rfl (lv_at hl 3 rfl) ?_
      refine lv_iload hx hb d_M_name_22 (lv_at hl 4 rfl) ?_
      refine lv_icmp_gt (tgt := 35) hx hb d_M_name_24 (by decide) (fun c_6 => ?_) (fun c_6 => ?_)
      · skip
        have c_6' : ¬ (f ≤ t) := Int32.not_le.mpr c_6
        refine lv_iconst (v := 0) hx hb d_M_name_35 (by decide) ?_
        refine lv_aload_n hx hb d_M_name_36 rfl (lv_at hl 0 rfl) ?_
        refine va_get (D := (dC, dI)) (ci := 4) (v := .int (nI mn)) (C := R_M) (T := T_M) (N := 23) hx hb hts in_M hown hK hE0.P 0 rfl rfl 13 (by decide) (hts _ w_553) (fun _ h9 => h9) rfl d_M_name_37 ?_
        refine lv_bipush (v := 40) hx hb d_M_name_40 (by decide) ?_
        refine lv_icmp_ge (tgt := 49) hx hb d_M_name_42 (by decide) (fun c_7 => ?_) (fun c_7 => ?_)
        · skip
          have c_7 : 40 ≤ mn := (nI_leI (a := 40) (b := mn) (by omega) (by omega)).mp c_7
          refine lv_iconst (v := 0) hx hb d_M_name_49 (by decide) ?_
          refine z_g3 (w1 := pi_b (pm_idx mp x0)) (w2 := pi_b (pm_day f && (pm_day t && (decide (f ≤ t) && decide (0 ≤ n0))))) (w3 := pi_b (decide (mn < 40))) (by simp [pi_b, c_2, c_4, c_6, c_6', c_7]) (by simp [pi_b, c_2, c_4, c_6, c_6', c_7]) (rfl) ?_
          exact tail ls (lv_sub hl [0, 1, 2, 3, 4] rfl)
        · skip
          have c_7 : ¬ (40 ≤ mn) := fun h => c_7 ((nI_leI (a := 40) (b := mn) (by omega) (by omega)).mpr h)
          refine lv_iconst (v := 1) hx hb d_M_name_45 (by decide) ?_
          refine lv_goto (tgt := 50) hx hb d_M_name_46 (by decide) ?_
          refine z_g3 (w1 := pi_b (pm_idx mp x0)) (w2 := pi_b (pm_day f && (pm_day t && (decide (f ≤ t) && decide (0 ≤ n0))))) (w3 := pi_b (decide (mn < 40))) (by simp [pi_b, c_2, c_4, c_6, c_6', c_7]) (by simp [pi_b, c_2, c_4, c_6, c_6', c_7]) (rfl) ?_
          exact tail ls (lv_sub hl [0, 1, 2, 3, 4] rfl)
      · skip
        have c_6' : f ≤ t := Int32.not_lt.mp c_6
        refine lv_iload_n hx hb d_M_name_27 rfl (lv_at hl 2 rfl) ?_
        refine lv_if_lt (tgt := 35) hx hb d_M_name_28 (by decide) (fun c_8 => ?_) (fun c_8 => ?_)
        · skip
          have c_8' : ¬ ((0 : Int32) ≤ n0) := Int32.not_le.mpr c_8
          refine lv_iconst (v := 0) hx hb d_M_name_35 (by decide) ?_
          refine lv_aload_n hx hb d_M_name_36 rfl (lv_at hl 0 rfl) ?_
          refine va_get (D := (dC, dI)) (ci := 4) (v := .int (nI mn)) (C := R_M) (T := T_M) (N := 23) hx hb hts in_M hown hK hE0.P 0 rfl rfl 13 (by decide) (hts _ w_553) (fun _ h9 => h9) rfl d_M_name_37 ?_
          refine lv_bipush (v := 40) hx hb d_M_name_40 (by decide) ?_
          refine lv_icmp_ge (tgt := 49) hx hb d_M_name_42 (by decide) (fun c_9 => ?_) (fun c_9 => ?_)
          · skip
            have c_9 : 40 ≤ mn := (nI_leI (a := 40) (b := mn) (by omega) (by omega)).mp c_9
            refine lv_iconst (v := 0) hx hb d_M_name_49 (by decide) ?_
            refine z_g3 (w1 := pi_b (pm_idx mp x0)) (w2 := pi_b (pm_day f && (pm_day t && (decide (f ≤ t) && decide (0 ≤ n0))))) (w3 := pi_b (decide (mn < 40))) (by simp [pi_b, c_2, c_4, c_6, c_6', c_8, c_8', c_9]) (by simp [pi_b, c_2, c_4, c_6, c_6', c_8, c_8', c_9]) (rfl) ?_
            exact tail ls (lv_sub hl [0, 1, 2, 3, 4] rfl)
          · skip
            have c_9 : ¬ (40 ≤ mn) := fun h => c_9 ((nI_leI (a := 40) (b := mn) (by omega) (by omega)).mpr h)
            refine lv_iconst (v := 1) hx hb d_M_name_45 (by decide) ?_
            refine lv_goto (tgt := 50) hx hb d_M_name_46 (by decide) ?_
            refine z_g3 (w1 := pi_b (pm_idx mp x0)) (w2 := pi_b (pm_day f && (pm_day t && (decide (f ≤ t) && decide (0 ≤ n0))))) (w3 := pi_b (decide (mn < 40))) (by simp [pi_b, c_2, c_4, c_6, c_6', c_8, c_8', c_9]) (by simp [pi_b, c_2, c_4, c_6, c_6', c_8, c_8', c_9]) (rfl) ?_
            exact tail ls (lv_sub hl [0, 1, 2, 3, 4] rfl)
        · skip
          have c_8' : (0 : Int32) ≤ n0 := Int32.not_lt.mp c_8
          refine lv_iconst (v := 1) hx hb d_M_name_31 (by decide) ?_
          refine lv_goto (tgt := 36) hx hb d_M_name_32 (by decide) ?_
          refine lv_aload_n hx hb d_M_name_36 rfl (lv_at hl 0 rfl) ?_
          refine va_get (D := (dC, dI)) (ci := 4) (v := .int (nI mn)) (C := R_M) (T := T_M) (N := 23) hx hb hts in_M hown hK hE0.P 0 rfl rfl 13 (by decide) (hts _ w_553) (fun _ h9 => h9) rfl d_M_name_37 ?_
          refine lv_bipush (v := 40) hx hb d_M_name_40 (by decide) ?_
          refine lv_icmp_ge (tgt := 49) hx hb d_M_name_42 (by decide) (fun c_10 => ?_) (fun c_10 => ?_)
          · skip
            have c_10 : 40 ≤ mn := (nI_leI (a := 40) (b := mn) (by omega) (by omega)).mp c_10
            refine lv_iconst (v := 0) hx hb d_M_name_49 (by decide) ?_
            refine z_g3 (w1 := pi_b (pm_idx mp x0)) (w2 := pi_b (pm_day f && (pm_day t && (decide (f ≤ t) && decide (0 ≤ n0))))) (w3 := pi_b (decide (mn < 40))) (by simp [pi_b, c_2, c_4, c_6, c_6', c_8, c_8', c_10]) (by simp [pi_b, c_2, c_4, c_6, c_6', c_8, c_8', c_10]) (rfl) ?_
            exact tail ls (lv_sub hl [0, 1, 2, 3, 4] rfl)
          · skip
            have c_10 : ¬ (40 ≤ mn) := fun h => c_10 ((nI_leI (a := 40) (b := mn) (by omega) (by omega)).mpr h)
            refine lv_iconst (v := 1) hx hb d_M_name_45 (by decide) ?_
            refine lv_goto (tgt := 50) hx hb d_M_name_46 (by decide) ?_
            refine z_g3 (w1 := pi_b (pm_idx mp x0)) (w2 := pi_b (pm_day f && (pm_day t && (decide (f ≤ t) && decide (0 ≤ n0))))) (w3 := pi_b (decide (mn < 40))) (by simp [pi_b, c_2, c_4, c_6, c_6', c_8, c_8', c_10]) (by simp [pi_b, c_2, c_4, c_6, c_6', c_8, c_8', c_10]) (rfl) ?_
            exact tail ls (lv_sub hl [0, 1, 2, 3, 4] rfl)
set_option maxRecDepth 100000 in
set_option maxHeartbeats 4000000 in
theorem c_M_name_ok (G : z_G s0 (dC, dI) cI cS) (E : Nat → Nat) (th : Int32) (mp ms mc mn mm : Nat) (gv : Nat → Nat → Int32) (sz : Nat) (x0 n0 f t : Int32) (hlt : mn < 40) (hg : ((pm_idx mp x0) && ((pm_day f && (pm_day t && (decide (f ≤ t) && decide (0 ≤ n0)))) && (decide (mn < 40)))) = true) : Met l y_M_name [Cond.code y_M_name b_M_name 5 none] ({ frames := 1, cells := 0, slots := 0, locals := 23 }) (z_Pc s0 [.ref (E 0), .int x0, .int n0, .int f, .int t] (fun H => H.size = sz ∧ z_Md (dC, dI) cI H E th mp ms mc mn mm gv)) (z_Qw (fun r H => r = none ∧ z_Md (dC, dI) cI H E 0 mp ms mc (mn + 1) mm (va_up (va_up (va_up (va_up gv 9 (upd (gv 9) mn x0)) 10 (upd (gv 10) mn n0)) 11 (upd (gv 11) mn f)) 12 (upd (gv 12) mn t))) (z_fr (z_mF E) sz)) 0 0 (z_fr (z_mF E) sz) := by
  refine z_ofW (by decide +kernel) (Nat.le_of_ble_eq_true rfl) ?_
  intro p e s m below meth c hx hb hml hr hown hlocks hnm hW0 hB ls hl
  have hts := z_hts (args := [.ref (E 0), .int x0, .int n0, .int f, .int t].toArray) G.1 hW0
  have hN := z_nstW G.2.1 hW0
  have hK := va_K.moved hW0.alike G.2.2.1
  have hAI := arrOfT_moved hW0.alike G.2.2.2.1
  have hl : lv_has ls 5 [(0, .ref (E 0)), (1, .int x0), (2, .int n0), (3, .int f), (4, .int t)] := hl
  obtain ⟨rfl, hB⟩ := hB
  have hS : va_S (z_fr (z_mF E) s.heap.size) s.heap s.heap [] := va_S.rf
  obtain ⟨⟨hE0, hGA⟩, hEi, ⟨hmp, hms, hmn, hmm, hmc⟩⟩ := id hB
  have tail : ∀ ls : Array Slot, lv_has ls 5 [(0, .ref (E 0)), (1, .int x0), (2, .int n0), (3, .int f), (4, .int t)] → W p l e ({ frames := 1, cells := 0, slots := 0, locals := 23 }) s m [.ref (E 0), .int x0, .int n0, .int f, .int t].toArray below meth c s.heap [] 0 0 (MQ below (z_Qw (fun r H => r = none ∧ z_Md (dC, dI) cI H E 0 mp ms mc (mn + 1) mm (va_up (va_up (va_up (va_up gv 9 (upd (gv 9) mn x0)) 10 (upd (gv 10) mn n0)) 11 (upd (gv 11) mn f)) 12 (upd (gv 12) mn t))) (z_fr (z_mF E) s.heap.size)) [.ref (E 0), .int x0, .int n0, .int f, .int t].toArray s 0 0 (z_fr (z_mF E) s.heap.size)) (F0 m 50 ls [.int (pi_b (decide (mn < 40))), .int (pi_b (pm_day f && (pm_day t && (decide (f ≤ t) && decide (0 ≤ n0))))), .int (pi_b (pm_idx mp x0)), .ref (E 0)]) := by
    intro ls hl
    refine z_wrV (n := 3) (C := R_M) (rest := []) ⟨hx, hb, hml, hown, hts⟩ hW0 (c_M_goes G E th mp ms mc mn mm gv _ (pm_idx mp x0) (pm_day f && (pm_day t && (decide (f ≤ t) && decide (0 ≤ n0)))) (decide (mn < 40))) w_625 w_622 w_624 wp_19 w_4 (by decide +kernel) ⟨rfl, rfl, Nat.le_of_ble_eq_true rfl, Nat.le_of_ble_eq_true rfl⟩ (hE0.recv hK rfl) ⟨rfl, hB⟩ rfl rfl hl.1 (Nat.le_of_ble_eq_true rfl) d_M_name_50 ⟨Nat.le_of_ble_eq_true rfl, Nat.le_of_ble_eq_true rfl⟩ hS (fun q h => h.elim Or.inl (fun h => Or.inr (Nat.le_trans hS.1 h))) (fun H1 locs1 hB hz1 hk1 hS => ?_)
    obtain ⟨⟨hE0, hGA⟩, hEi, ⟨hmp, hms, hmn, hmm, hmc⟩⟩ := id hB
    refine z_topi (y := 1) (by rw [hg]; rfl) ?_
    rw [pm_th_ok hg] at hB
    obtain ⟨⟨hE0, hGA⟩, hEi, ⟨hmp, hms, hmn, hmm, hmc⟩⟩ := id hB
    refine lv_if_eq (tgt := 107) hx hb d_M_name_53 (by decide) (fun c_1 => ?_) (fun c_1 => ?_)
    · skip
      exact absurd c_1 (by decide)
    · skip
      refine lv_aload_n hx hb d_M_name_56 rfl (lv_at hl 0 rfl) ?_
      refine va_get (D := (dC, dI)) (ci := 4) (v := .ref (E 10)) (C := R_M) (T := T_M) (N := 23) hx hb hts in_M hown hK hE0.P 0 rfl rfl 14 (by decide) (hts _ w_554) (fun _ h9 => h9) rfl d_M_name_57 ?_
      refine lv_aload_n hx hb d_M_name_60 rfl (lv_at hl 0 rfl) ?_
      refine va_get (D := (dC, dI)) (ci := 4) (v := .int (nI mn)) (C := R_M) (T := T_M) (N := 23) hx hb hts in_M hown hK hE0.P 0 rfl rfl 13 (by decide) (hts _ w_553) (fun _ h9 => h9) rfl d_M_name_61 ?_
      refine lv_iload_n hx hb d_M_name_64 rfl (lv_at hl 1 rfl) ?_
      refine z_iast (k := mn) hx hb hAI (show z_A cI _ (E 10) 40 (gv 9) from hGA 9 (by omega)) hS (Or.inl ⟨10, by omega, rfl⟩) (by omega) (by decide) d_M_name_65 (fun H1 locs1 hz1 hA1 ho1 hS => ?_)
      have hB : z_Md (dC, dI) cI H1 E 0 mp ms mc mn mm (va_up gv 9 (upd (gv 9) mn x0)) := z_Md.store hB (k := 9) (by omega) hA1 ho1
      obtain ⟨⟨hE0, hGA⟩, hEi, ⟨hmp, hms, hmn, hmm, hmc⟩⟩ := id hB
      refine lv_aload_n hx hb d_M_name_66 rfl (lv_at hl 0 rfl) ?_
      refine va_get (D := (dC, dI)) (ci := 4) (v := .ref (E 11)) (C := R_M) (T := T_M) (N := 23) hx hb hts in_M hown hK hE0.P 0 rfl rfl 15 (by decide) (hts _ w_555) (fun _ h9 => h9) rfl d_M_name_67 ?_
      refine lv_aload_n hx hb d_M_name_70 rfl (lv_at hl 0 rfl) ?_
      refine va_get (D := (dC, dI)) (ci := 4) (v := .int (nI mn)) (C := R_M) (T := T_M) (N := 23) hx hb hts in_M hown hK hE0.P 0 rfl rfl 13 (by decide) (hts _ w_553) (fun _ h9 => h9) rfl d_M_name_71 ?_
      refine lv_iload_n hx hb d_M_name_74 rfl (lv_at hl 2 rfl) ?_
      refine z_iast (k := mn) hx hb hAI (show z_A cI _ (E 11) 40 (gv 10) from hGA 10 (by omega)) hS (Or.inl ⟨11, by omega, rfl⟩) (by omega) (by decide) d_M_name_75 (fun H1 locs1 hz1 hA1 ho1 hS => ?_)
      have hB : z_Md (dC, dI) cI H1 E 0 mp ms mc mn mm (va_up (va_up gv 9 (upd (gv 9) mn x0)) 10 (upd (gv 10) mn n0)) := z_Md.store hB (k := 10) (by omega) hA1 ho1
      obtain ⟨⟨hE0, hGA⟩, hEi, ⟨hmp, hms, hmn, hmm, hmc⟩⟩ := id hB
      refine lv_aload_n hx hb d_M_name_76 rfl (lv_at hl 0 rfl) ?_
      refine va_get (D := (dC, dI)) (ci := 4) (v := .ref (E 12)) (C := R_M) (T := T_M) (N := 23) hx hb hts in_M hown hK hE0.P 0 rfl rfl 16 (by decide) (hts _ w_556) (fun _ h9 => h9) rfl d_M_name_77 ?_
      refine lv_aload_n hx hb d_M_name_80 rfl (lv_at hl 0 rfl) ?_
      refine va_get (D := (dC, dI)) (ci := 4) (v := .int (nI mn)) (C := R_M) (T := T_M) (N := 23) hx hb hts in_M hown hK hE0.P 0 rfl rfl 13 (by decide) (hts _ w_553) (fun _ h9 => h9) rfl d_M_name_81 ?_
      refine lv_iload_n hx hb d_M_name_84 rfl (lv_at hl 3 rfl) ?_
      refine z_iast (k := mn) hx hb hAI (show z_A cI _ (E 12) 40 (gv 11) from hGA 11 (by omega)) hS (Or.inl ⟨12, by omega, rfl⟩) (by omega) (by decide) d_M_name_85 (fun H1 locs1 hz1 hA1 ho1 hS => ?_)
      have hB : z_Md (dC, dI) cI H1 E 0 mp ms mc mn mm (va_up (va_up (va_up gv 9 (upd (gv 9) mn x0)) 10 (upd (gv 10) mn n0)) 11 (upd (gv 11) mn f)) := z_Md.store hB (k := 11) (by omega) hA1 ho1
      obtain ⟨⟨hE0, hGA⟩, hEi, ⟨hmp, hms, hmn, hmm, hmc⟩⟩ := id hB
      refine lv_aload_n hx hb d_M_name_86 rfl (lv_at hl 0 rfl) ?_
      refine va_get (D := (dC, dI)) (ci := 4) (v := .ref (E 13)) (C := R_M) (T := T_M) (N := 23) hx hb hts in_M hown hK hE0.P 0 rfl rfl 17 (by decide) (hts _ w_557) (fun _ h9 => h9) rfl d_M_name_87 ?_
      refine lv_aload_n hx hb d_M_name_90 rfl (lv_at hl 0 rfl) ?_
      refine va_get (D := (dC, dI)) (ci := 4) (v := .int (nI mn)) (C := R_M) (T := T_M) (N := 23) hx hb hts in_M hown hK hE0.P 0 rfl rfl 13 (by decide) (hts _ w_553) (fun _ h9 => h9) rfl d_M_name_91 ?_
      refine lv_iload hx hb d_M_name_94 (lv_at hl 4 rfl) ?_
      refine z_iast (k := mn) hx hb hAI (show z_A cI _ (E 13) 40 (gv 12) from hGA 12 (by omega)) hS (Or.inl ⟨13, by omega, rfl⟩) (by omega) (by decide) d_M_name_96 (fun H1 locs1 hz1 hA1 ho1 hS => ?_)
      have hB : z_Md (dC, dI) cI H1 E 0 mp ms mc mn mm (va_up (va_up (va_up (va_up gv 9 (upd (gv 9) mn x0)) 10 (upd (gv 10) mn n0)) 11 (upd (gv 11) mn f)) 12 (upd (gv 12) mn t)) := z_Md.store hB (k := 12) (by omega) hA1 ho1
      obtain ⟨⟨hE0, hGA⟩, hEi, ⟨hmp, hms, hmn, hmm, hmc⟩⟩ := id hB
      refine lv_aload_n hx hb d_M_name_97 rfl (lv_at hl 0 rfl) ?_
      refine lv_dup hx hb d_M_name_98 rfl ?_
      refine va_get (D := (dC, dI)) (ci := 4) (v := .int (nI mn)) (C := R_M) (T := T_M) (N := 23) hx hb hts in_M hown hK hE0.P 0 rfl rfl 13 (by decide) (hts _ w_553) (fun _ h9 => h9) rfl d_M_name_99 ?_
      refine lv_iconst (v := 1) hx hb d_M_name_102 (by decide) ?_
      refine lv_iadd hx hb d_M_name_103 ?_
      refine z_topi (y := nI (mn + 1)) (nI_add mn 1) ?_
      refine z_put (D := (dC, dI)) (ci := 4) (v := .int (nI (mn + 1))) (ty := .int) (C := R_M) (T := T_M) (N := 23) hx hb hts in_M t_M t_M_ok nm_M hown hK hE0 hS (Or.inl ⟨0, by omega, rfl⟩) rfl 13 (by decide) (hts _ w_553) (fun _ h9 => h9) rfl (by decide +kernel) rfl rfl (Nat.le_of_ble_eq_true rfl) d_M_name_104 (fun H1 locs1 hz1 hO1 ho1 hS => ?_)
      have hB : z_Md (dC, dI) cI H1 E 0 mp ms mc (mn + 1) mm (va_up (va_up (va_up (va_up gv 9 (upd (gv 9) mn x0)) 10 (upd (gv 10) mn n0)) 11 (upd (gv 11) mn f)) 12 (upd (gv 12) mn t)) := z_Md.put hB (show z_O (dC, dI) H1 (E 0) 4 (z_mfs E 0 mp ms mc (mn + 1) mm) from hO1) ho1 ⟨by omega, by omega, by omega, by omega, by omega⟩
      obtain ⟨⟨hE0, hGA⟩, hEi, ⟨hmp, hms, hmn, hmm, hmc⟩⟩ := id hB
      exact z_wv hx hb hr hlocks (⟨rfl, hB⟩) hS d_M_name_107
  refine lv_aload_n hx hb d_M_name_0 rfl (lv_at hl 0 rfl) ?_
  refine lv_aload_n hx hb d_M_name_1 rfl (lv_at hl 0 rfl) ?_
  refine lv_iload_n hx hb d_M_name_2 rfl (lv_at hl 1 rfl) ?_
  refine z_rdV (n := 1) (C := R_M) (rest := [.ref (E 0)]) ⟨hx, hb, hml, hown, hts⟩ hW0 (c_M_isPlace G E th mp ms mc mn mm gv x0) w_621 w_618 w_620 wp_18 w_4 (by decide +kernel) ⟨rfl, rfl, Nat.le_of_ble_eq_true rfl, Nat.le_of_ble_eq_true rfl⟩ (hE0.recv hK rfl) (hB) rfl rfl hl.1 (Nat.le_of_ble_eq_true rfl) d_M_name_3 ⟨Nat.zero_le _, Nat.zero_le _⟩ ?_
  refine lv_iload_n hx hb d_M_name_6 rfl (lv_at hl 3 rfl) ?_
  refine z_rdS (n := 1) (rest := [.int (pi_b (pm_idx mp x0)), .ref (E 0)]) ⟨hx, hb, hml, hown, hts⟩ hW0 (c_M_isDay G f) w_632 w_630 w_631 w_4 (by decide +kernel) ⟨rfl, rfl, Nat.le_of_ble_eq_true rfl, Nat.le_of_ble_eq_true rfl⟩ (trivial) rfl rfl hl.1 (Nat.le_of_ble_eq_true rfl) d_M_name_7 ⟨Nat.zero_le _, Nat.zero_le _⟩ ?_
  refine lv_if_eq (tgt := 35) hx hb d_M_name_10 (by decide) (fun c_2 => ?_) (fun c_2 => ?_)
  · skip
    have c_2 : (pm_day f) = false := pi_b_0.mp c_2
    refine lv_iconst (v := 0) hx hb d_M_name_35 (by decide) ?_
    refine lv_aload_n hx hb d_M_name_36 rfl (lv_at hl 0 rfl) ?_
    refine va_get (D := (dC, dI)) (ci := 4) (v := .int (nI mn)) (C := R_M) (T := T_M) (N := 23) hx hb hts in_M hown hK hE0.P 0 rfl rfl 13 (by decide) (hts _ w_553) (fun _ h9 => h9) rfl d_M_name_37 ?_
    refine lv_bipush (v := 40) hx hb d_M_name_40 (by decide) ?_
    refine lv_icmp_ge (tgt := 49) hx hb d_M_name_42 (by decide) (fun c_3 => ?_) (fun c_3 => ?_)
    · skip
      have c_3 : 40 ≤ mn := (nI_leI (a := 40) (b := mn) (by omega) (by omega)).mp c_3
      refine lv_iconst (v := 0) hx hb d_M_name_49 (by decide) ?_
      refine z_g3 (w1 := pi_b (pm_idx mp x0)) (w2 := pi_b (pm_day f && (pm_day t && (decide (f ≤ t) && decide (0 ≤ n0))))) (w3 := pi_b (decide (mn < 40))) (by simp [pi_b, c_2, c_3]) (by simp [pi_b, c_2, c_3]) (rfl) ?_
      exact tail ls (lv_sub hl [0, 1, 2, 3, 4] rfl)
    · skip
      have c_3 : ¬ (40 ≤ mn) := fun h => c_3 ((nI_leI (a := 40) (b := mn) (by omega) (by omega)).mpr h)
      refine lv_iconst (v := 1) hx hb d_M_name_45 (by decide) ?_
      refine lv_goto (tgt := 50) hx hb d_M_name_46 (by decide) ?_
      refine z_g3 (w1 := pi_b (pm_idx mp x0)) (w2 := pi_b (pm_day f && (pm_day t && (decide (f ≤ t) && decide (0 ≤ n0))))) (w3 := pi_b (decide (mn < 40))) (by simp [pi_b, c_2, c_3]) (by simp [pi_b, c_2, c_3]) (rfl) ?_
      exact tail ls (lv_sub hl [0, 1, 2, 3, 4] rfl)
  · skip
    have c_2 : (pm_day f) = true := pi_b_1.mp c_2
    refine lv_iload hx hb d_M_name_13 (lv_at hl 4 rfl) ?_
    refine z_rdS (n := 1) (rest := [.int (pi_b (pm_idx mp x0)), .ref (E 0)]) ⟨hx, hb, hml, hown, hts⟩ hW0 (c_M_isDay G t) w_632 w_630 w_631 w_4 (by decide +kernel) ⟨rfl, rfl, Nat.le_of_ble_eq_true rfl, Nat.le_of_ble_eq_true rfl⟩ (trivial) rfl rfl hl.1 (Nat.le_of_ble_eq_true rfl) d_M_name_15 ⟨Nat.zero_le _, Nat.zero_le _⟩ ?_
    refine lv_if_eq (tgt := 35) hx hb d_M_name_18 (by decide) (fun c_4 => ?_) (fun c_4 => ?_)
    · skip
      have c_4 : (pm_day t) = false := pi_b_0.mp c_4
      refine lv_iconst (v := 0) hx hb d_M_name_35 (by decide) ?_
      refine lv_aload_n hx hb d_M_name_36 rfl (lv_at hl 0 rfl) ?_
      refine va_get (D := (dC, dI)) (ci := 4) (v := .int (nI mn)) (C := R_M) (T := T_M) (N := 23) hx hb hts in_M hown hK hE0.P 0 rfl rfl 13 (by decide) (hts _ w_553) (fun _ h9 => h9) rfl d_M_name_37 ?_
      refine lv_bipush (v := 40) hx hb d_M_name_40 (by decide) ?_
      refine lv_icmp_ge (tgt := 49) hx hb d_M_name_42 (by decide) (fun c_5 => ?_) (fun c_5 => ?_)
      · skip
        have c_5 : 40 ≤ mn := (nI_leI (a := 40) (b := mn) (by omega) (by omega)).mp c_5
        refine lv_iconst (v := 0) hx hb d_M_name_49 (by decide) ?_
        refine z_g3 (w1 := pi_b (pm_idx mp x0)) (w2 := pi_b (pm_day f && (pm_day t && (decide (f ≤ t) && decide (0 ≤ n0))))) (w3 := pi_b (decide (mn < 40))) (by simp [pi_b, c_2, c_4, c_5]) (by simp [pi_b, c_2, c_4, c_5]) (rfl) ?_
        exact tail ls (lv_sub hl [0, 1, 2, 3, 4] rfl)
      · skip
        have c_5 : ¬ (40 ≤ mn) := fun h => c_5 ((nI_leI (a := 40) (b := mn) (by omega) (by omega)).mpr h)
        refine lv_iconst (v := 1) hx hb d_M_name_45 (by decide) ?_
        refine lv_goto (tgt := 50) hx hb d_M_name_46 (by decide) ?_
        refine z_g3 (w1 := pi_b (pm_idx mp x0)) (w2 := pi_b (pm_day f && (pm_day t && (decide (f ≤ t) && decide (0 ≤ n0))))) (w3 := pi_b (decide (mn < 40))) (by simp [pi_b, c_2, c_4, c_5]) (by simp [pi_b, c_2, c_4, c_5]) (rfl) ?_
        exact tail ls (lv_sub hl [0, 1, 2, 3, 4] rfl)
    · skip
      have c_4 : (pm_day t) = true := pi_b_1.mp c_4
      refine lv_iload_n hx hb d_M_name_21 rfl (lv_at hl 3 rfl) ?_
      refine lv_iload hx hb d_M_name_22 (lv_at hl 4 rfl) ?_
      refine lv_icmp_gt (tgt := 35) hx hb d_M_name_24 (by decide) (fun c_6 => ?_) (fun c_6 => ?_)
      · skip
        have c_6' : ¬ (f ≤ t) := Int32.not_le.mpr c_6
        refine lv_iconst (v := 0) hx hb d_M_name_35 (by decide) ?_
        refine lv_aload_n hx hb d_M_name_36 rfl (lv_at hl 0 rfl) ?_
        refine va_get (D := (dC, dI)) (ci := 4) (v := .int (nI mn)) (C := R_M) (T := T_M) (N := 23) hx hb hts in_M hown hK hE0.P 0 rfl rfl 13 (by decide) (hts _ w_553) (fun _ h9 => h9) rfl d_M_name_37 ?_
        refine lv_bipush (v := 40) hx hb d_M_name_40 (by decide) ?_
        refine lv_icmp_ge (tgt := 49) hx hb d_M_name_42 (by decide) (fun c_7 => ?_) (fun c_7 => ?_)
        · skip
          have c_7 : 40 ≤ mn := (nI_leI (a := 40) (b := mn) (by omega) (by omega)).mp c_7
          refine lv_iconst (v := 0) hx hb d_M_name_49 (by decide) ?_
          refine z_g3 (w1 := pi_b (pm_idx mp x0)) (w2 := pi_b (pm_day f && (pm_day t && (decide (f ≤ t) && decide (0 ≤ n0))))) (w3 := pi_b (decide (mn < 40))) (by simp [pi_b, c_2, c_4, c_6, c_6', c_7]) (by simp [pi_b, c_2, c_4, c_6, c_6', c_7]) (rfl) ?_
          exact tail ls (lv_sub hl [0, 1, 2, 3, 4] rfl)
        · skip
          have c_7 : ¬ (40 ≤ mn) := fun h => c_7 ((nI_leI (a := 40) (b := mn) (by omega) (by omega)).mpr h)
          refine lv_iconst (v := 1) hx hb d_M_name_45 (by decide) ?_
          refine lv_goto (tgt := 50) hx hb d_M_name_46 (by decide) ?_
          refine z_g3 (w1 := pi_b (pm_idx mp x0)) (w2 := pi_b (pm_day f && (pm_day t && (decide (f ≤ t) && decide (0 ≤ n0))))) (w3 := pi_b (decide (mn < 40))) (by simp [pi_b, c_2, c_4, c_6, c_6', c_7]) (by simp [pi_b, c_2, c_4, c_6, c_6', c_7]) (rfl) ?_
          exact tail ls (lv_sub hl [0, 1, 2, 3, 4] rfl)
      · skip
        have c_6' : f ≤ t := Int32.not_lt.mp c_6
        refine lv_iload_n hx hb d_M_name_27 rfl (lv_at hl 2 rfl) ?_
        refine lv_if_lt (tgt := 35) hx hb d_M_name_28 (by decide) (fun c_8 => ?_) (fun c_8 => ?_)
        · skip
          have c_8' : ¬ ((0 : Int32) ≤ n0) := Int32.not_le.mpr c_8
          refine lv_iconst (v := 0) hx hb d_M_name_35 (by decide) ?_
          refine lv_aload_n hx hb d_M_name_36 rfl (lv_at hl 0 rfl) ?_
          refine va_get (D := (dC, dI)) (ci := 4) (v := .int (nI mn)) (C := R_M) (T := T_M) (N := 23) hx hb hts in_M hown hK hE0.P 0 rfl rfl 13 (by decide) (hts _ w_553) (fun _ h9 => h9) rfl d_M_name_37 ?_
          refine lv_bipush (v := 40) hx hb d_M_name_40 (by decide) ?_
          refine lv_icmp_ge (tgt := 49) hx hb d_M_name_42 (by decide) (fun c_9 => ?_) (fun c_9 => ?_)
          · skip
            have c_9 : 40 ≤ mn := (nI_leI (a := 40) (b := mn) (by omega) (by omega)).mp c_9
            refine lv_iconst (v := 0) hx hb d_M_name_49 (by decide) ?_
            refine z_g3 (w1 := pi_b (pm_idx mp x0)) (w2 := pi_b (pm_day f && (pm_day t && (decide (f ≤ t) && decide (0 ≤ n0))))) (w3 := pi_b (decide (mn < 40))) (by simp [pi_b, c_2, c_4, c_6, c_6', c_8, c_8', c_9]) (by simp [pi_b, c_2, c_4, c_6, c_6', c_8, c_8', c_9]) (rfl) ?_
            exact tail ls (lv_sub hl [0, 1, 2, 3, 4] rfl)
          · skip
            have c_9 : ¬ (40 ≤ mn) := fun h => c_9 ((nI_leI (a := 40) (b := mn) (by omega) (by omega)).mpr h)
            refine lv_iconst (v := 1) hx hb d_M_name_45 (by decide) ?_
            refine lv_goto (tgt := 50) hx hb d_M_name_46 (by decide) ?_
            refine z_g3 (w1 := pi_b (pm_idx mp x0)) (w2 := pi_b (pm_day f && (pm_day t && (decide (f ≤ t) && decide (0 ≤ n0))))) (w3 := pi_b (decide (mn < 40))) (by simp [pi_b, c_2, c_4, c_6, c_6', c_8, c_8', c_9]) (by simp [pi_b, c_2, c_4, c_6, c_6', c_8, c_8', c_9]) (rfl) ?_
            exact tail ls (lv_sub hl [0, 1, 2, 3, 4] rfl)
        · skip
          have c_8' : (0 : Int32) ≤ n0 := Int32.not_lt.mp c_8
          refine lv_iconst (v := 1) hx hb d_M_name_31 (by decide) ?_
          refine lv_goto (tgt := 36) hx hb d_M_name_32 (by decide) ?_
          refine lv_aload_n hx hb d_M_name_36 rfl (lv_at hl 0 rfl) ?_
          refine va_get (D := (dC, dI)) (ci := 4) (v := .int (nI mn)) (C := R_M) (T := T_M) (N := 23) hx hb hts in_M hown hK hE0.P 0 rfl rfl 13 (by decide) (hts _ w_553) (fun _ h9 => h9) rfl d_M_name_37 ?_
          refine lv_bipush (v := 40) hx hb d_M_name_40 (by decide) ?_
          refine lv_icmp_ge (tgt := 49) hx hb d_M_name_42 (by decide) (fun c_10 => ?_) (fun c_10 => ?_)
          · skip
            have c_10 : 40 ≤ mn := (nI_leI (a := 40) (b := mn) (by omega) (by omega)).mp c_10
            refine lv_iconst (v := 0) hx hb d_M_name_49 (by decide) ?_
            refine z_g3 (w1 := pi_b (pm_idx mp x0)) (w2 := pi_b (pm_day f && (pm_day t && (decide (f ≤ t) && decide (0 ≤ n0))))) (w3 := pi_b (decide (mn < 40))) (by simp [pi_b, c_2, c_4, c_6, c_6', c_8, c_8', c_10]) (by simp [pi_b, c_2, c_4, c_6, c_6', c_8, c_8', c_10]) (rfl) ?_
            exact tail ls (lv_sub hl [0, 1, 2, 3, 4] rfl)
          · skip
            have c_10 : ¬ (40 ≤ mn) := fun h => c_10 ((nI_leI (a := 40) (b := mn) (by omega) (by omega)).mpr h)
            refine lv_iconst (v := 1) hx hb d_M_name_45 (by decide) ?_
            refine lv_goto (tgt := 50) hx hb d_M_name_46 (by decide) ?_
            refine z_g3 (w1 := pi_b (pm_idx mp x0)) (w2 := pi_b (pm_day f && (pm_day t && (decide (f ≤ t) && decide (0 ≤ n0))))) (w3 := pi_b (decide (mn < 40))) (by simp [pi_b, c_2, c_4, c_6, c_6', c_8, c_8', c_10]) (by simp [pi_b, c_2, c_4, c_6, c_6', c_8, c_8', c_10]) (rfl) ?_
            exact tail ls (lv_sub hl [0, 1, 2, 3, 4] rfl)
set_option maxRecDepth 100000 in
set_option maxHeartbeats 4000000 in
theorem c_M_mark_no (G : z_G s0 (dC, dI) cI cS) (E : Nat → Nat) (th : Int32) (mp ms mc mn mm : Nat) (gv : Nat → Nat → Int32) (sz : Nat) (x y u v : Int32) (hg : ((pm_pt x y && pm_pt u v) && ((decide (mm < 12)) && true)) = false) : Met l y_M_mark [Cond.code y_M_mark b_M_mark 5 (some .int)] ({ frames := 1, cells := 0, slots := 0, locals := 23 }) (z_Pc s0 [.ref (E 0), .int x, .int y, .int u, .int v] (fun H => H.size = sz ∧ z_Md (dC, dI) cI H E th mp ms mc mn mm gv)) (z_Qw (fun r H => r = some (.int 0) ∧ z_Md (dC, dI) cI H E (pm_th (pm_pt x y && pm_pt u v) (decide (mm < 12)) true) mp ms mc mn mm gv) (z_fr (z_mF E) sz)) 0 0 (z_fr (z_mF E) sz) := by
  refine z_ofW (by decide +kernel) (Nat.le_of_ble_eq_true rfl) ?_
  intro p e s m below meth c hx hb hml hr hown hlocks hnm hW0 hB ls hl
  have hts := z_hts (args := [.ref (E 0), .int x, .int y, .int u, .int v].toArray) G.1 hW0
  have hN := z_nstW G.2.1 hW0
  have hK := va_K.moved hW0.alike G.2.2.1
  have hAI := arrOfT_moved hW0.alike G.2.2.2.1
  have hl : lv_has ls 5 [(0, .ref (E 0)), (1, .int x), (2, .int y), (3, .int u), (4, .int v)] := hl
  obtain ⟨rfl, hB⟩ := hB
  have hS : va_S (z_fr (z_mF E) s.heap.size) s.heap s.heap [] := va_S.rf
  obtain ⟨⟨hE0, hGA⟩, hEi, ⟨hmp, hms, hmn, hmm, hmc⟩⟩ := id hB
  have tail : ∀ ls : Array Slot, lv_has ls 5 [(0, .ref (E 0)), (1, .int x), (2, .int y), (3, .int u), (4, .int v)] → W p l e ({ frames := 1, cells := 0, slots := 0, locals := 23 }) s m [.ref (E 0), .int x, .int y, .int u, .int v].toArray below meth c s.heap [] 0 0 (MQ below (z_Qw (fun r H => r = some (.int 0) ∧ z_Md (dC, dI) cI H E (pm_th (pm_pt x y && pm_pt u v) (decide (mm < 12)) true) mp ms mc mn mm gv) (z_fr (z_mF E) s.heap.size)) [.ref (E 0), .int x, .int y, .int u, .int v].toArray s 0 0 (z_fr (z_mF E) s.heap.size)) (F0 m 38 ls [.int (pi_b true), .int (pi_b (decide (mm < 12))), .int (pi_b (pm_pt x y && pm_pt u v)), .ref (E 0)]) := by
    intro ls hl
    refine z_wrV (n := 3) (C := R_M) (rest := []) ⟨hx, hb, hml, hown, hts⟩ hW0 (c_M_goes G E th mp ms mc mn mm gv _ (pm_pt x y && pm_pt u v) (decide (mm < 12)) true) w_625 w_622 w_624 wp_19 w_4 (by decide +kernel) ⟨rfl, rfl, Nat.le_of_ble_eq_true rfl, Nat.le_of_ble_eq_true rfl⟩ (hE0.recv hK rfl) ⟨rfl, hB⟩ rfl rfl hl.1 (Nat.le_of_ble_eq_true rfl) d_M_mark_38 ⟨Nat.le_of_ble_eq_true rfl, Nat.le_of_ble_eq_true rfl⟩ hS (fun q h => h.elim Or.inl (fun h => Or.inr (Nat.le_trans hS.1 h))) (fun H1 locs1 hB hz1 hk1 hS => ?_)
    obtain ⟨⟨hE0, hGA⟩, hEi, ⟨hmp, hms, hmn, hmm, hmc⟩⟩ := id hB
    refine z_topi (y := 0) (by rw [hg]; rfl) ?_
    refine lv_if_ne (tgt := 46) hx hb d_M_mark_41 (by decide) (fun c_1 => ?_) (fun c_1 => ?_)
    · skip
      exact absurd (by decide) c_1
    · skip
      refine lv_iconst (v := 0) hx hb d_M_mark_44 (by decide) ?_
      exact z_wi hx hb hr hlocks (⟨rfl, hB⟩) hS d_M_mark_45
  refine lv_aload_n hx hb d_M_mark_0 rfl (lv_at hl 0 rfl) ?_
  refine lv_iload_n hx hb d_M_mark_1 rfl (lv_at hl 1 rfl) ?_
  refine lv_iload_n hx hb d_M_mark_2 rfl (lv_at hl 2 rfl) ?_
  refine z_rdS (n := 2) (rest := [.ref (E 0)]) ⟨hx, hb, hml, hown, hts⟩ hW0 (c_M_isPoint G x y) w_644 w_642 w_643 w_4 (by decide +kernel) ⟨rfl, rfl, Nat.le_of_ble_eq_true rfl, Nat.le_of_ble_eq_true rfl⟩ (trivial) rfl rfl hl.1 (Nat.le_of_ble_eq_true rfl) d_M_mark_3 ⟨Nat.zero_le _, Nat.zero_le _⟩ ?_
  refine lv_if_eq (tgt := 22) hx hb d_M_mark_6 (by decide) (fun c_2 => ?_) (fun c_2 => ?_)
  · skip
    have c_2 : (pm_pt x y) = false := pi_b_0.mp c_2
    refine lv_iconst (v := 0) hx hb d_M_mark_22 (by decide) ?_
    refine lv_aload_n hx hb d_M_mark_23 rfl (lv_at hl 0 rfl) ?_
    refine va_get (D := (dC, dI)) (ci := 4) (v := .int (nI mm)) (C := R_M) (T := T_M) (N := 23) hx hb hts in_M hown hK hE0.P 0 rfl rfl 18 (by decide) (hts _ w_558) (fun _ h9 => h9) rfl d_M_mark_24 ?_
    refine lv_bipush (v := 12) hx hb d_M_mark_27 (by decide) ?_
    refine lv_icmp_ge (tgt := 36) hx hb d_M_mark_29 (by decide) (fun c_3 => ?_) (fun c_3 => ?_)
    · skip
      have c_3 : 12 ≤ mm := (nI_leI (a := 12) (b := mm) (by omega) (by omega)).mp c_3
      refine lv_iconst (v := 0) hx hb d_M_mark_36 (by decide) ?_
      refine lv_iconst (v := 1) hx hb d_M_mark_37 (by decide) ?_
      refine z_g3 (w1 := pi_b (pm_pt x y && pm_pt u v)) (w2 := pi_b (decide (mm < 12))) (w3 := pi_b true) (rfl) (by simp [pi_b, c_2, c_3]) (by simp [pi_b, c_2, c_3]) ?_
      exact tail ls (lv_sub hl [0, 1, 2, 3, 4] rfl)
    · skip
      have c_3 : ¬ (12 ≤ mm) := fun h => c_3 ((nI_leI (a := 12) (b := mm) (by omega) (by omega)).mpr h)
      refine lv_iconst (v := 1) hx hb d_M_mark_32 (by decide) ?_
      refine lv_goto (tgt := 37) hx hb d_M_mark_33 (by decide) ?_
      refine lv_iconst (v := 1) hx hb d_M_mark_37 (by decide) ?_
      refine z_g3 (w1 := pi_b (pm_pt x y && pm_pt u v)) (w2 := pi_b (decide (mm < 12))) (w3 := pi_b true) (rfl) (by simp [pi_b, c_2, c_3]) (by simp [pi_b, c_2, c_3]) ?_
      exact tail ls (lv_sub hl [0, 1, 2, 3, 4] rfl)
  · skip
    have c_2 : (pm_pt x y) = true := pi_b_1.mp c_2
    refine lv_iload_n hx hb d_M_mark_9 rfl (lv_at hl 3 rfl) ?_
    refine lv_iload hx hb d_M_mark_10 (lv_at hl 4 rfl) ?_
    refine z_rdS (n := 2) (rest := [.ref (E 0)]) ⟨hx, hb, hml, hown, hts⟩ hW0 (c_M_isPoint G u v) w_644 w_642 w_643 w_4 (by decide +kernel) ⟨rfl, rfl, Nat.le_of_ble_eq_true rfl, Nat.le_of_ble_eq_true rfl⟩ (trivial) rfl rfl hl.1 (Nat.le_of_ble_eq_true rfl) d_M_mark_12 ⟨Nat.zero_le _, Nat.zero_le _⟩ ?_
    refine lv_if_eq (tgt := 22) hx hb d_M_mark_15 (by decide) (fun c_4 => ?_) (fun c_4 => ?_)
    · skip
      have c_4 : (pm_pt u v) = false := pi_b_0.mp c_4
      refine lv_iconst (v := 0) hx hb d_M_mark_22 (by decide) ?_
      refine lv_aload_n hx hb d_M_mark_23 rfl (lv_at hl 0 rfl) ?_
      refine va_get (D := (dC, dI)) (ci := 4) (v := .int (nI mm)) (C := R_M) (T := T_M) (N := 23) hx hb hts in_M hown hK hE0.P 0 rfl rfl 18 (by decide) (hts _ w_558) (fun _ h9 => h9) rfl d_M_mark_24 ?_
      refine lv_bipush (v := 12) hx hb d_M_mark_27 (by decide) ?_
      refine lv_icmp_ge (tgt := 36) hx hb d_M_mark_29 (by decide) (fun c_5 => ?_) (fun c_5 => ?_)
      · skip
        have c_5 : 12 ≤ mm := (nI_leI (a := 12) (b := mm) (by omega) (by omega)).mp c_5
        refine lv_iconst (v := 0) hx hb d_M_mark_36 (by decide) ?_
        refine lv_iconst (v := 1) hx hb d_M_mark_37 (by decide) ?_
        refine z_g3 (w1 := pi_b (pm_pt x y && pm_pt u v)) (w2 := pi_b (decide (mm < 12))) (w3 := pi_b true) (rfl) (by simp [pi_b, c_2, c_4, c_5]) (by simp [pi_b, c_2, c_4, c_5]) ?_
        exact tail ls (lv_sub hl [0, 1, 2, 3, 4] rfl)
      · skip
        have c_5 : ¬ (12 ≤ mm) := fun h => c_5 ((nI_leI (a := 12) (b := mm) (by omega) (by omega)).mpr h)
        refine lv_iconst (v := 1) hx hb d_M_mark_32 (by decide) ?_
        refine lv_goto (tgt := 37) hx hb d_M_mark_33 (by decide) ?_
        refine lv_iconst (v := 1) hx hb d_M_mark_37 (by decide) ?_
        refine z_g3 (w1 := pi_b (pm_pt x y && pm_pt u v)) (w2 := pi_b (decide (mm < 12))) (w3 := pi_b true) (rfl) (by simp [pi_b, c_2, c_4, c_5]) (by simp [pi_b, c_2, c_4, c_5]) ?_
        exact tail ls (lv_sub hl [0, 1, 2, 3, 4] rfl)
    · skip
      have c_4 : (pm_pt u v) = true := pi_b_1.mp c_4
      refine lv_iconst (v := 1) hx hb d_M_mark_18 (by decide) ?_
      refine lv_goto (tgt := 23) hx hb d_M_mark_19 (by decide) ?_
      refine lv_aload_n hx hb d_M_mark_23 rfl (lv_at hl 0 rfl) ?_
      refine va_get (D := (dC, dI)) (ci := 4) (v := .int (nI mm)) (C := R_M) (T := T_M) (N := 23) hx hb hts in_M hown hK hE0.P 0 rfl rfl 18 (by decide) (hts _ w_558) (fun _ h9 => h9) rfl d_M_mark_24 ?_
      refine lv_bipush (v := 12) hx hb d_M_mark_27 (by decide) ?_
      refine lv_icmp_ge (tgt := 36) hx hb d_M_mark_29 (by decide) (fun c_6 => ?_) (fun c_6 => ?_)
      · skip
        have c_6 : 12 ≤ mm := (nI_leI (a := 12) (b := mm) (by omega) (by omega)).mp c_6
        refine lv_iconst (v := 0) hx hb d_M_mark_36 (by decide) ?_
        refine lv_iconst (v := 1) hx hb d_M_mark_37 (by decide) ?_
        refine z_g3 (w1 := pi_b (pm_pt x y && pm_pt u v)) (w2 := pi_b (decide (mm < 12))) (w3 := pi_b true) (rfl) (by simp [pi_b, c_2, c_4, c_6]) (by simp [pi_b, c_2, c_4, c_6]) ?_
        exact tail ls (lv_sub hl [0, 1, 2, 3, 4] rfl)
      · skip
        have c_6 : ¬ (12 ≤ mm) := fun h => c_6 ((nI_leI (a := 12) (b := mm) (by omega) (by omega)).mpr h)
        refine lv_iconst (v := 1) hx hb d_M_mark_32 (by decide) ?_
        refine lv_goto (tgt := 37) hx hb d_M_mark_33 (by decide) ?_
        refine lv_iconst (v := 1) hx hb d_M_mark_37 (by decide) ?_
        refine z_g3 (w1 := pi_b (pm_pt x y && pm_pt u v)) (w2 := pi_b (decide (mm < 12))) (w3 := pi_b true) (rfl) (by simp [pi_b, c_2, c_4, c_6]) (by simp [pi_b, c_2, c_4, c_6]) ?_
        exact tail ls (lv_sub hl [0, 1, 2, 3, 4] rfl)
set_option maxRecDepth 100000 in
set_option maxHeartbeats 4000000 in
theorem c_M_mark_ok (G : z_G s0 (dC, dI) cI cS) (E : Nat → Nat) (th : Int32) (mp ms mc mn mm : Nat) (gv : Nat → Nat → Int32) (sz : Nat) (x y u v : Int32) (hlt : mm < 12) (hg : ((pm_pt x y && pm_pt u v) && ((decide (mm < 12)) && true)) = true) : Met l y_M_mark [Cond.code y_M_mark b_M_mark 5 (some .int)] ({ frames := 1, cells := 0, slots := 0, locals := 23 }) (z_Pc s0 [.ref (E 0), .int x, .int y, .int u, .int v] (fun H => H.size = sz ∧ z_Md (dC, dI) cI H E th mp ms mc mn mm gv)) (z_Qw (fun r H => r = some (.int (nI mm)) ∧ z_Md (dC, dI) cI H E 0 mp ms mc mn (mm + 1) (va_up (va_up (va_up (va_up gv 13 (upd (gv 13) mm x)) 14 (upd (gv 14) mm y)) 15 (upd (gv 15) mm u)) 16 (upd (gv 16) mm v))) (z_fr (z_mF E) sz)) 0 0 (z_fr (z_mF E) sz) := by
  refine z_ofW (by decide +kernel) (Nat.le_of_ble_eq_true rfl) ?_
  intro p e s m below meth c hx hb hml hr hown hlocks hnm hW0 hB ls hl
  have hts := z_hts (args := [.ref (E 0), .int x, .int y, .int u, .int v].toArray) G.1 hW0
  have hN := z_nstW G.2.1 hW0
  have hK := va_K.moved hW0.alike G.2.2.1
  have hAI := arrOfT_moved hW0.alike G.2.2.2.1
  have hl : lv_has ls 5 [(0, .ref (E 0)), (1, .int x), (2, .int y), (3, .int u), (4, .int v)] := hl
  obtain ⟨rfl, hB⟩ := hB
  have hS : va_S (z_fr (z_mF E) s.heap.size) s.heap s.heap [] := va_S.rf
  obtain ⟨⟨hE0, hGA⟩, hEi, ⟨hmp, hms, hmn, hmm, hmc⟩⟩ := id hB
  have tail : ∀ ls : Array Slot, lv_has ls 5 [(0, .ref (E 0)), (1, .int x), (2, .int y), (3, .int u), (4, .int v)] → W p l e ({ frames := 1, cells := 0, slots := 0, locals := 23 }) s m [.ref (E 0), .int x, .int y, .int u, .int v].toArray below meth c s.heap [] 0 0 (MQ below (z_Qw (fun r H => r = some (.int (nI mm)) ∧ z_Md (dC, dI) cI H E 0 mp ms mc mn (mm + 1) (va_up (va_up (va_up (va_up gv 13 (upd (gv 13) mm x)) 14 (upd (gv 14) mm y)) 15 (upd (gv 15) mm u)) 16 (upd (gv 16) mm v))) (z_fr (z_mF E) s.heap.size)) [.ref (E 0), .int x, .int y, .int u, .int v].toArray s 0 0 (z_fr (z_mF E) s.heap.size)) (F0 m 38 ls [.int (pi_b true), .int (pi_b (decide (mm < 12))), .int (pi_b (pm_pt x y && pm_pt u v)), .ref (E 0)]) := by
    intro ls hl
    refine z_wrV (n := 3) (C := R_M) (rest := []) ⟨hx, hb, hml, hown, hts⟩ hW0 (c_M_goes G E th mp ms mc mn mm gv _ (pm_pt x y && pm_pt u v) (decide (mm < 12)) true) w_625 w_622 w_624 wp_19 w_4 (by decide +kernel) ⟨rfl, rfl, Nat.le_of_ble_eq_true rfl, Nat.le_of_ble_eq_true rfl⟩ (hE0.recv hK rfl) ⟨rfl, hB⟩ rfl rfl hl.1 (Nat.le_of_ble_eq_true rfl) d_M_mark_38 ⟨Nat.le_of_ble_eq_true rfl, Nat.le_of_ble_eq_true rfl⟩ hS (fun q h => h.elim Or.inl (fun h => Or.inr (Nat.le_trans hS.1 h))) (fun H1 locs1 hB hz1 hk1 hS => ?_)
    obtain ⟨⟨hE0, hGA⟩, hEi, ⟨hmp, hms, hmn, hmm, hmc⟩⟩ := id hB
    refine z_topi (y := 1) (by rw [hg]; rfl) ?_
    rw [pm_th_ok hg] at hB
    obtain ⟨⟨hE0, hGA⟩, hEi, ⟨hmp, hms, hmn, hmm, hmc⟩⟩ := id hB
    refine lv_if_ne (tgt := 46) hx hb d_M_mark_41 (by decide) (fun c_1 => ?_) (fun c_1 => ?_)
    · skip
      refine lv_aload_n hx hb d_M_mark_46 rfl (lv_at hl 0 rfl) ?_
      refine va_get (D := (dC, dI)) (ci := 4) (v := .ref (E 14)) (C := R_M) (T := T_M) (N := 23) hx hb hts in_M hown hK hE0.P 0 rfl rfl 19 (by decide) (hts _ w_559) (fun _ h9 => h9) rfl d_M_mark_47 ?_
      refine lv_aload_n hx hb d_M_mark_50 rfl (lv_at hl 0 rfl) ?_
      refine va_get (D := (dC, dI)) (ci := 4) (v := .int (nI mm)) (C := R_M) (T := T_M) (N := 23) hx hb hts in_M hown hK hE0.P 0 rfl rfl 18 (by decide) (hts _ w_558) (fun _ h9 => h9) rfl d_M_mark_51 ?_
      refine lv_iload_n hx hb d_M_mark_54 rfl (lv_at hl 1 rfl) ?_
      refine z_iast (k := mm) hx hb hAI (show z_A cI _ (E 14) 12 (gv 13) from hGA 13 (by omega)) hS (Or.inl ⟨14, by omega, rfl⟩) (by omega) (by decide) d_M_mark_55 (fun H1 locs1 hz1 hA1 ho1 hS => ?_)
      have hB : z_Md (dC, dI) cI H1 E 0 mp ms mc mn mm (va_up gv 13 (upd (gv 13) mm x)) := z_Md.store hB (k := 13) (by omega) hA1 ho1
      obtain ⟨⟨hE0, hGA⟩, hEi, ⟨hmp, hms, hmn, hmm, hmc⟩⟩ := id hB
      refine lv_aload_n hx hb d_M_mark_56 rfl (lv_at hl 0 rfl) ?_
      refine va_get (D := (dC, dI)) (ci := 4) (v := .ref (E 15)) (C := R_M) (T := T_M) (N := 23) hx hb hts in_M hown hK hE0.P 0 rfl rfl 20 (by decide) (hts _ w_560) (fun _ h9 => h9) rfl d_M_mark_57 ?_
      refine lv_aload_n hx hb d_M_mark_60 rfl (lv_at hl 0 rfl) ?_
      refine va_get (D := (dC, dI)) (ci := 4) (v := .int (nI mm)) (C := R_M) (T := T_M) (N := 23) hx hb hts in_M hown hK hE0.P 0 rfl rfl 18 (by decide) (hts _ w_558) (fun _ h9 => h9) rfl d_M_mark_61 ?_
      refine lv_iload_n hx hb d_M_mark_64 rfl (lv_at hl 2 rfl) ?_
      refine z_iast (k := mm) hx hb hAI (show z_A cI _ (E 15) 12 (gv 14) from hGA 14 (by omega)) hS (Or.inl ⟨15, by omega, rfl⟩) (by omega) (by decide) d_M_mark_65 (fun H1 locs1 hz1 hA1 ho1 hS => ?_)
      have hB : z_Md (dC, dI) cI H1 E 0 mp ms mc mn mm (va_up (va_up gv 13 (upd (gv 13) mm x)) 14 (upd (gv 14) mm y)) := z_Md.store hB (k := 14) (by omega) hA1 ho1
      obtain ⟨⟨hE0, hGA⟩, hEi, ⟨hmp, hms, hmn, hmm, hmc⟩⟩ := id hB
      refine lv_aload_n hx hb d_M_mark_66 rfl (lv_at hl 0 rfl) ?_
      refine va_get (D := (dC, dI)) (ci := 4) (v := .ref (E 16)) (C := R_M) (T := T_M) (N := 23) hx hb hts in_M hown hK hE0.P 0 rfl rfl 21 (by decide) (hts _ w_561) (fun _ h9 => h9) rfl d_M_mark_67 ?_
      refine lv_aload_n hx hb d_M_mark_70 rfl (lv_at hl 0 rfl) ?_
      refine va_get (D := (dC, dI)) (ci := 4) (v := .int (nI mm)) (C := R_M) (T := T_M) (N := 23) hx hb hts in_M hown hK hE0.P 0 rfl rfl 18 (by decide) (hts _ w_558) (fun _ h9 => h9) rfl d_M_mark_71 ?_
      refine lv_iload_n hx hb d_M_mark_74 rfl (lv_at hl 3 rfl) ?_
      refine z_iast (k := mm) hx hb hAI (show z_A cI _ (E 16) 12 (gv 15) from hGA 15 (by omega)) hS (Or.inl ⟨16, by omega, rfl⟩) (by omega) (by decide) d_M_mark_75 (fun H1 locs1 hz1 hA1 ho1 hS => ?_)
      have hB : z_Md (dC, dI) cI H1 E 0 mp ms mc mn mm (va_up (va_up (va_up gv 13 (upd (gv 13) mm x)) 14 (upd (gv 14) mm y)) 15 (upd (gv 15) mm u)) := z_Md.store hB (k := 15) (by omega) hA1 ho1
      obtain ⟨⟨hE0, hGA⟩, hEi, ⟨hmp, hms, hmn, hmm, hmc⟩⟩ := id hB
      refine lv_aload_n hx hb d_M_mark_76 rfl (lv_at hl 0 rfl) ?_
      refine va_get (D := (dC, dI)) (ci := 4) (v := .ref (E 17)) (C := R_M) (T := T_M) (N := 23) hx hb hts in_M hown hK hE0.P 0 rfl rfl 22 (by decide) (hts _ w_562) (fun _ h9 => h9) rfl d_M_mark_77 ?_
      refine lv_aload_n hx hb d_M_mark_80 rfl (lv_at hl 0 rfl) ?_
      refine va_get (D := (dC, dI)) (ci := 4) (v := .int (nI mm)) (C := R_M) (T := T_M) (N := 23) hx hb hts in_M hown hK hE0.P 0 rfl rfl 18 (by decide) (hts _ w_558) (fun _ h9 => h9) rfl d_M_mark_81 ?_
      refine lv_iload hx hb d_M_mark_84 (lv_at hl 4 rfl) ?_
      refine z_iast (k := mm) hx hb hAI (show z_A cI _ (E 17) 12 (gv 16) from hGA 16 (by omega)) hS (Or.inl ⟨17, by omega, rfl⟩) (by omega) (by decide) d_M_mark_86 (fun H1 locs1 hz1 hA1 ho1 hS => ?_)
      have hB : z_Md (dC, dI) cI H1 E 0 mp ms mc mn mm (va_up (va_up (va_up (va_up gv 13 (upd (gv 13) mm x)) 14 (upd (gv 14) mm y)) 15 (upd (gv 15) mm u)) 16 (upd (gv 16) mm v)) := z_Md.store hB (k := 16) (by omega) hA1 ho1
      obtain ⟨⟨hE0, hGA⟩, hEi, ⟨hmp, hms, hmn, hmm, hmc⟩⟩ := id hB
      refine lv_aload_n hx hb d_M_mark_87 rfl (lv_at hl 0 rfl) ?_
      refine lv_dup hx hb d_M_mark_88 rfl ?_
      refine va_get (D := (dC, dI)) (ci := 4) (v := .int (nI mm)) (C := R_M) (T := T_M) (N := 23) hx hb hts in_M hown hK hE0.P 0 rfl rfl 18 (by decide) (hts _ w_558) (fun _ h9 => h9) rfl d_M_mark_89 ?_
      refine lv_iconst (v := 1) hx hb d_M_mark_92 (by decide) ?_
      refine lv_iadd hx hb d_M_mark_93 ?_
      refine z_topi (y := nI (mm + 1)) (nI_add mm 1) ?_
      refine z_put (D := (dC, dI)) (ci := 4) (v := .int (nI (mm + 1))) (ty := .int) (C := R_M) (T := T_M) (N := 23) hx hb hts in_M t_M t_M_ok nm_M hown hK hE0 hS (Or.inl ⟨0, by omega, rfl⟩) rfl 18 (by decide) (hts _ w_558) (fun _ h9 => h9) rfl (by decide +kernel) rfl rfl (Nat.le_of_ble_eq_true rfl) d_M_mark_94 (fun H1 locs1 hz1 hO1 ho1 hS => ?_)
      have hB : z_Md (dC, dI) cI H1 E 0 mp ms mc mn (mm + 1) (va_up (va_up (va_up (va_up gv 13 (upd (gv 13) mm x)) 14 (upd (gv 14) mm y)) 15 (upd (gv 15) mm u)) 16 (upd (gv 16) mm v)) := z_Md.put hB (show z_O (dC, dI) H1 (E 0) 4 (z_mfs E 0 mp ms mc mn (mm + 1)) from hO1) ho1 ⟨by omega, by omega, by omega, by omega, by omega⟩
      obtain ⟨⟨hE0, hGA⟩, hEi, ⟨hmp, hms, hmn, hmm, hmc⟩⟩ := id hB
      refine lv_aload_n hx hb d_M_mark_97 rfl (lv_at hl 0 rfl) ?_
      refine va_get (D := (dC, dI)) (ci := 4) (v := .int (nI (mm + 1))) (C := R_M) (T := T_M) (N := 23) hx hb hts in_M hown hK hE0.P 0 rfl rfl 18 (by decide) (hts _ w_558) (fun _ h9 => h9) rfl d_M_mark_98 ?_
      refine lv_iconst (v := 1) hx hb d_M_mark_101 (by decide) ?_
      refine lv_isub hx hb d_M_mark_102 ?_
      refine z_topi (y := nI mm) (nI_pred mm) ?_
      exact z_wi hx hb hr hlocks (⟨rfl, hB⟩) hS d_M_mark_103
    · skip
      exact absurd c_1 (by decide)
  refine lv_aload_n hx hb d_M_mark_0 rfl (lv_at hl 0 rfl) ?_
  refine lv_iload_n hx hb d_M_mark_1 rfl (lv_at hl 1 rfl) ?_
  refine lv_iload_n hx hb d_M_mark_2 rfl (lv_at hl 2 rfl) ?_
  refine z_rdS (n := 2) (rest := [.ref (E 0)]) ⟨hx, hb, hml, hown, hts⟩ hW0 (c_M_isPoint G x y) w_644 w_642 w_643 w_4 (by decide +kernel) ⟨rfl, rfl, Nat.le_of_ble_eq_true rfl, Nat.le_of_ble_eq_true rfl⟩ (trivial) rfl rfl hl.1 (Nat.le_of_ble_eq_true rfl) d_M_mark_3 ⟨Nat.zero_le _, Nat.zero_le _⟩ ?_
  refine lv_if_eq (tgt := 22) hx hb d_M_mark_6 (by decide) (fun c_2 => ?_) (fun c_2 => ?_)
  · skip
    have c_2 : (pm_pt x y) = false := pi_b_0.mp c_2
    refine lv_iconst (v := 0) hx hb d_M_mark_22 (by decide) ?_
    refine lv_aload_n hx hb d_M_mark_23 rfl (lv_at hl 0 rfl) ?_
    refine va_get (D := (dC, dI)) (ci := 4) (v := .int (nI mm)) (C := R_M) (T := T_M) (N := 23) hx hb hts in_M hown hK hE0.P 0 rfl rfl 18 (by decide) (hts _ w_558) (fun _ h9 => h9) rfl d_M_mark_24 ?_
    refine lv_bipush (v := 12) hx hb d_M_mark_27 (by decide) ?_
    refine lv_icmp_ge (tgt := 36) hx hb d_M_mark_29 (by decide) (fun c_3 => ?_) (fun c_3 => ?_)
    · skip
      have c_3 : 12 ≤ mm := (nI_leI (a := 12) (b := mm) (by omega) (by omega)).mp c_3
      refine lv_iconst (v := 0) hx hb d_M_mark_36 (by decide) ?_
      refine lv_iconst (v := 1) hx hb d_M_mark_37 (by decide) ?_
      refine z_g3 (w1 := pi_b (pm_pt x y && pm_pt u v)) (w2 := pi_b (decide (mm < 12))) (w3 := pi_b true) (rfl) (by simp [pi_b, c_2, c_3]) (by simp [pi_b, c_2, c_3]) ?_
      exact tail ls (lv_sub hl [0, 1, 2, 3, 4] rfl)
    · skip
      have c_3 : ¬ (12 ≤ mm) := fun h => c_3 ((nI_leI (a := 12) (b := mm) (by omega) (by omega)).mpr h)
      refine lv_iconst (v := 1) hx hb d_M_mark_32 (by decide) ?_
      refine lv_goto (tgt := 37) hx hb d_M_mark_33 (by decide) ?_
      refine lv_iconst (v := 1) hx hb d_M_mark_37 (by decide) ?_
      refine z_g3 (w1 := pi_b (pm_pt x y && pm_pt u v)) (w2 := pi_b (decide (mm < 12))) (w3 := pi_b true) (rfl) (by simp [pi_b, c_2, c_3]) (by simp [pi_b, c_2, c_3]) ?_
      exact tail ls (lv_sub hl [0, 1, 2, 3, 4] rfl)
  · skip
    have c_2 : (pm_pt x y) = true := pi_b_1.mp c_2
    refine lv_iload_n hx hb d_M_mark_9 rfl (lv_at hl 3 rfl) ?_
    refine lv_iload hx hb d_M_mark_10 (lv_at hl 4 rfl) ?_
    refine z_rdS (n := 2) (rest := [.ref (E 0)]) ⟨hx, hb, hml, hown, hts⟩ hW0 (c_M_isPoint G u v) w_644 w_642 w_643 w_4 (by decide +kernel) ⟨rfl, rfl, Nat.le_of_ble_eq_true rfl, Nat.le_of_ble_eq_true rfl⟩ (trivial) rfl rfl hl.1 (Nat.le_of_ble_eq_true rfl) d_M_mark_12 ⟨Nat.zero_le _, Nat.zero_le _⟩ ?_
    refine lv_if_eq (tgt := 22) hx hb d_M_mark_15 (by decide) (fun c_4 => ?_) (fun c_4 => ?_)
    · skip
      have c_4 : (pm_pt u v) = false := pi_b_0.mp c_4
      refine lv_iconst (v := 0) hx hb d_M_mark_22 (by decide) ?_
      refine lv_aload_n hx hb d_M_mark_23 rfl (lv_at hl 0 rfl) ?_
      refine va_get (D := (dC, dI)) (ci := 4) (v := .int (nI mm)) (C := R_M) (T := T_M) (N := 23) hx hb hts in_M hown hK hE0.P 0 rfl rfl 18 (by decide) (hts _ w_558) (fun _ h9 => h9) rfl d_M_mark_24 ?_
      refine lv_bipush (v := 12) hx hb d_M_mark_27 (by decide) ?_
      refine lv_icmp_ge (tgt := 36) hx hb d_M_mark_29 (by decide) (fun c_5 => ?_) (fun c_5 => ?_)
      · skip
        have c_5 : 12 ≤ mm := (nI_leI (a := 12) (b := mm) (by omega) (by omega)).mp c_5
        refine lv_iconst (v := 0) hx hb d_M_mark_36 (by decide) ?_
        refine lv_iconst (v := 1) hx hb d_M_mark_37 (by decide) ?_
        refine z_g3 (w1 := pi_b (pm_pt x y && pm_pt u v)) (w2 := pi_b (decide (mm < 12))) (w3 := pi_b true) (rfl) (by simp [pi_b, c_2, c_4, c_5]) (by simp [pi_b, c_2, c_4, c_5]) ?_
        exact tail ls (lv_sub hl [0, 1, 2, 3, 4] rfl)
      · skip
        have c_5 : ¬ (12 ≤ mm) := fun h => c_5 ((nI_leI (a := 12) (b := mm) (by omega) (by omega)).mpr h)
        refine lv_iconst (v := 1) hx hb d_M_mark_32 (by decide) ?_
        refine lv_goto (tgt := 37) hx hb d_M_mark_33 (by decide) ?_
        refine lv_iconst (v := 1) hx hb d_M_mark_37 (by decide) ?_
        refine z_g3 (w1 := pi_b (pm_pt x y && pm_pt u v)) (w2 := pi_b (decide (mm < 12))) (w3 := pi_b true) (rfl) (by simp [pi_b, c_2, c_4, c_5]) (by simp [pi_b, c_2, c_4, c_5]) ?_
        exact tail ls (lv_sub hl [0, 1, 2, 3, 4] rfl)
    · skip
      have c_4 : (pm_pt u v) = true := pi_b_1.mp c_4
      refine lv_iconst (v := 1) hx hb d_M_mark_18 (by decide) ?_
      refine lv_goto (tgt := 23) hx hb d_M_mark_19 (by decide) ?_
      refine lv_aload_n hx hb d_M_mark_23 rfl (lv_at hl 0 rfl) ?_
      refine va_get (D := (dC, dI)) (ci := 4) (v := .int (nI mm)) (C := R_M) (T := T_M) (N := 23) hx hb hts in_M hown hK hE0.P 0 rfl rfl 18 (by decide) (hts _ w_558) (fun _ h9 => h9) rfl d_M_mark_24 ?_
      refine lv_bipush (v := 12) hx hb d_M_mark_27 (by decide) ?_
      refine lv_icmp_ge (tgt := 36) hx hb d_M_mark_29 (by decide) (fun c_6 => ?_) (fun c_6 => ?_)
      · skip
        have c_6 : 12 ≤ mm := (nI_leI (a := 12) (b := mm) (by omega) (by omega)).mp c_6
        refine lv_iconst (v := 0) hx hb d_M_mark_36 (by decide) ?_
        refine lv_iconst (v := 1) hx hb d_M_mark_37 (by decide) ?_
        refine z_g3 (w1 := pi_b (pm_pt x y && pm_pt u v)) (w2 := pi_b (decide (mm < 12))) (w3 := pi_b true) (rfl) (by simp [pi_b, c_2, c_4, c_6]) (by simp [pi_b, c_2, c_4, c_6]) ?_
        exact tail ls (lv_sub hl [0, 1, 2, 3, 4] rfl)
      · skip
        have c_6 : ¬ (12 ≤ mm) := fun h => c_6 ((nI_leI (a := 12) (b := mm) (by omega) (by omega)).mpr h)
        refine lv_iconst (v := 1) hx hb d_M_mark_32 (by decide) ?_
        refine lv_goto (tgt := 37) hx hb d_M_mark_33 (by decide) ?_
        refine lv_iconst (v := 1) hx hb d_M_mark_37 (by decide) ?_
        refine z_g3 (w1 := pi_b (pm_pt x y && pm_pt u v)) (w2 := pi_b (decide (mm < 12))) (w3 := pi_b true) (rfl) (by simp [pi_b, c_2, c_4, c_6]) (by simp [pi_b, c_2, c_4, c_6]) ?_
        exact tail ls (lv_sub hl [0, 1, 2, 3, 4] rfl)
set_option maxRecDepth 100000 in
set_option maxHeartbeats 4000000 in
theorem c_M_force_no (G : z_G s0 (dC, dI) cI cS) (E : Nat → Nat) (th : Int32) (mp ms mc mn mm : Nat) (gv : Nat → Nat → Int32) (sz : Nat) (x0 d : Int32) (hg : ((pm_idx mp x0) && ((pm_day d) && true)) = false) : Met l y_M_force [Cond.code y_M_force b_M_force 3 (some .int)] ({ frames := 1, cells := 0, slots := 0, locals := 23 }) (z_Pc s0 [.ref (E 0), .int x0, .int d] (fun H => H.size = sz ∧ z_Md (dC, dI) cI H E th mp ms mc mn mm gv)) (z_Qw (fun r H => r = some (.int 0) ∧ z_Md (dC, dI) cI H E (pm_th (pm_idx mp x0) (pm_day d) true) mp ms mc mn mm gv) (z_fr (z_mF E) sz)) 0 0 (z_fr (z_mF E) sz) := by
  refine z_ofW (by decide +kernel) (Nat.le_of_ble_eq_true rfl) ?_
  intro p e s m below meth c hx hb hml hr hown hlocks hnm hW0 hB ls hl
  have hts := z_hts (args := [.ref (E 0), .int x0, .int d].toArray) G.1 hW0
  have hN := z_nstW G.2.1 hW0
  have hK := va_K.moved hW0.alike G.2.2.1
  have hAI := arrOfT_moved hW0.alike G.2.2.2.1
  have hl : lv_has ls 3 [(0, .ref (E 0)), (1, .int x0), (2, .int d)] := hl
  obtain ⟨rfl, hB⟩ := hB
  have hS : va_S (z_fr (z_mF E) s.heap.size) s.heap s.heap [] := va_S.rf
  obtain ⟨⟨hE0, hGA⟩, hEi, ⟨hmp, hms, hmn, hmm, hmc⟩⟩ := id hB
  have tail : ∀ ls : Array Slot, lv_has ls 3 [(0, .ref (E 0)), (1, .int x0), (2, .int d)] → W p l e ({ frames := 1, cells := 0, slots := 0, locals := 23 }) s m [.ref (E 0), .int x0, .int d].toArray below meth c s.heap [] 0 0 (MQ below (z_Qw (fun r H => r = some (.int 0) ∧ z_Md (dC, dI) cI H E (pm_th (pm_idx mp x0) (pm_day d) true) mp ms mc mn mm gv) (z_fr (z_mF E) s.heap.size)) [.ref (E 0), .int x0, .int d].toArray s 0 0 (z_fr (z_mF E) s.heap.size)) (F0 m 11 ls [.int (pi_b true), .int (pi_b (pm_day d)), .int (pi_b (pm_idx mp x0)), .ref (E 0)]) := by
    intro ls hl
    refine z_wrV (n := 3) (C := R_M) (rest := []) ⟨hx, hb, hml, hown, hts⟩ hW0 (c_M_goes G E th mp ms mc mn mm gv _ (pm_idx mp x0) (pm_day d) true) w_625 w_622 w_624 wp_19 w_4 (by decide +kernel) ⟨rfl, rfl, Nat.le_of_ble_eq_true rfl, Nat.le_of_ble_eq_true rfl⟩ (hE0.recv hK rfl) ⟨rfl, hB⟩ rfl rfl hl.1 (Nat.le_of_ble_eq_true rfl) d_M_force_11 ⟨Nat.le_of_ble_eq_true rfl, Nat.le_of_ble_eq_true rfl⟩ hS (fun q h => h.elim Or.inl (fun h => Or.inr (Nat.le_trans hS.1 h))) (fun H1 locs1 hB hz1 hk1 hS => ?_)
    obtain ⟨⟨hE0, hGA⟩, hEi, ⟨hmp, hms, hmn, hmm, hmc⟩⟩ := id hB
    refine z_topi (y := 0) (by rw [hg]; rfl) ?_
    refine lv_if_eq (tgt := 26) hx hb d_M_force_14 (by decide) (fun c_1 => ?_) (fun c_1 => ?_)
    · skip
      refine lv_iconst (v := 0) hx hb d_M_force_26 (by decide) ?_
      exact z_wi hx hb hr hlocks (⟨rfl, hB⟩) hS d_M_force_27
    · skip
      exact absurd (by decide) c_1
  refine lv_aload_n hx hb d_M_force_0 rfl (lv_at hl 0 rfl) ?_
  refine lv_aload_n hx hb d_M_force_1 rfl (lv_at hl 0 rfl) ?_
  refine lv_iload_n hx hb d_M_force_2 rfl (lv_at hl 1 rfl) ?_
  refine z_rdV (n := 1) (C := R_M) (rest := [.ref (E 0)]) ⟨hx, hb, hml, hown, hts⟩ hW0 (c_M_isPlace G E th mp ms mc mn mm gv x0) w_621 w_618 w_620 wp_18 w_4 (by decide +kernel) ⟨rfl, rfl, Nat.le_of_ble_eq_true rfl, Nat.le_of_ble_eq_true rfl⟩ (hE0.recv hK rfl) (hB) rfl rfl hl.1 (Nat.le_of_ble_eq_true rfl) d_M_force_3 ⟨Nat.zero_le _, Nat.zero_le _⟩ ?_
  refine lv_iload_n hx hb d_M_force_6 rfl (lv_at hl 2 rfl) ?_
  refine z_rdS (n := 1) (rest := [.int (pi_b (pm_idx mp x0)), .ref (E 0)]) ⟨hx, hb, hml, hown, hts⟩ hW0 (c_M_isDay G d) w_632 w_630 w_631 w_4 (by decide +kernel) ⟨rfl, rfl, Nat.le_of_ble_eq_true rfl, Nat.le_of_ble_eq_true rfl⟩ (trivial) rfl rfl hl.1 (Nat.le_of_ble_eq_true rfl) d_M_force_7 ⟨Nat.zero_le _, Nat.zero_le _⟩ ?_
  refine lv_iconst (v := 1) hx hb d_M_force_10 (by decide) ?_
  refine z_g3 (w1 := pi_b (pm_idx mp x0)) (w2 := pi_b (pm_day d)) (w3 := pi_b true) (rfl) (rfl) (rfl) ?_
  exact tail ls (lv_sub hl [0, 1, 2] rfl)
set_option maxRecDepth 100000 in
set_option maxHeartbeats 4000000 in
theorem c_M_force_ok (G : z_G s0 (dC, dI) cI cS) (E : Nat → Nat) (th : Int32) (mp ms mc mn mm : Nat) (gv : Nat → Nat → Int32) (sz : Nat) (x0 d : Int32) (hg : ((pm_idx mp x0) && ((pm_day d) && true)) = true) : Met l y_M_force [Cond.code y_M_force b_M_force 3 (some .int)] ({ frames := 1, cells := 0, slots := 0, locals := 25 }) (z_Pc s0 [.ref (E 0), .int x0, .int d] (fun H => H.size = sz ∧ z_Md (dC, dI) cI H E th mp ms mc mn mm gv)) (z_Qw (fun r H => r = some (.int (pb_num (pm_f gv ms x0 d))) ∧ z_Md (dC, dI) cI H E 0 mp ms mc mn mm gv) (z_fr (z_mF E) sz)) 0 0 (z_fr (z_mF E) sz) := by
  refine z_ofW (by decide +kernel) (Nat.le_of_ble_eq_true rfl) ?_
  intro p e s m below meth c hx hb hml hr hown hlocks hnm hW0 hB ls hl
  have hts := z_hts (args := [.ref (E 0), .int x0, .int d].toArray) G.1 hW0
  have hN := z_nstW G.2.1 hW0
  have hK := va_K.moved hW0.alike G.2.2.1
  have hAI := arrOfT_moved hW0.alike G.2.2.2.1
  have hl : lv_has ls 3 [(0, .ref (E 0)), (1, .int x0), (2, .int d)] := hl
  obtain ⟨rfl, hB⟩ := hB
  have hS : va_S (z_fr (z_mF E) s.heap.size) s.heap s.heap [] := va_S.rf
  obtain ⟨⟨hE0, hGA⟩, hEi, ⟨hmp, hms, hmn, hmm, hmc⟩⟩ := id hB
  have tail : ∀ ls : Array Slot, lv_has ls 3 [(0, .ref (E 0)), (1, .int x0), (2, .int d)] → W p l e ({ frames := 1, cells := 0, slots := 0, locals := 25 }) s m [.ref (E 0), .int x0, .int d].toArray below meth c s.heap [] 0 0 (MQ below (z_Qw (fun r H => r = some (.int (pb_num (pm_f gv ms x0 d))) ∧ z_Md (dC, dI) cI H E 0 mp ms mc mn mm gv) (z_fr (z_mF E) s.heap.size)) [.ref (E 0), .int x0, .int d].toArray s 0 0 (z_fr (z_mF E) s.heap.size)) (F0 m 11 ls [.int (pi_b true), .int (pi_b (pm_day d)), .int (pi_b (pm_idx mp x0)), .ref (E 0)]) := by
    intro ls hl
    refine z_wrV (n := 3) (C := R_M) (rest := []) ⟨hx, hb, hml, hown, hts⟩ hW0 (c_M_goes G E th mp ms mc mn mm gv _ (pm_idx mp x0) (pm_day d) true) w_625 w_622 w_624 wp_19 w_4 (by decide +kernel) ⟨rfl, rfl, Nat.le_of_ble_eq_true rfl, Nat.le_of_ble_eq_true rfl⟩ (hE0.recv hK rfl) ⟨rfl, hB⟩ rfl rfl hl.1 (Nat.le_of_ble_eq_true rfl) d_M_force_11 ⟨Nat.le_of_ble_eq_true rfl, Nat.le_of_ble_eq_true rfl⟩ hS (fun q h => h.elim Or.inl (fun h => Or.inr (Nat.le_trans hS.1 h))) (fun H1 locs1 hB hz1 hk1 hS => ?_)
    obtain ⟨⟨hE0, hGA⟩, hEi, ⟨hmp, hms, hmn, hmm, hmc⟩⟩ := id hB
    refine z_topi (y := 1) (by rw [hg]; rfl) ?_
    rw [pm_th_ok hg] at hB
    obtain ⟨⟨hE0, hGA⟩, hEi, ⟨hmp, hms, hmn, hmm, hmc⟩⟩ := id hB
    refine lv_if_eq (tgt := 26) hx hb d_M_force_14 (by decide) (fun c_1 => ?_) (fun c_1 => ?_)
    · skip
      exact absurd c_1 (by decide)
    · skip
      refine lv_aload_n hx hb d_M_force_17 rfl (lv_at hl 0 rfl) ?_
      refine lv_iload_n hx hb d_M_force_18 rfl (lv_at hl 1 rfl) ?_
      refine lv_iload_n hx hb d_M_force_19 rfl (lv_at hl 2 rfl) ?_
      refine z_rdV (n := 2) (C := R_M) (rest := []) ⟨hx, hb, hml, hown, hts⟩ hW0 (c_M_forced G E 0 mp ms mc mn mm gv x0 d) w_689 w_686 w_688 wp_26 w_4 (by decide +kernel) ⟨rfl, rfl, Nat.le_of_ble_eq_true rfl, Nat.le_of_ble_eq_true rfl⟩ (hE0.recv hK rfl) (hB) rfl rfl hl.1 (Nat.le_of_ble_eq_true rfl) d_M_force_20 ⟨Nat.zero_le _, Nat.zero_le _⟩ ?_
      refine lv_goto (tgt := 27) hx hb d_M_force_23 (by decide) ?_
      exact z_wi hx hb hr hlocks (⟨rfl, hB⟩) hS d_M_force_27
  refine lv_aload_n hx hb d_M_force_0 rfl (lv_at hl 0 rfl) ?_
  refine lv_aload_n hx hb d_M_force_1 rfl (lv_at hl 0 rfl) ?_
  refine lv_iload_n hx hb d_M_force_2 rfl (lv_at hl 1 rfl) ?_
  refine z_rdV (n := 1) (C := R_M) (rest := [.ref (E 0)]) ⟨hx, hb, hml, hown, hts⟩ hW0 (c_M_isPlace G E th mp ms mc mn mm gv x0) w_621 w_618 w_620 wp_18 w_4 (by decide +kernel) ⟨rfl, rfl, Nat.le_of_ble_eq_true rfl, Nat.le_of_ble_eq_true rfl⟩ (hE0.recv hK rfl) (hB) rfl rfl hl.1 (Nat.le_of_ble_eq_true rfl) d_M_force_3 ⟨Nat.zero_le _, Nat.zero_le _⟩ ?_
  refine lv_iload_n hx hb d_M_force_6 rfl (lv_at hl 2 rfl) ?_
  refine z_rdS (n := 1) (rest := [.int (pi_b (pm_idx mp x0)), .ref (E 0)]) ⟨hx, hb, hml, hown, hts⟩ hW0 (c_M_isDay G d) w_632 w_630 w_631 w_4 (by decide +kernel) ⟨rfl, rfl, Nat.le_of_ble_eq_true rfl, Nat.le_of_ble_eq_true rfl⟩ (trivial) rfl rfl hl.1 (Nat.le_of_ble_eq_true rfl) d_M_force_7 ⟨Nat.zero_le _, Nat.zero_le _⟩ ?_
  refine lv_iconst (v := 1) hx hb d_M_force_10 (by decide) ?_
  refine z_g3 (w1 := pi_b (pm_idx mp x0)) (w2 := pi_b (pm_day d)) (w3 := pi_b true) (rfl) (rfl) (rfl) ?_
  exact tail ls (lv_sub hl [0, 1, 2] rfl)
end M5
