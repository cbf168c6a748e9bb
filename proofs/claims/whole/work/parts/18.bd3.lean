section S6
variable {s0 : State} {dC : Nat → ClassId} {dI : Nat → Nat → Nat} {cI cS : ClassId} {l : Launch}
set_option maxRecDepth 100000 in
set_option maxHeartbeats 4000000 in
theorem c_B_force (G : z_G s0 (dC, dI) cI cS) (A : Nat → Nat) (np ns nc nn nm : Nat) (fv : Nat → Nat → Int32) (so sf st : Nat → Int32) (sn sc : Nat → Nat) (sp : Nat → Option Nat) (sx sy : Nat → Nat → Int32) (k : Nat) (hk : k < np) (d : Int32) (hd : z_day d) : Met l y_B_force [Cond.code y_B_force b_B_force 4 (some .int)] ({ frames := 3, cells := 0, slots := 0, locals := 67 }) (z_Pc s0 [.ref (A 0), .int (nI k), .int d] (fun H => z_BD (dC, dI) cI cS H A np ns nc nn nm fv so sf st sn sc sp sx sy)) (z_Qr (some (.int (pb_num (pb_f so sf st sc ns (nI k) d))))) 0 0 z_no := by
  refine z_ofW (by decide +kernel) (Nat.le_of_ble_eq_true rfl) ?_
  intro p e s m below meth c hx hb hml hr hown hlocks hnm hW0 hB ls hl
  have hts := z_hts (args := [.ref (A 0), .int (nI k), .int d].toArray) G.1 hW0
  have hN := z_nstW G.2.1 hW0
  have hK := va_K.moved hW0.alike G.2.2.1
  have hAI := arrOfT_moved hW0.alike G.2.2.2.1
  have hl : lv_has ls 4 [(0, .ref (A 0)), (1, .int (nI k)), (2, .int d)] := hl
  obtain ⟨⟨hO0, hO1, hO2, hB3, hFA, hSH⟩, hinj, ⟨hnp, hns, hnn, hnm, hnc⟩, hsb⟩ := id hB
  have hAS := arrOfT_moved hW0.alike G.2.2.2.2.1
  refine lv_aload_n hx hb d_B_force_0 rfl (lv_at hl 0 rfl) ?_
  refine lv_iload_n hx hb d_B_force_1 rfl (lv_at hl 1 rfl) ?_
  refine z_rdVv (n := 1) (C := R_B) (rest := []) ⟨hx, hb, hml, hown, hts⟩ hW0 (c_B_requirePlace G A np ns nc nn nm fv so sf st sn sc sp sx sy k (by omega)) w_102 w_99 w_101 wp_0 w_1 (by decide +kernel) ⟨rfl, rfl, Nat.le_of_ble_eq_true rfl, Nat.le_of_ble_eq_true rfl⟩ (hO0.recv hK rfl) (hB) rfl rfl hl.1 (Nat.le_of_ble_eq_true rfl) d_B_force_2 ⟨Nat.zero_le _, Nat.zero_le _⟩ ?_
  refine lv_iload_n hx hb d_B_force_5 rfl (lv_at hl 2 rfl) ?_
  refine z_rdSv (n := 1) (rest := []) ⟨hx, hb, hml, hown, hts⟩ hW0 (c_B_requireDay G d hd) w_200 w_198 w_199 w_1 (by decide +kernel) ⟨rfl, rfl, Nat.le_of_ble_eq_true rfl, Nat.le_of_ble_eq_true rfl⟩ (trivial) rfl rfl hl.1 (Nat.le_of_ble_eq_true rfl) d_B_force_6 ⟨Nat.zero_le _, Nat.zero_le _⟩ ?_
  refine lv_aload_n hx hb d_B_force_9 rfl (lv_at hl 0 rfl) ?_
  refine lv_iload_n hx hb d_B_force_10 rfl (lv_at hl 1 rfl) ?_
  refine lv_iload_n hx hb d_B_force_11 rfl (lv_at hl 2 rfl) ?_
  refine z_rdV (n := 2) (C := R_B) (rest := []) ⟨hx, hb, hml, hown, hts⟩ hW0 (c_B_shapeOn G A np ns nc nn nm fv so sf st sn sc sp sx sy (nI k) d) w_363 w_360 w_362 wp_11 w_1 (by decide +kernel) ⟨rfl, rfl, Nat.le_of_ble_eq_true rfl, Nat.le_of_ble_eq_true rfl⟩ (hO0.recv hK rfl) (hB) rfl rfl hl.1 (Nat.le_of_ble_eq_true rfl) d_B_force_12 ⟨Nat.zero_le _, Nat.zero_le _⟩ ?_
  obtain ⟨o_12, hq_12⟩ : ∃ o, pb_f so sf st sc ns (nI k) d = o := ⟨_, rfl⟩
  rcases o_12 with _ | j_12
  · skip
    refine z_topv (w := .null) (by rw [hq_12]; rfl) ?_
    refine lv_astore_nN (lv' := [(3, .null), (0, .ref (A 0)), (1, .int (nI k)), (2, .int d)]) hx hb d_B_force_15 rfl hl (by decide) rfl (fun ls hl => ?_)
    refine lv_aload_nN hx hb d_B_force_16 rfl (lv_at hl 0 rfl) ?_
    refine lv_ifnonnullN hx hb d_B_force_17 ?_
    refine lv_iconst (v := (-1)) hx hb d_B_force_20 (by decide) ?_
    refine lv_goto (tgt := 28) hx hb d_B_force_21 (by decide) ?_
    exact z_iret hx hb hr hlocks (by simp [pi_b, pb_num, hq_12]) d_B_force_28
  · skip
    have hj_12 := pb_f_ok hq_12
    have hS_j_12 := hSH j_12 hj_12.1
    have hb_j_12 := hsb j_12 hj_12.1
    obtain ⟨hO_j_12, hX_j_12, hY_j_12⟩ := id hS_j_12
    refine z_topv (w := .ref (A (13 + 3 * j_12))) (by rw [hq_12]; rfl) ?_
    refine lv_astore_n (lv' := [(3, .ref (A (13 + 3 * j_12))), (0, .ref (A 0)), (1, .int (nI k)), (2, .int d)]) hx hb d_B_force_15 rfl hl (by decide) rfl (fun ls hl => ?_)
    refine lv_aload_n hx hb d_B_force_16 rfl (lv_at hl 0 rfl) ?_
    refine lv_ifnonnull (tgt := 24) hx hb d_B_force_17 (by decide) ?_
    refine lv_aload_n hx hb d_B_force_24 rfl (lv_at hl 0 rfl) ?_
    refine va_get (D := (dC, dI)) (ci := 2) (v := .int (nI j_12)) (C := R_S) (T := T_S) (N := 9) hx hb hts in_S hown hK hO_j_12.P 0 rfl rfl 0 (by decide) (hts _ w_226) (fun _ h9 => h9) rfl d_B_force_25 ?_
    exact z_iret hx hb hr hlocks (by simp [pi_b, pb_num, hq_12]) d_B_force_28
set_option maxRecDepth 100000 in
set_option maxHeartbeats 4000000 in
theorem c_B_area (G : z_G s0 (dC, dI) cI cS) (A : Nat → Nat) (np ns nc nn nm : Nat) (fv : Nat → Nat → Int32) (so sf st : Nat → Int32) (sn sc : Nat → Nat) (sp : Nat → Option Nat) (sx sy : Nat → Nat → Int32) (k : Nat) (hk : k < np) (d : Int32) (hd : z_day d) : Met l y_B_area [Cond.code y_B_area b_B_area 4 (some .int)] ({ frames := 3, cells := 0, slots := 0, locals := 67 }) (z_Pc s0 [.ref (A 0), .int (nI k), .int d] (fun H => z_BD (dC, dI) cI cS H A np ns nc nn nm fv so sf st sn sc sp sx sy)) (z_Qr (some (.int (pb_ar sx sy sn (pb_f so sf st sc ns (nI k) d))))) 0 0 z_no := by
  refine z_ofW (by decide +kernel) (Nat.le_of_ble_eq_true rfl) ?_
  intro p e s m below meth c hx hb hml hr hown hlocks hnm hW0 hB ls hl
  have hts := z_hts (args := [.ref (A 0), .int (nI k), .int d].toArray) G.1 hW0
  have hN := z_nstW G.2.1 hW0
  have hK := va_K.moved hW0.alike G.2.2.1
  have hAI := arrOfT_moved hW0.alike G.2.2.2.1
  have hl : lv_has ls 4 [(0, .ref (A 0)), (1, .int (nI k)), (2, .int d)] := hl
  obtain ⟨⟨hO0, hO1, hO2, hB3, hFA, hSH⟩, hinj, ⟨hnp, hns, hnn, hnm, hnc⟩, hsb⟩ := id hB
  have hAS := arrOfT_moved hW0.alike G.2.2.2.2.1
  refine lv_aload_n hx hb d_B_area_0 rfl (lv_at hl 0 rfl) ?_
  refine lv_iload_n hx hb d_B_area_1 rfl (lv_at hl 1 rfl) ?_
  refine z_rdVv (n := 1) (C := R_B) (rest := []) ⟨hx, hb, hml, hown, hts⟩ hW0 (c_B_requirePlace G A np ns nc nn nm fv so sf st sn sc sp sx sy k (by omega)) w_102 w_99 w_101 wp_0 w_1 (by decide +kernel) ⟨rfl, rfl, Nat.le_of_ble_eq_true rfl, Nat.le_of_ble_eq_true rfl⟩ (hO0.recv hK rfl) (hB) rfl rfl hl.1 (Nat.le_of_ble_eq_true rfl) d_B_area_2 ⟨Nat.zero_le _, Nat.zero_le _⟩ ?_
  refine lv_iload_n hx hb d_B_area_5 rfl (lv_at hl 2 rfl) ?_
  refine z_rdSv (n := 1) (rest := []) ⟨hx, hb, hml, hown, hts⟩ hW0 (c_B_requireDay G d hd) w_200 w_198 w_199 w_1 (by decide +kernel) ⟨rfl, rfl, Nat.le_of_ble_eq_true rfl, Nat.le_of_ble_eq_true rfl⟩ (trivial) rfl rfl hl.1 (Nat.le_of_ble_eq_true rfl) d_B_area_6 ⟨Nat.zero_le _, Nat.zero_le _⟩ ?_
  refine lv_aload_n hx hb d_B_area_9 rfl (lv_at hl 0 rfl) ?_
  refine lv_iload_n hx hb d_B_area_10 rfl (lv_at hl 1 rfl) ?_
  refine lv_iload_n hx hb d_B_area_11 rfl (lv_at hl 2 rfl) ?_
  refine z_rdV (n := 2) (C := R_B) (rest := []) ⟨hx, hb, hml, hown, hts⟩ hW0 (c_B_shapeOn G A np ns nc nn nm fv so sf st sn sc sp sx sy (nI k) d) w_363 w_360 w_362 wp_11 w_1 (by decide +kernel) ⟨rfl, rfl, Nat.le_of_ble_eq_true rfl, Nat.le_of_ble_eq_true rfl⟩ (hO0.recv hK rfl) (hB) rfl rfl hl.1 (Nat.le_of_ble_eq_true rfl) d_B_area_12 ⟨Nat.zero_le _, Nat.zero_le _⟩ ?_
  obtain ⟨o_12, hq_12⟩ : ∃ o, pb_f so sf st sc ns (nI k) d = o := ⟨_, rfl⟩
  rcases o_12 with _ | j_12
  · skip
    refine z_topv (w := .null) (by rw [hq_12]; rfl) ?_
    refine lv_astore_nN (lv' := [(3, .null), (0, .ref (A 0)), (1, .int (nI k)), (2, .int d)]) hx hb d_B_area_15 rfl hl (by decide) rfl (fun ls hl => ?_)
    refine lv_aload_nN hx hb d_B_area_16 rfl (lv_at hl 0 rfl) ?_
    refine lv_ifnonnullN hx hb d_B_area_17 ?_
    refine lv_iconst (v := 0) hx hb d_B_area_20 (by decide) ?_
    refine lv_goto (tgt := 28) hx hb d_B_area_21 (by decide) ?_
    exact z_iret hx hb hr hlocks (by simp [pi_b, pb_ar, hq_12]) d_B_area_28
  · skip
    have hj_12 := pb_f_ok hq_12
    have hS_j_12 := hSH j_12 hj_12.1
    have hb_j_12 := hsb j_12 hj_12.1
    obtain ⟨hO_j_12, hX_j_12, hY_j_12⟩ := id hS_j_12
    refine z_topv (w := .ref (A (13 + 3 * j_12))) (by rw [hq_12]; rfl) ?_
    refine lv_astore_n (lv' := [(3, .ref (A (13 + 3 * j_12))), (0, .ref (A 0)), (1, .int (nI k)), (2, .int d)]) hx hb d_B_area_15 rfl hl (by decide) rfl (fun ls hl => ?_)
    refine lv_aload_n hx hb d_B_area_16 rfl (lv_at hl 0 rfl) ?_
    refine lv_ifnonnull (tgt := 24) hx hb d_B_area_17 (by decide) ?_
    refine lv_aload_n hx hb d_B_area_24 rfl (lv_at hl 0 rfl) ?_
    refine z_rdV (n := 0) (C := R_S) (rest := []) ⟨hx, hb, hml, hown, hts⟩ hW0 (c_S_doubledArea G (A (13 + 3 * j_12)) (A (14 + 3 * j_12)) (A (15 + 3 * j_12)) (sn j_12) (nI j_12) (so j_12) (sf j_12) (st j_12) (nI (sc j_12)) (z_pv A (sp j_12)) (sx j_12) (sy j_12) hb_j_12.1) w_404 w_401 w_402 w_403 w_11 (by decide +kernel) ⟨rfl, rfl, Nat.le_of_ble_eq_true rfl, Nat.le_of_ble_eq_true rfl⟩ (hO_j_12.recv hK rfl) (hS_j_12) rfl rfl hl.1 (Nat.le_of_ble_eq_true rfl) d_B_area_25 ⟨Nat.zero_le _, Nat.zero_le _⟩ ?_
    exact z_iret hx hb hr hlocks (by simp [pi_b, pb_ar, hq_12]) d_B_area_28
set_option maxRecDepth 100000 in
set_option maxHeartbeats 4000000 in
theorem c_B_distance (G : z_G s0 (dC, dI) cI cS) (A : Nat → Nat) (np ns nc nn nm : Nat) (fv : Nat → Nat → Int32) (so sf st : Nat → Int32) (sn sc : Nat → Nat) (sp : Nat → Option Nat) (sx sy : Nat → Nat → Int32) (k : Nat) (hk : k < np) (k2 : Nat) (hk2 : k2 < np) (d : Int32) (hd : z_day d) : Met l y_B_distance [Cond.code y_B_distance b_B_distance 6 (some .int)] ({ frames := 3, cells := 0, slots := 0, locals := 67 }) (z_Pc s0 [.ref (A 0), .int (nI k), .int (nI k2), .int d] (fun H => z_BD (dC, dI) cI cS H A np ns nc nn nm fv so sf st sn sc sp sx sy)) (z_Qr (some (.int (pb_di sx sy sn (pb_f so sf st sc ns (nI k) d) (pb_f so sf st sc ns (nI k2) d))))) 0 0 z_no := by
  refine z_ofW (by decide +kernel) (Nat.le_of_ble_eq_true rfl) ?_
  intro p e s m below meth c hx hb hml hr hown hlocks hnm hW0 hB ls hl
  have hts := z_hts (args := [.ref (A 0), .int (nI k), .int (nI k2), .int d].toArray) G.1 hW0
  have hN := z_nstW G.2.1 hW0
  have hK := va_K.moved hW0.alike G.2.2.1
  have hAI := arrOfT_moved hW0.alike G.2.2.2.1
  have hl : lv_has ls 6 [(0, .ref (A 0)), (1, .int (nI k)), (2, .int (nI k2)), (3, .int d)] := hl
  obtain ⟨⟨hO0, hO1, hO2, hB3, hFA, hSH⟩, hinj, ⟨hnp, hns, hnn, hnm, hnc⟩, hsb⟩ := id hB
  have hAS := arrOfT_moved hW0.alike G.2.2.2.2.1
  refine lv_aload_n hx hb d_B_distance_0 rfl (lv_at hl 0 rfl) ?_
  refine lv_iload_n hx hb d_B_distance_1 rfl (lv_at hl 1 rfl) ?_
  refine z_rdVv (n := 1) (C := R_B) (rest := []) ⟨hx, hb, hml, hown, hts⟩ hW0 (c_B_requirePlace G A np ns nc nn nm fv so sf st sn sc sp sx sy k (by omega)) w_102 w_99 w_101 wp_0 w_1 (by decide +kernel) ⟨rfl, rfl, Nat.le_of_ble_eq_true rfl, Nat.le_of_ble_eq_true rfl⟩ (hO0.recv hK rfl) (hB) rfl rfl hl.1 (Nat.le_of_ble_eq_true rfl) d_B_distance_2 ⟨Nat.zero_le _, Nat.zero_le _⟩ ?_
  refine lv_aload_n hx hb d_B_distance_5 rfl (lv_at hl 0 rfl) ?_
  refine lv_iload_n hx hb d_B_distance_6 rfl (lv_at hl 2 rfl) ?_
  refine z_rdVv (n := 1) (C := R_B) (rest := []) ⟨hx, hb, hml, hown, hts⟩ hW0 (c_B_requirePlace G A np ns nc nn nm fv so sf st sn sc sp sx sy k2 (by omega)) w_102 w_99 w_101 wp_0 w_1 (by decide +kernel) ⟨rfl, rfl, Nat.le_of_ble_eq_true rfl, Nat.le_of_ble_eq_true rfl⟩ (hO0.recv hK rfl) (hB) rfl rfl hl.1 (Nat.le_of_ble_eq_true rfl) d_B_distance_7 ⟨Nat.zero_le _, Nat.zero_le _⟩ ?_
  refine lv_iload_n hx hb d_B_distance_10 rfl (lv_at hl 3 rfl) ?_
  refine z_rdSv (n := 1) (rest := []) ⟨hx, hb, hml, hown, hts⟩ hW0 (c_B_requireDay G d hd) w_200 w_198 w_199 w_1 (by decide +kernel) ⟨rfl, rfl, Nat.le_of_ble_eq_true rfl, Nat.le_of_ble_eq_true rfl⟩ (trivial) rfl rfl hl.1 (Nat.le_of_ble_eq_true rfl) d_B_distance_11 ⟨Nat.zero_le _, Nat.zero_le _⟩ ?_
  refine lv_aload_n hx hb d_B_distance_14 rfl (lv_at hl 0 rfl) ?_
  refine lv_iload_n hx hb d_B_distance_15 rfl (lv_at hl 1 rfl) ?_
  refine lv_iload_n hx hb d_B_distance_16 rfl (lv_at hl 3 rfl) ?_
  refine z_rdV (n := 2) (C := R_B) (rest := []) ⟨hx, hb, hml, hown, hts⟩ hW0 (c_B_shapeOn G A np ns nc nn nm fv so sf st sn sc sp sx sy (nI k) d) w_363 w_360 w_362 wp_11 w_1 (by decide +kernel) ⟨rfl, rfl, Nat.le_of_ble_eq_true rfl, Nat.le_of_ble_eq_true rfl⟩ (hO0.recv hK rfl) (hB) rfl rfl hl.1 (Nat.le_of_ble_eq_true rfl) d_B_distance_17 ⟨Nat.zero_le _, Nat.zero_le _⟩ ?_
  obtain ⟨o_17, hq_17⟩ : ∃ o, pb_f so sf st sc ns (nI k) d = o := ⟨_, rfl⟩
  rcases o_17 with _ | j_17
  · skip
    refine z_topv (w := .null) (by rw [hq_17]; rfl) ?_
    refine lv_astoreN (lv' := [(4, .null), (0, .ref (A 0)), (1, .int (nI k)), (2, .int (nI k2)), (3, .int d)]) hx hb d_B_distance_20 hl (by decide) rfl (fun ls hl => ?_)
    refine lv_aload_n hx hb d_B_distance_22 rfl (lv_at hl 1 rfl) ?_
    refine lv_iload_n hx hb d_B_distance_23 rfl (lv_at hl 3 rfl) ?_
    refine lv_iload_n hx hb d_B_distance_24 rfl (lv_at hl 4 rfl) ?_
    refine z_rdV (n := 2) (C := R_B) (rest := []) ⟨hx, hb, hml, hown, hts⟩ hW0 (c_B_shapeOn G A np ns nc nn nm fv so sf st sn sc sp sx sy (nI k2) d) w_363 w_360 w_362 wp_11 w_1 (by decide +kernel) ⟨rfl, rfl, Nat.le_of_ble_eq_true rfl, Nat.le_of_ble_eq_true rfl⟩ (hO0.recv hK rfl) (hB) rfl rfl hl.1 (Nat.le_of_ble_eq_true rfl) d_B_distance_25 ⟨Nat.zero_le _, Nat.zero_le _⟩ ?_
    obtain ⟨o_25, hq_25⟩ : ∃ o, pb_f so sf st sc ns (nI k2) d = o := ⟨_, rfl⟩
    rcases o_25 with _ | j_25
    · skip
      refine z_topv (w := .null) (by rw [hq_25]; rfl) ?_
      refine lv_astoreN (lv' := [(5, .null), (4, .null), (0, .ref (A 0)), (1, .int (nI k)), (2, .int (nI k2)), (3, .int d)]) hx hb d_B_distance_28 hl (by decide) rfl (fun ls hl => ?_)
      refine lv_aloadN hx hb d_B_distance_30 (lv_at hl 1 rfl) ?_
      refine lv_ifnullN (tgt := 40) hx hb d_B_distance_32 (by decide) ?_
      refine lv_iconst (v := (-1)) hx hb d_B_distance_40 (by decide) ?_
      refine lv_goto (tgt := 51) hx hb d_B_distance_41 (by decide) ?_
      exact z_iret hx hb hr hlocks (by simp [pi_b, pb_di, hq_17, hq_25]) d_B_distance_51
    · skip
      have hj_25 := pb_f_ok hq_25
      have hS_j_25 := hSH j_25 hj_25.1
      have hb_j_25 := hsb j_25 hj_25.1
      obtain ⟨hO_j_25, hX_j_25, hY_j_25⟩ := id hS_j_25
      refine z_topv (w := .ref (A (13 + 3 * j_25))) (by rw [hq_25]; rfl) ?_
      refine lv_astore (lv' := [(5, .ref (A (13 + 3 * j_25))), (4, .null), (0, .ref (A 0)), (1, .int (nI k)), (2, .int (nI k2)), (3, .int d)]) hx hb d_B_distance_28 hl (by decide) rfl (fun ls hl => ?_)
      refine lv_aloadN hx hb d_B_distance_30 (lv_at hl 1 rfl) ?_
      refine lv_ifnullN (tgt := 40) hx hb d_B_distance_32 (by decide) ?_
      refine lv_iconst (v := (-1)) hx hb d_B_distance_40 (by decide) ?_
      refine lv_goto (tgt := 51) hx hb d_B_distance_41 (by decide) ?_
      exact z_iret hx hb hr hlocks (by simp [pi_b, pb_di, hq_17, hq_25]) d_B_distance_51
  · skip
    have hj_17 := pb_f_ok hq_17
    have hS_j_17 := hSH j_17 hj_17.1
    have hb_j_17 := hsb j_17 hj_17.1
    obtain ⟨hO_j_17, hX_j_17, hY_j_17⟩ := id hS_j_17
    refine z_topv (w := .ref (A (13 + 3 * j_17))) (by rw [hq_17]; rfl) ?_
    refine lv_astore (lv' := [(4, .ref (A (13 + 3 * j_17))), (0, .ref (A 0)), (1, .int (nI k)), (2, .int (nI k2)), (3, .int d)]) hx hb d_B_distance_20 hl (by decide) rfl (fun ls hl => ?_)
    refine lv_aload_n hx hb d_B_distance_22 rfl (lv_at hl 1 rfl) ?_
    refine lv_iload_n hx hb d_B_distance_23 rfl (lv_at hl 3 rfl) ?_
    refine lv_iload_n hx hb d_B_distance_24 rfl (lv_at hl 4 rfl) ?_
    refine z_rdV (n := 2) (C := R_B) (rest := []) ⟨hx, hb, hml, hown, hts⟩ hW0 (c_B_shapeOn G A np ns nc nn nm fv so sf st sn sc sp sx sy (nI k2) d) w_363 w_360 w_362 wp_11 w_1 (by decide +kernel) ⟨rfl, rfl, Nat.le_of_ble_eq_true rfl, Nat.le_of_ble_eq_true rfl⟩ (hO0.recv hK rfl) (hB) rfl rfl hl.1 (Nat.le_of_ble_eq_true rfl) d_B_distance_25 ⟨Nat.zero_le _, Nat.zero_le _⟩ ?_
    obtain ⟨o_25, hq_25⟩ : ∃ o, pb_f so sf st sc ns (nI k2) d = o := ⟨_, rfl⟩
    rcases o_25 with _ | j_25
    · skip
      refine z_topv (w := .null) (by rw [hq_25]; rfl) ?_
      refine lv_astoreN (lv' := [(5, .null), (4, .ref (A (13 + 3 * j_17))), (0, .ref (A 0)), (1, .int (nI k)), (2, .int (nI k2)), (3, .int d)]) hx hb d_B_distance_28 hl (by decide) rfl (fun ls hl => ?_)
      refine lv_aload hx hb d_B_distance_30 (lv_at hl 1 rfl) ?_
      refine lv_ifnull hx hb d_B_distance_32 ?_
      refine lv_aloadN hx hb d_B_distance_35 (lv_at hl 0 rfl) ?_
      refine lv_ifnonnullN hx hb d_B_distance_37 ?_
      refine lv_iconst (v := (-1)) hx hb d_B_distance_40 (by decide) ?_
      refine lv_goto (tgt := 51) hx hb d_B_distance_41 (by decide) ?_
      exact z_iret hx hb hr hlocks (by simp [pi_b, pb_di, hq_17, hq_25]) d_B_distance_51
    · skip
      have hj_25 := pb_f_ok hq_25
      have hS_j_25 := hSH j_25 hj_25.1
      have hb_j_25 := hsb j_25 hj_25.1
      obtain ⟨hO_j_25, hX_j_25, hY_j_25⟩ := id hS_j_25
      refine z_topv (w := .ref (A (13 + 3 * j_25))) (by rw [hq_25]; rfl) ?_
      refine lv_astore (lv' := [(5, .ref (A (13 + 3 * j_25))), (4, .ref (A (13 + 3 * j_17))), (0, .ref (A 0)), (1, .int (nI k)), (2, .int (nI k2)), (3, .int d)]) hx hb d_B_distance_28 hl (by decide) rfl (fun ls hl => ?_)
      refine lv_aload hx hb d_B_distance_30 (lv_at hl 1 rfl) ?_
      refine lv_ifnull hx hb d_B_distance_32 ?_
      refine lv_aload hx hb d_B_distance_35 (lv_at hl 0 rfl) ?_
      refine lv_ifnonnull (tgt := 44) hx hb d_B_distance_37 (by decide) ?_
      refine lv_aload hx hb d_B_distance_44 (lv_at hl 1 rfl) ?_
      refine lv_aload hx hb d_B_distance_46 (lv_at hl 0 rfl) ?_
      refine z_rdV (n := 1) (C := R_S) (rest := []) ⟨hx, hb, hml, hown, hts⟩ hW0 (c_S_leastSquareTo G (A (13 + 3 * j_17)) (A (14 + 3 * j_17)) (A (15 + 3 * j_17)) (sn j_17) (nI j_17) (so j_17) (sf j_17) (st j_17) (nI (sc j_17)) (z_pv A (sp j_17)) (sx j_17) (sy j_17) (A (13 + 3 * j_25)) (A (14 + 3 * j_25)) (A (15 + 3 * j_25)) (sn j_25) (nI j_25) (so j_25) (sf j_25) (st j_25) (nI (sc j_25)) (z_pv A (sp j_25)) (sx j_25) (sy j_25) hb_j_17.1 hb_j_25.1 (by have := hb_j_17.2.2.1 hj_17.2; omega) (by have := hb_j_25.2.2.1 hj_25.2; omega)) w_434 w_431 w_432 w_433 w_11 (by decide +kernel) ⟨rfl, rfl, Nat.le_of_ble_eq_true rfl, Nat.le_of_ble_eq_true rfl⟩ (hO_j_17.recv hK rfl) (⟨hS_j_17, hS_j_25⟩) rfl rfl hl.1 (Nat.le_of_ble_eq_true rfl) d_B_distance_48 ⟨Nat.zero_le _, Nat.zero_le _⟩ ?_
      exact z_iret hx hb hr hlocks (by simp [pi_b, pb_di, hq_17, hq_25]) d_B_distance_51
set_option maxRecDepth 100000 in
set_option maxHeartbeats 4000000 in
theorem c_B_nameOn (G : z_G s0 (dC, dI) cI cS) (A : Nat → Nat) (np ns nc nn nm : Nat) (fv : Nat → Nat → Int32) (so sf st : Nat → Int32) (sn sc : Nat → Nat) (sp : Nat → Option Nat) (sx sy : Nat → Nat → Int32) (k : Nat) (hk : k < np) (d : Int32) (hd : z_day d) : Met l y_B_nameOn [Cond.code y_B_nameOn b_B_nameOn 3 (some .int)] ({ frames := 1, cells := 0, slots := 0, locals := 23 }) (z_Pc s0 [.ref (A 0), .int (nI k), .int d] (fun H => z_BD (dC, dI) cI cS H A np ns nc nn nm fv so sf st sn sc sp sx sy)) (z_Qr (some (.int (pn_find (fv 1) (fv 2) (fv 3) (fv 4) (nI k) d nn)))) 0 0 z_no := by
  refine z_ofW (by decide +kernel) (Nat.le_of_ble_eq_true rfl) ?_
  intro p e s m below meth c hx hb hml hr hown hlocks hnm hW0 hB ls hl
  have hts := z_hts (args := [.ref (A 0), .int (nI k), .int d].toArray) G.1 hW0
  have hN := z_nstW G.2.1 hW0
  have hK := va_K.moved hW0.alike G.2.2.1
  have hAI := arrOfT_moved hW0.alike G.2.2.2.1
  have hl : lv_has ls 3 [(0, .ref (A 0)), (1, .int (nI k)), (2, .int d)] := hl
  obtain ⟨⟨hO0, hO1, hO2, hB3, hFA, hSH⟩, hinj, ⟨hnp, hns, hnn, hnm, hnc⟩, hsb⟩ := id hB
  have hAS := arrOfT_moved hW0.alike G.2.2.2.2.1
  have hNm : z_Nm (dC, dI) cI s.heap (A 1) (A 5) (A 6) (A 7) (A 8) nn (fv 1) (fv 2) (fv 3) (fv 4) := ⟨hO1, hFA 1 (by omega), hFA 2 (by omega), hFA 3 (by omega), hFA 4 (by omega)⟩
  refine lv_aload_n hx hb d_B_nameOn_0 rfl (lv_at hl 0 rfl) ?_
  refine lv_iload_n hx hb d_B_nameOn_1 rfl (lv_at hl 1 rfl) ?_
  refine z_rdVv (n := 1) (C := R_B) (rest := []) ⟨hx, hb, hml, hown, hts⟩ hW0 (c_B_requirePlace G A np ns nc nn nm fv so sf st sn sc sp sx sy k (by omega)) w_102 w_99 w_101 wp_0 w_1 (by decide +kernel) ⟨rfl, rfl, Nat.le_of_ble_eq_true rfl, Nat.le_of_ble_eq_true rfl⟩ (hO0.recv hK rfl) (hB) rfl rfl hl.1 (Nat.le_of_ble_eq_true rfl) d_B_nameOn_2 ⟨Nat.zero_le _, Nat.zero_le _⟩ ?_
  refine lv_iload_n hx hb d_B_nameOn_5 rfl (lv_at hl 2 rfl) ?_
  refine z_rdSv (n := 1) (rest := []) ⟨hx, hb, hml, hown, hts⟩ hW0 (c_B_requireDay G d hd) w_200 w_198 w_199 w_1 (by decide +kernel) ⟨rfl, rfl, Nat.le_of_ble_eq_true rfl, Nat.le_of_ble_eq_true rfl⟩ (trivial) rfl rfl hl.1 (Nat.le_of_ble_eq_true rfl) d_B_nameOn_6 ⟨Nat.zero_le _, Nat.zero_le _⟩ ?_
  refine lv_aload_n hx hb d_B_nameOn_9 rfl (lv_at hl 0 rfl) ?_
  refine va_get (D := (dC, dI)) (ci := 3) (v := .ref (A 1)) (C := R_B) (T := T_B) (N := 7) hx hb hts in_B hown hK hO0.P 0 rfl rfl 5 (by decide) (hts _ w_73) (fun _ h9 => h9) rfl d_B_nameOn_10 ?_
  refine lv_iload_n hx hb d_B_nameOn_13 rfl (lv_at hl 1 rfl) ?_
  refine lv_iload_n hx hb d_B_nameOn_14 rfl (lv_at hl 2 rfl) ?_
  refine z_rdV (n := 2) (C := R_N) (rest := []) ⟨hx, hb, hml, hown, hts⟩ hW0 (c_N_find G (A 1) (A 5) (A 6) (A 7) (A 8) nn (fv 1) (fv 2) (fv 3) (fv 4) (nI k) d hnn) w_467 w_464 w_465 w_466 w_2 (by decide +kernel) ⟨rfl, rfl, Nat.le_of_ble_eq_true rfl, Nat.le_of_ble_eq_true rfl⟩ (hO1.recv hK rfl) (hNm) rfl rfl hl.1 (Nat.le_of_ble_eq_true rfl) d_B_nameOn_15 ⟨Nat.zero_le _, Nat.zero_le _⟩ ?_
  exact z_iret hx hb hr hlocks (by rfl) d_B_nameOn_18
set_option maxRecDepth 100000 in
set_option maxHeartbeats 4000000 in
theorem c_B_threeWay (G : z_G s0 (dC, dI) cI cS) (A : Nat → Nat) (np ns nc nn nm : Nat) (fv : Nat → Nat → Int32) (so sf st : Nat → Int32) (sn sc : Nat → Nat) (sp : Nat → Option Nat) (sx sy : Nat → Nat → Int32) (k : Nat) (hk : k < np) (x y d : Int32) (hp : z_pt x y) (hd : z_day d) : Met l y_B_threeWay [Cond.code y_B_threeWay b_B_threeWay 7 (some .int)] ({ frames := 4, cells := 0, slots := 0, locals := 97 }) (z_Pc s0 [.ref (A 0), .int (nI k), .int x, .int y, .int d] (fun H => z_BD (dC, dI) cI cS H A np ns nc nn nm fv so sf st sn sc sp sx sy)) (z_Qr (some (.int (pb_tw sx sy sn sp x y (pb_f so sf st sc ns (nI k) d))))) 0 0 z_no := by
  refine z_ofW (by decide +kernel) (Nat.le_of_ble_eq_true rfl) ?_
  intro p e s m below meth c hx hb hml hr hown hlocks hnm hW0 hB ls hl
  have hts := z_hts (args := [.ref (A 0), .int (nI k), .int x, .int y, .int d].toArray) G.1 hW0
  have hN := z_nstW G.2.1 hW0
  have hK := va_K.moved hW0.alike G.2.2.1
  have hAI := arrOfT_moved hW0.alike G.2.2.2.1
  have hl : lv_has ls 7 [(0, .ref (A 0)), (1, .int (nI k)), (2, .int x), (3, .int y), (4, .int d)] := hl
  obtain ⟨⟨hO0, hO1, hO2, hB3, hFA, hSH⟩, hinj, ⟨hnp, hns, hnn, hnm, hnc⟩, hsb⟩ := id hB
  have hAS := arrOfT_moved hW0.alike G.2.2.2.2.1
  refine lv_aload_n hx hb d_B_threeWay_0 rfl (lv_at hl 0 rfl) ?_
  refine lv_iload_n hx hb d_B_threeWay_1 rfl (lv_at hl 1 rfl) ?_
  refine z_rdVv (n := 1) (C := R_B) (rest := []) ⟨hx, hb, hml, hown, hts⟩ hW0 (c_B_requirePlace G A np ns nc nn nm fv so sf st sn sc sp sx sy k (by omega)) w_102 w_99 w_101 wp_0 w_1 (by decide +kernel) ⟨rfl, rfl, Nat.le_of_ble_eq_true rfl, Nat.le_of_ble_eq_true rfl⟩ (hO0.recv hK rfl) (hB) rfl rfl hl.1 (Nat.le_of_ble_eq_true rfl) d_B_threeWay_2 ⟨Nat.zero_le _, Nat.zero_le _⟩ ?_
  refine lv_iload_n hx hb d_B_threeWay_5 rfl (lv_at hl 2 rfl) ?_
  refine lv_iload_n hx hb d_B_threeWay_6 rfl (lv_at hl 3 rfl) ?_
  refine z_rdSv (n := 2) (rest := []) ⟨hx, hb, hml, hown, hts⟩ hW0 (c_B_requirePoint G x y hp) w_271 w_269 w_270 w_1 (by decide +kernel) ⟨rfl, rfl, Nat.le_of_ble_eq_true rfl, Nat.le_of_ble_eq_true rfl⟩ (trivial) rfl rfl hl.1 (Nat.le_of_ble_eq_true rfl) d_B_threeWay_7 ⟨Nat.zero_le _, Nat.zero_le _⟩ ?_
  refine lv_iload hx hb d_B_threeWay_10 (lv_at hl 4 rfl) ?_
  refine z_rdSv (n := 1) (rest := []) ⟨hx, hb, hml, hown, hts⟩ hW0 (c_B_requireDay G d hd) w_200 w_198 w_199 w_1 (by decide +kernel) ⟨rfl, rfl, Nat.le_of_ble_eq_true rfl, Nat.le_of_ble_eq_true rfl⟩ (trivial) rfl rfl hl.1 (Nat.le_of_ble_eq_true rfl) d_B_threeWay_12 ⟨Nat.zero_le _, Nat.zero_le _⟩ ?_
  refine lv_aload_n hx hb d_B_threeWay_15 rfl (lv_at hl 0 rfl) ?_
  refine lv_iload_n hx hb d_B_threeWay_16 rfl (lv_at hl 1 rfl) ?_
  refine lv_iload hx hb d_B_threeWay_17 (lv_at hl 4 rfl) ?_
  refine z_rdV (n := 2) (C := R_B) (rest := []) ⟨hx, hb, hml, hown, hts⟩ hW0 (c_B_shapeOn G A np ns nc nn nm fv so sf st sn sc sp sx sy (nI k) d) w_363 w_360 w_362 wp_11 w_1 (by decide +kernel) ⟨rfl, rfl, Nat.le_of_ble_eq_true rfl, Nat.le_of_ble_eq_true rfl⟩ (hO0.recv hK rfl) (hB) rfl rfl hl.1 (Nat.le_of_ble_eq_true rfl) d_B_threeWay_19 ⟨Nat.zero_le _, Nat.zero_le _⟩ ?_
  obtain ⟨o_19, hq_19⟩ : ∃ o, pb_f so sf st sc ns (nI k) d = o := ⟨_, rfl⟩
  rcases o_19 with _ | j_19
  · skip
    refine z_topv (w := .null) (by rw [hq_19]; rfl) ?_
    refine lv_astoreN (lv' := [(5, .null), (0, .ref (A 0)), (1, .int (nI k)), (2, .int x), (3, .int y), (4, .int d)]) hx hb d_B_threeWay_22 hl (by decide) rfl (fun ls hl => ?_)
    refine lv_aloadN hx hb d_B_threeWay_24 (lv_at hl 0 rfl) ?_
    refine lv_ifnonnullN hx hb d_B_threeWay_26 ?_
    refine lv_iconst (v := (-1)) hx hb d_B_threeWay_29 (by decide) ?_
    exact z_iret hx hb hr hlocks (by simp [pi_b, pb_tw, hq_19]) d_B_threeWay_30
  · skip
    have hj_19 := pb_f_ok hq_19
    have hS_j_19 := hSH j_19 hj_19.1
    have hb_j_19 := hsb j_19 hj_19.1
    obtain ⟨hO_j_19, hX_j_19, hY_j_19⟩ := id hS_j_19
    refine z_topv (w := .ref (A (13 + 3 * j_19))) (by rw [hq_19]; rfl) ?_
    refine lv_astore (lv' := [(5, .ref (A (13 + 3 * j_19))), (0, .ref (A 0)), (1, .int (nI k)), (2, .int x), (3, .int y), (4, .int d)]) hx hb d_B_threeWay_22 hl (by decide) rfl (fun ls hl => ?_)
    refine lv_aload hx hb d_B_threeWay_24 (lv_at hl 0 rfl) ?_
    refine lv_ifnonnull (tgt := 31) hx hb d_B_threeWay_26 (by decide) ?_
    refine lv_aload hx hb d_B_threeWay_31 (lv_at hl 0 rfl) ?_
    refine va_get (D := (dC, dI)) (ci := 2) (v := z_pv A (sp j_19)) (C := R_S) (T := T_S) (N := 9) hx hb hts in_S hown hK hO_j_19.P 0 rfl rfl 8 (by decide) (hts _ w_237) (fun _ h9 => h9) rfl d_B_threeWay_33 ?_
    obtain ⟨o_p, hsp⟩ : ∃ o, sp j_19 = o := ⟨_, rfl⟩
    rcases o_p with _ | q_p
    · skip
      refine z_topv (w := .null) (by rw [hsp]; rfl) ?_
      refine lv_ifnonnullN hx hb d_B_threeWay_36 ?_
      refine lv_aload hx hb d_B_threeWay_39 (lv_at hl 0 rfl) ?_
      refine lv_goto (tgt := 49) hx hb d_B_threeWay_41 (by decide) ?_
      refine lv_astore (lv' := [(6, .ref (A (13 + 3 * j_19))), (5, .ref (A (13 + 3 * j_19))), (0, .ref (A 0)), (1, .int (nI k)), (2, .int x), (3, .int y), (4, .int d)]) hx hb d_B_threeWay_49 hl (by decide) rfl (fun ls hl => ?_)
      refine lv_aload hx hb d_B_threeWay_51 (lv_at hl 1 rfl) ?_
      refine lv_iload_n hx hb d_B_threeWay_53 rfl (lv_at hl 4 rfl) ?_
      refine lv_iload_n hx hb d_B_threeWay_54 rfl (lv_at hl 5 rfl) ?_
      refine z_rdV (n := 2) (C := R_S) (rest := []) ⟨hx, hb, hml, hown, hts⟩ hW0 (c_S_contains G (A (13 + 3 * j_19)) (A (14 + 3 * j_19)) (A (15 + 3 * j_19)) (sn j_19) (nI j_19) (so j_19) (sf j_19) (st j_19) (nI (sc j_19)) (z_pv A (sp j_19)) (sx j_19) (sy j_19) x y hb_j_19.1) w_382 w_379 w_380 w_381 w_11 (by decide +kernel) ⟨rfl, rfl, Nat.le_of_ble_eq_true rfl, Nat.le_of_ble_eq_true rfl⟩ (hO_j_19.recv hK rfl) (hS_j_19) rfl rfl hl.1 (Nat.le_of_ble_eq_true rfl) d_B_threeWay_55 ⟨Nat.zero_le _, Nat.zero_le _⟩ ?_
      refine lv_if_eq (tgt := 65) hx hb d_B_threeWay_58 (by decide) (fun c_1 => ?_) (fun c_1 => ?_)
      · skip
        have c_1 : (pc_in (sx j_19) (sy j_19) (sn j_19) x y) = false := pi_b_0.mp c_1
        refine lv_iconst (v := 0) hx hb d_B_threeWay_65 (by decide) ?_
        refine lv_aload hx hb d_B_threeWay_66 (lv_at hl 0 rfl) ?_
        refine lv_iload_n hx hb d_B_threeWay_68 rfl (lv_at hl 4 rfl) ?_
        refine lv_iload_n hx hb d_B_threeWay_69 rfl (lv_at hl 5 rfl) ?_
        refine z_rdV (n := 2) (C := R_S) (rest := [.int 0]) ⟨hx, hb, hml, hown, hts⟩ hW0 (c_S_contains G (A (13 + 3 * j_19)) (A (14 + 3 * j_19)) (A (15 + 3 * j_19)) (sn j_19) (nI j_19) (so j_19) (sf j_19) (st j_19) (nI (sc j_19)) (z_pv A (sp j_19)) (sx j_19) (sy j_19) x y hb_j_19.1) w_382 w_379 w_380 w_381 w_11 (by decide +kernel) ⟨rfl, rfl, Nat.le_of_ble_eq_true rfl, Nat.le_of_ble_eq_true rfl⟩ (hO_j_19.recv hK rfl) (hS_j_19) rfl rfl hl.1 (Nat.le_of_ble_eq_true rfl) d_B_threeWay_70 ⟨Nat.zero_le _, Nat.zero_le _⟩ ?_
        refine lv_if_eq (tgt := 80) hx hb d_B_threeWay_73 (by decide) (fun c_2 => ?_) (fun c_2 => ?_)
        · skip
          have c_2 : (pc_in (sx j_19) (sy j_19) (sn j_19) x y) = false := pi_b_0.mp c_2
          refine lv_iconst (v := 0) hx hb d_B_threeWay_80 (by decide) ?_
          refine lv_iadd hx hb d_B_threeWay_81 ?_
          exact z_iret hx hb hr hlocks (by simp [pi_b, pb_tw, hq_19, hsp, c_1, c_2]) d_B_threeWay_82
        · skip
          have c_2 : (pc_in (sx j_19) (sy j_19) (sn j_19) x y) = true := pi_b_1.mp c_2
          exact absurd (c_2.symm.trans c_1) (by decide)
      · skip
        have c_1 : (pc_in (sx j_19) (sy j_19) (sn j_19) x y) = true := pi_b_1.mp c_1
        refine lv_iconst (v := 1) hx hb d_B_threeWay_61 (by decide) ?_
        refine lv_goto (tgt := 66) hx hb d_B_threeWay_62 (by decide) ?_
        refine lv_aload hx hb d_B_threeWay_66 (lv_at hl 0 rfl) ?_
        refine lv_iload_n hx hb d_B_threeWay_68 rfl (lv_at hl 4 rfl) ?_
        refine lv_iload_n hx hb d_B_threeWay_69 rfl (lv_at hl 5 rfl) ?_
        refine z_rdV (n := 2) (C := R_S) (rest := [.int 1]) ⟨hx, hb, hml, hown, hts⟩ hW0 (c_S_contains G (A (13 + 3 * j_19)) (A (14 + 3 * j_19)) (A (15 + 3 * j_19)) (sn j_19) (nI j_19) (so j_19) (sf j_19) (st j_19) (nI (sc j_19)) (z_pv A (sp j_19)) (sx j_19) (sy j_19) x y hb_j_19.1) w_382 w_379 w_380 w_381 w_11 (by decide +kernel) ⟨rfl, rfl, Nat.le_of_ble_eq_true rfl, Nat.le_of_ble_eq_true rfl⟩ (hO_j_19.recv hK rfl) (hS_j_19) rfl rfl hl.1 (Nat.le_of_ble_eq_true rfl) d_B_threeWay_70 ⟨Nat.zero_le _, Nat.zero_le _⟩ ?_
        refine lv_if_eq (tgt := 80) hx hb d_B_threeWay_73 (by decide) (fun c_3 => ?_) (fun c_3 => ?_)
        · skip
          have c_3 : (pc_in (sx j_19) (sy j_19) (sn j_19) x y) = false := pi_b_0.mp c_3
          exact absurd (c_1.symm.trans c_3) (by decide)
        · skip
          have c_3 : (pc_in (sx j_19) (sy j_19) (sn j_19) x y) = true := pi_b_1.mp c_3
          refine lv_iconst (v := 1) hx hb d_B_threeWay_76 (by decide) ?_
          refine lv_goto (tgt := 81) hx hb d_B_threeWay_77 (by decide) ?_
          refine lv_iadd hx hb d_B_threeWay_81 ?_
          exact z_iret hx hb hr hlocks (by simp [pi_b, pb_tw, hq_19, hsp, c_1, c_3]) d_B_threeWay_82
    · skip
      have hl_p := hb_j_19.2.2.2 q_p hsp
      have hS_q_p := hSH q_p hl_p
      have hb_q_p := hsb q_p hl_p
      obtain ⟨hO_q_p, hX_q_p, hY_q_p⟩ := id hS_q_p
      refine z_topv (w := .ref (A (13 + 3 * q_p))) (by rw [hsp]; rfl) ?_
      refine lv_ifnonnull (tgt := 44) hx hb d_B_threeWay_36 (by decide) ?_
      refine lv_aload hx hb d_B_threeWay_44 (lv_at hl 0 rfl) ?_
      refine va_get (D := (dC, dI)) (ci := 2) (v := z_pv A (sp j_19)) (C := R_S) (T := T_S) (N := 9) hx hb hts in_S hown hK hO_j_19.P 0 rfl rfl 8 (by decide) (hts _ w_237) (fun _ h9 => h9) rfl d_B_threeWay_46 ?_
      refine z_topv (w := .ref (A (13 + 3 * q_p))) (by rw [hsp]; rfl) ?_
      refine lv_astore (lv' := [(6, .ref (A (13 + 3 * q_p))), (5, .ref (A (13 + 3 * j_19))), (0, .ref (A 0)), (1, .int (nI k)), (2, .int x), (3, .int y), (4, .int d)]) hx hb d_B_threeWay_49 hl (by decide) rfl (fun ls hl => ?_)
      refine lv_aload hx hb d_B_threeWay_51 (lv_at hl 1 rfl) ?_
      refine lv_iload_n hx hb d_B_threeWay_53 rfl (lv_at hl 4 rfl) ?_
      refine lv_iload_n hx hb d_B_threeWay_54 rfl (lv_at hl 5 rfl) ?_
      refine z_rdV (n := 2) (C := R_S) (rest := []) ⟨hx, hb, hml, hown, hts⟩ hW0 (c_S_contains G (A (13 + 3 * j_19)) (A (14 + 3 * j_19)) (A (15 + 3 * j_19)) (sn j_19) (nI j_19) (so j_19) (sf j_19) (st j_19) (nI (sc j_19)) (z_pv A (sp j_19)) (sx j_19) (sy j_19) x y hb_j_19.1) w_382 w_379 w_380 w_381 w_11 (by decide +kernel) ⟨rfl, rfl, Nat.le_of_ble_eq_true rfl, Nat.le_of_ble_eq_true rfl⟩ (hO_j_19.recv hK rfl) (hS_j_19) rfl rfl hl.1 (Nat.le_of_ble_eq_true rfl) d_B_threeWay_55 ⟨Nat.zero_le _, Nat.zero_le _⟩ ?_
      refine lv_if_eq (tgt := 65) hx hb d_B_threeWay_58 (by decide) (fun c_4 => ?_) (fun c_4 => ?_)
      · skip
        have c_4 : (pc_in (sx j_19) (sy j_19) (sn j_19) x y) = false := pi_b_0.mp c_4
        refine lv_iconst (v := 0) hx hb d_B_threeWay_65 (by decide) ?_
        refine lv_aload hx hb d_B_threeWay_66 (lv_at hl 0 rfl) ?_
        refine lv_iload_n hx hb d_B_threeWay_68 rfl (lv_at hl 4 rfl) ?_
        refine lv_iload_n hx hb d_B_threeWay_69 rfl (lv_at hl 5 rfl) ?_
        refine z_rdV (n := 2) (C := R_S) (rest := [.int 0]) ⟨hx, hb, hml, hown, hts⟩ hW0 (c_S_contains G (A (13 + 3 * q_p)) (A (14 + 3 * q_p)) (A (15 + 3 * q_p)) (sn q_p) (nI q_p) (so q_p) (sf q_p) (st q_p) (nI (sc q_p)) (z_pv A (sp q_p)) (sx q_p) (sy q_p) x y hb_q_p.1) w_382 w_379 w_380 w_381 w_11 (by decide +kernel) ⟨rfl, rfl, Nat.le_of_ble_eq_true rfl, Nat.le_of_ble_eq_true rfl⟩ (hO_q_p.recv hK rfl) (hS_q_p) rfl rfl hl.1 (Nat.le_of_ble_eq_true rfl) d_B_threeWay_70 ⟨Nat.zero_le _, Nat.zero_le _⟩ ?_
        refine lv_if_eq (tgt := 80) hx hb d_B_threeWay_73 (by decide) (fun c_5 => ?_) (fun c_5 => ?_)
        · skip
          have c_5 : (pc_in (sx q_p) (sy q_p) (sn q_p) x y) = false := pi_b_0.mp c_5
          refine lv_iconst (v := 0) hx hb d_B_threeWay_80 (by decide) ?_
          refine lv_iadd hx hb d_B_threeWay_81 ?_
          exact z_iret hx hb hr hlocks (by simp [pi_b, pb_tw, hq_19, hsp, c_4, c_5]) d_B_threeWay_82
        · skip
          have c_5 : (pc_in (sx q_p) (sy q_p) (sn q_p) x y) = true := pi_b_1.mp c_5
          refine lv_iconst (v := 1) hx hb d_B_threeWay_76 (by decide) ?_
          refine lv_goto (tgt := 81) hx hb d_B_threeWay_77 (by decide) ?_
          refine lv_iadd hx hb d_B_threeWay_81 ?_
          exact z_iret hx hb hr hlocks (by simp [pi_b, pb_tw, hq_19, hsp, c_4, c_5]) d_B_threeWay_82
      · skip
        have c_4 : (pc_in (sx j_19) (sy j_19) (sn j_19) x y) = true := pi_b_1.mp c_4
        refine lv_iconst (v := 1) hx hb d_B_threeWay_61 (by decide) ?_
        refine lv_goto (tgt := 66) hx hb d_B_threeWay_62 (by decide) ?_
        refine lv_aload hx hb d_B_threeWay_66 (lv_at hl 0 rfl) ?_
        refine lv_iload_n hx hb d_B_threeWay_68 rfl (lv_at hl 4 rfl) ?_
        refine lv_iload_n hx hb d_B_threeWay_69 rfl (lv_at hl 5 rfl) ?_
        refine z_rdV (n := 2) (C := R_S) (rest := [.int 1]) ⟨hx, hb, hml, hown, hts⟩ hW0 (c_S_contains G (A (13 + 3 * q_p)) (A (14 + 3 * q_p)) (A (15 + 3 * q_p)) (sn q_p) (nI q_p) (so q_p) (sf q_p) (st q_p) (nI (sc q_p)) (z_pv A (sp q_p)) (sx q_p) (sy q_p) x y hb_q_p.1) w_382 w_379 w_380 w_381 w_11 (by decide +kernel) ⟨rfl, rfl, Nat.le_of_ble_eq_true rfl, Nat.le_of_ble_eq_true rfl⟩ (hO_q_p.recv hK rfl) (hS_q_p) rfl rfl hl.1 (Nat.le_of_ble_eq_true rfl) d_B_threeWay_70 ⟨Nat.zero_le _, Nat.zero_le _⟩ ?_
        refine lv_if_eq (tgt := 80) hx hb d_B_threeWay_73 (by decide) (fun c_6 => ?_) (fun c_6 => ?_)
        · skip
          have c_6 : (pc_in (sx q_p) (sy q_p) (sn q_p) x y) = false := pi_b_0.mp c_6
          refine lv_iconst (v := 0) hx hb d_B_threeWay_80 (by decide) ?_
          refine lv_iadd hx hb d_B_threeWay_81 ?_
          exact z_iret hx hb hr hlocks (by simp [pi_b, pb_tw, hq_19, hsp, c_4, c_6]) d_B_threeWay_82
        · skip
          have c_6 : (pc_in (sx q_p) (sy q_p) (sn q_p) x y) = true := pi_b_1.mp c_6
          refine lv_iconst (v := 1) hx hb d_B_threeWay_76 (by decide) ?_
          refine lv_goto (tgt := 81) hx hb d_B_threeWay_77 (by decide) ?_
          refine lv_iadd hx hb d_B_threeWay_81 ?_
          exact z_iret hx hb hr hlocks (by simp [pi_b, pb_tw, hq_19, hsp, c_4, c_6]) d_B_threeWay_82
set_option maxRecDepth 100000 in
set_option maxHeartbeats 4000000 in
theorem c_B_misfitsOn (G : z_G s0 (dC, dI) cI cS) (A : Nat → Nat) (np ns nc nn nm : Nat) (fv : Nat → Nat → Int32) (so sf st : Nat → Int32) (sn sc : Nat → Nat) (sp : Nat → Option Nat) (sx sy : Nat → Nat → Int32) (k : Nat) (hk : k < np) (d : Int32) : Met l y_B_misfitsOn [Cond.code y_B_misfitsOn b_B_misfitsOn 6 (some .boolean)] ({ frames := 5, cells := 0, slots := 0, locals := 119 }) (z_Pc s0 [.ref (A 0), .int (nI k), .int d] (fun H => z_BD (dC, dI) cI cS H A np ns nc nn nm fv so sf st sn sc sp sx sy)) (z_Qr (some (.int (pi_b (pb_mis fv so sf st sn sc sx sy ns d k))))) 0 0 z_no := by
  refine z_ofW (by decide +kernel) (Nat.le_of_ble_eq_true rfl) ?_
  intro p e s m below meth c hx hb hml hr hown hlocks hnm hW0 hB ls hl
  have hts := z_hts (args := [.ref (A 0), .int (nI k), .int d].toArray) G.1 hW0
  have hN := z_nstW G.2.1 hW0
  have hK := va_K.moved hW0.alike G.2.2.1
  have hAI := arrOfT_moved hW0.alike G.2.2.2.1
  have hl : lv_has ls 6 [(0, .ref (A 0)), (1, .int (nI k)), (2, .int d)] := hl
  obtain ⟨⟨hO0, hO1, hO2, hB3, hFA, hSH⟩, hinj, ⟨hnp, hns, hnn, hnm, hnc⟩, hsb⟩ := id hB
  have hAS := arrOfT_moved hW0.alike G.2.2.2.2.1
  refine lv_aload_n hx hb d_B_misfitsOn_0 rfl (lv_at hl 0 rfl) ?_
  refine va_get (D := (dC, dI)) (ci := 3) (v := .ref (A 4)) (C := R_B) (T := T_B) (N := 7) hx hb hts in_B hown hK hO0.P 0 rfl rfl 0 (by decide) (hts _ w_68) (fun _ h9 => h9) rfl d_B_misfitsOn_1 ?_
  refine lv_iload_n hx hb d_B_misfitsOn_4 rfl (lv_at hl 1 rfl) ?_
  refine z_iald hx hb hAI (show z_A cI _ (A 4) 16 (fv 0) from hFA 0 (by omega)) (by omega) (by decide) d_B_misfitsOn_5 ?_
  refine lv_istore_n (lv' := [(3, .int ((fv 0) k)), (0, .ref (A 0)), (1, .int (nI k)), (2, .int d)]) hx hb d_B_misfitsOn_6 rfl hl (by decide) rfl (fun ls hl => ?_)
  refine lv_iload_n hx hb d_B_misfitsOn_7 rfl (lv_at hl 0 rfl) ?_
  refine lv_iconst (v := (-1)) hx hb d_B_misfitsOn_8 (by decide) ?_
  refine lv_icmp_ne (tgt := 14) hx hb d_B_misfitsOn_9 (by decide) (fun c_1 => ?_) (fun c_1 => ?_)
  · skip
    refine lv_aload_n hx hb d_B_misfitsOn_14 rfl (lv_at hl 1 rfl) ?_
    refine lv_iload_n hx hb d_B_misfitsOn_15 rfl (lv_at hl 2 rfl) ?_
    refine lv_iload_n hx hb d_B_misfitsOn_16 rfl (lv_at hl 3 rfl) ?_
    refine z_rdV (n := 2) (C := R_B) (rest := []) ⟨hx, hb, hml, hown, hts⟩ hW0 (c_B_shapeOn G A np ns nc nn nm fv so sf st sn sc sp sx sy (nI k) d) w_363 w_360 w_362 wp_11 w_1 (by decide +kernel) ⟨rfl, rfl, Nat.le_of_ble_eq_true rfl, Nat.le_of_ble_eq_true rfl⟩ (hO0.recv hK rfl) (hB) rfl rfl hl.1 (Nat.le_of_ble_eq_true rfl) d_B_misfitsOn_17 ⟨Nat.zero_le _, Nat.zero_le _⟩ ?_
    obtain ⟨o_17, hq_17⟩ : ∃ o, pb_f so sf st sc ns (nI k) d = o := ⟨_, rfl⟩
    rcases o_17 with _ | j_17
    · skip
      refine z_topv (w := .null) (by rw [hq_17]; rfl) ?_
      refine lv_astoreN (lv' := [(4, .null), (3, .int ((fv 0) k)), (0, .ref (A 0)), (1, .int (nI k)), (2, .int d)]) hx hb d_B_misfitsOn_20 hl (by decide) rfl (fun ls hl => ?_)
      refine lv_aload_n hx hb d_B_misfitsOn_22 rfl (lv_at hl 2 rfl) ?_
      refine lv_iload_n hx hb d_B_misfitsOn_23 rfl (lv_at hl 1 rfl) ?_
      refine lv_iload_n hx hb d_B_misfitsOn_24 rfl (lv_at hl 4 rfl) ?_
      refine z_rdV (n := 2) (C := R_B) (rest := []) ⟨hx, hb, hml, hown, hts⟩ hW0 (c_B_shapeOn G A np ns nc nn nm fv so sf st sn sc sp sx sy ((fv 0) k) d) w_363 w_360 w_362 wp_11 w_1 (by decide +kernel) ⟨rfl, rfl, Nat.le_of_ble_eq_true rfl, Nat.le_of_ble_eq_true rfl⟩ (hO0.recv hK rfl) (hB) rfl rfl hl.1 (Nat.le_of_ble_eq_true rfl) d_B_misfitsOn_25 ⟨Nat.zero_le _, Nat.zero_le _⟩ ?_
      obtain ⟨o_25, hq_25⟩ : ∃ o, pb_f so sf st sc ns ((fv 0) k) d = o := ⟨_, rfl⟩
      rcases o_25 with _ | j_25
      · skip
        refine z_topv (w := .null) (by rw [hq_25]; rfl) ?_
        refine lv_astoreN (lv' := [(5, .null), (4, .null), (3, .int ((fv 0) k)), (0, .ref (A 0)), (1, .int (nI k)), (2, .int d)]) hx hb d_B_misfitsOn_28 hl (by decide) rfl (fun ls hl => ?_)
        refine lv_aloadN hx hb d_B_misfitsOn_30 (lv_at hl 1 rfl) ?_
        refine lv_ifnullN (tgt := 54) hx hb d_B_misfitsOn_32 (by decide) ?_
        refine lv_iconst (v := 0) hx hb d_B_misfitsOn_54 (by decide) ?_
        exact z_zret hx hb hr hlocks (by simp [pi_b, pb_mis, pb_mf, hq_17, hq_25, c_1]) d_B_misfitsOn_55
      · skip
        have hj_25 := pb_f_ok hq_25
        have hS_j_25 := hSH j_25 hj_25.1
        have hb_j_25 := hsb j_25 hj_25.1
        obtain ⟨hO_j_25, hX_j_25, hY_j_25⟩ := id hS_j_25
        refine z_topv (w := .ref (A (13 + 3 * j_25))) (by rw [hq_25]; rfl) ?_
        refine lv_astore (lv' := [(5, .ref (A (13 + 3 * j_25))), (4, .null), (3, .int ((fv 0) k)), (0, .ref (A 0)), (1, .int (nI k)), (2, .int d)]) hx hb d_B_misfitsOn_28 hl (by decide) rfl (fun ls hl => ?_)
        refine lv_aloadN hx hb d_B_misfitsOn_30 (lv_at hl 1 rfl) ?_
        refine lv_ifnullN (tgt := 54) hx hb d_B_misfitsOn_32 (by decide) ?_
        refine lv_iconst (v := 0) hx hb d_B_misfitsOn_54 (by decide) ?_
        exact z_zret hx hb hr hlocks (by simp [pi_b, pb_mis, pb_mf, hq_17, hq_25, c_1]) d_B_misfitsOn_55
    · skip
      have hj_17 := pb_f_ok hq_17
      have hS_j_17 := hSH j_17 hj_17.1
      have hb_j_17 := hsb j_17 hj_17.1
      obtain ⟨hO_j_17, hX_j_17, hY_j_17⟩ := id hS_j_17
      refine z_topv (w := .ref (A (13 + 3 * j_17))) (by rw [hq_17]; rfl) ?_
      refine lv_astore (lv' := [(4, .ref (A (13 + 3 * j_17))), (3, .int ((fv 0) k)), (0, .ref (A 0)), (1, .int (nI k)), (2, .int d)]) hx hb d_B_misfitsOn_20 hl (by decide) rfl (fun ls hl => ?_)
      refine lv_aload_n hx hb d_B_misfitsOn_22 rfl (lv_at hl 2 rfl) ?_
      refine lv_iload_n hx hb d_B_misfitsOn_23 rfl (lv_at hl 1 rfl) ?_
      refine lv_iload_n hx hb d_B_misfitsOn_24 rfl (lv_at hl 4 rfl) ?_
      refine z_rdV (n := 2) (C := R_B) (rest := []) ⟨hx, hb, hml, hown, hts⟩ hW0 (c_B_shapeOn G A np ns nc nn nm fv so sf st sn sc sp sx sy ((fv 0) k) d) w_363 w_360 w_362 wp_11 w_1 (by decide +kernel) ⟨rfl, rfl, Nat.le_of_ble_eq_true rfl, Nat.le_of_ble_eq_true rfl⟩ (hO0.recv hK rfl) (hB) rfl rfl hl.1 (Nat.le_of_ble_eq_true rfl) d_B_misfitsOn_25 ⟨Nat.zero_le _, Nat.zero_le _⟩ ?_
      obtain ⟨o_25, hq_25⟩ : ∃ o, pb_f so sf st sc ns ((fv 0) k) d = o := ⟨_, rfl⟩
      rcases o_25 with _ | j_25
      · skip
        refine z_topv (w := .null) (by rw [hq_25]; rfl) ?_
        refine lv_astoreN (lv' := [(5, .null), (4, .ref (A (13 + 3 * j_17))), (3, .int ((fv 0) k)), (0, .ref (A 0)), (1, .int (nI k)), (2, .int d)]) hx hb d_B_misfitsOn_28 hl (by decide) rfl (fun ls hl => ?_)
        refine lv_aload hx hb d_B_misfitsOn_30 (lv_at hl 1 rfl) ?_
        refine lv_ifnull hx hb d_B_misfitsOn_32 ?_
        refine lv_aloadN hx hb d_B_misfitsOn_35 (lv_at hl 0 rfl) ?_
        refine lv_ifnullN (tgt := 54) hx hb d_B_misfitsOn_37 (by decide) ?_
        refine lv_iconst (v := 0) hx hb d_B_misfitsOn_54 (by decide) ?_
        exact z_zret hx hb hr hlocks (by simp [pi_b, pb_mis, pb_mf, hq_17, hq_25, c_1]) d_B_misfitsOn_55
      · skip
        have hj_25 := pb_f_ok hq_25
        have hS_j_25 := hSH j_25 hj_25.1
        have hb_j_25 := hsb j_25 hj_25.1
        obtain ⟨hO_j_25, hX_j_25, hY_j_25⟩ := id hS_j_25
        refine z_topv (w := .ref (A (13 + 3 * j_25))) (by rw [hq_25]; rfl) ?_
        refine lv_astore (lv' := [(5, .ref (A (13 + 3 * j_25))), (4, .ref (A (13 + 3 * j_17))), (3, .int ((fv 0) k)), (0, .ref (A 0)), (1, .int (nI k)), (2, .int d)]) hx hb d_B_misfitsOn_28 hl (by decide) rfl (fun ls hl => ?_)
        refine lv_aload hx hb d_B_misfitsOn_30 (lv_at hl 1 rfl) ?_
        refine lv_ifnull hx hb d_B_misfitsOn_32 ?_
        refine lv_aload hx hb d_B_misfitsOn_35 (lv_at hl 0 rfl) ?_
        refine lv_ifnull hx hb d_B_misfitsOn_37 ?_
        refine lv_aload hx hb d_B_misfitsOn_40 (lv_at hl 0 rfl) ?_
        refine lv_aload hx hb d_B_misfitsOn_42 (lv_at hl 1 rfl) ?_
        refine z_rdV (n := 1) (C := R_S) (rest := []) ⟨hx, hb, hml, hown, hts⟩ hW0 (c_S_containsCornersOf G (A (13 + 3 * j_25)) (A (14 + 3 * j_25)) (A (15 + 3 * j_25)) (sn j_25) (nI j_25) (so j_25) (sf j_25) (st j_25) (nI (sc j_25)) (z_pv A (sp j_25)) (sx j_25) (sy j_25) (A (13 + 3 * j_17)) (A (14 + 3 * j_17)) (A (15 + 3 * j_17)) (sn j_17) (nI j_17) (so j_17) (sf j_17) (st j_17) (nI (sc j_17)) (z_pv A (sp j_17)) (sx j_17) (sy j_17) hb_j_25.1 hb_j_17.1) w_422 w_419 w_420 w_421 w_11 (by decide +kernel) ⟨rfl, rfl, Nat.le_of_ble_eq_true rfl, Nat.le_of_ble_eq_true rfl⟩ (hO_j_25.recv hK rfl) (⟨hS_j_25, hS_j_17⟩) rfl rfl hl.1 (Nat.le_of_ble_eq_true rfl) d_B_misfitsOn_44 ⟨Nat.zero_le _, Nat.zero_le _⟩ ?_
        refine lv_if_ne (tgt := 54) hx hb d_B_misfitsOn_47 (by decide) (fun c_2 => ?_) (fun c_2 => ?_)
        · skip
          have c_2 : (pc_all (sx j_25) (sy j_25) (sn j_25) (sx j_17) (sy j_17) (sn j_17) 0) = true := pi_b_1.mp c_2
          refine lv_iconst (v := 0) hx hb d_B_misfitsOn_54 (by decide) ?_
          exact z_zret hx hb hr hlocks (by simp [pi_b, pb_mis, pb_mf, hq_17, hq_25, c_1, c_2]) d_B_misfitsOn_55
        · skip
          have c_2 : (pc_all (sx j_25) (sy j_25) (sn j_25) (sx j_17) (sy j_17) (sn j_17) 0) = false := pi_b_0.mp c_2
          refine lv_iconst (v := 1) hx hb d_B_misfitsOn_50 (by decide) ?_
          refine lv_goto (tgt := 55) hx hb d_B_misfitsOn_51 (by decide) ?_
          exact z_zret hx hb hr hlocks (by simp [pi_b, pb_mis, pb_mf, hq_17, hq_25, c_1, c_2]) d_B_misfitsOn_55
  · skip
    refine lv_iconst (v := 0) hx hb d_B_misfitsOn_12 (by decide) ?_
    exact z_zret hx hb hr hlocks (by simp [pi_b, pb_mis, pb_mf, c_1]) d_B_misfitsOn_13
set_option maxRecDepth 100000 in
set_option maxHeartbeats 4000000 in
theorem c_B_inside (G : z_G s0 (dC, dI) cI cS) (A : Nat → Nat) (np ns nc nn nm : Nat) (fv : Nat → Nat → Int32) (so sf st : Nat → Int32) (sn sc : Nat → Nat) (sp : Nat → Option Nat) (sx sy : Nat → Nat → Int32) (x y d : Int32) (kk : Nat) (hkk : kk < 2 ^ 31) (hp : z_pt x y) (hd : z_day d) : Met l y_B_inside [Cond.code y_B_inside b_B_inside 8 (some .int)] ({ frames := 4, cells := 0, slots := 0, locals := 97 }) (z_Pc s0 [.ref (A 0), .int x, .int y, .int d, .int (nI kk)] (fun H => z_BD (dC, dI) cI cS H A np ns nc nn nm fv so sf st sn sc sp sx sy)) (z_Qr (some (.int (pb_kth (fun i => pb_inO sx sy sn x y (pb_f so sf st sc ns (nI i) d)) np 0 kk)))) 0 0 z_no := by
  refine z_ofW (by decide +kernel) (Nat.le_of_ble_eq_true rfl) ?_
  intro p e s m below meth c hx hb hml hr hown hlocks hnm hW0 hB ls hl
  have hts := z_hts (args := [.ref (A 0), .int x, .int y, .int d, .int (nI kk)].toArray) G.1 hW0
  have hN := z_nstW G.2.1 hW0
  have hK := va_K.moved hW0.alike G.2.2.1
  have hAI := arrOfT_moved hW0.alike G.2.2.2.1
  have hl : lv_has ls 8 [(0, .ref (A 0)), (1, .int x), (2, .int y), (3, .int d), (4, .int (nI kk))] := hl
  obtain ⟨⟨hO0, hO1, hO2, hB3, hFA, hSH⟩, hinj, ⟨hnp, hns, hnn, hnm, hnc⟩, hsb⟩ := id hB
  have hAS := arrOfT_moved hW0.alike G.2.2.2.2.1
  have loops : ∀ f : Nat, (∀ (i b : Nat), np - i < f → (i ≤ np) → (b ≤ kk) → (pb_kth (fun i => pb_inO sx sy sn x y (pb_f so sf st sc ns (nI i) d)) (np - i) i b = pb_kth (fun i => pb_inO sx sy sn x y (pb_f so sf st sc ns (nI i) d)) np 0 kk) → ∀ ls : Array Slot, lv_has ls 8 [(0, .ref (A 0)), (1, .int x), (2, .int y), (3, .int d), (5, .int (nI b)), (6, .int (nI i))] → W p l e ({ frames := 4, cells := 0, slots := 0, locals := 97 }) s m [.ref (A 0), .int x, .int y, .int d, .int (nI kk)].toArray below meth c s.heap [] 0 0 (MQ below (z_Qr (some (.int (pb_kth (fun i => pb_inO sx sy sn x y (pb_f so sf st sc ns (nI i) d)) np 0 kk)))) [.ref (A 0), .int x, .int y, .int d, .int (nI kk)].toArray s 0 0 z_no) (F0 m 21 ls [])) := by
    intro f
    induction f with
    | zero => exact fun _ _ h => absurd h (Nat.not_lt_zero _)
    | succ f ih =>
      intro i b hmu hi hbk hres ls hl
      refine lv_iload hx hb d_B_inside_21 (lv_at hl 5 rfl) ?_
      refine lv_aload_n hx hb d_B_inside_23 rfl (lv_at hl 0 rfl) ?_
      refine va_get (D := (dC, dI)) (ci := 3) (v := .int (nI np)) (C := R_B) (T := T_B) (N := 7) hx hb hts in_B hown hK hO0.P 0 rfl rfl 1 (by decide) (hts _ w_69) (fun _ h9 => h9) rfl d_B_inside_24 ?_
      refine lv_icmp_ge (tgt := 71) hx hb d_B_inside_27 (by decide) (fun c_101 => ?_) (fun c_101 => ?_)
      · skip
        have c_101 : np ≤ i := (nI_leI (a := np) (b := i) (by omega) (by omega)).mp c_101
        refine lv_iconst (v := (-1)) hx hb d_B_inside_71 (by decide) ?_
        exact z_iret hx hb hr hlocks (by rw [show np - i = 0 by omega] at hres; simpa [pb_kth] using hres) d_B_inside_72
      · skip
        have c_101 : ¬ (np ≤ i) := fun h => c_101 ((nI_leI (a := np) (b := i) (by omega) (by omega)).mpr h)
        refine lv_aload_n hx hb d_B_inside_30 rfl (lv_at hl 0 rfl) ?_
        refine lv_iload hx hb d_B_inside_31 (lv_at hl 5 rfl) ?_
        refine lv_iload_n hx hb d_B_inside_33 rfl (lv_at hl 3 rfl) ?_
        refine z_rdV (n := 2) (C := R_B) (rest := []) ⟨hx, hb, hml, hown, hts⟩ hW0 (c_B_shapeOn G A np ns nc nn nm fv so sf st sn sc sp sx sy (nI i) d) w_363 w_360 w_362 wp_11 w_1 (by decide +kernel) ⟨rfl, rfl, Nat.le_of_ble_eq_true rfl, Nat.le_of_ble_eq_true rfl⟩ (hO0.recv hK rfl) (hB) rfl rfl hl.1 (Nat.le_of_ble_eq_true rfl) d_B_inside_34 ⟨Nat.zero_le _, Nat.zero_le _⟩ ?_
        obtain ⟨o_34, hq_34⟩ : ∃ o, pb_f so sf st sc ns (nI i) d = o := ⟨_, rfl⟩
        rcases o_34 with _ | j_34
        · skip
          refine z_topv (w := .null) (by rw [hq_34]; rfl) ?_
          refine lv_astoreN (lv' := [(7, .null), (0, .ref (A 0)), (1, .int x), (2, .int y), (3, .int d), (5, .int (nI b)), (6, .int (nI i))]) hx hb d_B_inside_37 hl (by decide) rfl (fun ls hl => ?_)
          refine lv_aloadN hx hb d_B_inside_39 (lv_at hl 0 rfl) ?_
          refine lv_ifnullN (tgt := 65) hx hb d_B_inside_41 (by decide) ?_
          refine lv_iinc (v := nI (i + 1)) (lv' := [(6, .int (nI (i + 1))), (7, .null), (0, .ref (A 0)), (1, .int x), (2, .int y), (3, .int d), (5, .int (nI b))]) hx hb d_B_inside_65 hl (k := 6) rfl (nI_1 i) (by decide) rfl (fun ls hl => ?_)
          refine lv_goto (tgt := 21) hx hb d_B_inside_68 (by decide) ?_
          exact ih (i + 1) b (by omega) (by omega) (by omega) (by rw [show np - i = (np - (i + 1)) + 1 by omega] at hres; simpa [pb_kth, pb_inO, hq_34, c_101] using hres) ls (lv_sub hl [2, 3, 4, 5, 6, 0] rfl)
        · skip
          have hj_34 := pb_f_ok hq_34
          have hS_j_34 := hSH j_34 hj_34.1
          have hb_j_34 := hsb j_34 hj_34.1
          obtain ⟨hO_j_34, hX_j_34, hY_j_34⟩ := id hS_j_34
          refine z_topv (w := .ref (A (13 + 3 * j_34))) (by rw [hq_34]; rfl) ?_
          refine lv_astore (lv' := [(7, .ref (A (13 + 3 * j_34))), (0, .ref (A 0)), (1, .int x), (2, .int y), (3, .int d), (5, .int (nI b)), (6, .int (nI i))]) hx hb d_B_inside_37 hl (by decide) rfl (fun ls hl => ?_)
          refine lv_aload hx hb d_B_inside_39 (lv_at hl 0 rfl) ?_
          refine lv_ifnull hx hb d_B_inside_41 ?_
          refine lv_aload hx hb d_B_inside_44 (lv_at hl 0 rfl) ?_
          refine lv_iload_n hx hb d_B_inside_46 rfl (lv_at hl 2 rfl) ?_
          refine lv_iload_n hx hb d_B_inside_47 rfl (lv_at hl 3 rfl) ?_
          refine z_rdV (n := 2) (C := R_S) (rest := []) ⟨hx, hb, hml, hown, hts⟩ hW0 (c_S_contains G (A (13 + 3 * j_34)) (A (14 + 3 * j_34)) (A (15 + 3 * j_34)) (sn j_34) (nI j_34) (so j_34) (sf j_34) (st j_34) (nI (sc j_34)) (z_pv A (sp j_34)) (sx j_34) (sy j_34) x y hb_j_34.1) w_382 w_379 w_380 w_381 w_11 (by decide +kernel) ⟨rfl, rfl, Nat.le_of_ble_eq_true rfl, Nat.le_of_ble_eq_true rfl⟩ (hO_j_34.recv hK rfl) (hS_j_34) rfl rfl hl.1 (Nat.le_of_ble_eq_true rfl) d_B_inside_48 ⟨Nat.zero_le _, Nat.zero_le _⟩ ?_
          refine lv_if_eq (tgt := 65) hx hb d_B_inside_51 (by decide) (fun c_102 => ?_) (fun c_102 => ?_)
          · skip
            have c_102 : (pc_in (sx j_34) (sy j_34) (sn j_34) x y) = false := pi_b_0.mp c_102
            refine lv_iinc (v := nI (i + 1)) (lv' := [(6, .int (nI (i + 1))), (7, .ref (A (13 + 3 * j_34))), (0, .ref (A 0)), (1, .int x), (2, .int y), (3, .int d), (5, .int (nI b))]) hx hb d_B_inside_65 hl (k := 6) rfl (nI_1 i) (by decide) rfl (fun ls hl => ?_)
            refine lv_goto (tgt := 21) hx hb d_B_inside_68 (by decide) ?_
            exact ih (i + 1) b (by omega) (by omega) (by omega) (by rw [show np - i = (np - (i + 1)) + 1 by omega] at hres; simpa [pb_kth, pb_inO, hq_34, c_101, c_102] using hres) ls (lv_sub hl [2, 3, 4, 5, 6, 0] rfl)
          · skip
            have c_102 : (pc_in (sx j_34) (sy j_34) (sn j_34) x y) = true := pi_b_1.mp c_102
            refine lv_iload hx hb d_B_inside_54 (lv_at hl 5 rfl) ?_
            refine lv_if_ne (tgt := 62) hx hb d_B_inside_56 (by decide) (fun c_103 => ?_) (fun c_103 => ?_)
            · skip
              have c_103 : ¬ (b = 0) := fun h => c_103 ((nI_eq (a := b) (b := 0) (by omega) (by omega)).mpr h)
              refine lv_iinc (v := nI (b - 1)) (lv' := [(5, .int (nI (b - 1))), (7, .ref (A (13 + 3 * j_34))), (0, .ref (A 0)), (1, .int x), (2, .int y), (3, .int d), (6, .int (nI i))]) hx hb d_B_inside_62 hl (k := 5) rfl (z_dec c_103) (by decide) rfl (fun ls hl => ?_)
              refine lv_iinc (v := nI (i + 1)) (lv' := [(6, .int (nI (i + 1))), (5, .int (nI (b - 1))), (7, .ref (A (13 + 3 * j_34))), (0, .ref (A 0)), (1, .int x), (2, .int y), (3, .int d)]) hx hb d_B_inside_65 hl (k := 6) rfl (nI_1 i) (by decide) rfl (fun ls hl => ?_)
              refine lv_goto (tgt := 21) hx hb d_B_inside_68 (by decide) ?_
              exact ih (i + 1) (b - 1) (by omega) (by omega) (by omega) (by rw [show np - i = (np - (i + 1)) + 1 by omega] at hres; simpa [pb_kth, pb_inO, hq_34, c_101, c_102, c_103] using hres) ls (lv_sub hl [3, 4, 5, 6, 1, 0] rfl)
            · skip
              have c_103 : b = 0 := (nI_eq (a := b) (b := 0) (by omega) (by omega)).mp c_103
              refine lv_iload hx hb d_B_inside_59 (lv_at hl 6 rfl) ?_
              exact z_iret hx hb hr hlocks (by rw [show np - i = (np - (i + 1)) + 1 by omega] at hres; simp [pb_kth, pb_inO, hq_34, c_101, c_102, c_103] at hres; exact hres) d_B_inside_61
  refine lv_iload hx hb d_B_inside_0 (lv_at hl 4 rfl) ?_
  refine z_rdSv (n := 1) (rest := []) ⟨hx, hb, hml, hown, hts⟩ hW0 (c_B_requireRank G (nI kk) (nI_pos' hkk)) w_377 w_375 w_376 w_1 (by decide +kernel) ⟨rfl, rfl, Nat.le_of_ble_eq_true rfl, Nat.le_of_ble_eq_true rfl⟩ (trivial) rfl rfl hl.1 (Nat.le_of_ble_eq_true rfl) d_B_inside_2 ⟨Nat.zero_le _, Nat.zero_le _⟩ ?_
  refine lv_iload_n hx hb d_B_inside_5 rfl (lv_at hl 1 rfl) ?_
  refine lv_iload_n hx hb d_B_inside_6 rfl (lv_at hl 2 rfl) ?_
  refine z_rdSv (n := 2) (rest := []) ⟨hx, hb, hml, hown, hts⟩ hW0 (c_B_requirePoint G x y hp) w_271 w_269 w_270 w_1 (by decide +kernel) ⟨rfl, rfl, Nat.le_of_ble_eq_true rfl, Nat.le_of_ble_eq_true rfl⟩ (trivial) rfl rfl hl.1 (Nat.le_of_ble_eq_true rfl) d_B_inside_7 ⟨Nat.zero_le _, Nat.zero_le _⟩ ?_
  refine lv_iload_n hx hb d_B_inside_10 rfl (lv_at hl 3 rfl) ?_
  refine z_rdSv (n := 1) (rest := []) ⟨hx, hb, hml, hown, hts⟩ hW0 (c_B_requireDay G d hd) w_200 w_198 w_199 w_1 (by decide +kernel) ⟨rfl, rfl, Nat.le_of_ble_eq_true rfl, Nat.le_of_ble_eq_true rfl⟩ (trivial) rfl rfl hl.1 (Nat.le_of_ble_eq_true rfl) d_B_inside_11 ⟨Nat.zero_le _, Nat.zero_le _⟩ ?_
  refine lv_iload hx hb d_B_inside_14 (lv_at hl 4 rfl) ?_
  refine lv_istore (lv' := [(5, .int (nI kk)), (0, .ref (A 0)), (1, .int x), (2, .int y), (3, .int d), (4, .int (nI kk))]) hx hb d_B_inside_16 hl (by decide) rfl (fun ls hl => ?_)
  refine lv_iconst (v := 0) hx hb d_B_inside_18 (by decide) ?_
  refine lv_istore (lv' := [(6, .int 0), (5, .int (nI kk)), (0, .ref (A 0)), (1, .int x), (2, .int y), (3, .int d), (4, .int (nI kk))]) hx hb d_B_inside_19 hl (by decide) rfl (fun ls hl => ?_)
  exact (loops ((np - 0) + 1)) 0 kk (by omega) (by omega) (by omega) (by rfl) ls (lv_sub hl [2, 3, 4, 5, 1, 0] rfl)
set_option maxRecDepth 100000 in
set_option maxHeartbeats 4000000 in
theorem c_B_misfit (G : z_G s0 (dC, dI) cI cS) (A : Nat → Nat) (np ns nc nn nm : Nat) (fv : Nat → Nat → Int32) (so sf st : Nat → Int32) (sn sc : Nat → Nat) (sp : Nat → Option Nat) (sx sy : Nat → Nat → Int32) (kk : Nat) (d : Int32) (hkk : kk < 2 ^ 31) (hd : z_day d) : Met l y_B_misfit [Cond.code y_B_misfit b_B_misfit 5 (some .int)] ({ frames := 6, cells := 0, slots := 0, locals := 144 }) (z_Pc s0 [.ref (A 0), .int (nI kk), .int d] (fun H => z_BD (dC, dI) cI cS H A np ns nc nn nm fv so sf st sn sc sp sx sy)) (z_Qr (some (.int (pb_kth (fun i => pb_mis fv so sf st sn sc sx sy ns d i) np 0 kk)))) 0 0 z_no := by
  refine z_ofW (by decide +kernel) (Nat.le_of_ble_eq_true rfl) ?_
  intro p e s m below meth c hx hb hml hr hown hlocks hnm hW0 hB ls hl
  have hts := z_hts (args := [.ref (A 0), .int (nI kk), .int d].toArray) G.1 hW0
  have hN := z_nstW G.2.1 hW0
  have hK := va_K.moved hW0.alike G.2.2.1
  have hAI := arrOfT_moved hW0.alike G.2.2.2.1
  have hl : lv_has ls 5 [(0, .ref (A 0)), (1, .int (nI kk)), (2, .int d)] := hl
  obtain ⟨⟨hO0, hO1, hO2, hB3, hFA, hSH⟩, hinj, ⟨hnp, hns, hnn, hnm, hnc⟩, hsb⟩ := id hB
  have hAS := arrOfT_moved hW0.alike G.2.2.2.2.1
  have loops : ∀ f : Nat, (∀ (i b : Nat), np - i < f → (i ≤ np) → (b ≤ kk) → (pb_kth (fun i => pb_mis fv so sf st sn sc sx sy ns d i) (np - i) i b = pb_kth (fun i => pb_mis fv so sf st sn sc sx sy ns d i) np 0 kk) → ∀ ls : Array Slot, lv_has ls 5 [(0, .ref (A 0)), (2, .int d), (3, .int (nI b)), (4, .int (nI i))] → W p l e ({ frames := 6, cells := 0, slots := 0, locals := 144 }) s m [.ref (A 0), .int (nI kk), .int d].toArray below meth c s.heap [] 0 0 (MQ below (z_Qr (some (.int (pb_kth (fun i => pb_mis fv so sf st sn sc sx sy ns d i) np 0 kk)))) [.ref (A 0), .int (nI kk), .int d].toArray s 0 0 z_no) (F0 m 13 ls [])) := by
    intro f
    induction f with
    | zero => exact fun _ _ h => absurd h (Nat.not_lt_zero _)
    | succ f ih =>
      intro i b hmu hi hbk hres ls hl
      refine lv_iload hx hb d_B_misfit_13 (lv_at hl 3 rfl) ?_
      refine lv_aload_n hx hb d_B_misfit_15 rfl (lv_at hl 0 rfl) ?_
      refine va_get (D := (dC, dI)) (ci := 3) (v := .int (nI np)) (C := R_B) (T := T_B) (N := 7) hx hb hts in_B hown hK hO0.P 0 rfl rfl 1 (by decide) (hts _ w_69) (fun _ h9 => h9) rfl d_B_misfit_16 ?_
      refine lv_icmp_ge (tgt := 48) hx hb d_B_misfit_19 (by decide) (fun c_101 => ?_) (fun c_101 => ?_)
      · skip
        have c_101 : np ≤ i := (nI_leI (a := np) (b := i) (by omega) (by omega)).mp c_101
        refine lv_iconst (v := (-1)) hx hb d_B_misfit_48 (by decide) ?_
        exact z_iret hx hb hr hlocks (by rw [show np - i = 0 by omega] at hres; simpa [pb_kth] using hres) d_B_misfit_49
      · skip
        have c_101 : ¬ (np ≤ i) := fun h => c_101 ((nI_leI (a := np) (b := i) (by omega) (by omega)).mpr h)
        refine lv_aload_n hx hb d_B_misfit_22 rfl (lv_at hl 0 rfl) ?_
        refine lv_iload hx hb d_B_misfit_23 (lv_at hl 3 rfl) ?_
        refine lv_iload_n hx hb d_B_misfit_25 rfl (lv_at hl 1 rfl) ?_
        refine z_rdV (n := 2) (C := R_B) (rest := []) ⟨hx, hb, hml, hown, hts⟩ hW0 (c_B_misfitsOn G A np ns nc nn nm fv so sf st sn sc sp sx sy i (by omega) d) w_418 w_415 w_417 wp_13 w_1 (by decide +kernel) ⟨rfl, rfl, Nat.le_of_ble_eq_true rfl, Nat.le_of_ble_eq_true rfl⟩ (hO0.recv hK rfl) (hB) rfl rfl hl.1 (Nat.le_of_ble_eq_true rfl) d_B_misfit_26 ⟨Nat.zero_le _, Nat.zero_le _⟩ ?_
        refine lv_if_eq (tgt := 42) hx hb d_B_misfit_29 (by decide) (fun c_102 => ?_) (fun c_102 => ?_)
        · skip
          have c_102 : (pb_mis fv so sf st sn sc sx sy ns d i) = false := pi_b_0.mp c_102
          refine lv_iinc (v := nI (i + 1)) (lv' := [(4, .int (nI (i + 1))), (0, .ref (A 0)), (2, .int d), (3, .int (nI b))]) hx hb d_B_misfit_42 hl (k := 3) rfl (nI_1 i) (by decide) rfl (fun ls hl => ?_)
          refine lv_goto (tgt := 13) hx hb d_B_misfit_45 (by decide) ?_
          exact ih (i + 1) b (by omega) (by omega) (by omega) (by rw [show np - i = (np - (i + 1)) + 1 by omega] at hres; simpa [pb_kth, c_101, c_102] using hres) ls (lv_sub hl [1, 2, 3, 0] rfl)
        · skip
          have c_102 : (pb_mis fv so sf st sn sc sx sy ns d i) = true := pi_b_1.mp c_102
          refine lv_iload_n hx hb d_B_misfit_32 rfl (lv_at hl 2 rfl) ?_
          refine lv_if_ne (tgt := 39) hx hb d_B_misfit_33 (by decide) (fun c_103 => ?_) (fun c_103 => ?_)
          · skip
            have c_103 : ¬ (b = 0) := fun h => c_103 ((nI_eq (a := b) (b := 0) (by omega) (by omega)).mpr h)
            refine lv_iinc (v := nI (b - 1)) (lv' := [(3, .int (nI (b - 1))), (0, .ref (A 0)), (2, .int d), (4, .int (nI i))]) hx hb d_B_misfit_39 hl (k := 2) rfl (z_dec c_103) (by decide) rfl (fun ls hl => ?_)
            refine lv_iinc (v := nI (i + 1)) (lv' := [(4, .int (nI (i + 1))), (3, .int (nI (b - 1))), (0, .ref (A 0)), (2, .int d)]) hx hb d_B_misfit_42 hl (k := 3) rfl (nI_1 i) (by decide) rfl (fun ls hl => ?_)
            refine lv_goto (tgt := 13) hx hb d_B_misfit_45 (by decide) ?_
            exact ih (i + 1) (b - 1) (by omega) (by omega) (by omega) (by rw [show np - i = (np - (i + 1)) + 1 by omega] at hres; simpa [pb_kth, c_101, c_102, c_103] using hres) ls (lv_sub hl [2, 3, 1, 0] rfl)
          · skip
            have c_103 : b = 0 := (nI_eq (a := b) (b := 0) (by omega) (by omega)).mp c_103
            refine lv_iload hx hb d_B_misfit_36 (lv_at hl 3 rfl) ?_
            exact z_iret hx hb hr hlocks (by rw [show np - i = (np - (i + 1)) + 1 by omega] at hres; simp [pb_kth, c_101, c_102, c_103] at hres; exact hres) d_B_misfit_38
  refine lv_iload_n hx hb d_B_misfit_0 rfl (lv_at hl 1 rfl) ?_
  refine z_rdSv (n := 1) (rest := []) ⟨hx, hb, hml, hown, hts⟩ hW0 (c_B_requireRank G (nI kk) (nI_pos' hkk)) w_377 w_375 w_376 w_1 (by decide +kernel) ⟨rfl, rfl, Nat.le_of_ble_eq_true rfl, Nat.le_of_ble_eq_true rfl⟩ (trivial) rfl rfl hl.1 (Nat.le_of_ble_eq_true rfl) d_B_misfit_1 ⟨Nat.zero_le _, Nat.zero_le _⟩ ?_
  refine lv_iload_n hx hb d_B_misfit_4 rfl (lv_at hl 2 rfl) ?_
  refine z_rdSv (n := 1) (rest := []) ⟨hx, hb, hml, hown, hts⟩ hW0 (c_B_requireDay G d hd) w_200 w_198 w_199 w_1 (by decide +kernel) ⟨rfl, rfl, Nat.le_of_ble_eq_true rfl, Nat.le_of_ble_eq_true rfl⟩ (trivial) rfl rfl hl.1 (Nat.le_of_ble_eq_true rfl) d_B_misfit_5 ⟨Nat.zero_le _, Nat.zero_le _⟩ ?_
  refine lv_iload_n hx hb d_B_misfit_8 rfl (lv_at hl 1 rfl) ?_
  refine lv_istore_n (lv' := [(3, .int (nI kk)), (0, .ref (A 0)), (1, .int (nI kk)), (2, .int d)]) hx hb d_B_misfit_9 rfl hl (by decide) rfl (fun ls hl => ?_)
  refine lv_iconst (v := 0) hx hb d_B_misfit_10 (by decide) ?_
  refine lv_istore (lv' := [(4, .int 0), (3, .int (nI kk)), (0, .ref (A 0)), (1, .int (nI kk)), (2, .int d)]) hx hb d_B_misfit_11 hl (by decide) rfl (fun ls hl => ?_)
  exact (loops ((np - 0) + 1)) 0 kk (by omega) (by omega) (by omega) (by rfl) ls (lv_sub hl [2, 4, 1, 0] rfl)
end S6
