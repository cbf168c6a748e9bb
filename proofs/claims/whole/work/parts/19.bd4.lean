section S7
variable {s0 : State} {dC : Nat → ClassId} {dI : Nat → Nat → Nat} {cI cS : ClassId} {l : Launch}
set_option maxRecDepth 100000 in
set_option maxHeartbeats 4000000 in
theorem t_B_force_1 (G : z_G s0 (dC, dI) cI cS) (hT : z_T s0 l) (A : Nat → Nat) (np ns nc nn nm : Nat) (fv : Nat → Nat → Int32) (so sf st : Nat → Int32) (sn sc : Nat → Nat) (sp : Nat → Option Nat) (sx sy : Nat → Nat → Int32) (x0 : Int32) (hx0 : x0 < 0 ∨ nI np ≤ x0) (d : Int32) : xt_Met l y_B_force [Cond.code y_B_force b_B_force 4 (some .int)] ({ frames := 7, cells := 1, slots := 6, locals := 103 }) (z_Pc s0 [.ref (A 0), .int x0, .int d] (fun H => z_Old s0 H ∧ z_BD (dC, dI) cI cS H A np ns nc nn nm fv so sf st sn sc sp sx sy)) "java/util/NoSuchElementException" := by
  refine z_ofWX (by decide +kernel) (Nat.le_of_ble_eq_true rfl) ?_
  intro p e s m below meth c hx hb hml hadm hown hlocks hno hW0 hB ls hl
  have hts := z_hts (args := [.ref (A 0), .int x0, .int d].toArray) G.1 hW0
  have hN := z_nstW G.2.1 hW0
  have hK := va_K.moved hW0.alike G.2.2.1
  have hAI := arrOfT_moved hW0.alike G.2.2.2.1
  have hl : lv_has ls 4 [(0, .ref (A 0)), (1, .int x0), (2, .int d)] := hl
  obtain ⟨hOld, hB1⟩ := id hB
  obtain ⟨⟨hO0, hO1, hO2, hB3, hFA, hSH⟩, hinj, ⟨hnp, hns, hnn, hnm, hnc⟩, hsb⟩ := id hB1
  have hAS := arrOfT_moved hW0.alike G.2.2.2.2.1
  refine lv_aload_n hx hb d_B_force_0 rfl (lv_at hl 0 rfl) ?_
  refine lv_iload_n hx hb d_B_force_1 rfl (lv_at hl 1 rfl) ?_
  exact z_thV (n := 1) (C := R_B) (rest := []) ⟨hx, hb, hml, hown, hts⟩ hW0 hno hlocks (t_B_requirePlace G hT A np ns nc nn nm fv so sf st sn sc sp sx sy x0 hx0) w_102 w_99 w_101 wp_0 w_1 (by decide +kernel) ⟨rfl, rfl, Nat.le_of_ble_eq_true rfl, Nat.le_of_ble_eq_true rfl⟩ (hO0.recv hK rfl) (hB) rfl rfl hl.1 (Nat.le_of_ble_eq_true rfl) d_B_force_2 ⟨Nat.le_of_ble_eq_true rfl, Nat.le_of_ble_eq_true rfl⟩
set_option maxRecDepth 100000 in
set_option maxHeartbeats 4000000 in
theorem t_B_force_2 (G : z_G s0 (dC, dI) cI cS) (hT : z_T s0 l) (A : Nat → Nat) (np ns nc nn nm : Nat) (fv : Nat → Nat → Int32) (so sf st : Nat → Int32) (sn sc : Nat → Nat) (sp : Nat → Option Nat) (sx sy : Nat → Nat → Int32) (k : Nat) (hk : k < np) (d : Int32) (hd : ¬ z_day d) : xt_Met l y_B_force [Cond.code y_B_force b_B_force 4 (some .int)] ({ frames := 7, cells := 1, slots := 6, locals := 102 }) (z_Pc s0 [.ref (A 0), .int (nI k), .int d] (fun H => z_Old s0 H ∧ z_BD (dC, dI) cI cS H A np ns nc nn nm fv so sf st sn sc sp sx sy)) "java/lang/IllegalArgumentException" := by
  refine z_ofWX (by decide +kernel) (Nat.le_of_ble_eq_true rfl) ?_
  intro p e s m below meth c hx hb hml hadm hown hlocks hno hW0 hB ls hl
  have hts := z_hts (args := [.ref (A 0), .int (nI k), .int d].toArray) G.1 hW0
  have hN := z_nstW G.2.1 hW0
  have hK := va_K.moved hW0.alike G.2.2.1
  have hAI := arrOfT_moved hW0.alike G.2.2.2.1
  have hl : lv_has ls 4 [(0, .ref (A 0)), (1, .int (nI k)), (2, .int d)] := hl
  obtain ⟨hOld, hB1⟩ := id hB
  obtain ⟨⟨hO0, hO1, hO2, hB3, hFA, hSH⟩, hinj, ⟨hnp, hns, hnn, hnm, hnc⟩, hsb⟩ := id hB1
  have hAS := arrOfT_moved hW0.alike G.2.2.2.2.1
  refine lv_aload_n hx hb d_B_force_0 rfl (lv_at hl 0 rfl) ?_
  refine lv_iload_n hx hb d_B_force_1 rfl (lv_at hl 1 rfl) ?_
  refine z_rdVv (n := 1) (C := R_B) (rest := []) ⟨hx, hb, hml, hown, hts⟩ hW0 (c_B_requirePlace G A np ns nc nn nm fv so sf st sn sc sp sx sy k (by omega)) w_102 w_99 w_101 wp_0 w_1 (by decide +kernel) ⟨rfl, rfl, Nat.le_of_ble_eq_true rfl, Nat.le_of_ble_eq_true rfl⟩ (hO0.recv hK rfl) (hB1) rfl rfl hl.1 (Nat.le_of_ble_eq_true rfl) d_B_force_2 ⟨Nat.zero_le _, Nat.zero_le _⟩ ?_
  refine lv_iload_n hx hb d_B_force_5 rfl (lv_at hl 2 rfl) ?_
  exact z_thS (n := 1) (rest := []) ⟨hx, hb, hml, hown, hts⟩ hW0 hno hlocks (t_B_requireDay G hT d hd) w_200 w_198 w_199 w_1 (by decide +kernel) ⟨rfl, rfl, Nat.le_of_ble_eq_true rfl, Nat.le_of_ble_eq_true rfl⟩ (hOld) rfl rfl hl.1 (Nat.le_of_ble_eq_true rfl) d_B_force_6 ⟨Nat.le_of_ble_eq_true rfl, Nat.le_of_ble_eq_true rfl⟩
set_option maxRecDepth 100000 in
set_option maxHeartbeats 4000000 in
theorem t_B_area_1 (G : z_G s0 (dC, dI) cI cS) (hT : z_T s0 l) (A : Nat → Nat) (np ns nc nn nm : Nat) (fv : Nat → Nat → Int32) (so sf st : Nat → Int32) (sn sc : Nat → Nat) (sp : Nat → Option Nat) (sx sy : Nat → Nat → Int32) (x0 : Int32) (hx0 : x0 < 0 ∨ nI np ≤ x0) (d : Int32) : xt_Met l y_B_area [Cond.code y_B_area b_B_area 4 (some .int)] ({ frames := 7, cells := 1, slots := 6, locals := 103 }) (z_Pc s0 [.ref (A 0), .int x0, .int d] (fun H => z_Old s0 H ∧ z_BD (dC, dI) cI cS H A np ns nc nn nm fv so sf st sn sc sp sx sy)) "java/util/NoSuchElementException" := by
  refine z_ofWX (by decide +kernel) (Nat.le_of_ble_eq_true rfl) ?_
  intro p e s m below meth c hx hb hml hadm hown hlocks hno hW0 hB ls hl
  have hts := z_hts (args := [.ref (A 0), .int x0, .int d].toArray) G.1 hW0
  have hN := z_nstW G.2.1 hW0
  have hK := va_K.moved hW0.alike G.2.2.1
  have hAI := arrOfT_moved hW0.alike G.2.2.2.1
  have hl : lv_has ls 4 [(0, .ref (A 0)), (1, .int x0), (2, .int d)] := hl
  obtain ⟨hOld, hB1⟩ := id hB
  obtain ⟨⟨hO0, hO1, hO2, hB3, hFA, hSH⟩, hinj, ⟨hnp, hns, hnn, hnm, hnc⟩, hsb⟩ := id hB1
  have hAS := arrOfT_moved hW0.alike G.2.2.2.2.1
  refine lv_aload_n hx hb d_B_area_0 rfl (lv_at hl 0 rfl) ?_
  refine lv_iload_n hx hb d_B_area_1 rfl (lv_at hl 1 rfl) ?_
  exact z_thV (n := 1) (C := R_B) (rest := []) ⟨hx, hb, hml, hown, hts⟩ hW0 hno hlocks (t_B_requirePlace G hT A np ns nc nn nm fv so sf st sn sc sp sx sy x0 hx0) w_102 w_99 w_101 wp_0 w_1 (by decide +kernel) ⟨rfl, rfl, Nat.le_of_ble_eq_true rfl, Nat.le_of_ble_eq_true rfl⟩ (hO0.recv hK rfl) (hB) rfl rfl hl.1 (Nat.le_of_ble_eq_true rfl) d_B_area_2 ⟨Nat.le_of_ble_eq_true rfl, Nat.le_of_ble_eq_true rfl⟩
set_option maxRecDepth 100000 in
set_option maxHeartbeats 4000000 in
theorem t_B_area_2 (G : z_G s0 (dC, dI) cI cS) (hT : z_T s0 l) (A : Nat → Nat) (np ns nc nn nm : Nat) (fv : Nat → Nat → Int32) (so sf st : Nat → Int32) (sn sc : Nat → Nat) (sp : Nat → Option Nat) (sx sy : Nat → Nat → Int32) (k : Nat) (hk : k < np) (d : Int32) (hd : ¬ z_day d) : xt_Met l y_B_area [Cond.code y_B_area b_B_area 4 (some .int)] ({ frames := 7, cells := 1, slots := 6, locals := 102 }) (z_Pc s0 [.ref (A 0), .int (nI k), .int d] (fun H => z_Old s0 H ∧ z_BD (dC, dI) cI cS H A np ns nc nn nm fv so sf st sn sc sp sx sy)) "java/lang/IllegalArgumentException" := by
  refine z_ofWX (by decide +kernel) (Nat.le_of_ble_eq_true rfl) ?_
  intro p e s m below meth c hx hb hml hadm hown hlocks hno hW0 hB ls hl
  have hts := z_hts (args := [.ref (A 0), .int (nI k), .int d].toArray) G.1 hW0
  have hN := z_nstW G.2.1 hW0
  have hK := va_K.moved hW0.alike G.2.2.1
  have hAI := arrOfT_moved hW0.alike G.2.2.2.1
  have hl : lv_has ls 4 [(0, .ref (A 0)), (1, .int (nI k)), (2, .int d)] := hl
  obtain ⟨hOld, hB1⟩ := id hB
  obtain ⟨⟨hO0, hO1, hO2, hB3, hFA, hSH⟩, hinj, ⟨hnp, hns, hnn, hnm, hnc⟩, hsb⟩ := id hB1
  have hAS := arrOfT_moved hW0.alike G.2.2.2.2.1
  refine lv_aload_n hx hb d_B_area_0 rfl (lv_at hl 0 rfl) ?_
  refine lv_iload_n hx hb d_B_area_1 rfl (lv_at hl 1 rfl) ?_
  refine z_rdVv (n := 1) (C := R_B) (rest := []) ⟨hx, hb, hml, hown, hts⟩ hW0 (c_B_requirePlace G A np ns nc nn nm fv so sf st sn sc sp sx sy k (by omega)) w_102 w_99 w_101 wp_0 w_1 (by decide +kernel) ⟨rfl, rfl, Nat.le_of_ble_eq_true rfl, Nat.le_of_ble_eq_true rfl⟩ (hO0.recv hK rfl) (hB1) rfl rfl hl.1 (Nat.le_of_ble_eq_true rfl) d_B_area_2 ⟨Nat.zero_le _, Nat.zero_le _⟩ ?_
  refine lv_iload_n hx hb d_B_area_5 rfl (lv_at hl 2 rfl) ?_
  exact z_thS (n := 1) (rest := []) ⟨hx, hb, hml, hown, hts⟩ hW0 hno hlocks (t_B_requireDay G hT d hd) w_200 w_198 w_199 w_1 (by decide +kernel) ⟨rfl, rfl, Nat.le_of_ble_eq_true rfl, Nat.le_of_ble_eq_true rfl⟩ (hOld) rfl rfl hl.1 (Nat.le_of_ble_eq_true rfl) d_B_area_6 ⟨Nat.le_of_ble_eq_true rfl, Nat.le_of_ble_eq_true rfl⟩
set_option maxRecDepth 100000 in
set_option maxHeartbeats 4000000 in
theorem t_B_nameOn_1 (G : z_G s0 (dC, dI) cI cS) (hT : z_T s0 l) (A : Nat → Nat) (np ns nc nn nm : Nat) (fv : Nat → Nat → Int32) (so sf st : Nat → Int32) (sn sc : Nat → Nat) (sp : Nat → Option Nat) (sx sy : Nat → Nat → Int32) (x0 : Int32) (hx0 : x0 < 0 ∨ nI np ≤ x0) (d : Int32) : xt_Met l y_B_nameOn [Cond.code y_B_nameOn b_B_nameOn 3 (some .int)] ({ frames := 7, cells := 1, slots := 6, locals := 103 }) (z_Pc s0 [.ref (A 0), .int x0, .int d] (fun H => z_Old s0 H ∧ z_BD (dC, dI) cI cS H A np ns nc nn nm fv so sf st sn sc sp sx sy)) "java/util/NoSuchElementException" := by
  refine z_ofWX (by decide +kernel) (Nat.le_of_ble_eq_true rfl) ?_
  intro p e s m below meth c hx hb hml hadm hown hlocks hno hW0 hB ls hl
  have hts := z_hts (args := [.ref (A 0), .int x0, .int d].toArray) G.1 hW0
  have hN := z_nstW G.2.1 hW0
  have hK := va_K.moved hW0.alike G.2.2.1
  have hAI := arrOfT_moved hW0.alike G.2.2.2.1
  have hl : lv_has ls 3 [(0, .ref (A 0)), (1, .int x0), (2, .int d)] := hl
  obtain ⟨hOld, hB1⟩ := id hB
  obtain ⟨⟨hO0, hO1, hO2, hB3, hFA, hSH⟩, hinj, ⟨hnp, hns, hnn, hnm, hnc⟩, hsb⟩ := id hB1
  have hAS := arrOfT_moved hW0.alike G.2.2.2.2.1
  refine lv_aload_n hx hb d_B_nameOn_0 rfl (lv_at hl 0 rfl) ?_
  refine lv_iload_n hx hb d_B_nameOn_1 rfl (lv_at hl 1 rfl) ?_
  exact z_thV (n := 1) (C := R_B) (rest := []) ⟨hx, hb, hml, hown, hts⟩ hW0 hno hlocks (t_B_requirePlace G hT A np ns nc nn nm fv so sf st sn sc sp sx sy x0 hx0) w_102 w_99 w_101 wp_0 w_1 (by decide +kernel) ⟨rfl, rfl, Nat.le_of_ble_eq_true rfl, Nat.le_of_ble_eq_true rfl⟩ (hO0.recv hK rfl) (hB) rfl rfl hl.1 (Nat.le_of_ble_eq_true rfl) d_B_nameOn_2 ⟨Nat.le_of_ble_eq_true rfl, Nat.le_of_ble_eq_true rfl⟩
set_option maxRecDepth 100000 in
set_option maxHeartbeats 4000000 in
theorem t_B_nameOn_2 (G : z_G s0 (dC, dI) cI cS) (hT : z_T s0 l) (A : Nat → Nat) (np ns nc nn nm : Nat) (fv : Nat → Nat → Int32) (so sf st : Nat → Int32) (sn sc : Nat → Nat) (sp : Nat → Option Nat) (sx sy : Nat → Nat → Int32) (k : Nat) (hk : k < np) (d : Int32) (hd : ¬ z_day d) : xt_Met l y_B_nameOn [Cond.code y_B_nameOn b_B_nameOn 3 (some .int)] ({ frames := 7, cells := 1, slots := 6, locals := 102 }) (z_Pc s0 [.ref (A 0), .int (nI k), .int d] (fun H => z_Old s0 H ∧ z_BD (dC, dI) cI cS H A np ns nc nn nm fv so sf st sn sc sp sx sy)) "java/lang/IllegalArgumentException" := by
  refine z_ofWX (by decide +kernel) (Nat.le_of_ble_eq_true rfl) ?_
  intro p e s m below meth c hx hb hml hadm hown hlocks hno hW0 hB ls hl
  have hts := z_hts (args := [.ref (A 0), .int (nI k), .int d].toArray) G.1 hW0
  have hN := z_nstW G.2.1 hW0
  have hK := va_K.moved hW0.alike G.2.2.1
  have hAI := arrOfT_moved hW0.alike G.2.2.2.1
  have hl : lv_has ls 3 [(0, .ref (A 0)), (1, .int (nI k)), (2, .int d)] := hl
  obtain ⟨hOld, hB1⟩ := id hB
  obtain ⟨⟨hO0, hO1, hO2, hB3, hFA, hSH⟩, hinj, ⟨hnp, hns, hnn, hnm, hnc⟩, hsb⟩ := id hB1
  have hAS := arrOfT_moved hW0.alike G.2.2.2.2.1
  refine lv_aload_n hx hb d_B_nameOn_0 rfl (lv_at hl 0 rfl) ?_
  refine lv_iload_n hx hb d_B_nameOn_1 rfl (lv_at hl 1 rfl) ?_
  refine z_rdVv (n := 1) (C := R_B) (rest := []) ⟨hx, hb, hml, hown, hts⟩ hW0 (c_B_requirePlace G A np ns nc nn nm fv so sf st sn sc sp sx sy k (by omega)) w_102 w_99 w_101 wp_0 w_1 (by decide +kernel) ⟨rfl, rfl, Nat.le_of_ble_eq_true rfl, Nat.le_of_ble_eq_true rfl⟩ (hO0.recv hK rfl) (hB1) rfl rfl hl.1 (Nat.le_of_ble_eq_true rfl) d_B_nameOn_2 ⟨Nat.zero_le _, Nat.zero_le _⟩ ?_
  refine lv_iload_n hx hb d_B_nameOn_5 rfl (lv_at hl 2 rfl) ?_
  exact z_thS (n := 1) (rest := []) ⟨hx, hb, hml, hown, hts⟩ hW0 hno hlocks (t_B_requireDay G hT d hd) w_200 w_198 w_199 w_1 (by decide +kernel) ⟨rfl, rfl, Nat.le_of_ble_eq_true rfl, Nat.le_of_ble_eq_true rfl⟩ (hOld) rfl rfl hl.1 (Nat.le_of_ble_eq_true rfl) d_B_nameOn_6 ⟨Nat.le_of_ble_eq_true rfl, Nat.le_of_ble_eq_true rfl⟩
set_option maxRecDepth 100000 in
set_option maxHeartbeats 4000000 in
theorem t_B_inside_1 (G : z_G s0 (dC, dI) cI cS) (hT : z_T s0 l) (A : Nat → Nat) (np ns nc nn nm : Nat) (fv : Nat → Nat → Int32) (so sf st : Nat → Int32) (sn sc : Nat → Nat) (sp : Nat → Option Nat) (sx sy : Nat → Nat → Int32) (x y : Int32) (d x0 : Int32) (hx0 : x0 < 0) : xt_Met l y_B_inside [Cond.code y_B_inside b_B_inside 8 (some .int)] ({ frames := 7, cells := 1, slots := 6, locals := 102 }) (z_Pc s0 [.ref (A 0), .int x, .int y, .int d, .int x0] (fun H => z_Old s0 H ∧ z_BD (dC, dI) cI cS H A np ns nc nn nm fv so sf st sn sc sp sx sy)) "java/util/NoSuchElementException" := by
  refine z_ofWX (by decide +kernel) (Nat.le_of_ble_eq_true rfl) ?_
  intro p e s m below meth c hx hb hml hadm hown hlocks hno hW0 hB ls hl
  have hts := z_hts (args := [.ref (A 0), .int x, .int y, .int d, .int x0].toArray) G.1 hW0
  have hN := z_nstW G.2.1 hW0
  have hK := va_K.moved hW0.alike G.2.2.1
  have hAI := arrOfT_moved hW0.alike G.2.2.2.1
  have hl : lv_has ls 8 [(0, .ref (A 0)), (1, .int x), (2, .int y), (3, .int d), (4, .int x0)] := hl
  obtain ⟨hOld, hB1⟩ := id hB
  obtain ⟨⟨hO0, hO1, hO2, hB3, hFA, hSH⟩, hinj, ⟨hnp, hns, hnn, hnm, hnc⟩, hsb⟩ := id hB1
  have hAS := arrOfT_moved hW0.alike G.2.2.2.2.1
  refine lv_iload hx hb d_B_inside_0 (lv_at hl 4 rfl) ?_
  exact z_thS (n := 1) (rest := []) ⟨hx, hb, hml, hown, hts⟩ hW0 hno hlocks (t_B_requireRank G hT x0 hx0) w_377 w_375 w_376 w_1 (by decide +kernel) ⟨rfl, rfl, Nat.le_of_ble_eq_true rfl, Nat.le_of_ble_eq_true rfl⟩ (hOld) rfl rfl hl.1 (Nat.le_of_ble_eq_true rfl) d_B_inside_2 ⟨Nat.le_of_ble_eq_true rfl, Nat.le_of_ble_eq_true rfl⟩
set_option maxRecDepth 100000 in
set_option maxHeartbeats 4000000 in
theorem t_B_inside_2 (G : z_G s0 (dC, dI) cI cS) (hT : z_T s0 l) (A : Nat → Nat) (np ns nc nn nm : Nat) (fv : Nat → Nat → Int32) (so sf st : Nat → Int32) (sn sc : Nat → Nat) (sp : Nat → Option Nat) (sx sy : Nat → Nat → Int32) (x y : Int32) (d : Int32) (x0 : Int32) (hr0 : 0 ≤ x0) (hp : ¬ z_pt x y) : xt_Met l y_B_inside [Cond.code y_B_inside b_B_inside 8 (some .int)] ({ frames := 7, cells := 1, slots := 6, locals := 103 }) (z_Pc s0 [.ref (A 0), .int x, .int y, .int d, .int x0] (fun H => z_Old s0 H ∧ z_BD (dC, dI) cI cS H A np ns nc nn nm fv so sf st sn sc sp sx sy)) "java/lang/IllegalArgumentException" := by
  refine z_ofWX (by decide +kernel) (Nat.le_of_ble_eq_true rfl) ?_
  intro p e s m below meth c hx hb hml hadm hown hlocks hno hW0 hB ls hl
  have hts := z_hts (args := [.ref (A 0), .int x, .int y, .int d, .int x0].toArray) G.1 hW0
  have hN := z_nstW G.2.1 hW0
  have hK := va_K.moved hW0.alike G.2.2.1
  have hAI := arrOfT_moved hW0.alike G.2.2.2.1
  have hl : lv_has ls 8 [(0, .ref (A 0)), (1, .int x), (2, .int y), (3, .int d), (4, .int x0)] := hl
  obtain ⟨hOld, hB1⟩ := id hB
  obtain ⟨⟨hO0, hO1, hO2, hB3, hFA, hSH⟩, hinj, ⟨hnp, hns, hnn, hnm, hnc⟩, hsb⟩ := id hB1
  have hAS := arrOfT_moved hW0.alike G.2.2.2.2.1
  refine lv_iload hx hb d_B_inside_0 (lv_at hl 4 rfl) ?_
  refine z_rdSv (n := 1) (rest := []) ⟨hx, hb, hml, hown, hts⟩ hW0 (c_B_requireRank G x0 hr0) w_377 w_375 w_376 w_1 (by decide +kernel) ⟨rfl, rfl, Nat.le_of_ble_eq_true rfl, Nat.le_of_ble_eq_true rfl⟩ (trivial) rfl rfl hl.1 (Nat.le_of_ble_eq_true rfl) d_B_inside_2 ⟨Nat.zero_le _, Nat.zero_le _⟩ ?_
  refine lv_iload_n hx hb d_B_inside_5 rfl (lv_at hl 1 rfl) ?_
  refine lv_iload_n hx hb d_B_inside_6 rfl (lv_at hl 2 rfl) ?_
  exact z_thS (n := 2) (rest := []) ⟨hx, hb, hml, hown, hts⟩ hW0 hno hlocks (t_B_requirePoint G hT x y hp) w_271 w_269 w_270 w_1 (by decide +kernel) ⟨rfl, rfl, Nat.le_of_ble_eq_true rfl, Nat.le_of_ble_eq_true rfl⟩ (hOld) rfl rfl hl.1 (Nat.le_of_ble_eq_true rfl) d_B_inside_7 ⟨Nat.le_of_ble_eq_true rfl, Nat.le_of_ble_eq_true rfl⟩
set_option maxRecDepth 100000 in
set_option maxHeartbeats 4000000 in
theorem t_B_inside_3 (G : z_G s0 (dC, dI) cI cS) (hT : z_T s0 l) (A : Nat → Nat) (np ns nc nn nm : Nat) (fv : Nat → Nat → Int32) (so sf st : Nat → Int32) (sn sc : Nat → Nat) (sp : Nat → Option Nat) (sx sy : Nat → Nat → Int32) (x y : Int32) (d : Int32) (hd : ¬ z_day d) (x0 : Int32) (hr0 : 0 ≤ x0) (hp : z_pt x y) : xt_Met l y_B_inside [Cond.code y_B_inside b_B_inside 8 (some .int)] ({ frames := 7, cells := 1, slots := 6, locals := 102 }) (z_Pc s0 [.ref (A 0), .int x, .int y, .int d, .int x0] (fun H => z_Old s0 H ∧ z_BD (dC, dI) cI cS H A np ns nc nn nm fv so sf st sn sc sp sx sy)) "java/lang/IllegalArgumentException" := by
  refine z_ofWX (by decide +kernel) (Nat.le_of_ble_eq_true rfl) ?_
  intro p e s m below meth c hx hb hml hadm hown hlocks hno hW0 hB ls hl
  have hts := z_hts (args := [.ref (A 0), .int x, .int y, .int d, .int x0].toArray) G.1 hW0
  have hN := z_nstW G.2.1 hW0
  have hK := va_K.moved hW0.alike G.2.2.1
  have hAI := arrOfT_moved hW0.alike G.2.2.2.1
  have hl : lv_has ls 8 [(0, .ref (A 0)), (1, .int x), (2, .int y), (3, .int d), (4, .int x0)] := hl
  obtain ⟨hOld, hB1⟩ := id hB
  obtain ⟨⟨hO0, hO1, hO2, hB3, hFA, hSH⟩, hinj, ⟨hnp, hns, hnn, hnm, hnc⟩, hsb⟩ := id hB1
  have hAS := arrOfT_moved hW0.alike G.2.2.2.2.1
  refine lv_iload hx hb d_B_inside_0 (lv_at hl 4 rfl) ?_
  refine z_rdSv (n := 1) (rest := []) ⟨hx, hb, hml, hown, hts⟩ hW0 (c_B_requireRank G x0 hr0) w_377 w_375 w_376 w_1 (by decide +kernel) ⟨rfl, rfl, Nat.le_of_ble_eq_true rfl, Nat.le_of_ble_eq_true rfl⟩ (trivial) rfl rfl hl.1 (Nat.le_of_ble_eq_true rfl) d_B_inside_2 ⟨Nat.zero_le _, Nat.zero_le _⟩ ?_
  refine lv_iload_n hx hb d_B_inside_5 rfl (lv_at hl 1 rfl) ?_
  refine lv_iload_n hx hb d_B_inside_6 rfl (lv_at hl 2 rfl) ?_
  refine z_rdSv (n := 2) (rest := []) ⟨hx, hb, hml, hown, hts⟩ hW0 (c_B_requirePoint G x y hp) w_271 w_269 w_270 w_1 (by decide +kernel) ⟨rfl, rfl, Nat.le_of_ble_eq_true rfl, Nat.le_of_ble_eq_true rfl⟩ (trivial) rfl rfl hl.1 (Nat.le_of_ble_eq_true rfl) d_B_inside_7 ⟨Nat.zero_le _, Nat.zero_le _⟩ ?_
  refine lv_iload_n hx hb d_B_inside_10 rfl (lv_at hl 3 rfl) ?_
  exact z_thS (n := 1) (rest := []) ⟨hx, hb, hml, hown, hts⟩ hW0 hno hlocks (t_B_requireDay G hT d hd) w_200 w_198 w_199 w_1 (by decide +kernel) ⟨rfl, rfl, Nat.le_of_ble_eq_true rfl, Nat.le_of_ble_eq_true rfl⟩ (hOld) rfl rfl hl.1 (Nat.le_of_ble_eq_true rfl) d_B_inside_11 ⟨Nat.le_of_ble_eq_true rfl, Nat.le_of_ble_eq_true rfl⟩
set_option maxRecDepth 100000 in
set_option maxHeartbeats 4000000 in
theorem t_B_threeWay_1 (G : z_G s0 (dC, dI) cI cS) (hT : z_T s0 l) (A : Nat → Nat) (np ns nc nn nm : Nat) (fv : Nat → Nat → Int32) (so sf st : Nat → Int32) (sn sc : Nat → Nat) (sp : Nat → Option Nat) (sx sy : Nat → Nat → Int32) (x0 : Int32) (hx0 : x0 < 0 ∨ nI np ≤ x0) (x y d : Int32) : xt_Met l y_B_threeWay [Cond.code y_B_threeWay b_B_threeWay 7 (some .int)] ({ frames := 7, cells := 1, slots := 6, locals := 103 }) (z_Pc s0 [.ref (A 0), .int x0, .int x, .int y, .int d] (fun H => z_Old s0 H ∧ z_BD (dC, dI) cI cS H A np ns nc nn nm fv so sf st sn sc sp sx sy)) "java/util/NoSuchElementException" := by
  refine z_ofWX (by decide +kernel) (Nat.le_of_ble_eq_true rfl) ?_
  intro p e s m below meth c hx hb hml hadm hown hlocks hno hW0 hB ls hl
  have hts := z_hts (args := [.ref (A 0), .int x0, .int x, .int y, .int d].toArray) G.1 hW0
  have hN := z_nstW G.2.1 hW0
  have hK := va_K.moved hW0.alike G.2.2.1
  have hAI := arrOfT_moved hW0.alike G.2.2.2.1
  have hl : lv_has ls 7 [(0, .ref (A 0)), (1, .int x0), (2, .int x), (3, .int y), (4, .int d)] := hl
  obtain ⟨hOld, hB1⟩ := id hB
  obtain ⟨⟨hO0, hO1, hO2, hB3, hFA, hSH⟩, hinj, ⟨hnp, hns, hnn, hnm, hnc⟩, hsb⟩ := id hB1
  have hAS := arrOfT_moved hW0.alike G.2.2.2.2.1
  refine lv_aload_n hx hb d_B_threeWay_0 rfl (lv_at hl 0 rfl) ?_
  refine lv_iload_n hx hb d_B_threeWay_1 rfl (lv_at hl 1 rfl) ?_
  exact z_thV (n := 1) (C := R_B) (rest := []) ⟨hx, hb, hml, hown, hts⟩ hW0 hno hlocks (t_B_requirePlace G hT A np ns nc nn nm fv so sf st sn sc sp sx sy x0 hx0) w_102 w_99 w_101 wp_0 w_1 (by decide +kernel) ⟨rfl, rfl, Nat.le_of_ble_eq_true rfl, Nat.le_of_ble_eq_true rfl⟩ (hO0.recv hK rfl) (hB) rfl rfl hl.1 (Nat.le_of_ble_eq_true rfl) d_B_threeWay_2 ⟨Nat.le_of_ble_eq_true rfl, Nat.le_of_ble_eq_true rfl⟩
set_option maxRecDepth 100000 in
set_option maxHeartbeats 4000000 in
theorem t_B_threeWay_2 (G : z_G s0 (dC, dI) cI cS) (hT : z_T s0 l) (A : Nat → Nat) (np ns nc nn nm : Nat) (fv : Nat → Nat → Int32) (so sf st : Nat → Int32) (sn sc : Nat → Nat) (sp : Nat → Option Nat) (sx sy : Nat → Nat → Int32) (k : Nat) (hk : k < np) (x y d : Int32) (hp : ¬ z_pt x y) : xt_Met l y_B_threeWay [Cond.code y_B_threeWay b_B_threeWay 7 (some .int)] ({ frames := 7, cells := 1, slots := 6, locals := 103 }) (z_Pc s0 [.ref (A 0), .int (nI k), .int x, .int y, .int d] (fun H => z_Old s0 H ∧ z_BD (dC, dI) cI cS H A np ns nc nn nm fv so sf st sn sc sp sx sy)) "java/lang/IllegalArgumentException" := by
  refine z_ofWX (by decide +kernel) (Nat.le_of_ble_eq_true rfl) ?_
  intro p e s m below meth c hx hb hml hadm hown hlocks hno hW0 hB ls hl
  have hts := z_hts (args := [.ref (A 0), .int (nI k), .int x, .int y, .int d].toArray) G.1 hW0
  have hN := z_nstW G.2.1 hW0
  have hK := va_K.moved hW0.alike G.2.2.1
  have hAI := arrOfT_moved hW0.alike G.2.2.2.1
  have hl : lv_has ls 7 [(0, .ref (A 0)), (1, .int (nI k)), (2, .int x), (3, .int y), (4, .int d)] := hl
  obtain ⟨hOld, hB1⟩ := id hB
  obtain ⟨⟨hO0, hO1, hO2, hB3, hFA, hSH⟩, hinj, ⟨hnp, hns, hnn, hnm, hnc⟩, hsb⟩ := id hB1
  have hAS := arrOfT_moved hW0.alike G.2.2.2.2.1
  refine lv_aload_n hx hb d_B_threeWay_0 rfl (lv_at hl 0 rfl) ?_
  refine lv_iload_n hx hb d_B_threeWay_1 rfl (lv_at hl 1 rfl) ?_
  refine z_rdVv (n := 1) (C := R_B) (rest := []) ⟨hx, hb, hml, hown, hts⟩ hW0 (c_B_requirePlace G A np ns nc nn nm fv so sf st sn sc sp sx sy k (by omega)) w_102 w_99 w_101 wp_0 w_1 (by decide +kernel) ⟨rfl, rfl, Nat.le_of_ble_eq_true rfl, Nat.le_of_ble_eq_true rfl⟩ (hO0.recv hK rfl) (hB1) rfl rfl hl.1 (Nat.le_of_ble_eq_true rfl) d_B_threeWay_2 ⟨Nat.zero_le _, Nat.zero_le _⟩ ?_
  refine lv_iload_n hx hb d_B_threeWay_5 rfl (lv_at hl 2 rfl) ?_
  refine lv_iload_n hx hb d_B_threeWay_6 rfl (lv_at hl 3 rfl) ?_
  exact z_thS (n := 2) (rest := []) ⟨hx, hb, hml, hown, hts⟩ hW0 hno hlocks (t_B_requirePoint G hT x y hp) w_271 w_269 w_270 w_1 (by decide +kernel) ⟨rfl, rfl, Nat.le_of_ble_eq_true rfl, Nat.le_of_ble_eq_true rfl⟩ (hOld) rfl rfl hl.1 (Nat.le_of_ble_eq_true rfl) d_B_threeWay_7 ⟨Nat.le_of_ble_eq_true rfl, Nat.le_of_ble_eq_true rfl⟩
set_option maxRecDepth 100000 in
set_option maxHeartbeats 4000000 in
theorem t_B_threeWay_3 (G : z_G s0 (dC, dI) cI cS) (hT : z_T s0 l) (A : Nat → Nat) (np ns nc nn nm : Nat) (fv : Nat → Nat → Int32) (so sf st : Nat → Int32) (sn sc : Nat → Nat) (sp : Nat → Option Nat) (sx sy : Nat → Nat → Int32) (k : Nat) (hk : k < np) (x y : Int32) (d : Int32) (hd : ¬ z_day d) (hp : z_pt x y) : xt_Met l y_B_threeWay [Cond.code y_B_threeWay b_B_threeWay 7 (some .int)] ({ frames := 7, cells := 1, slots := 6, locals := 102 }) (z_Pc s0 [.ref (A 0), .int (nI k), .int x, .int y, .int d] (fun H => z_Old s0 H ∧ z_BD (dC, dI) cI cS H A np ns nc nn nm fv so sf st sn sc sp sx sy)) "java/lang/IllegalArgumentException" := by
  refine z_ofWX (by decide +kernel) (Nat.le_of_ble_eq_true rfl) ?_
  intro p e s m below meth c hx hb hml hadm hown hlocks hno hW0 hB ls hl
  have hts := z_hts (args := [.ref (A 0), .int (nI k), .int x, .int y, .int d].toArray) G.1 hW0
  have hN := z_nstW G.2.1 hW0
  have hK := va_K.moved hW0.alike G.2.2.1
  have hAI := arrOfT_moved hW0.alike G.2.2.2.1
  have hl : lv_has ls 7 [(0, .ref (A 0)), (1, .int (nI k)), (2, .int x), (3, .int y), (4, .int d)] := hl
  obtain ⟨hOld, hB1⟩ := id hB
  obtain ⟨⟨hO0, hO1, hO2, hB3, hFA, hSH⟩, hinj, ⟨hnp, hns, hnn, hnm, hnc⟩, hsb⟩ := id hB1
  have hAS := arrOfT_moved hW0.alike G.2.2.2.2.1
  refine lv_aload_n hx hb d_B_threeWay_0 rfl (lv_at hl 0 rfl) ?_
  refine lv_iload_n hx hb d_B_threeWay_1 rfl (lv_at hl 1 rfl) ?_
  refine z_rdVv (n := 1) (C := R_B) (rest := []) ⟨hx, hb, hml, hown, hts⟩ hW0 (c_B_requirePlace G A np ns nc nn nm fv so sf st sn sc sp sx sy k (by omega)) w_102 w_99 w_101 wp_0 w_1 (by decide +kernel) ⟨rfl, rfl, Nat.le_of_ble_eq_true rfl, Nat.le_of_ble_eq_true rfl⟩ (hO0.recv hK rfl) (hB1) rfl rfl hl.1 (Nat.le_of_ble_eq_true rfl) d_B_threeWay_2 ⟨Nat.zero_le _, Nat.zero_le _⟩ ?_
  refine lv_iload_n hx hb d_B_threeWay_5 rfl (lv_at hl 2 rfl) ?_
  refine lv_iload_n hx hb d_B_threeWay_6 rfl (lv_at hl 3 rfl) ?_
  refine z_rdSv (n := 2) (rest := []) ⟨hx, hb, hml, hown, hts⟩ hW0 (c_B_requirePoint G x y hp) w_271 w_269 w_270 w_1 (by decide +kernel) ⟨rfl, rfl, Nat.le_of_ble_eq_true rfl, Nat.le_of_ble_eq_true rfl⟩ (trivial) rfl rfl hl.1 (Nat.le_of_ble_eq_true rfl) d_B_threeWay_7 ⟨Nat.zero_le _, Nat.zero_le _⟩ ?_
  refine lv_iload hx hb d_B_threeWay_10 (lv_at hl 4 rfl) ?_
  exact z_thS (n := 1) (rest := []) ⟨hx, hb, hml, hown, hts⟩ hW0 hno hlocks (t_B_requireDay G hT d hd) w_200 w_198 w_199 w_1 (by decide +kernel) ⟨rfl, rfl, Nat.le_of_ble_eq_true rfl, Nat.le_of_ble_eq_true rfl⟩ (hOld) rfl rfl hl.1 (Nat.le_of_ble_eq_true rfl) d_B_threeWay_12 ⟨Nat.le_of_ble_eq_true rfl, Nat.le_of_ble_eq_true rfl⟩
set_option maxRecDepth 100000 in
set_option maxHeartbeats 4000000 in
theorem t_B_misfit_1 (G : z_G s0 (dC, dI) cI cS) (hT : z_T s0 l) (A : Nat → Nat) (np ns nc nn nm : Nat) (fv : Nat → Nat → Int32) (so sf st : Nat → Int32) (sn sc : Nat → Nat) (sp : Nat → Option Nat) (sx sy : Nat → Nat → Int32) (x0 d : Int32) (hx0 : x0 < 0) : xt_Met l y_B_misfit [Cond.code y_B_misfit b_B_misfit 5 (some .int)] ({ frames := 7, cells := 1, slots := 6, locals := 102 }) (z_Pc s0 [.ref (A 0), .int x0, .int d] (fun H => z_Old s0 H ∧ z_BD (dC, dI) cI cS H A np ns nc nn nm fv so sf st sn sc sp sx sy)) "java/util/NoSuchElementException" := by
  refine z_ofWX (by decide +kernel) (Nat.le_of_ble_eq_true rfl) ?_
  intro p e s m below meth c hx hb hml hadm hown hlocks hno hW0 hB ls hl
  have hts := z_hts (args := [.ref (A 0), .int x0, .int d].toArray) G.1 hW0
  have hN := z_nstW G.2.1 hW0
  have hK := va_K.moved hW0.alike G.2.2.1
  have hAI := arrOfT_moved hW0.alike G.2.2.2.1
  have hl : lv_has ls 5 [(0, .ref (A 0)), (1, .int x0), (2, .int d)] := hl
  obtain ⟨hOld, hB1⟩ := id hB
  obtain ⟨⟨hO0, hO1, hO2, hB3, hFA, hSH⟩, hinj, ⟨hnp, hns, hnn, hnm, hnc⟩, hsb⟩ := id hB1
  have hAS := arrOfT_moved hW0.alike G.2.2.2.2.1
  refine lv_iload_n hx hb d_B_misfit_0 rfl (lv_at hl 1 rfl) ?_
  exact z_thS (n := 1) (rest := []) ⟨hx, hb, hml, hown, hts⟩ hW0 hno hlocks (t_B_requireRank G hT x0 hx0) w_377 w_375 w_376 w_1 (by decide +kernel) ⟨rfl, rfl, Nat.le_of_ble_eq_true rfl, Nat.le_of_ble_eq_true rfl⟩ (hOld) rfl rfl hl.1 (Nat.le_of_ble_eq_true rfl) d_B_misfit_1 ⟨Nat.le_of_ble_eq_true rfl, Nat.le_of_ble_eq_true rfl⟩
set_option maxRecDepth 100000 in
set_option maxHeartbeats 4000000 in
theorem t_B_misfit_2 (G : z_G s0 (dC, dI) cI cS) (hT : z_T s0 l) (A : Nat → Nat) (np ns nc nn nm : Nat) (fv : Nat → Nat → Int32) (so sf st : Nat → Int32) (sn sc : Nat → Nat) (sp : Nat → Option Nat) (sx sy : Nat → Nat → Int32) (x0 : Int32) (hr0 : 0 ≤ x0) (d : Int32) (hd : ¬ z_day d) : xt_Met l y_B_misfit [Cond.code y_B_misfit b_B_misfit 5 (some .int)] ({ frames := 7, cells := 1, slots := 6, locals := 102 }) (z_Pc s0 [.ref (A 0), .int x0, .int d] (fun H => z_Old s0 H ∧ z_BD (dC, dI) cI cS H A np ns nc nn nm fv so sf st sn sc sp sx sy)) "java/lang/IllegalArgumentException" := by
  refine z_ofWX (by decide +kernel) (Nat.le_of_ble_eq_true rfl) ?_
  intro p e s m below meth c hx hb hml hadm hown hlocks hno hW0 hB ls hl
  have hts := z_hts (args := [.ref (A 0), .int x0, .int d].toArray) G.1 hW0
  have hN := z_nstW G.2.1 hW0
  have hK := va_K.moved hW0.alike G.2.2.1
  have hAI := arrOfT_moved hW0.alike G.2.2.2.1
  have hl : lv_has ls 5 [(0, .ref (A 0)), (1, .int x0), (2, .int d)] := hl
  obtain ⟨hOld, hB1⟩ := id hB
  obtain ⟨⟨hO0, hO1, hO2, hB3, hFA, hSH⟩, hinj, ⟨hnp, hns, hnn, hnm, hnc⟩, hsb⟩ := id hB1
  have hAS := arrOfT_moved hW0.alike G.2.2.2.2.1
  refine lv_iload_n hx hb d_B_misfit_0 rfl (lv_at hl 1 rfl) ?_
  refine z_rdSv (n := 1) (rest := []) ⟨hx, hb, hml, hown, hts⟩ hW0 (c_B_requireRank G x0 hr0) w_377 w_375 w_376 w_1 (by decide +kernel) ⟨rfl, rfl, Nat.le_of_ble_eq_true rfl, Nat.le_of_ble_eq_true rfl⟩ (trivial) rfl rfl hl.1 (Nat.le_of_ble_eq_true rfl) d_B_misfit_1 ⟨Nat.zero_le _, Nat.zero_le _⟩ ?_
  refine lv_iload_n hx hb d_B_misfit_4 rfl (lv_at hl 2 rfl) ?_
  exact z_thS (n := 1) (rest := []) ⟨hx, hb, hml, hown, hts⟩ hW0 hno hlocks (t_B_requireDay G hT d hd) w_200 w_198 w_199 w_1 (by decide +kernel) ⟨rfl, rfl, Nat.le_of_ble_eq_true rfl, Nat.le_of_ble_eq_true rfl⟩ (hOld) rfl rfl hl.1 (Nat.le_of_ble_eq_true rfl) d_B_misfit_5 ⟨Nat.le_of_ble_eq_true rfl, Nat.le_of_ble_eq_true rfl⟩
set_option maxRecDepth 100000 in
set_option maxHeartbeats 4000000 in
theorem t_B_distance_1 (G : z_G s0 (dC, dI) cI cS) (hT : z_T s0 l) (A : Nat → Nat) (np ns nc nn nm : Nat) (fv : Nat → Nat → Int32) (so sf st : Nat → Int32) (sn sc : Nat → Nat) (sp : Nat → Option Nat) (sx sy : Nat → Nat → Int32) (x0 : Int32) (hx0 : x0 < 0 ∨ nI np ≤ x0) (x1 d : Int32) : xt_Met l y_B_distance [Cond.code y_B_distance b_B_distance 6 (some .int)] ({ frames := 7, cells := 1, slots := 6, locals := 103 }) (z_Pc s0 [.ref (A 0), .int x0, .int x1, .int d] (fun H => z_Old s0 H ∧ z_BD (dC, dI) cI cS H A np ns nc nn nm fv so sf st sn sc sp sx sy)) "java/util/NoSuchElementException" := by
  refine z_ofWX (by decide +kernel) (Nat.le_of_ble_eq_true rfl) ?_
  intro p e s m below meth c hx hb hml hadm hown hlocks hno hW0 hB ls hl
  have hts := z_hts (args := [.ref (A 0), .int x0, .int x1, .int d].toArray) G.1 hW0
  have hN := z_nstW G.2.1 hW0
  have hK := va_K.moved hW0.alike G.2.2.1
  have hAI := arrOfT_moved hW0.alike G.2.2.2.1
  have hl : lv_has ls 6 [(0, .ref (A 0)), (1, .int x0), (2, .int x1), (3, .int d)] := hl
  obtain ⟨hOld, hB1⟩ := id hB
  obtain ⟨⟨hO0, hO1, hO2, hB3, hFA, hSH⟩, hinj, ⟨hnp, hns, hnn, hnm, hnc⟩, hsb⟩ := id hB1
  have hAS := arrOfT_moved hW0.alike G.2.2.2.2.1
  refine lv_aload_n hx hb d_B_distance_0 rfl (lv_at hl 0 rfl) ?_
  refine lv_iload_n hx hb d_B_distance_1 rfl (lv_at hl 1 rfl) ?_
  exact z_thV (n := 1) (C := R_B) (rest := []) ⟨hx, hb, hml, hown, hts⟩ hW0 hno hlocks (t_B_requirePlace G hT A np ns nc nn nm fv so sf st sn sc sp sx sy x0 hx0) w_102 w_99 w_101 wp_0 w_1 (by decide +kernel) ⟨rfl, rfl, Nat.le_of_ble_eq_true rfl, Nat.le_of_ble_eq_true rfl⟩ (hO0.recv hK rfl) (hB) rfl rfl hl.1 (Nat.le_of_ble_eq_true rfl) d_B_distance_2 ⟨Nat.le_of_ble_eq_true rfl, Nat.le_of_ble_eq_true rfl⟩
set_option maxRecDepth 100000 in
set_option maxHeartbeats 4000000 in
theorem t_B_distance_2 (G : z_G s0 (dC, dI) cI cS) (hT : z_T s0 l) (A : Nat → Nat) (np ns nc nn nm : Nat) (fv : Nat → Nat → Int32) (so sf st : Nat → Int32) (sn sc : Nat → Nat) (sp : Nat → Option Nat) (sx sy : Nat → Nat → Int32) (k : Nat) (hk : k < np) (x0 : Int32) (hx0 : x0 < 0 ∨ nI np ≤ x0) (d : Int32) : xt_Met l y_B_distance [Cond.code y_B_distance b_B_distance 6 (some .int)] ({ frames := 7, cells := 1, slots := 6, locals := 103 }) (z_Pc s0 [.ref (A 0), .int (nI k), .int x0, .int d] (fun H => z_Old s0 H ∧ z_BD (dC, dI) cI cS H A np ns nc nn nm fv so sf st sn sc sp sx sy)) "java/util/NoSuchElementException" := by
  refine z_ofWX (by decide +kernel) (Nat.le_of_ble_eq_true rfl) ?_
  intro p e s m below meth c hx hb hml hadm hown hlocks hno hW0 hB ls hl
  have hts := z_hts (args := [.ref (A 0), .int (nI k), .int x0, .int d].toArray) G.1 hW0
  have hN := z_nstW G.2.1 hW0
  have hK := va_K.moved hW0.alike G.2.2.1
  have hAI := arrOfT_moved hW0.alike G.2.2.2.1
  have hl : lv_has ls 6 [(0, .ref (A 0)), (1, .int (nI k)), (2, .int x0), (3, .int d)] := hl
  obtain ⟨hOld, hB1⟩ := id hB
  obtain ⟨⟨hO0, hO1, hO2, hB3, hFA, hSH⟩, hinj, ⟨hnp, hns, hnn, hnm, hnc⟩, hsb⟩ := id hB1
  have hAS := arrOfT_moved hW0.alike G.2.2.2.2.1
  refine lv_aload_n hx hb d_B_distance_0 rfl (lv_at hl 0 rfl) ?_
  refine lv_iload_n hx hb d_B_distance_1 rfl (lv_at hl 1 rfl) ?_
  refine z_rdVv (n := 1) (C := R_B) (rest := []) ⟨hx, hb, hml, hown, hts⟩ hW0 (c_B_requirePlace G A np ns nc nn nm fv so sf st sn sc sp sx sy k (by omega)) w_102 w_99 w_101 wp_0 w_1 (by decide +kernel) ⟨rfl, rfl, Nat.le_of_ble_eq_true rfl, Nat.le_of_ble_eq_true rfl⟩ (hO0.recv hK rfl) (hB1) rfl rfl hl.1 (Nat.le_of_ble_eq_true rfl) d_B_distance_2 ⟨Nat.zero_le _, Nat.zero_le _⟩ ?_
  refine lv_aload_n hx hb d_B_distance_5 rfl (lv_at hl 0 rfl) ?_
  refine lv_iload_n hx hb d_B_distance_6 rfl (lv_at hl 2 rfl) ?_
  exact z_thV (n := 1) (C := R_B) (rest := []) ⟨hx, hb, hml, hown, hts⟩ hW0 hno hlocks (t_B_requirePlace G hT A np ns nc nn nm fv so sf st sn sc sp sx sy x0 hx0) w_102 w_99 w_101 wp_0 w_1 (by decide +kernel) ⟨rfl, rfl, Nat.le_of_ble_eq_true rfl, Nat.le_of_ble_eq_true rfl⟩ (hO0.recv hK rfl) (hB) rfl rfl hl.1 (Nat.le_of_ble_eq_true rfl) d_B_distance_7 ⟨Nat.le_of_ble_eq_true rfl, Nat.le_of_ble_eq_true rfl⟩
set_option maxRecDepth 100000 in
set_option maxHeartbeats 4000000 in
theorem t_B_distance_3 (G : z_G s0 (dC, dI) cI cS) (hT : z_T s0 l) (A : Nat → Nat) (np ns nc nn nm : Nat) (fv : Nat → Nat → Int32) (so sf st : Nat → Int32) (sn sc : Nat → Nat) (sp : Nat → Option Nat) (sx sy : Nat → Nat → Int32) (k : Nat) (hk : k < np) (k2 : Nat) (hk2 : k2 < np) (d : Int32) (hd : ¬ z_day d) : xt_Met l y_B_distance [Cond.code y_B_distance b_B_distance 6 (some .int)] ({ frames := 7, cells := 1, slots := 6, locals := 102 }) (z_Pc s0 [.ref (A 0), .int (nI k), .int (nI k2), .int d] (fun H => z_Old s0 H ∧ z_BD (dC, dI) cI cS H A np ns nc nn nm fv so sf st sn sc sp sx sy)) "java/lang/IllegalArgumentException" := by
  refine z_ofWX (by decide +kernel) (Nat.le_of_ble_eq_true rfl) ?_
  intro p e s m below meth c hx hb hml hadm hown hlocks hno hW0 hB ls hl
  have hts := z_hts (args := [.ref (A 0), .int (nI k), .int (nI k2), .int d].toArray) G.1 hW0
  have hN := z_nstW G.2.1 hW0
  have hK := va_K.moved hW0.alike G.2.2.1
  have hAI := arrOfT_moved hW0.alike G.2.2.2.1
  have hl : lv_has ls 6 [(0, .ref (A 0)), (1, .int (nI k)), (2, .int (nI k2)), (3, .int d)] := hl
  obtain ⟨hOld, hB1⟩ := id hB
  obtain ⟨⟨hO0, hO1, hO2, hB3, hFA, hSH⟩, hinj, ⟨hnp, hns, hnn, hnm, hnc⟩, hsb⟩ := id hB1
  have hAS := arrOfT_moved hW0.alike G.2.2.2.2.1
  refine lv_aload_n hx hb d_B_distance_0 rfl (lv_at hl 0 rfl) ?_
  refine lv_iload_n hx hb d_B_distance_1 rfl (lv_at hl 1 rfl) ?_
  refine z_rdVv (n := 1) (C := R_B) (rest := []) ⟨hx, hb, hml, hown, hts⟩ hW0 (c_B_requirePlace G A np ns nc nn nm fv so sf st sn sc sp sx sy k (by omega)) w_102 w_99 w_101 wp_0 w_1 (by decide +kernel) ⟨rfl, rfl, Nat.le_of_ble_eq_true rfl, Nat.le_of_ble_eq_true rfl⟩ (hO0.recv hK rfl) (hB1) rfl rfl hl.1 (Nat.le_of_ble_eq_true rfl) d_B_distance_2 ⟨Nat.zero_le _, Nat.zero_le _⟩ ?_
  refine lv_aload_n hx hb d_B_distance_5 rfl (lv_at hl 0 rfl) ?_
  refine lv_iload_n hx hb d_B_distance_6 rfl (lv_at hl 2 rfl) ?_
  refine z_rdVv (n := 1) (C := R_B) (rest := []) ⟨hx, hb, hml, hown, hts⟩ hW0 (c_B_requirePlace G A np ns nc nn nm fv so sf st sn sc sp sx sy k2 (by omega)) w_102 w_99 w_101 wp_0 w_1 (by decide +kernel) ⟨rfl, rfl, Nat.le_of_ble_eq_true rfl, Nat.le_of_ble_eq_true rfl⟩ (hO0.recv hK rfl) (hB1) rfl rfl hl.1 (Nat.le_of_ble_eq_true rfl) d_B_distance_7 ⟨Nat.zero_le _, Nat.zero_le _⟩ ?_
  refine lv_iload_n hx hb d_B_distance_10 rfl (lv_at hl 3 rfl) ?_
  exact z_thS (n := 1) (rest := []) ⟨hx, hb, hml, hown, hts⟩ hW0 hno hlocks (t_B_requireDay G hT d hd) w_200 w_198 w_199 w_1 (by decide +kernel) ⟨rfl, rfl, Nat.le_of_ble_eq_true rfl, Nat.le_of_ble_eq_true rfl⟩ (hOld) rfl rfl hl.1 (Nat.le_of_ble_eq_true rfl) d_B_distance_11 ⟨Nat.le_of_ble_eq_true rfl, Nat.le_of_ble_eq_true rfl⟩
set_option maxRecDepth 100000 in
set_option maxHeartbeats 4000000 in
theorem t_B_placed_1 (G : z_G s0 (dC, dI) cI cS) (hT : z_T s0 l) (A : Nat → Nat) (np ns nc nn nm : Nat) (fv : Nat → Nat → Int32) (so sf st : Nat → Int32) (sn sc : Nat → Nat) (sp : Nat → Option Nat) (sx sy : Nat → Nat → Int32) (x y : Int32) (a0 : Int32) (hax : ¬ (a0 = 0 ∨ a0 = 1)) : xt_Met l y_B_placed [Cond.code y_B_placed b_B_placed 4 (some .int)] ({ frames := 7, cells := 1, slots := 6, locals := 102 }) (z_Pc s0 [.ref (A 0), .int x, .int y, .int a0] (fun H => z_Old s0 H ∧ z_BD (dC, dI) cI cS H A np ns nc nn nm fv so sf st sn sc sp sx sy)) "java/util/NoSuchElementException" := by
  refine z_ofWX (by decide +kernel) (Nat.le_of_ble_eq_true rfl) ?_
  intro p e s m below meth c hx hb hml hadm hown hlocks hno hW0 hB ls hl
  have hts := z_hts (args := [.ref (A 0), .int x, .int y, .int a0].toArray) G.1 hW0
  have hN := z_nstW G.2.1 hW0
  have hK := va_K.moved hW0.alike G.2.2.1
  have hAI := arrOfT_moved hW0.alike G.2.2.2.1
  have hl : lv_has ls 4 [(0, .ref (A 0)), (1, .int x), (2, .int y), (3, .int a0)] := hl
  obtain ⟨hOld, hB1⟩ := id hB
  obtain ⟨⟨hO0, hO1, hO2, hB3, hFA, hSH⟩, hinj, ⟨hnp, hns, hnn, hnm, hnc⟩, hsb⟩ := id hB1
  have hAS := arrOfT_moved hW0.alike G.2.2.2.2.1
  refine lv_iload_n hx hb d_B_placed_0 rfl (lv_at hl 3 rfl) ?_
  exact z_thS (n := 1) (rest := []) ⟨hx, hb, hml, hown, hts⟩ hW0 hno hlocks (t_B_requireAxis G hT a0 hax) w_493 w_491 w_492 w_1 (by decide +kernel) ⟨rfl, rfl, Nat.le_of_ble_eq_true rfl, Nat.le_of_ble_eq_true rfl⟩ (hOld) rfl rfl hl.1 (Nat.le_of_ble_eq_true rfl) d_B_placed_1 ⟨Nat.le_of_ble_eq_true rfl, Nat.le_of_ble_eq_true rfl⟩
set_option maxRecDepth 100000 in
set_option maxHeartbeats 4000000 in
theorem t_B_placed_2 (G : z_G s0 (dC, dI) cI cS) (hT : z_T s0 l) (A : Nat → Nat) (np ns nc nn nm : Nat) (fv : Nat → Nat → Int32) (so sf st : Nat → Int32) (sn sc : Nat → Nat) (sp : Nat → Option Nat) (sx sy : Nat → Nat → Int32) (x y : Int32) (hp : ¬ z_pt x y) (a0 : Int32) (hax : a0 = 0 ∨ a0 = 1) : xt_Met l y_B_placed [Cond.code y_B_placed b_B_placed 4 (some .int)] ({ frames := 7, cells := 1, slots := 6, locals := 103 }) (z_Pc s0 [.ref (A 0), .int x, .int y, .int a0] (fun H => z_Old s0 H ∧ z_BD (dC, dI) cI cS H A np ns nc nn nm fv so sf st sn sc sp sx sy)) "java/lang/IllegalArgumentException" := by
  refine z_ofWX (by decide +kernel) (Nat.le_of_ble_eq_true rfl) ?_
  intro p e s m below meth c hx hb hml hadm hown hlocks hno hW0 hB ls hl
  have hts := z_hts (args := [.ref (A 0), .int x, .int y, .int a0].toArray) G.1 hW0
  have hN := z_nstW G.2.1 hW0
  have hK := va_K.moved hW0.alike G.2.2.1
  have hAI := arrOfT_moved hW0.alike G.2.2.2.1
  have hl : lv_has ls 4 [(0, .ref (A 0)), (1, .int x), (2, .int y), (3, .int a0)] := hl
  obtain ⟨hOld, hB1⟩ := id hB
  obtain ⟨⟨hO0, hO1, hO2, hB3, hFA, hSH⟩, hinj, ⟨hnp, hns, hnn, hnm, hnc⟩, hsb⟩ := id hB1
  have hAS := arrOfT_moved hW0.alike G.2.2.2.2.1
  refine lv_iload_n hx hb d_B_placed_0 rfl (lv_at hl 3 rfl) ?_
  refine z_rdSv (n := 1) (rest := []) ⟨hx, hb, hml, hown, hts⟩ hW0 (c_B_requireAxis G a0 hax) w_493 w_491 w_492 w_1 (by decide +kernel) ⟨rfl, rfl, Nat.le_of_ble_eq_true rfl, Nat.le_of_ble_eq_true rfl⟩ (trivial) rfl rfl hl.1 (Nat.le_of_ble_eq_true rfl) d_B_placed_1 ⟨Nat.zero_le _, Nat.zero_le _⟩ ?_
  refine lv_iload_n hx hb d_B_placed_4 rfl (lv_at hl 1 rfl) ?_
  refine lv_iload_n hx hb d_B_placed_5 rfl (lv_at hl 2 rfl) ?_
  exact z_thS (n := 2) (rest := []) ⟨hx, hb, hml, hown, hts⟩ hW0 hno hlocks (t_B_requirePoint G hT x y hp) w_271 w_269 w_270 w_1 (by decide +kernel) ⟨rfl, rfl, Nat.le_of_ble_eq_true rfl, Nat.le_of_ble_eq_true rfl⟩ (hOld) rfl rfl hl.1 (Nat.le_of_ble_eq_true rfl) d_B_placed_6 ⟨Nat.le_of_ble_eq_true rfl, Nat.le_of_ble_eq_true rfl⟩
set_option maxRecDepth 100000 in
set_option maxHeartbeats 4000000 in
theorem t_B_masked_1 (G : z_G s0 (dC, dI) cI cS) (hT : z_T s0 l) (A : Nat → Nat) (np ns nc nn nm : Nat) (fv : Nat → Nat → Int32) (so sf st : Nat → Int32) (sn sc : Nat → Nat) (sp : Nat → Option Nat) (sx sy : Nat → Nat → Int32) (x y : Int32) (z : Int32) (a0 : Int32) (hax : ¬ (a0 = 0 ∨ a0 = 1)) : xt_Met l y_B_masked [Cond.code y_B_masked b_B_masked 5 (some .int)] ({ frames := 7, cells := 1, slots := 6, locals := 102 }) (z_Pc s0 [.ref (A 0), .int x, .int y, .int z, .int a0] (fun H => z_Old s0 H ∧ z_BD (dC, dI) cI cS H A np ns nc nn nm fv so sf st sn sc sp sx sy)) "java/util/NoSuchElementException" := by
  refine z_ofWX (by decide +kernel) (Nat.le_of_ble_eq_true rfl) ?_
  intro p e s m below meth c hx hb hml hadm hown hlocks hno hW0 hB ls hl
  have hts := z_hts (args := [.ref (A 0), .int x, .int y, .int z, .int a0].toArray) G.1 hW0
  have hN := z_nstW G.2.1 hW0
  have hK := va_K.moved hW0.alike G.2.2.1
  have hAI := arrOfT_moved hW0.alike G.2.2.2.1
  have hl : lv_has ls 5 [(0, .ref (A 0)), (1, .int x), (2, .int y), (3, .int z), (4, .int a0)] := hl
  obtain ⟨hOld, hB1⟩ := id hB
  obtain ⟨⟨hO0, hO1, hO2, hB3, hFA, hSH⟩, hinj, ⟨hnp, hns, hnn, hnm, hnc⟩, hsb⟩ := id hB1
  have hAS := arrOfT_moved hW0.alike G.2.2.2.2.1
  refine lv_iload hx hb d_B_masked_0 (lv_at hl 4 rfl) ?_
  exact z_thS (n := 1) (rest := []) ⟨hx, hb, hml, hown, hts⟩ hW0 hno hlocks (t_B_requireAxis G hT a0 hax) w_493 w_491 w_492 w_1 (by decide +kernel) ⟨rfl, rfl, Nat.le_of_ble_eq_true rfl, Nat.le_of_ble_eq_true rfl⟩ (hOld) rfl rfl hl.1 (Nat.le_of_ble_eq_true rfl) d_B_masked_2 ⟨Nat.le_of_ble_eq_true rfl, Nat.le_of_ble_eq_true rfl⟩
set_option maxRecDepth 100000 in
set_option maxHeartbeats 4000000 in
theorem t_B_masked_2 (G : z_G s0 (dC, dI) cI cS) (hT : z_T s0 l) (A : Nat → Nat) (np ns nc nn nm : Nat) (fv : Nat → Nat → Int32) (so sf st : Nat → Int32) (sn sc : Nat → Nat) (sp : Nat → Option Nat) (sx sy : Nat → Nat → Int32) (x y : Int32) (z : Int32) (hp : ¬ z_pt x y) (a0 : Int32) (hax : a0 = 0 ∨ a0 = 1) : xt_Met l y_B_masked [Cond.code y_B_masked b_B_masked 5 (some .int)] ({ frames := 7, cells := 1, slots := 6, locals := 103 }) (z_Pc s0 [.ref (A 0), .int x, .int y, .int z, .int a0] (fun H => z_Old s0 H ∧ z_BD (dC, dI) cI cS H A np ns nc nn nm fv so sf st sn sc sp sx sy)) "java/lang/IllegalArgumentException" := by
  refine z_ofWX (by decide +kernel) (Nat.le_of_ble_eq_true rfl) ?_
  intro p e s m below meth c hx hb hml hadm hown hlocks hno hW0 hB ls hl
  have hts := z_hts (args := [.ref (A 0), .int x, .int y, .int z, .int a0].toArray) G.1 hW0
  have hN := z_nstW G.2.1 hW0
  have hK := va_K.moved hW0.alike G.2.2.1
  have hAI := arrOfT_moved hW0.alike G.2.2.2.1
  have hl : lv_has ls 5 [(0, .ref (A 0)), (1, .int x), (2, .int y), (3, .int z), (4, .int a0)] := hl
  obtain ⟨hOld, hB1⟩ := id hB
  obtain ⟨⟨hO0, hO1, hO2, hB3, hFA, hSH⟩, hinj, ⟨hnp, hns, hnn, hnm, hnc⟩, hsb⟩ := id hB1
  have hAS := arrOfT_moved hW0.alike G.2.2.2.2.1
  refine lv_iload hx hb d_B_masked_0 (lv_at hl 4 rfl) ?_
  refine z_rdSv (n := 1) (rest := []) ⟨hx, hb, hml, hown, hts⟩ hW0 (c_B_requireAxis G a0 hax) w_493 w_491 w_492 w_1 (by decide +kernel) ⟨rfl, rfl, Nat.le_of_ble_eq_true rfl, Nat.le_of_ble_eq_true rfl⟩ (trivial) rfl rfl hl.1 (Nat.le_of_ble_eq_true rfl) d_B_masked_2 ⟨Nat.zero_le _, Nat.zero_le _⟩ ?_
  refine lv_iload_n hx hb d_B_masked_5 rfl (lv_at hl 1 rfl) ?_
  refine lv_iload_n hx hb d_B_masked_6 rfl (lv_at hl 2 rfl) ?_
  exact z_thS (n := 2) (rest := []) ⟨hx, hb, hml, hown, hts⟩ hW0 hno hlocks (t_B_requirePoint G hT x y hp) w_271 w_269 w_270 w_1 (by decide +kernel) ⟨rfl, rfl, Nat.le_of_ble_eq_true rfl, Nat.le_of_ble_eq_true rfl⟩ (hOld) rfl rfl hl.1 (Nat.le_of_ble_eq_true rfl) d_B_masked_7 ⟨Nat.le_of_ble_eq_true rfl, Nat.le_of_ble_eq_true rfl⟩
set_option maxRecDepth 100000 in
set_option maxHeartbeats 4000000 in
theorem t_B_masked_3 (G : z_G s0 (dC, dI) cI cS) (hT : z_T s0 l) (A : Nat → Nat) (np ns nc nn nm : Nat) (fv : Nat → Nat → Int32) (so sf st : Nat → Int32) (sn sc : Nat → Nat) (sp : Nat → Option Nat) (sx sy : Nat → Nat → Int32) (x y : Int32) (z : Int32) (hz : ¬ (1 ≤ z ∧ z ≤ 10000)) (hp : z_pt x y) (a0 : Int32) (hax : a0 = 0 ∨ a0 = 1) : xt_Met l y_B_masked [Cond.code y_B_masked b_B_masked 5 (some .int)] ({ frames := 6, cells := 1, slots := 6, locals := 82 }) (z_Pc s0 [.ref (A 0), .int x, .int y, .int z, .int a0] (fun H => z_Old s0 H ∧ z_BD (dC, dI) cI cS H A np ns nc nn nm fv so sf st sn sc sp sx sy)) "java/lang/IllegalArgumentException" := by
  refine z_ofWX (by decide +kernel) (Nat.le_of_ble_eq_true rfl) ?_
  intro p e s m below meth c hx hb hml hadm hown hlocks hno hW0 hB ls hl
  have hts := z_hts (args := [.ref (A 0), .int x, .int y, .int z, .int a0].toArray) G.1 hW0
  have hN := z_nstW G.2.1 hW0
  have hK := va_K.moved hW0.alike G.2.2.1
  have hAI := arrOfT_moved hW0.alike G.2.2.2.1
  have hl : lv_has ls 5 [(0, .ref (A 0)), (1, .int x), (2, .int y), (3, .int z), (4, .int a0)] := hl
  obtain ⟨hOld, hB1⟩ := id hB
  obtain ⟨⟨hO0, hO1, hO2, hB3, hFA, hSH⟩, hinj, ⟨hnp, hns, hnn, hnm, hnc⟩, hsb⟩ := id hB1
  have hAS := arrOfT_moved hW0.alike G.2.2.2.2.1
  refine lv_iload hx hb d_B_masked_0 (lv_at hl 4 rfl) ?_
  refine z_rdSv (n := 1) (rest := []) ⟨hx, hb, hml, hown, hts⟩ hW0 (c_B_requireAxis G a0 hax) w_493 w_491 w_492 w_1 (by decide +kernel) ⟨rfl, rfl, Nat.le_of_ble_eq_true rfl, Nat.le_of_ble_eq_true rfl⟩ (trivial) rfl rfl hl.1 (Nat.le_of_ble_eq_true rfl) d_B_masked_2 ⟨Nat.zero_le _, Nat.zero_le _⟩ ?_
  refine lv_iload_n hx hb d_B_masked_5 rfl (lv_at hl 1 rfl) ?_
  refine lv_iload_n hx hb d_B_masked_6 rfl (lv_at hl 2 rfl) ?_
  refine z_rdSv (n := 2) (rest := []) ⟨hx, hb, hml, hown, hts⟩ hW0 (c_B_requirePoint G x y hp) w_271 w_269 w_270 w_1 (by decide +kernel) ⟨rfl, rfl, Nat.le_of_ble_eq_true rfl, Nat.le_of_ble_eq_true rfl⟩ (trivial) rfl rfl hl.1 (Nat.le_of_ble_eq_true rfl) d_B_masked_7 ⟨Nat.zero_le _, Nat.zero_le _⟩ ?_
  refine lv_iload_n hx hb d_B_masked_10 rfl (lv_at hl 3 rfl) ?_
  refine lv_iconst (v := 1) hx hb d_B_masked_11 (by decide) ?_
  refine lv_icmp_lt (tgt := 22) hx hb d_B_masked_12 (by decide) (fun c_1 => ?_) (fun c_1 => ?_)
  · skip
    have c_1' : ¬ ((1 : Int32) ≤ z) := Int32.not_le.mpr c_1
    exact xt_new hx hb hT.1 hown hW0 hOld (by decide +kernel) hT.2.1.2.2.1 k_B_IAE k_7 (hT.2.2 (R_B, 153, "a cell's size is not 1 to 10000") (List.mem_of_getElem? (i := 14) rfl)) (hts _ w_202) (hts _ w_10) hno hlocks (hl.1.trans hml.symm) d_B_masked_22 d_B_masked_25 d_B_masked_26 d_B_masked_28 d_B_masked_31 (Nat.le_of_ble_eq_true rfl) (Nat.le_of_ble_eq_true rfl) (Nat.le_of_ble_eq_true rfl) (Nat.le_of_ble_eq_true rfl)
  · skip
    have c_1' : (1 : Int32) ≤ z := Int32.not_lt.mp c_1
    refine lv_iload_n hx hb d_B_masked_15 rfl (lv_at hl 3 rfl) ?_
    refine lv_sipush (v := 10000) hx hb d_B_masked_16 (by decide) ?_
    refine lv_icmp_le (tgt := 32) hx hb d_B_masked_19 (by decide) (fun c_2 => ?_) (fun c_2 => ?_)
    · skip
      have c_2' : ¬ ((10000 : Int32) < z) := Int32.not_lt.mpr c_2
      exact absurd ⟨c_1', c_2⟩ hz
    · skip
      have c_2' : (10000 : Int32) < z := Int32.not_le.mp c_2
      exact xt_new hx hb hT.1 hown hW0 hOld (by decide +kernel) hT.2.1.2.2.1 k_B_IAE k_7 (hT.2.2 (R_B, 153, "a cell's size is not 1 to 10000") (List.mem_of_getElem? (i := 14) rfl)) (hts _ w_202) (hts _ w_10) hno hlocks (hl.1.trans hml.symm) d_B_masked_22 d_B_masked_25 d_B_masked_26 d_B_masked_28 d_B_masked_31 (Nat.le_of_ble_eq_true rfl) (Nat.le_of_ble_eq_true rfl) (Nat.le_of_ble_eq_true rfl) (Nat.le_of_ble_eq_true rfl)
set_option maxRecDepth 100000 in
set_option maxHeartbeats 4000000 in
theorem t_B_place_1 (G : z_G s0 (dC, dI) cI cS) (hT : z_T s0 l) (A : Nat → Nat) (np ns nc nn nm : Nat) (fv : Nat → Nat → Int32) (so sf st : Nat → Int32) (sn sc : Nat → Nat) (sp : Nat → Option Nat) (sx sy : Nat → Nat → Int32) (x0 : Int32) (hx0 : x0 < 0 ∨ nI np ≤ x0) (h1 : ¬ x0 = -1) : xt_Met l y_B_place [Cond.code y_B_place b_B_place 2 (some .int)] ({ frames := 7, cells := 1, slots := 6, locals := 103 }) (z_Pc s0 [.ref (A 0), .int x0] (fun H => z_Old s0 H ∧ z_BD (dC, dI) cI cS H A np ns nc nn nm fv so sf st sn sc sp sx sy)) "java/util/NoSuchElementException" := by
  refine z_ofWX (by decide +kernel) (Nat.le_of_ble_eq_true rfl) ?_
  intro p e s m below meth c hx hb hml hadm hown hlocks hno hW0 hB ls hl
  have hts := z_hts (args := [.ref (A 0), .int x0].toArray) G.1 hW0
  have hN := z_nstW G.2.1 hW0
  have hK := va_K.moved hW0.alike G.2.2.1
  have hAI := arrOfT_moved hW0.alike G.2.2.2.1
  have hl : lv_has ls 2 [(0, .ref (A 0)), (1, .int x0)] := hl
  obtain ⟨hOld, hB1⟩ := id hB
  obtain ⟨⟨hO0, hO1, hO2, hB3, hFA, hSH⟩, hinj, ⟨hnp, hns, hnn, hnm, hnc⟩, hsb⟩ := id hB1
  have hAS := arrOfT_moved hW0.alike G.2.2.2.2.1
  refine lv_iload_n hx hb d_B_place_0 rfl (lv_at hl 1 rfl) ?_
  refine lv_iconst (v := (-1)) hx hb d_B_place_1 (by decide) ?_
  refine lv_icmp_eq (tgt := 10) hx hb d_B_place_2 (by decide) (fun c_1 => ?_) (fun c_1 => ?_)
  · skip
    exact absurd c_1 h1
  · skip
    refine lv_aload_n hx hb d_B_place_5 rfl (lv_at hl 0 rfl) ?_
    refine lv_iload_n hx hb d_B_place_6 rfl (lv_at hl 1 rfl) ?_
    exact z_thV (n := 1) (C := R_B) (rest := []) ⟨hx, hb, hml, hown, hts⟩ hW0 hno hlocks (t_B_requirePlace G hT A np ns nc nn nm fv so sf st sn sc sp sx sy x0 hx0) w_102 w_99 w_101 wp_0 w_1 (by decide +kernel) ⟨rfl, rfl, Nat.le_of_ble_eq_true rfl, Nat.le_of_ble_eq_true rfl⟩ (hO0.recv hK rfl) (hB) rfl rfl hl.1 (Nat.le_of_ble_eq_true rfl) d_B_place_7 ⟨Nat.le_of_ble_eq_true rfl, Nat.le_of_ble_eq_true rfl⟩
set_option maxRecDepth 100000 in
set_option maxHeartbeats 4000000 in
theorem t_B_place_2 (G : z_G s0 (dC, dI) cI cS) (hT : z_T s0 l) (A : Nat → Nat) (np ns nc nn nm : Nat) (fv : Nat → Nat → Int32) (so sf st : Nat → Int32) (sn sc : Nat → Nat) (sp : Nat → Option Nat) (sx sy : Nat → Nat → Int32) (hfull : 16 ≤ np) : xt_Met l y_B_place [Cond.code y_B_place b_B_place 2 (some .int)] ({ frames := 6, cells := 1, slots := 6, locals := 82 }) (z_Pc s0 [.ref (A 0), .int (-1)] (fun H => z_Old s0 H ∧ z_BD (dC, dI) cI cS H A np ns nc nn nm fv so sf st sn sc sp sx sy)) "java/lang/IllegalStateException" := by
  refine z_ofWX (by decide +kernel) (Nat.le_of_ble_eq_true rfl) ?_
  intro p e s m below meth c hx hb hml hadm hown hlocks hno hW0 hB ls hl
  have hts := z_hts (args := [.ref (A 0), .int (-1)].toArray) G.1 hW0
  have hN := z_nstW G.2.1 hW0
  have hK := va_K.moved hW0.alike G.2.2.1
  have hAI := arrOfT_moved hW0.alike G.2.2.2.1
  have hl : lv_has ls 2 [(0, .ref (A 0)), (1, .int (-1))] := hl
  obtain ⟨hOld, hB1⟩ := id hB
  obtain ⟨⟨hO0, hO1, hO2, hB3, hFA, hSH⟩, hinj, ⟨hnp, hns, hnn, hnm, hnc⟩, hsb⟩ := id hB1
  have hAS := arrOfT_moved hW0.alike G.2.2.2.2.1
  refine lv_iload_n hx hb d_B_place_0 rfl (lv_at hl 1 rfl) ?_
  refine lv_iconst (v := (-1)) hx hb d_B_place_1 (by decide) ?_
  refine lv_icmp_eq (tgt := 10) hx hb d_B_place_2 (by decide) (fun c_1 => ?_) (fun c_1 => ?_)
  · skip
    refine lv_aload_n hx hb d_B_place_10 rfl (lv_at hl 0 rfl) ?_
    refine va_get (D := (dC, dI)) (ci := 3) (v := .int (nI np)) (C := R_B) (T := T_B) (N := 7) hx hb hts in_B hown hK hO0.P 0 rfl rfl 1 (by decide) (hts _ w_69) (fun _ h9 => h9) rfl d_B_place_11 ?_
    refine lv_bipush (v := 16) hx hb d_B_place_14 (by decide) ?_
    refine lv_icmp_lt (tgt := 29) hx hb d_B_place_16 (by decide) (fun c_2 => ?_) (fun c_2 => ?_)
    · skip
      have c_2 : np < 16 := (nI_ltI (a := np) (b := 16) (by omega) (by omega)).mp c_2
      exfalso
      omega
    · skip
      have c_2 : ¬ (np < 16) := fun h => c_2 ((nI_ltI (a := np) (b := 16) (by omega) (by omega)).mpr h)
      exact xt_new hx hb hT.1 hown hW0 hOld (by decide +kernel) hT.2.1.2.1 k_B_ISE k_7 (hT.2.2 (R_B, 43, "there are sixteen places") (List.mem_of_getElem? (i := 1) rfl)) (hts _ w_171) (hts _ w_9) hno hlocks (hl.1.trans hml.symm) d_B_place_19 d_B_place_22 d_B_place_23 d_B_place_25 d_B_place_28 (Nat.le_of_ble_eq_true rfl) (Nat.le_of_ble_eq_true rfl) (Nat.le_of_ble_eq_true rfl) (Nat.le_of_ble_eq_true rfl)
  · skip
    exact absurd (by decide) c_1
set_option maxRecDepth 100000 in
set_option maxHeartbeats 4000000 in
theorem t_B_place_3 (G : z_G s0 (dC, dI) cI cS) (hT : z_T s0 l) (A : Nat → Nat) (np ns nc nn nm : Nat) (fv : Nat → Nat → Int32) (so sf st : Nat → Int32) (sn sc : Nat → Nat) (sp : Nat → Option Nat) (sx sy : Nat → Nat → Int32) (k : Nat) (hk : k < np) (hfull : 16 ≤ np) : xt_Met l y_B_place [Cond.code y_B_place b_B_place 2 (some .int)] ({ frames := 6, cells := 1, slots := 6, locals := 82 }) (z_Pc s0 [.ref (A 0), .int (nI k)] (fun H => z_Old s0 H ∧ z_BD (dC, dI) cI cS H A np ns nc nn nm fv so sf st sn sc sp sx sy)) "java/lang/IllegalStateException" := by
  refine z_ofWX (by decide +kernel) (Nat.le_of_ble_eq_true rfl) ?_
  intro p e s m below meth c hx hb hml hadm hown hlocks hno hW0 hB ls hl
  have hts := z_hts (args := [.ref (A 0), .int (nI k)].toArray) G.1 hW0
  have hN := z_nstW G.2.1 hW0
  have hK := va_K.moved hW0.alike G.2.2.1
  have hAI := arrOfT_moved hW0.alike G.2.2.2.1
  have hl : lv_has ls 2 [(0, .ref (A 0)), (1, .int (nI k))] := hl
  obtain ⟨hOld, hB1⟩ := id hB
  obtain ⟨⟨hO0, hO1, hO2, hB3, hFA, hSH⟩, hinj, ⟨hnp, hns, hnn, hnm, hnc⟩, hsb⟩ := id hB1
  have hAS := arrOfT_moved hW0.alike G.2.2.2.2.1
  refine lv_iload_n hx hb d_B_place_0 rfl (lv_at hl 1 rfl) ?_
  refine lv_iconst (v := (-1)) hx hb d_B_place_1 (by decide) ?_
  refine lv_icmp_eq (tgt := 10) hx hb d_B_place_2 (by decide) (fun c_1 => ?_) (fun c_1 => ?_)
  · skip
    exact absurd c_1 (z_ne1 (by omega))
  · skip
    refine lv_aload_n hx hb d_B_place_5 rfl (lv_at hl 0 rfl) ?_
    refine lv_iload_n hx hb d_B_place_6 rfl (lv_at hl 1 rfl) ?_
    refine z_rdVv (n := 1) (C := R_B) (rest := []) ⟨hx, hb, hml, hown, hts⟩ hW0 (c_B_requirePlace G A np ns nc nn nm fv so sf st sn sc sp sx sy k (by omega)) w_102 w_99 w_101 wp_0 w_1 (by decide +kernel) ⟨rfl, rfl, Nat.le_of_ble_eq_true rfl, Nat.le_of_ble_eq_true rfl⟩ (hO0.recv hK rfl) (hB1) rfl rfl hl.1 (Nat.le_of_ble_eq_true rfl) d_B_place_7 ⟨Nat.zero_le _, Nat.zero_le _⟩ ?_
    refine lv_aload_n hx hb d_B_place_10 rfl (lv_at hl 0 rfl) ?_
    refine va_get (D := (dC, dI)) (ci := 3) (v := .int (nI np)) (C := R_B) (T := T_B) (N := 7) hx hb hts in_B hown hK hO0.P 0 rfl rfl 1 (by decide) (hts _ w_69) (fun _ h9 => h9) rfl d_B_place_11 ?_
    refine lv_bipush (v := 16) hx hb d_B_place_14 (by decide) ?_
    refine lv_icmp_lt (tgt := 29) hx hb d_B_place_16 (by decide) (fun c_2 => ?_) (fun c_2 => ?_)
    · skip
      have c_2 : np < 16 := (nI_ltI (a := np) (b := 16) (by omega) (by omega)).mp c_2
      exfalso
      omega
    · skip
      have c_2 : ¬ (np < 16) := fun h => c_2 ((nI_ltI (a := np) (b := 16) (by omega) (by omega)).mpr h)
      exact xt_new hx hb hT.1 hown hW0 hOld (by decide +kernel) hT.2.1.2.1 k_B_ISE k_7 (hT.2.2 (R_B, 43, "there are sixteen places") (List.mem_of_getElem? (i := 1) rfl)) (hts _ w_171) (hts _ w_9) hno hlocks (hl.1.trans hml.symm) d_B_place_19 d_B_place_22 d_B_place_23 d_B_place_25 d_B_place_28 (Nat.le_of_ble_eq_true rfl) (Nat.le_of_ble_eq_true rfl) (Nat.le_of_ble_eq_true rfl) (Nat.le_of_ble_eq_true rfl)
set_option maxRecDepth 100000 in
set_option maxHeartbeats 4000000 in
theorem t_B_shape_1 (G : z_G s0 (dC, dI) cI cS) (hT : z_T s0 l) (A : Nat → Nat) (np ns nc nn nm : Nat) (fv : Nat → Nat → Int32) (so sf st : Nat → Int32) (sn sc : Nat → Nat) (sp : Nat → Option Nat) (sx sy : Nat → Nat → Int32) (x0 : Int32) (hx0 : x0 < 0 ∨ nI np ≤ x0) (f t : Int32) : xt_Met l y_B_shape [Cond.code y_B_shape b_B_shape 4 (some .int)] ({ frames := 7, cells := 1, slots := 6, locals := 103 }) (z_Pc s0 [.ref (A 0), .int x0, .int f, .int t] (fun H => z_Old s0 H ∧ z_BD (dC, dI) cI cS H A np ns nc nn nm fv so sf st sn sc sp sx sy)) "java/util/NoSuchElementException" := by
  refine z_ofWX (by decide +kernel) (Nat.le_of_ble_eq_true rfl) ?_
  intro p e s m below meth c hx hb hml hadm hown hlocks hno hW0 hB ls hl
  have hts := z_hts (args := [.ref (A 0), .int x0, .int f, .int t].toArray) G.1 hW0
  have hN := z_nstW G.2.1 hW0
  have hK := va_K.moved hW0.alike G.2.2.1
  have hAI := arrOfT_moved hW0.alike G.2.2.2.1
  have hl : lv_has ls 4 [(0, .ref (A 0)), (1, .int x0), (2, .int f), (3, .int t)] := hl
  obtain ⟨hOld, hB1⟩ := id hB
  obtain ⟨⟨hO0, hO1, hO2, hB3, hFA, hSH⟩, hinj, ⟨hnp, hns, hnn, hnm, hnc⟩, hsb⟩ := id hB1
  have hAS := arrOfT_moved hW0.alike G.2.2.2.2.1
  refine lv_aload_n hx hb d_B_shape_0 rfl (lv_at hl 0 rfl) ?_
  refine lv_iload_n hx hb d_B_shape_1 rfl (lv_at hl 1 rfl) ?_
  exact z_thV (n := 1) (C := R_B) (rest := []) ⟨hx, hb, hml, hown, hts⟩ hW0 hno hlocks (t_B_requirePlace G hT A np ns nc nn nm fv so sf st sn sc sp sx sy x0 hx0) w_102 w_99 w_101 wp_0 w_1 (by decide +kernel) ⟨rfl, rfl, Nat.le_of_ble_eq_true rfl, Nat.le_of_ble_eq_true rfl⟩ (hO0.recv hK rfl) (hB) rfl rfl hl.1 (Nat.le_of_ble_eq_true rfl) d_B_shape_2 ⟨Nat.le_of_ble_eq_true rfl, Nat.le_of_ble_eq_true rfl⟩
set_option maxRecDepth 100000 in
set_option maxHeartbeats 4000000 in
theorem t_B_shape_2 (G : z_G s0 (dC, dI) cI cS) (hT : z_T s0 l) (A : Nat → Nat) (np ns nc nn nm : Nat) (fv : Nat → Nat → Int32) (so sf st : Nat → Int32) (sn sc : Nat → Nat) (sp : Nat → Option Nat) (sx sy : Nat → Nat → Int32) (k : Nat) (hk : k < np) (f t : Int32) (hd1 : ¬ z_day f) : xt_Met l y_B_shape [Cond.code y_B_shape b_B_shape 4 (some .int)] ({ frames := 8, cells := 1, slots := 6, locals := 123 }) (z_Pc s0 [.ref (A 0), .int (nI k), .int f, .int t] (fun H => z_Old s0 H ∧ z_BD (dC, dI) cI cS H A np ns nc nn nm fv so sf st sn sc sp sx sy)) "java/lang/IllegalArgumentException" := by
  refine z_ofWX (by decide +kernel) (Nat.le_of_ble_eq_true rfl) ?_
  intro p e s m below meth c hx hb hml hadm hown hlocks hno hW0 hB ls hl
  have hts := z_hts (args := [.ref (A 0), .int (nI k), .int f, .int t].toArray) G.1 hW0
  have hN := z_nstW G.2.1 hW0
  have hK := va_K.moved hW0.alike G.2.2.1
  have hAI := arrOfT_moved hW0.alike G.2.2.2.1
  have hl : lv_has ls 4 [(0, .ref (A 0)), (1, .int (nI k)), (2, .int f), (3, .int t)] := hl
  obtain ⟨hOld, hB1⟩ := id hB
  obtain ⟨⟨hO0, hO1, hO2, hB3, hFA, hSH⟩, hinj, ⟨hnp, hns, hnn, hnm, hnc⟩, hsb⟩ := id hB1
  have hAS := arrOfT_moved hW0.alike G.2.2.2.2.1
  refine lv_aload_n hx hb d_B_shape_0 rfl (lv_at hl 0 rfl) ?_
  refine lv_iload_n hx hb d_B_shape_1 rfl (lv_at hl 1 rfl) ?_
  refine z_rdVv (n := 1) (C := R_B) (rest := []) ⟨hx, hb, hml, hown, hts⟩ hW0 (c_B_requirePlace G A np ns nc nn nm fv so sf st sn sc sp sx sy k (by omega)) w_102 w_99 w_101 wp_0 w_1 (by decide +kernel) ⟨rfl, rfl, Nat.le_of_ble_eq_true rfl, Nat.le_of_ble_eq_true rfl⟩ (hO0.recv hK rfl) (hB1) rfl rfl hl.1 (Nat.le_of_ble_eq_true rfl) d_B_shape_2 ⟨Nat.zero_le _, Nat.zero_le _⟩ ?_
  refine lv_iload_n hx hb d_B_shape_5 rfl (lv_at hl 2 rfl) ?_
  refine lv_iload_n hx hb d_B_shape_6 rfl (lv_at hl 3 rfl) ?_
  exact z_thS (n := 2) (rest := []) ⟨hx, hb, hml, hown, hts⟩ hW0 hno hlocks (t_B_requireSpan1 G hT f t hd1) w_197 w_195 w_196 w_1 (by decide +kernel) ⟨rfl, rfl, Nat.le_of_ble_eq_true rfl, Nat.le_of_ble_eq_true rfl⟩ (hOld) rfl rfl hl.1 (Nat.le_of_ble_eq_true rfl) d_B_shape_7 ⟨Nat.le_of_ble_eq_true rfl, Nat.le_of_ble_eq_true rfl⟩
set_option maxRecDepth 100000 in
set_option maxHeartbeats 4000000 in
theorem t_B_shape_3 (G : z_G s0 (dC, dI) cI cS) (hT : z_T s0 l) (A : Nat → Nat) (np ns nc nn nm : Nat) (fv : Nat → Nat → Int32) (so sf st : Nat → Int32) (sn sc : Nat → Nat) (sp : Nat → Option Nat) (sx sy : Nat → Nat → Int32) (k : Nat) (hk : k < np) (f t : Int32) (hd1 : z_day f) (hd2 : ¬ z_day t) : xt_Met l y_B_shape [Cond.code y_B_shape b_B_shape 4 (some .int)] ({ frames := 8, cells := 1, slots := 6, locals := 123 }) (z_Pc s0 [.ref (A 0), .int (nI k), .int f, .int t] (fun H => z_Old s0 H ∧ z_BD (dC, dI) cI cS H A np ns nc nn nm fv so sf st sn sc sp sx sy)) "java/lang/IllegalArgumentException" := by
  refine z_ofWX (by decide +kernel) (Nat.le_of_ble_eq_true rfl) ?_
  intro p e s m below meth c hx hb hml hadm hown hlocks hno hW0 hB ls hl
  have hts := z_hts (args := [.ref (A 0), .int (nI k), .int f, .int t].toArray) G.1 hW0
  have hN := z_nstW G.2.1 hW0
  have hK := va_K.moved hW0.alike G.2.2.1
  have hAI := arrOfT_moved hW0.alike G.2.2.2.1
  have hl : lv_has ls 4 [(0, .ref (A 0)), (1, .int (nI k)), (2, .int f), (3, .int t)] := hl
  obtain ⟨hOld, hB1⟩ := id hB
  obtain ⟨⟨hO0, hO1, hO2, hB3, hFA, hSH⟩, hinj, ⟨hnp, hns, hnn, hnm, hnc⟩, hsb⟩ := id hB1
  have hAS := arrOfT_moved hW0.alike G.2.2.2.2.1
  refine lv_aload_n hx hb d_B_shape_0 rfl (lv_at hl 0 rfl) ?_
  refine lv_iload_n hx hb d_B_shape_1 rfl (lv_at hl 1 rfl) ?_
  refine z_rdVv (n := 1) (C := R_B) (rest := []) ⟨hx, hb, hml, hown, hts⟩ hW0 (c_B_requirePlace G A np ns nc nn nm fv so sf st sn sc sp sx sy k (by omega)) w_102 w_99 w_101 wp_0 w_1 (by decide +kernel) ⟨rfl, rfl, Nat.le_of_ble_eq_true rfl, Nat.le_of_ble_eq_true rfl⟩ (hO0.recv hK rfl) (hB1) rfl rfl hl.1 (Nat.le_of_ble_eq_true rfl) d_B_shape_2 ⟨Nat.zero_le _, Nat.zero_le _⟩ ?_
  refine lv_iload_n hx hb d_B_shape_5 rfl (lv_at hl 2 rfl) ?_
  refine lv_iload_n hx hb d_B_shape_6 rfl (lv_at hl 3 rfl) ?_
  exact z_thS (n := 2) (rest := []) ⟨hx, hb, hml, hown, hts⟩ hW0 hno hlocks (t_B_requireSpan2 G hT f t hd1 hd2) w_197 w_195 w_196 w_1 (by decide +kernel) ⟨rfl, rfl, Nat.le_of_ble_eq_true rfl, Nat.le_of_ble_eq_true rfl⟩ (hOld) rfl rfl hl.1 (Nat.le_of_ble_eq_true rfl) d_B_shape_7 ⟨Nat.le_of_ble_eq_true rfl, Nat.le_of_ble_eq_true rfl⟩
set_option maxRecDepth 100000 in
set_option maxHeartbeats 4000000 in
theorem t_B_shape_4 (G : z_G s0 (dC, dI) cI cS) (hT : z_T s0 l) (A : Nat → Nat) (np ns nc nn nm : Nat) (fv : Nat → Nat → Int32) (so sf st : Nat → Int32) (sn sc : Nat → Nat) (sp : Nat → Option Nat) (sx sy : Nat → Nat → Int32) (k : Nat) (hk : k < np) (f t : Int32) (hd1 : z_day f) (hd2 : z_day t) (hlt : ¬ f ≤ t) : xt_Met l y_B_shape [Cond.code y_B_shape b_B_shape 4 (some .int)] ({ frames := 7, cells := 1, slots := 6, locals := 103 }) (z_Pc s0 [.ref (A 0), .int (nI k), .int f, .int t] (fun H => z_Old s0 H ∧ z_BD (dC, dI) cI cS H A np ns nc nn nm fv so sf st sn sc sp sx sy)) "java/lang/IllegalArgumentException" := by
  refine z_ofWX (by decide +kernel) (Nat.le_of_ble_eq_true rfl) ?_
  intro p e s m below meth c hx hb hml hadm hown hlocks hno hW0 hB ls hl
  have hts := z_hts (args := [.ref (A 0), .int (nI k), .int f, .int t].toArray) G.1 hW0
  have hN := z_nstW G.2.1 hW0
  have hK := va_K.moved hW0.alike G.2.2.1
  have hAI := arrOfT_moved hW0.alike G.2.2.2.1
  have hl : lv_has ls 4 [(0, .ref (A 0)), (1, .int (nI k)), (2, .int f), (3, .int t)] := hl
  obtain ⟨hOld, hB1⟩ := id hB
  obtain ⟨⟨hO0, hO1, hO2, hB3, hFA, hSH⟩, hinj, ⟨hnp, hns, hnn, hnm, hnc⟩, hsb⟩ := id hB1
  have hAS := arrOfT_moved hW0.alike G.2.2.2.2.1
  refine lv_aload_n hx hb d_B_shape_0 rfl (lv_at hl 0 rfl) ?_
  refine lv_iload_n hx hb d_B_shape_1 rfl (lv_at hl 1 rfl) ?_
  refine z_rdVv (n := 1) (C := R_B) (rest := []) ⟨hx, hb, hml, hown, hts⟩ hW0 (c_B_requirePlace G A np ns nc nn nm fv so sf st sn sc sp sx sy k (by omega)) w_102 w_99 w_101 wp_0 w_1 (by decide +kernel) ⟨rfl, rfl, Nat.le_of_ble_eq_true rfl, Nat.le_of_ble_eq_true rfl⟩ (hO0.recv hK rfl) (hB1) rfl rfl hl.1 (Nat.le_of_ble_eq_true rfl) d_B_shape_2 ⟨Nat.zero_le _, Nat.zero_le _⟩ ?_
  refine lv_iload_n hx hb d_B_shape_5 rfl (lv_at hl 2 rfl) ?_
  refine lv_iload_n hx hb d_B_shape_6 rfl (lv_at hl 3 rfl) ?_
  exact z_thS (n := 2) (rest := []) ⟨hx, hb, hml, hown, hts⟩ hW0 hno hlocks (t_B_requireSpan3 G hT f t hd1 hd2 hlt) w_197 w_195 w_196 w_1 (by decide +kernel) ⟨rfl, rfl, Nat.le_of_ble_eq_true rfl, Nat.le_of_ble_eq_true rfl⟩ (hOld) rfl rfl hl.1 (Nat.le_of_ble_eq_true rfl) d_B_shape_7 ⟨Nat.le_of_ble_eq_true rfl, Nat.le_of_ble_eq_true rfl⟩
set_option maxRecDepth 100000 in
set_option maxHeartbeats 4000000 in
theorem t_B_shape_5 (G : z_G s0 (dC, dI) cI cS) (hT : z_T s0 l) (A : Nat → Nat) (np ns nc nn nm : Nat) (fv : Nat → Nat → Int32) (so sf st : Nat → Int32) (sn sc : Nat → Nat) (sp : Nat → Option Nat) (sx sy : Nat → Nat → Int32) (k : Nat) (hk : k < np) (f t : Int32) (hd1 : z_day f) (hd2 : z_day t) (hle : f ≤ t) (hfull : 32 ≤ ns) : xt_Met l y_B_shape [Cond.code y_B_shape b_B_shape 4 (some .int)] ({ frames := 6, cells := 1, slots := 6, locals := 82 }) (z_Pc s0 [.ref (A 0), .int (nI k), .int f, .int t] (fun H => z_Old s0 H ∧ z_BD (dC, dI) cI cS H A np ns nc nn nm fv so sf st sn sc sp sx sy)) "java/lang/IllegalStateException" := by
  refine z_ofWX (by decide +kernel) (Nat.le_of_ble_eq_true rfl) ?_
  intro p e s m below meth c hx hb hml hadm hown hlocks hno hW0 hB ls hl
  have hts := z_hts (args := [.ref (A 0), .int (nI k), .int f, .int t].toArray) G.1 hW0
  have hN := z_nstW G.2.1 hW0
  have hK := va_K.moved hW0.alike G.2.2.1
  have hAI := arrOfT_moved hW0.alike G.2.2.2.1
  have hl : lv_has ls 4 [(0, .ref (A 0)), (1, .int (nI k)), (2, .int f), (3, .int t)] := hl
  obtain ⟨hOld, hB1⟩ := id hB
  obtain ⟨⟨hO0, hO1, hO2, hB3, hFA, hSH⟩, hinj, ⟨hnp, hns, hnn, hnm, hnc⟩, hsb⟩ := id hB1
  have hAS := arrOfT_moved hW0.alike G.2.2.2.2.1
  refine lv_aload_n hx hb d_B_shape_0 rfl (lv_at hl 0 rfl) ?_
  refine lv_iload_n hx hb d_B_shape_1 rfl (lv_at hl 1 rfl) ?_
  refine z_rdVv (n := 1) (C := R_B) (rest := []) ⟨hx, hb, hml, hown, hts⟩ hW0 (c_B_requirePlace G A np ns nc nn nm fv so sf st sn sc sp sx sy k (by omega)) w_102 w_99 w_101 wp_0 w_1 (by decide +kernel) ⟨rfl, rfl, Nat.le_of_ble_eq_true rfl, Nat.le_of_ble_eq_true rfl⟩ (hO0.recv hK rfl) (hB1) rfl rfl hl.1 (Nat.le_of_ble_eq_true rfl) d_B_shape_2 ⟨Nat.zero_le _, Nat.zero_le _⟩ ?_
  refine lv_iload_n hx hb d_B_shape_5 rfl (lv_at hl 2 rfl) ?_
  refine lv_iload_n hx hb d_B_shape_6 rfl (lv_at hl 3 rfl) ?_
  refine z_rdSv (n := 2) (rest := []) ⟨hx, hb, hml, hown, hts⟩ hW0 (c_B_requireSpan G f t hd1 hd2 hle) w_197 w_195 w_196 w_1 (by decide +kernel) ⟨rfl, rfl, Nat.le_of_ble_eq_true rfl, Nat.le_of_ble_eq_true rfl⟩ (trivial) rfl rfl hl.1 (Nat.le_of_ble_eq_true rfl) d_B_shape_7 ⟨Nat.zero_le _, Nat.zero_le _⟩ ?_
  refine lv_aload_n hx hb d_B_shape_10 rfl (lv_at hl 0 rfl) ?_
  refine va_get (D := (dC, dI)) (ci := 3) (v := .int (nI ns)) (C := R_B) (T := T_B) (N := 7) hx hb hts in_B hown hK hO0.P 0 rfl rfl 3 (by decide) (hts _ w_71) (fun _ h9 => h9) rfl d_B_shape_11 ?_
  refine lv_bipush (v := 32) hx hb d_B_shape_14 (by decide) ?_
  refine lv_icmp_lt (tgt := 29) hx hb d_B_shape_16 (by decide) (fun c_1 => ?_) (fun c_1 => ?_)
  · skip
    have c_1 : ns < 32 := (nI_ltI (a := ns) (b := 32) (by omega) (by omega)).mp c_1
    exfalso
    omega
  · skip
    have c_1 : ¬ (ns < 32) := fun h => c_1 ((nI_ltI (a := ns) (b := 32) (by omega) (by omega)).mpr h)
    exact xt_new hx hb hT.1 hown hW0 hOld (by decide +kernel) hT.2.1.2.1 k_B_ISE k_7 (hT.2.2 (R_B, 55, "there are 32 shapes") (List.mem_of_getElem? (i := 4) rfl)) (hts _ w_171) (hts _ w_9) hno hlocks (hl.1.trans hml.symm) d_B_shape_19 d_B_shape_22 d_B_shape_23 d_B_shape_25 d_B_shape_28 (Nat.le_of_ble_eq_true rfl) (Nat.le_of_ble_eq_true rfl) (Nat.le_of_ble_eq_true rfl) (Nat.le_of_ble_eq_true rfl)
set_option maxRecDepth 100000 in
set_option maxHeartbeats 4000000 in
theorem t_B_corner_1 (G : z_G s0 (dC, dI) cI cS) (hT : z_T s0 l) (A : Nat → Nat) (np ns nc nn nm : Nat) (fv : Nat → Nat → Int32) (so sf st : Nat → Int32) (sn sc : Nat → Nat) (sp : Nat → Option Nat) (sx sy : Nat → Nat → Int32) (x0 : Int32) (hx0 : x0 < 0 ∨ nI ns ≤ x0) (x y : Int32) : xt_Met l y_B_corner [Cond.code y_B_corner b_B_corner 5 (some .int)] ({ frames := 7, cells := 1, slots := 6, locals := 103 }) (z_Pc s0 [.ref (A 0), .int x0, .int x, .int y] (fun H => z_Old s0 H ∧ z_BD (dC, dI) cI cS H A np ns nc nn nm fv so sf st sn sc sp sx sy)) "java/util/NoSuchElementException" := by
  refine z_ofWX (by decide +kernel) (Nat.le_of_ble_eq_true rfl) ?_
  intro p e s m below meth c hx hb hml hadm hown hlocks hno hW0 hB ls hl
  have hts := z_hts (args := [.ref (A 0), .int x0, .int x, .int y].toArray) G.1 hW0
  have hN := z_nstW G.2.1 hW0
  have hK := va_K.moved hW0.alike G.2.2.1
  have hAI := arrOfT_moved hW0.alike G.2.2.2.1
  have hl : lv_has ls 5 [(0, .ref (A 0)), (1, .int x0), (2, .int x), (3, .int y)] := hl
  obtain ⟨hOld, hB1⟩ := id hB
  obtain ⟨⟨hO0, hO1, hO2, hB3, hFA, hSH⟩, hinj, ⟨hnp, hns, hnn, hnm, hnc⟩, hsb⟩ := id hB1
  have hAS := arrOfT_moved hW0.alike G.2.2.2.2.1
  refine lv_aload_n hx hb d_B_corner_0 rfl (lv_at hl 0 rfl) ?_
  refine lv_iload_n hx hb d_B_corner_1 rfl (lv_at hl 1 rfl) ?_
  exact z_thV (n := 1) (C := R_B) (rest := []) ⟨hx, hb, hml, hown, hts⟩ hW0 hno hlocks (t_B_shapeNumbered G hT A np ns nc nn nm fv so sf st sn sc sp sx sy x0 hx0) w_267 w_264 w_266 wp_2 w_1 (by decide +kernel) ⟨rfl, rfl, Nat.le_of_ble_eq_true rfl, Nat.le_of_ble_eq_true rfl⟩ (hO0.recv hK rfl) (hB) rfl rfl hl.1 (Nat.le_of_ble_eq_true rfl) d_B_corner_2 ⟨Nat.le_of_ble_eq_true rfl, Nat.le_of_ble_eq_true rfl⟩
set_option maxRecDepth 100000 in
set_option maxHeartbeats 4000000 in
theorem t_B_corner_2 (G : z_G s0 (dC, dI) cI cS) (hT : z_T s0 l) (A : Nat → Nat) (np ns nc nn nm : Nat) (fv : Nat → Nat → Int32) (so sf st : Nat → Int32) (sn sc : Nat → Nat) (sp : Nat → Option Nat) (sx sy : Nat → Nat → Int32) (k : Nat) (hk : k < ns) (x y : Int32) (hp : ¬ z_pt x y) : xt_Met l y_B_corner [Cond.code y_B_corner b_B_corner 5 (some .int)] ({ frames := 7, cells := 1, slots := 6, locals := 103 }) (z_Pc s0 [.ref (A 0), .int (nI k), .int x, .int y] (fun H => z_Old s0 H ∧ z_BD (dC, dI) cI cS H A np ns nc nn nm fv so sf st sn sc sp sx sy)) "java/lang/IllegalArgumentException" := by
  refine z_ofWX (by decide +kernel) (Nat.le_of_ble_eq_true rfl) ?_
  intro p e s m below meth c hx hb hml hadm hown hlocks hno hW0 hB ls hl
  have hts := z_hts (args := [.ref (A 0), .int (nI k), .int x, .int y].toArray) G.1 hW0
  have hN := z_nstW G.2.1 hW0
  have hK := va_K.moved hW0.alike G.2.2.1
  have hAI := arrOfT_moved hW0.alike G.2.2.2.1
  have hl : lv_has ls 5 [(0, .ref (A 0)), (1, .int (nI k)), (2, .int x), (3, .int y)] := hl
  obtain ⟨hOld, hB1⟩ := id hB
  obtain ⟨⟨hO0, hO1, hO2, hB3, hFA, hSH⟩, hinj, ⟨hnp, hns, hnn, hnm, hnc⟩, hsb⟩ := id hB1
  have hAS := arrOfT_moved hW0.alike G.2.2.2.2.1
  have hS_k := hSH k hk
  have hb_k := hsb k hk
  obtain ⟨hO_k, hX_k, hY_k⟩ := id hS_k
  refine lv_aload_n hx hb d_B_corner_0 rfl (lv_at hl 0 rfl) ?_
  refine lv_iload_n hx hb d_B_corner_1 rfl (lv_at hl 1 rfl) ?_
  refine z_rdV (n := 1) (C := R_B) (rest := []) ⟨hx, hb, hml, hown, hts⟩ hW0 (c_B_shapeNumbered G A np ns nc nn nm fv so sf st sn sc sp sx sy k (by omega)) w_267 w_264 w_266 wp_2 w_1 (by decide +kernel) ⟨rfl, rfl, Nat.le_of_ble_eq_true rfl, Nat.le_of_ble_eq_true rfl⟩ (hO0.recv hK rfl) (hB1) rfl rfl hl.1 (Nat.le_of_ble_eq_true rfl) d_B_corner_2 ⟨Nat.zero_le _, Nat.zero_le _⟩ ?_
  refine lv_astore (lv' := [(4, .ref (A (13 + 3 * k))), (0, .ref (A 0)), (1, .int (nI k)), (2, .int x), (3, .int y)]) hx hb d_B_corner_5 hl (by decide) rfl (fun ls hl => ?_)
  refine lv_iload_n hx hb d_B_corner_7 rfl (lv_at hl 3 rfl) ?_
  refine lv_iload_n hx hb d_B_corner_8 rfl (lv_at hl 4 rfl) ?_
  exact z_thS (n := 2) (rest := []) ⟨hx, hb, hml, hown, hts⟩ hW0 hno hlocks (t_B_requirePoint G hT x y hp) w_271 w_269 w_270 w_1 (by decide +kernel) ⟨rfl, rfl, Nat.le_of_ble_eq_true rfl, Nat.le_of_ble_eq_true rfl⟩ (hOld) rfl rfl hl.1 (Nat.le_of_ble_eq_true rfl) d_B_corner_9 ⟨Nat.le_of_ble_eq_true rfl, Nat.le_of_ble_eq_true rfl⟩
set_option maxRecDepth 100000 in
set_option maxHeartbeats 4000000 in
theorem t_B_corner_3 (G : z_G s0 (dC, dI) cI cS) (hT : z_T s0 l) (A : Nat → Nat) (np ns nc nn nm : Nat) (fv : Nat → Nat → Int32) (so sf st : Nat → Int32) (sn sc : Nat → Nat) (sp : Nat → Option Nat) (sx sy : Nat → Nat → Int32) (k : Nat) (hk : k < ns) (x y : Int32) (hp : z_pt x y) (hst : 0 < nI (sc k) ∨ 12 ≤ sn k) : xt_Met l y_B_corner [Cond.code y_B_corner b_B_corner 5 (some .int)] ({ frames := 6, cells := 1, slots := 6, locals := 82 }) (z_Pc s0 [.ref (A 0), .int (nI k), .int x, .int y] (fun H => z_Old s0 H ∧ z_BD (dC, dI) cI cS H A np ns nc nn nm fv so sf st sn sc sp sx sy)) "java/lang/IllegalStateException" := by
  refine z_ofWX (by decide +kernel) (Nat.le_of_ble_eq_true rfl) ?_
  intro p e s m below meth c hx hb hml hadm hown hlocks hno hW0 hB ls hl
  have hts := z_hts (args := [.ref (A 0), .int (nI k), .int x, .int y].toArray) G.1 hW0
  have hN := z_nstW G.2.1 hW0
  have hK := va_K.moved hW0.alike G.2.2.1
  have hAI := arrOfT_moved hW0.alike G.2.2.2.1
  have hl : lv_has ls 5 [(0, .ref (A 0)), (1, .int (nI k)), (2, .int x), (3, .int y)] := hl
  obtain ⟨hOld, hB1⟩ := id hB
  obtain ⟨⟨hO0, hO1, hO2, hB3, hFA, hSH⟩, hinj, ⟨hnp, hns, hnn, hnm, hnc⟩, hsb⟩ := id hB1
  have hAS := arrOfT_moved hW0.alike G.2.2.2.2.1
  have hS_k := hSH k hk
  have hb_k := hsb k hk
  obtain ⟨hO_k, hX_k, hY_k⟩ := id hS_k
  refine lv_aload_n hx hb d_B_corner_0 rfl (lv_at hl 0 rfl) ?_
  refine lv_iload_n hx hb d_B_corner_1 rfl (lv_at hl 1 rfl) ?_
  refine z_rdV (n := 1) (C := R_B) (rest := []) ⟨hx, hb, hml, hown, hts⟩ hW0 (c_B_shapeNumbered G A np ns nc nn nm fv so sf st sn sc sp sx sy k (by omega)) w_267 w_264 w_266 wp_2 w_1 (by decide +kernel) ⟨rfl, rfl, Nat.le_of_ble_eq_true rfl, Nat.le_of_ble_eq_true rfl⟩ (hO0.recv hK rfl) (hB1) rfl rfl hl.1 (Nat.le_of_ble_eq_true rfl) d_B_corner_2 ⟨Nat.zero_le _, Nat.zero_le _⟩ ?_
  refine lv_astore (lv' := [(4, .ref (A (13 + 3 * k))), (0, .ref (A 0)), (1, .int (nI k)), (2, .int x), (3, .int y)]) hx hb d_B_corner_5 hl (by decide) rfl (fun ls hl => ?_)
  refine lv_iload_n hx hb d_B_corner_7 rfl (lv_at hl 3 rfl) ?_
  refine lv_iload_n hx hb d_B_corner_8 rfl (lv_at hl 4 rfl) ?_
  refine z_rdSv (n := 2) (rest := []) ⟨hx, hb, hml, hown, hts⟩ hW0 (c_B_requirePoint G x y hp) w_271 w_269 w_270 w_1 (by decide +kernel) ⟨rfl, rfl, Nat.le_of_ble_eq_true rfl, Nat.le_of_ble_eq_true rfl⟩ (trivial) rfl rfl hl.1 (Nat.le_of_ble_eq_true rfl) d_B_corner_9 ⟨Nat.zero_le _, Nat.zero_le _⟩ ?_
  refine lv_aload hx hb d_B_corner_12 (lv_at hl 0 rfl) ?_
  refine z_rdV (n := 0) (C := R_S) (rest := []) ⟨hx, hb, hml, hown, hts⟩ hW0 (c_S_isClosed G (A (13 + 3 * k)) (A (14 + 3 * k)) (A (15 + 3 * k)) (sn k) (nI k) (so k) (sf k) (st k) (nI (sc k)) (z_pv A (sp k)) (sx k) (sy k)) w_276 w_273 w_274 w_275 w_11 (by decide +kernel) ⟨rfl, rfl, Nat.le_of_ble_eq_true rfl, Nat.le_of_ble_eq_true rfl⟩ (hO_k.recv hK rfl) (hS_k) rfl rfl hl.1 (Nat.le_of_ble_eq_true rfl) d_B_corner_14 ⟨Nat.zero_le _, Nat.zero_le _⟩ ?_
  refine lv_if_ne (tgt := 28) hx hb d_B_corner_17 (by decide) (fun c_1 => ?_) (fun c_1 => ?_)
  · skip
    have c_1 : (0 < nI (sc k)) := of_decide_eq_true (pi_b_1.mp c_1)
    exact xt_new hx hb hT.1 hown hW0 hOld (by decide +kernel) hT.2.1.2.1 k_B_ISE k_7 (hT.2.2 (R_B, 74, "the shape is closed or has twelve corners") (List.mem_of_getElem? (i := 7) rfl)) (hts _ w_171) (hts _ w_9) hno hlocks (hl.1.trans hml.symm) d_B_corner_28 d_B_corner_31 d_B_corner_32 d_B_corner_34 d_B_corner_37 (Nat.le_of_ble_eq_true rfl) (Nat.le_of_ble_eq_true rfl) (Nat.le_of_ble_eq_true rfl) (Nat.le_of_ble_eq_true rfl)
  · skip
    have c_1 : ¬ (0 < nI (sc k)) := of_decide_eq_false (pi_b_0.mp c_1)
    refine lv_aload hx hb d_B_corner_20 (lv_at hl 0 rfl) ?_
    refine z_rdV (n := 0) (C := R_S) (rest := []) ⟨hx, hb, hml, hown, hts⟩ hW0 (c_S_isFull G (A (13 + 3 * k)) (A (14 + 3 * k)) (A (15 + 3 * k)) (sn k) (nI k) (so k) (sf k) (st k) (nI (sc k)) (z_pv A (sp k)) (sx k) (sy k) hb_k.1) w_280 w_277 w_278 w_279 w_11 (by decide +kernel) ⟨rfl, rfl, Nat.le_of_ble_eq_true rfl, Nat.le_of_ble_eq_true rfl⟩ (hO_k.recv hK rfl) (hS_k) rfl rfl hl.1 (Nat.le_of_ble_eq_true rfl) d_B_corner_22 ⟨Nat.zero_le _, Nat.zero_le _⟩ ?_
    refine lv_if_eq (tgt := 38) hx hb d_B_corner_25 (by decide) (fun c_2 => ?_) (fun c_2 => ?_)
    · skip
      have c_2 : ¬ (12 ≤ sn k) := of_decide_eq_false (pi_b_0.mp c_2)
      exact (hst.elim c_1 c_2).elim
    · skip
      have c_2 : (12 ≤ sn k) := of_decide_eq_true (pi_b_1.mp c_2)
      exact xt_new hx hb hT.1 hown hW0 hOld (by decide +kernel) hT.2.1.2.1 k_B_ISE k_7 (hT.2.2 (R_B, 74, "the shape is closed or has twelve corners") (List.mem_of_getElem? (i := 7) rfl)) (hts _ w_171) (hts _ w_9) hno hlocks (hl.1.trans hml.symm) d_B_corner_28 d_B_corner_31 d_B_corner_32 d_B_corner_34 d_B_corner_37 (Nat.le_of_ble_eq_true rfl) (Nat.le_of_ble_eq_true rfl) (Nat.le_of_ble_eq_true rfl) (Nat.le_of_ble_eq_true rfl)
set_option maxRecDepth 100000 in
set_option maxHeartbeats 4000000 in
theorem t_B_close_1 (G : z_G s0 (dC, dI) cI cS) (hT : z_T s0 l) (A : Nat → Nat) (np ns nc nn nm : Nat) (fv : Nat → Nat → Int32) (so sf st : Nat → Int32) (sn sc : Nat → Nat) (sp : Nat → Option Nat) (sx sy : Nat → Nat → Int32) (x0 : Int32) (hx0 : x0 < 0 ∨ nI ns ≤ x0) : xt_Met l y_B_close [Cond.code y_B_close b_B_close 3 (some .boolean)] ({ frames := 7, cells := 1, slots := 6, locals := 103 }) (z_Pc s0 [.ref (A 0), .int x0] (fun H => z_Old s0 H ∧ z_BD (dC, dI) cI cS H A np ns nc nn nm fv so sf st sn sc sp sx sy)) "java/util/NoSuchElementException" := by
  refine z_ofWX (by decide +kernel) (Nat.le_of_ble_eq_true rfl) ?_
  intro p e s m below meth c hx hb hml hadm hown hlocks hno hW0 hB ls hl
  have hts := z_hts (args := [.ref (A 0), .int x0].toArray) G.1 hW0
  have hN := z_nstW G.2.1 hW0
  have hK := va_K.moved hW0.alike G.2.2.1
  have hAI := arrOfT_moved hW0.alike G.2.2.2.1
  have hl : lv_has ls 3 [(0, .ref (A 0)), (1, .int x0)] := hl
  obtain ⟨hOld, hB1⟩ := id hB
  obtain ⟨⟨hO0, hO1, hO2, hB3, hFA, hSH⟩, hinj, ⟨hnp, hns, hnn, hnm, hnc⟩, hsb⟩ := id hB1
  have hAS := arrOfT_moved hW0.alike G.2.2.2.2.1
  refine lv_aload_n hx hb d_B_close_0 rfl (lv_at hl 0 rfl) ?_
  refine lv_iload_n hx hb d_B_close_1 rfl (lv_at hl 1 rfl) ?_
  exact z_thV (n := 1) (C := R_B) (rest := []) ⟨hx, hb, hml, hown, hts⟩ hW0 hno hlocks (t_B_shapeNumbered G hT A np ns nc nn nm fv so sf st sn sc sp sx sy x0 hx0) w_267 w_264 w_266 wp_2 w_1 (by decide +kernel) ⟨rfl, rfl, Nat.le_of_ble_eq_true rfl, Nat.le_of_ble_eq_true rfl⟩ (hO0.recv hK rfl) (hB) rfl rfl hl.1 (Nat.le_of_ble_eq_true rfl) d_B_close_2 ⟨Nat.le_of_ble_eq_true rfl, Nat.le_of_ble_eq_true rfl⟩
set_option maxRecDepth 100000 in
set_option maxHeartbeats 4000000 in
theorem t_B_unsure_1 (G : z_G s0 (dC, dI) cI cS) (hT : z_T s0 l) (A : Nat → Nat) (np ns nc nn nm : Nat) (fv : Nat → Nat → Int32) (so sf st : Nat → Int32) (sn sc : Nat → Nat) (sp : Nat → Option Nat) (sx sy : Nat → Nat → Int32) (x0 : Int32) (hx0 : x0 < 0 ∨ nI ns ≤ x0) (x1 : Int32) : xt_Met l y_B_unsure [Cond.code y_B_unsure b_B_unsure 5 (some .boolean)] ({ frames := 7, cells := 1, slots := 6, locals := 103 }) (z_Pc s0 [.ref (A 0), .int x0, .int x1] (fun H => z_Old s0 H ∧ z_BD (dC, dI) cI cS H A np ns nc nn nm fv so sf st sn sc sp sx sy)) "java/util/NoSuchElementException" := by
  refine z_ofWX (by decide +kernel) (Nat.le_of_ble_eq_true rfl) ?_
  intro p e s m below meth c hx hb hml hadm hown hlocks hno hW0 hB ls hl
  have hts := z_hts (args := [.ref (A 0), .int x0, .int x1].toArray) G.1 hW0
  have hN := z_nstW G.2.1 hW0
  have hK := va_K.moved hW0.alike G.2.2.1
  have hAI := arrOfT_moved hW0.alike G.2.2.2.1
  have hl : lv_has ls 5 [(0, .ref (A 0)), (1, .int x0), (2, .int x1)] := hl
  obtain ⟨hOld, hB1⟩ := id hB
  obtain ⟨⟨hO0, hO1, hO2, hB3, hFA, hSH⟩, hinj, ⟨hnp, hns, hnn, hnm, hnc⟩, hsb⟩ := id hB1
  have hAS := arrOfT_moved hW0.alike G.2.2.2.2.1
  refine lv_aload_n hx hb d_B_unsure_0 rfl (lv_at hl 0 rfl) ?_
  refine lv_iload_n hx hb d_B_unsure_1 rfl (lv_at hl 1 rfl) ?_
  exact z_thV (n := 1) (C := R_B) (rest := []) ⟨hx, hb, hml, hown, hts⟩ hW0 hno hlocks (t_B_shapeNumbered G hT A np ns nc nn nm fv so sf st sn sc sp sx sy x0 hx0) w_267 w_264 w_266 wp_2 w_1 (by decide +kernel) ⟨rfl, rfl, Nat.le_of_ble_eq_true rfl, Nat.le_of_ble_eq_true rfl⟩ (hO0.recv hK rfl) (hB) rfl rfl hl.1 (Nat.le_of_ble_eq_true rfl) d_B_unsure_2 ⟨Nat.le_of_ble_eq_true rfl, Nat.le_of_ble_eq_true rfl⟩
set_option maxRecDepth 100000 in
set_option maxHeartbeats 4000000 in
theorem t_B_unsure_2 (G : z_G s0 (dC, dI) cI cS) (hT : z_T s0 l) (A : Nat → Nat) (np ns nc nn nm : Nat) (fv : Nat → Nat → Int32) (so sf st : Nat → Int32) (sn sc : Nat → Nat) (sp : Nat → Option Nat) (sx sy : Nat → Nat → Int32) (k : Nat) (hk : k < ns) (x0 : Int32) (hx0 : x0 < 0 ∨ nI ns ≤ x0) : xt_Met l y_B_unsure [Cond.code y_B_unsure b_B_unsure 5 (some .boolean)] ({ frames := 7, cells := 1, slots := 6, locals := 103 }) (z_Pc s0 [.ref (A 0), .int (nI k), .int x0] (fun H => z_Old s0 H ∧ z_BD (dC, dI) cI cS H A np ns nc nn nm fv so sf st sn sc sp sx sy)) "java/util/NoSuchElementException" := by
  refine z_ofWX (by decide +kernel) (Nat.le_of_ble_eq_true rfl) ?_
  intro p e s m below meth c hx hb hml hadm hown hlocks hno hW0 hB ls hl
  have hts := z_hts (args := [.ref (A 0), .int (nI k), .int x0].toArray) G.1 hW0
  have hN := z_nstW G.2.1 hW0
  have hK := va_K.moved hW0.alike G.2.2.1
  have hAI := arrOfT_moved hW0.alike G.2.2.2.1
  have hl : lv_has ls 5 [(0, .ref (A 0)), (1, .int (nI k)), (2, .int x0)] := hl
  obtain ⟨hOld, hB1⟩ := id hB
  obtain ⟨⟨hO0, hO1, hO2, hB3, hFA, hSH⟩, hinj, ⟨hnp, hns, hnn, hnm, hnc⟩, hsb⟩ := id hB1
  have hAS := arrOfT_moved hW0.alike G.2.2.2.2.1
  refine lv_aload_n hx hb d_B_unsure_0 rfl (lv_at hl 0 rfl) ?_
  refine lv_iload_n hx hb d_B_unsure_1 rfl (lv_at hl 1 rfl) ?_
  refine z_rdV (n := 1) (C := R_B) (rest := []) ⟨hx, hb, hml, hown, hts⟩ hW0 (c_B_shapeNumbered G A np ns nc nn nm fv so sf st sn sc sp sx sy k (by omega)) w_267 w_264 w_266 wp_2 w_1 (by decide +kernel) ⟨rfl, rfl, Nat.le_of_ble_eq_true rfl, Nat.le_of_ble_eq_true rfl⟩ (hO0.recv hK rfl) (hB1) rfl rfl hl.1 (Nat.le_of_ble_eq_true rfl) d_B_unsure_2 ⟨Nat.zero_le _, Nat.zero_le _⟩ ?_
  refine lv_astore_n (lv' := [(3, .ref (A (13 + 3 * k))), (0, .ref (A 0)), (1, .int (nI k)), (2, .int x0)]) hx hb d_B_unsure_5 rfl hl (by decide) rfl (fun ls hl => ?_)
  refine lv_aload_n hx hb d_B_unsure_6 rfl (lv_at hl 1 rfl) ?_
  refine lv_iload_n hx hb d_B_unsure_7 rfl (lv_at hl 3 rfl) ?_
  exact z_thV (n := 1) (C := R_B) (rest := []) ⟨hx, hb, hml, hown, hts⟩ hW0 hno hlocks (t_B_shapeNumbered G hT A np ns nc nn nm fv so sf st sn sc sp sx sy x0 hx0) w_267 w_264 w_266 wp_2 w_1 (by decide +kernel) ⟨rfl, rfl, Nat.le_of_ble_eq_true rfl, Nat.le_of_ble_eq_true rfl⟩ (hO0.recv hK rfl) (hB) rfl rfl hl.1 (Nat.le_of_ble_eq_true rfl) d_B_unsure_8 ⟨Nat.le_of_ble_eq_true rfl, Nat.le_of_ble_eq_true rfl⟩
set_option maxRecDepth 100000 in
set_option maxHeartbeats 4000000 in
theorem t_B_name_1 (G : z_G s0 (dC, dI) cI cS) (hT : z_T s0 l) (A : Nat → Nat) (np ns nc nn nm : Nat) (fv : Nat → Nat → Int32) (so sf st : Nat → Int32) (sn sc : Nat → Nat) (sp : Nat → Option Nat) (sx sy : Nat → Nat → Int32) (x0 : Int32) (hx0 : x0 < 0 ∨ nI np ≤ x0) (n0 : Int32) (f t : Int32) : xt_Met l y_B_name [Cond.code y_B_name b_B_name 5 none] ({ frames := 7, cells := 1, slots := 6, locals := 103 }) (z_Pc s0 [.ref (A 0), .int x0, .int n0, .int f, .int t] (fun H => z_Old s0 H ∧ z_BD (dC, dI) cI cS H A np ns nc nn nm fv so sf st sn sc sp sx sy)) "java/util/NoSuchElementException" := by
  refine z_ofWX (by decide +kernel) (Nat.le_of_ble_eq_true rfl) ?_
  intro p e s m below meth c hx hb hml hadm hown hlocks hno hW0 hB ls hl
  have hts := z_hts (args := [.ref (A 0), .int x0, .int n0, .int f, .int t].toArray) G.1 hW0
  have hN := z_nstW G.2.1 hW0
  have hK := va_K.moved hW0.alike G.2.2.1
  have hAI := arrOfT_moved hW0.alike G.2.2.2.1
  have hl : lv_has ls 5 [(0, .ref (A 0)), (1, .int x0), (2, .int n0), (3, .int f), (4, .int t)] := hl
  obtain ⟨hOld, hB1⟩ := id hB
  obtain ⟨⟨hO0, hO1, hO2, hB3, hFA, hSH⟩, hinj, ⟨hnp, hns, hnn, hnm, hnc⟩, hsb⟩ := id hB1
  have hAS := arrOfT_moved hW0.alike G.2.2.2.2.1
  refine lv_aload_n hx hb d_B_name_0 rfl (lv_at hl 0 rfl) ?_
  refine lv_iload_n hx hb d_B_name_1 rfl (lv_at hl 1 rfl) ?_
  exact z_thV (n := 1) (C := R_B) (rest := []) ⟨hx, hb, hml, hown, hts⟩ hW0 hno hlocks (t_B_requirePlace G hT A np ns nc nn nm fv so sf st sn sc sp sx sy x0 hx0) w_102 w_99 w_101 wp_0 w_1 (by decide +kernel) ⟨rfl, rfl, Nat.le_of_ble_eq_true rfl, Nat.le_of_ble_eq_true rfl⟩ (hO0.recv hK rfl) (hB) rfl rfl hl.1 (Nat.le_of_ble_eq_true rfl) d_B_name_2 ⟨Nat.le_of_ble_eq_true rfl, Nat.le_of_ble_eq_true rfl⟩
set_option maxRecDepth 100000 in
set_option maxHeartbeats 4000000 in
theorem t_B_name_2 (G : z_G s0 (dC, dI) cI cS) (hT : z_T s0 l) (A : Nat → Nat) (np ns nc nn nm : Nat) (fv : Nat → Nat → Int32) (so sf st : Nat → Int32) (sn sc : Nat → Nat) (sp : Nat → Option Nat) (sx sy : Nat → Nat → Int32) (k : Nat) (hk : k < np) (n0 : Int32) (f t : Int32) (hd1 : ¬ z_day f) : xt_Met l y_B_name [Cond.code y_B_name b_B_name 5 none] ({ frames := 8, cells := 1, slots := 6, locals := 123 }) (z_Pc s0 [.ref (A 0), .int (nI k), .int n0, .int f, .int t] (fun H => z_Old s0 H ∧ z_BD (dC, dI) cI cS H A np ns nc nn nm fv so sf st sn sc sp sx sy)) "java/lang/IllegalArgumentException" := by
  refine z_ofWX (by decide +kernel) (Nat.le_of_ble_eq_true rfl) ?_
  intro p e s m below meth c hx hb hml hadm hown hlocks hno hW0 hB ls hl
  have hts := z_hts (args := [.ref (A 0), .int (nI k), .int n0, .int f, .int t].toArray) G.1 hW0
  have hN := z_nstW G.2.1 hW0
  have hK := va_K.moved hW0.alike G.2.2.1
  have hAI := arrOfT_moved hW0.alike G.2.2.2.1
  have hl : lv_has ls 5 [(0, .ref (A 0)), (1, .int (nI k)), (2, .int n0), (3, .int f), (4, .int t)] := hl
  obtain ⟨hOld, hB1⟩ := id hB
  obtain ⟨⟨hO0, hO1, hO2, hB3, hFA, hSH⟩, hinj, ⟨hnp, hns, hnn, hnm, hnc⟩, hsb⟩ := id hB1
  have hAS := arrOfT_moved hW0.alike G.2.2.2.2.1
  refine lv_aload_n hx hb d_B_name_0 rfl (lv_at hl 0 rfl) ?_
  refine lv_iload_n hx hb d_B_name_1 rfl (lv_at hl 1 rfl) ?_
  refine z_rdVv (n := 1) (C := R_B) (rest := []) ⟨hx, hb, hml, hown, hts⟩ hW0 (c_B_requirePlace G A np ns nc nn nm fv so sf st sn sc sp sx sy k (by omega)) w_102 w_99 w_101 wp_0 w_1 (by decide +kernel) ⟨rfl, rfl, Nat.le_of_ble_eq_true rfl, Nat.le_of_ble_eq_true rfl⟩ (hO0.recv hK rfl) (hB1) rfl rfl hl.1 (Nat.le_of_ble_eq_true rfl) d_B_name_2 ⟨Nat.zero_le _, Nat.zero_le _⟩ ?_
  refine lv_iload_n hx hb d_B_name_5 rfl (lv_at hl 3 rfl) ?_
  refine lv_iload hx hb d_B_name_6 (lv_at hl 4 rfl) ?_
  exact z_thS (n := 2) (rest := []) ⟨hx, hb, hml, hown, hts⟩ hW0 hno hlocks (t_B_requireSpan1 G hT f t hd1) w_197 w_195 w_196 w_1 (by decide +kernel) ⟨rfl, rfl, Nat.le_of_ble_eq_true rfl, Nat.le_of_ble_eq_true rfl⟩ (hOld) rfl rfl hl.1 (Nat.le_of_ble_eq_true rfl) d_B_name_8 ⟨Nat.le_of_ble_eq_true rfl, Nat.le_of_ble_eq_true rfl⟩
set_option maxRecDepth 100000 in
set_option maxHeartbeats 4000000 in
theorem t_B_name_3 (G : z_G s0 (dC, dI) cI cS) (hT : z_T s0 l) (A : Nat → Nat) (np ns nc nn nm : Nat) (fv : Nat → Nat → Int32) (so sf st : Nat → Int32) (sn sc : Nat → Nat) (sp : Nat → Option Nat) (sx sy : Nat → Nat → Int32) (k : Nat) (hk : k < np) (n0 : Int32) (f t : Int32) (hd1 : z_day f) (hd2 : ¬ z_day t) : xt_Met l y_B_name [Cond.code y_B_name b_B_name 5 none] ({ frames := 8, cells := 1, slots := 6, locals := 123 }) (z_Pc s0 [.ref (A 0), .int (nI k), .int n0, .int f, .int t] (fun H => z_Old s0 H ∧ z_BD (dC, dI) cI cS H A np ns nc nn nm fv so sf st sn sc sp sx sy)) "java/lang/IllegalArgumentException" := by
  refine z_ofWX (by decide +kernel) (Nat.le_of_ble_eq_true rfl) ?_
  intro p e s m below meth c hx hb hml hadm hown hlocks hno hW0 hB ls hl
  have hts := z_hts (args := [.ref (A 0), .int (nI k), .int n0, .int f, .int t].toArray) G.1 hW0
  have hN := z_nstW G.2.1 hW0
  have hK := va_K.moved hW0.alike G.2.2.1
  have hAI := arrOfT_moved hW0.alike G.2.2.2.1
  have hl : lv_has ls 5 [(0, .ref (A 0)), (1, .int (nI k)), (2, .int n0), (3, .int f), (4, .int t)] := hl
  obtain ⟨hOld, hB1⟩ := id hB
  obtain ⟨⟨hO0, hO1, hO2, hB3, hFA, hSH⟩, hinj, ⟨hnp, hns, hnn, hnm, hnc⟩, hsb⟩ := id hB1
  have hAS := arrOfT_moved hW0.alike G.2.2.2.2.1
  refine lv_aload_n hx hb d_B_name_0 rfl (lv_at hl 0 rfl) ?_
  refine lv_iload_n hx hb d_B_name_1 rfl (lv_at hl 1 rfl) ?_
  refine z_rdVv (n := 1) (C := R_B) (rest := []) ⟨hx, hb, hml, hown, hts⟩ hW0 (c_B_requirePlace G A np ns nc nn nm fv so sf st sn sc sp sx sy k (by omega)) w_102 w_99 w_101 wp_0 w_1 (by decide +kernel) ⟨rfl, rfl, Nat.le_of_ble_eq_true rfl, Nat.le_of_ble_eq_true rfl⟩ (hO0.recv hK rfl) (hB1) rfl rfl hl.1 (Nat.le_of_ble_eq_true rfl) d_B_name_2 ⟨Nat.zero_le _, Nat.zero_le _⟩ ?_
  refine lv_iload_n hx hb d_B_name_5 rfl (lv_at hl 3 rfl) ?_
  refine lv_iload hx hb d_B_name_6 (lv_at hl 4 rfl) ?_
  exact z_thS (n := 2) (rest := []) ⟨hx, hb, hml, hown, hts⟩ hW0 hno hlocks (t_B_requireSpan2 G hT f t hd1 hd2) w_197 w_195 w_196 w_1 (by decide +kernel) ⟨rfl, rfl, Nat.le_of_ble_eq_true rfl, Nat.le_of_ble_eq_true rfl⟩ (hOld) rfl rfl hl.1 (Nat.le_of_ble_eq_true rfl) d_B_name_8 ⟨Nat.le_of_ble_eq_true rfl, Nat.le_of_ble_eq_true rfl⟩
set_option maxRecDepth 100000 in
set_option maxHeartbeats 4000000 in
theorem t_B_name_4 (G : z_G s0 (dC, dI) cI cS) (hT : z_T s0 l) (A : Nat → Nat) (np ns nc nn nm : Nat) (fv : Nat → Nat → Int32) (so sf st : Nat → Int32) (sn sc : Nat → Nat) (sp : Nat → Option Nat) (sx sy : Nat → Nat → Int32) (k : Nat) (hk : k < np) (n0 : Int32) (f t : Int32) (hd1 : z_day f) (hd2 : z_day t) (hlt : ¬ f ≤ t) : xt_Met l y_B_name [Cond.code y_B_name b_B_name 5 none] ({ frames := 7, cells := 1, slots := 6, locals := 103 }) (z_Pc s0 [.ref (A 0), .int (nI k), .int n0, .int f, .int t] (fun H => z_Old s0 H ∧ z_BD (dC, dI) cI cS H A np ns nc nn nm fv so sf st sn sc sp sx sy)) "java/lang/IllegalArgumentException" := by
  refine z_ofWX (by decide +kernel) (Nat.le_of_ble_eq_true rfl) ?_
  intro p e s m below meth c hx hb hml hadm hown hlocks hno hW0 hB ls hl
  have hts := z_hts (args := [.ref (A 0), .int (nI k), .int n0, .int f, .int t].toArray) G.1 hW0
  have hN := z_nstW G.2.1 hW0
  have hK := va_K.moved hW0.alike G.2.2.1
  have hAI := arrOfT_moved hW0.alike G.2.2.2.1
  have hl : lv_has ls 5 [(0, .ref (A 0)), (1, .int (nI k)), (2, .int n0), (3, .int f), (4, .int t)] := hl
  obtain ⟨hOld, hB1⟩ := id hB
  obtain ⟨⟨hO0, hO1, hO2, hB3, hFA, hSH⟩, hinj, ⟨hnp, hns, hnn, hnm, hnc⟩, hsb⟩ := id hB1
  have hAS := arrOfT_moved hW0.alike G.2.2.2.2.1
  refine lv_aload_n hx hb d_B_name_0 rfl (lv_at hl 0 rfl) ?_
  refine lv_iload_n hx hb d_B_name_1 rfl (lv_at hl 1 rfl) ?_
  refine z_rdVv (n := 1) (C := R_B) (rest := []) ⟨hx, hb, hml, hown, hts⟩ hW0 (c_B_requirePlace G A np ns nc nn nm fv so sf st sn sc sp sx sy k (by omega)) w_102 w_99 w_101 wp_0 w_1 (by decide +kernel) ⟨rfl, rfl, Nat.le_of_ble_eq_true rfl, Nat.le_of_ble_eq_true rfl⟩ (hO0.recv hK rfl) (hB1) rfl rfl hl.1 (Nat.le_of_ble_eq_true rfl) d_B_name_2 ⟨Nat.zero_le _, Nat.zero_le _⟩ ?_
  refine lv_iload_n hx hb d_B_name_5 rfl (lv_at hl 3 rfl) ?_
  refine lv_iload hx hb d_B_name_6 (lv_at hl 4 rfl) ?_
  exact z_thS (n := 2) (rest := []) ⟨hx, hb, hml, hown, hts⟩ hW0 hno hlocks (t_B_requireSpan3 G hT f t hd1 hd2 hlt) w_197 w_195 w_196 w_1 (by decide +kernel) ⟨rfl, rfl, Nat.le_of_ble_eq_true rfl, Nat.le_of_ble_eq_true rfl⟩ (hOld) rfl rfl hl.1 (Nat.le_of_ble_eq_true rfl) d_B_name_8 ⟨Nat.le_of_ble_eq_true rfl, Nat.le_of_ble_eq_true rfl⟩
set_option maxRecDepth 100000 in
set_option maxHeartbeats 4000000 in
theorem t_B_name_5 (G : z_G s0 (dC, dI) cI cS) (hT : z_T s0 l) (A : Nat → Nat) (np ns nc nn nm : Nat) (fv : Nat → Nat → Int32) (so sf st : Nat → Int32) (sn sc : Nat → Nat) (sp : Nat → Option Nat) (sx sy : Nat → Nat → Int32) (k : Nat) (hk : k < np) (n0 : Int32) (f t : Int32) (hd1 : z_day f) (hd2 : z_day t) (hle : f ≤ t) (hneg : ¬ 0 ≤ n0) : xt_Met l y_B_name [Cond.code y_B_name b_B_name 5 none] ({ frames := 6, cells := 1, slots := 6, locals := 82 }) (z_Pc s0 [.ref (A 0), .int (nI k), .int n0, .int f, .int t] (fun H => z_Old s0 H ∧ z_BD (dC, dI) cI cS H A np ns nc nn nm fv so sf st sn sc sp sx sy)) "java/lang/IllegalArgumentException" := by
  refine z_ofWX (by decide +kernel) (Nat.le_of_ble_eq_true rfl) ?_
  intro p e s m below meth c hx hb hml hadm hown hlocks hno hW0 hB ls hl
  have hts := z_hts (args := [.ref (A 0), .int (nI k), .int n0, .int f, .int t].toArray) G.1 hW0
  have hN := z_nstW G.2.1 hW0
  have hK := va_K.moved hW0.alike G.2.2.1
  have hAI := arrOfT_moved hW0.alike G.2.2.2.1
  have hl : lv_has ls 5 [(0, .ref (A 0)), (1, .int (nI k)), (2, .int n0), (3, .int f), (4, .int t)] := hl
  obtain ⟨hOld, hB1⟩ := id hB
  obtain ⟨⟨hO0, hO1, hO2, hB3, hFA, hSH⟩, hinj, ⟨hnp, hns, hnn, hnm, hnc⟩, hsb⟩ := id hB1
  have hAS := arrOfT_moved hW0.alike G.2.2.2.2.1
  refine lv_aload_n hx hb d_B_name_0 rfl (lv_at hl 0 rfl) ?_
  refine lv_iload_n hx hb d_B_name_1 rfl (lv_at hl 1 rfl) ?_
  refine z_rdVv (n := 1) (C := R_B) (rest := []) ⟨hx, hb, hml, hown, hts⟩ hW0 (c_B_requirePlace G A np ns nc nn nm fv so sf st sn sc sp sx sy k (by omega)) w_102 w_99 w_101 wp_0 w_1 (by decide +kernel) ⟨rfl, rfl, Nat.le_of_ble_eq_true rfl, Nat.le_of_ble_eq_true rfl⟩ (hO0.recv hK rfl) (hB1) rfl rfl hl.1 (Nat.le_of_ble_eq_true rfl) d_B_name_2 ⟨Nat.zero_le _, Nat.zero_le _⟩ ?_
  refine lv_iload_n hx hb d_B_name_5 rfl (lv_at hl 3 rfl) ?_
  refine lv_iload hx hb d_B_name_6 (lv_at hl 4 rfl) ?_
  refine z_rdSv (n := 2) (rest := []) ⟨hx, hb, hml, hown, hts⟩ hW0 (c_B_requireSpan G f t hd1 hd2 hle) w_197 w_195 w_196 w_1 (by decide +kernel) ⟨rfl, rfl, Nat.le_of_ble_eq_true rfl, Nat.le_of_ble_eq_true rfl⟩ (trivial) rfl rfl hl.1 (Nat.le_of_ble_eq_true rfl) d_B_name_8 ⟨Nat.zero_le _, Nat.zero_le _⟩ ?_
  refine lv_iload_n hx hb d_B_name_11 rfl (lv_at hl 2 rfl) ?_
  refine lv_if_ge (tgt := 25) hx hb d_B_name_12 (by decide) (fun c_1 => ?_) (fun c_1 => ?_)
  · skip
    have c_1' : ¬ (n0 < (0 : Int32)) := Int32.not_lt.mpr c_1
    exact absurd c_1 hneg
  · skip
    have c_1' : n0 < (0 : Int32) := Int32.not_le.mp c_1
    exact xt_new hx hb hT.1 hown hW0 hOld (by decide +kernel) hT.2.1.2.2.1 k_B_IAE k_7 (hT.2.2 (R_B, 129, "a name is below 0") (List.mem_of_getElem? (i := 9) rfl)) (hts _ w_202) (hts _ w_10) hno hlocks (hl.1.trans hml.symm) d_B_name_15 d_B_name_18 d_B_name_19 d_B_name_21 d_B_name_24 (Nat.le_of_ble_eq_true rfl) (Nat.le_of_ble_eq_true rfl) (Nat.le_of_ble_eq_true rfl) (Nat.le_of_ble_eq_true rfl)
set_option maxRecDepth 100000 in
set_option maxHeartbeats 4000000 in
theorem t_B_name_6 (G : z_G s0 (dC, dI) cI cS) (hT : z_T s0 l) (A : Nat → Nat) (np ns nc nn nm : Nat) (fv : Nat → Nat → Int32) (so sf st : Nat → Int32) (sn sc : Nat → Nat) (sp : Nat → Option Nat) (sx sy : Nat → Nat → Int32) (k : Nat) (hk : k < np) (n0 : Int32) (f t : Int32) (hd1 : z_day f) (hd2 : z_day t) (hle : f ≤ t) (hnn0 : 0 ≤ n0) (hfull : 40 ≤ nn) : xt_Met l y_B_name [Cond.code y_B_name b_B_name 5 none] ({ frames := 6, cells := 1, slots := 6, locals := 82 }) (z_Pc s0 [.ref (A 0), .int (nI k), .int n0, .int f, .int t] (fun H => z_Old s0 H ∧ z_BD (dC, dI) cI cS H A np ns nc nn nm fv so sf st sn sc sp sx sy)) "java/lang/IllegalStateException" := by
  refine z_ofWX (by decide +kernel) (Nat.le_of_ble_eq_true rfl) ?_
  intro p e s m below meth c hx hb hml hadm hown hlocks hno hW0 hB ls hl
  have hts := z_hts (args := [.ref (A 0), .int (nI k), .int n0, .int f, .int t].toArray) G.1 hW0
  have hN := z_nstW G.2.1 hW0
  have hK := va_K.moved hW0.alike G.2.2.1
  have hAI := arrOfT_moved hW0.alike G.2.2.2.1
  have hl : lv_has ls 5 [(0, .ref (A 0)), (1, .int (nI k)), (2, .int n0), (3, .int f), (4, .int t)] := hl
  obtain ⟨hOld, hB1⟩ := id hB
  obtain ⟨⟨hO0, hO1, hO2, hB3, hFA, hSH⟩, hinj, ⟨hnp, hns, hnn, hnm, hnc⟩, hsb⟩ := id hB1
  have hAS := arrOfT_moved hW0.alike G.2.2.2.2.1
  have hNm : z_Nm (dC, dI) cI s.heap (A 1) (A 5) (A 6) (A 7) (A 8) nn (fv 1) (fv 2) (fv 3) (fv 4) := ⟨hO1, hFA 1 (by omega), hFA 2 (by omega), hFA 3 (by omega), hFA 4 (by omega)⟩
  refine lv_aload_n hx hb d_B_name_0 rfl (lv_at hl 0 rfl) ?_
  refine lv_iload_n hx hb d_B_name_1 rfl (lv_at hl 1 rfl) ?_
  refine z_rdVv (n := 1) (C := R_B) (rest := []) ⟨hx, hb, hml, hown, hts⟩ hW0 (c_B_requirePlace G A np ns nc nn nm fv so sf st sn sc sp sx sy k (by omega)) w_102 w_99 w_101 wp_0 w_1 (by decide +kernel) ⟨rfl, rfl, Nat.le_of_ble_eq_true rfl, Nat.le_of_ble_eq_true rfl⟩ (hO0.recv hK rfl) (hB1) rfl rfl hl.1 (Nat.le_of_ble_eq_true rfl) d_B_name_2 ⟨Nat.zero_le _, Nat.zero_le _⟩ ?_
  refine lv_iload_n hx hb d_B_name_5 rfl (lv_at hl 3 rfl) ?_
  refine lv_iload hx hb d_B_name_6 (lv_at hl 4 rfl) ?_
  refine z_rdSv (n := 2) (rest := []) ⟨hx, hb, hml, hown, hts⟩ hW0 (c_B_requireSpan G f t hd1 hd2 hle) w_197 w_195 w_196 w_1 (by decide +kernel) ⟨rfl, rfl, Nat.le_of_ble_eq_true rfl, Nat.le_of_ble_eq_true rfl⟩ (trivial) rfl rfl hl.1 (Nat.le_of_ble_eq_true rfl) d_B_name_8 ⟨Nat.zero_le _, Nat.zero_le _⟩ ?_
  refine lv_iload_n hx hb d_B_name_11 rfl (lv_at hl 2 rfl) ?_
  refine lv_if_ge (tgt := 25) hx hb d_B_name_12 (by decide) (fun c_1 => ?_) (fun c_1 => ?_)
  · skip
    have c_1' : ¬ (n0 < (0 : Int32)) := Int32.not_lt.mpr c_1
    refine lv_aload_n hx hb d_B_name_25 rfl (lv_at hl 0 rfl) ?_
    refine va_get (D := (dC, dI)) (ci := 3) (v := .ref (A 1)) (C := R_B) (T := T_B) (N := 7) hx hb hts in_B hown hK hO0.P 0 rfl rfl 5 (by decide) (hts _ w_73) (fun _ h9 => h9) rfl d_B_name_26 ?_
    refine z_rdV (n := 0) (C := R_N) (rest := []) ⟨hx, hb, hml, hown, hts⟩ hW0 (c_N_isFull G (A 1) (A 5) (A 6) (A 7) (A 8) nn (fv 1) (fv 2) (fv 3) (fv 4) hnn) w_451 w_448 w_449 w_450 w_2 (by decide +kernel) ⟨rfl, rfl, Nat.le_of_ble_eq_true rfl, Nat.le_of_ble_eq_true rfl⟩ (hO1.recv hK rfl) (hNm) rfl rfl hl.1 (Nat.le_of_ble_eq_true rfl) d_B_name_29 ⟨Nat.zero_le _, Nat.zero_le _⟩ ?_
    refine lv_if_eq (tgt := 45) hx hb d_B_name_32 (by decide) (fun c_2 => ?_) (fun c_2 => ?_)
    · skip
      have c_2 : ¬ (40 ≤ nn) := of_decide_eq_false (pi_b_0.mp c_2)
      exact absurd hfull c_2
    · skip
      have c_2 : (40 ≤ nn) := of_decide_eq_true (pi_b_1.mp c_2)
      exact xt_new hx hb hT.1 hown hW0 hOld (by decide +kernel) hT.2.1.2.1 k_B_ISE k_7 (hT.2.2 (R_B, 133, "there are 40 names") (List.mem_of_getElem? (i := 10) rfl)) (hts _ w_171) (hts _ w_9) hno hlocks (hl.1.trans hml.symm) d_B_name_35 d_B_name_38 d_B_name_39 d_B_name_41 d_B_name_44 (Nat.le_of_ble_eq_true rfl) (Nat.le_of_ble_eq_true rfl) (Nat.le_of_ble_eq_true rfl) (Nat.le_of_ble_eq_true rfl)
  · skip
    have c_1' : n0 < (0 : Int32) := Int32.not_le.mp c_1
    exact absurd hnn0 c_1
set_option maxRecDepth 100000 in
set_option maxHeartbeats 4000000 in
theorem t_B_mark_1 (G : z_G s0 (dC, dI) cI cS) (hT : z_T s0 l) (A : Nat → Nat) (np ns nc nn nm : Nat) (fv : Nat → Nat → Int32) (so sf st : Nat → Int32) (sn sc : Nat → Nat) (sp : Nat → Option Nat) (sx sy : Nat → Nat → Int32) (x y u v : Int32) (hp : ¬ z_pt x y) : xt_Met l y_B_mark [Cond.code y_B_mark b_B_mark 5 (some .int)] ({ frames := 7, cells := 1, slots := 6, locals := 103 }) (z_Pc s0 [.ref (A 0), .int x, .int y, .int u, .int v] (fun H => z_Old s0 H ∧ z_BD (dC, dI) cI cS H A np ns nc nn nm fv so sf st sn sc sp sx sy)) "java/lang/IllegalArgumentException" := by
  refine z_ofWX (by decide +kernel) (Nat.le_of_ble_eq_true rfl) ?_
  intro p e s m below meth c hx hb hml hadm hown hlocks hno hW0 hB ls hl
  have hts := z_hts (args := [.ref (A 0), .int x, .int y, .int u, .int v].toArray) G.1 hW0
  have hN := z_nstW G.2.1 hW0
  have hK := va_K.moved hW0.alike G.2.2.1
  have hAI := arrOfT_moved hW0.alike G.2.2.2.1
  have hl : lv_has ls 5 [(0, .ref (A 0)), (1, .int x), (2, .int y), (3, .int u), (4, .int v)] := hl
  obtain ⟨hOld, hB1⟩ := id hB
  obtain ⟨⟨hO0, hO1, hO2, hB3, hFA, hSH⟩, hinj, ⟨hnp, hns, hnn, hnm, hnc⟩, hsb⟩ := id hB1
  have hAS := arrOfT_moved hW0.alike G.2.2.2.2.1
  refine lv_iload_n hx hb d_B_mark_0 rfl (lv_at hl 1 rfl) ?_
  refine lv_iload_n hx hb d_B_mark_1 rfl (lv_at hl 2 rfl) ?_
  exact z_thS (n := 2) (rest := []) ⟨hx, hb, hml, hown, hts⟩ hW0 hno hlocks (t_B_requirePoint G hT x y hp) w_271 w_269 w_270 w_1 (by decide +kernel) ⟨rfl, rfl, Nat.le_of_ble_eq_true rfl, Nat.le_of_ble_eq_true rfl⟩ (hOld) rfl rfl hl.1 (Nat.le_of_ble_eq_true rfl) d_B_mark_2 ⟨Nat.le_of_ble_eq_true rfl, Nat.le_of_ble_eq_true rfl⟩
set_option maxRecDepth 100000 in
set_option maxHeartbeats 4000000 in
theorem t_B_mark_2 (G : z_G s0 (dC, dI) cI cS) (hT : z_T s0 l) (A : Nat → Nat) (np ns nc nn nm : Nat) (fv : Nat → Nat → Int32) (so sf st : Nat → Int32) (sn sc : Nat → Nat) (sp : Nat → Option Nat) (sx sy : Nat → Nat → Int32) (x y u v : Int32) (hp : z_pt x y) (hp2 : ¬ z_pt u v) : xt_Met l y_B_mark [Cond.code y_B_mark b_B_mark 5 (some .int)] ({ frames := 7, cells := 1, slots := 6, locals := 103 }) (z_Pc s0 [.ref (A 0), .int x, .int y, .int u, .int v] (fun H => z_Old s0 H ∧ z_BD (dC, dI) cI cS H A np ns nc nn nm fv so sf st sn sc sp sx sy)) "java/lang/IllegalArgumentException" := by
  refine z_ofWX (by decide +kernel) (Nat.le_of_ble_eq_true rfl) ?_
  intro p e s m below meth c hx hb hml hadm hown hlocks hno hW0 hB ls hl
  have hts := z_hts (args := [.ref (A 0), .int x, .int y, .int u, .int v].toArray) G.1 hW0
  have hN := z_nstW G.2.1 hW0
  have hK := va_K.moved hW0.alike G.2.2.1
  have hAI := arrOfT_moved hW0.alike G.2.2.2.1
  have hl : lv_has ls 5 [(0, .ref (A 0)), (1, .int x), (2, .int y), (3, .int u), (4, .int v)] := hl
  obtain ⟨hOld, hB1⟩ := id hB
  obtain ⟨⟨hO0, hO1, hO2, hB3, hFA, hSH⟩, hinj, ⟨hnp, hns, hnn, hnm, hnc⟩, hsb⟩ := id hB1
  have hAS := arrOfT_moved hW0.alike G.2.2.2.2.1
  refine lv_iload_n hx hb d_B_mark_0 rfl (lv_at hl 1 rfl) ?_
  refine lv_iload_n hx hb d_B_mark_1 rfl (lv_at hl 2 rfl) ?_
  refine z_rdSv (n := 2) (rest := []) ⟨hx, hb, hml, hown, hts⟩ hW0 (c_B_requirePoint G x y hp) w_271 w_269 w_270 w_1 (by decide +kernel) ⟨rfl, rfl, Nat.le_of_ble_eq_true rfl, Nat.le_of_ble_eq_true rfl⟩ (trivial) rfl rfl hl.1 (Nat.le_of_ble_eq_true rfl) d_B_mark_2 ⟨Nat.zero_le _, Nat.zero_le _⟩ ?_
  refine lv_iload_n hx hb d_B_mark_5 rfl (lv_at hl 3 rfl) ?_
  refine lv_iload hx hb d_B_mark_6 (lv_at hl 4 rfl) ?_
  exact z_thS (n := 2) (rest := []) ⟨hx, hb, hml, hown, hts⟩ hW0 hno hlocks (t_B_requirePoint G hT u v hp2) w_271 w_269 w_270 w_1 (by decide +kernel) ⟨rfl, rfl, Nat.le_of_ble_eq_true rfl, Nat.le_of_ble_eq_true rfl⟩ (hOld) rfl rfl hl.1 (Nat.le_of_ble_eq_true rfl) d_B_mark_8 ⟨Nat.le_of_ble_eq_true rfl, Nat.le_of_ble_eq_true rfl⟩
set_option maxRecDepth 100000 in
set_option maxHeartbeats 4000000 in
theorem t_B_mark_3 (G : z_G s0 (dC, dI) cI cS) (hT : z_T s0 l) (A : Nat → Nat) (np ns nc nn nm : Nat) (fv : Nat → Nat → Int32) (so sf st : Nat → Int32) (sn sc : Nat → Nat) (sp : Nat → Option Nat) (sx sy : Nat → Nat → Int32) (x y u v : Int32) (hp : z_pt x y) (hp2 : z_pt u v) (hfull : 12 ≤ nm) : xt_Met l y_B_mark [Cond.code y_B_mark b_B_mark 5 (some .int)] ({ frames := 6, cells := 1, slots := 6, locals := 82 }) (z_Pc s0 [.ref (A 0), .int x, .int y, .int u, .int v] (fun H => z_Old s0 H ∧ z_BD (dC, dI) cI cS H A np ns nc nn nm fv so sf st sn sc sp sx sy)) "java/lang/IllegalStateException" := by
  refine z_ofWX (by decide +kernel) (Nat.le_of_ble_eq_true rfl) ?_
  intro p e s m below meth c hx hb hml hadm hown hlocks hno hW0 hB ls hl
  have hts := z_hts (args := [.ref (A 0), .int x, .int y, .int u, .int v].toArray) G.1 hW0
  have hN := z_nstW G.2.1 hW0
  have hK := va_K.moved hW0.alike G.2.2.1
  have hAI := arrOfT_moved hW0.alike G.2.2.2.1
  have hl : lv_has ls 5 [(0, .ref (A 0)), (1, .int x), (2, .int y), (3, .int u), (4, .int v)] := hl
  obtain ⟨hOld, hB1⟩ := id hB
  obtain ⟨⟨hO0, hO1, hO2, hB3, hFA, hSH⟩, hinj, ⟨hnp, hns, hnn, hnm, hnc⟩, hsb⟩ := id hB1
  have hAS := arrOfT_moved hW0.alike G.2.2.2.2.1
  have hOm : z_Om (dC, dI) cI s.heap (A 2) (A 9) (A 10) (A 11) (A 12) nm (fv 5) (fv 6) (fv 7) (fv 8) := ⟨hO2, hFA 5 (by omega), hFA 6 (by omega), hFA 7 (by omega), hFA 8 (by omega)⟩
  refine lv_iload_n hx hb d_B_mark_0 rfl (lv_at hl 1 rfl) ?_
  refine lv_iload_n hx hb d_B_mark_1 rfl (lv_at hl 2 rfl) ?_
  refine z_rdSv (n := 2) (rest := []) ⟨hx, hb, hml, hown, hts⟩ hW0 (c_B_requirePoint G x y hp) w_271 w_269 w_270 w_1 (by decide +kernel) ⟨rfl, rfl, Nat.le_of_ble_eq_true rfl, Nat.le_of_ble_eq_true rfl⟩ (trivial) rfl rfl hl.1 (Nat.le_of_ble_eq_true rfl) d_B_mark_2 ⟨Nat.zero_le _, Nat.zero_le _⟩ ?_
  refine lv_iload_n hx hb d_B_mark_5 rfl (lv_at hl 3 rfl) ?_
  refine lv_iload hx hb d_B_mark_6 (lv_at hl 4 rfl) ?_
  refine z_rdSv (n := 2) (rest := []) ⟨hx, hb, hml, hown, hts⟩ hW0 (c_B_requirePoint G u v hp2) w_271 w_269 w_270 w_1 (by decide +kernel) ⟨rfl, rfl, Nat.le_of_ble_eq_true rfl, Nat.le_of_ble_eq_true rfl⟩ (trivial) rfl rfl hl.1 (Nat.le_of_ble_eq_true rfl) d_B_mark_8 ⟨Nat.zero_le _, Nat.zero_le _⟩ ?_
  refine lv_aload_n hx hb d_B_mark_11 rfl (lv_at hl 0 rfl) ?_
  refine va_get (D := (dC, dI)) (ci := 3) (v := .ref (A 2)) (C := R_B) (T := T_B) (N := 7) hx hb hts in_B hown hK hO0.P 0 rfl rfl 6 (by decide) (hts _ w_74) (fun _ h9 => h9) rfl d_B_mark_12 ?_
  refine z_rdV (n := 0) (C := R_O) (rest := []) ⟨hx, hb, hml, hown, hts⟩ hW0 (c_O_isFull G (A 2) (A 9) (A 10) (A 11) (A 12) nm (fv 5) (fv 6) (fv 7) (fv 8) hnm) w_478 w_475 w_476 w_477 w_3 (by decide +kernel) ⟨rfl, rfl, Nat.le_of_ble_eq_true rfl, Nat.le_of_ble_eq_true rfl⟩ (hO2.recv hK rfl) (hOm) rfl rfl hl.1 (Nat.le_of_ble_eq_true rfl) d_B_mark_15 ⟨Nat.zero_le _, Nat.zero_le _⟩ ?_
  refine lv_if_eq (tgt := 31) hx hb d_B_mark_18 (by decide) (fun c_1 => ?_) (fun c_1 => ?_)
  · skip
    have c_1 : ¬ (12 ≤ nm) := of_decide_eq_false (pi_b_0.mp c_1)
    exact absurd hfull c_1
  · skip
    have c_1 : (12 ≤ nm) := of_decide_eq_true (pi_b_1.mp c_1)
    exact xt_new hx hb hT.1 hown hW0 hOld (by decide +kernel) hT.2.1.2.1 k_B_ISE k_7 (hT.2.2 (R_B, 142, "there are twelve marks") (List.mem_of_getElem? (i := 11) rfl)) (hts _ w_171) (hts _ w_9) hno hlocks (hl.1.trans hml.symm) d_B_mark_21 d_B_mark_24 d_B_mark_25 d_B_mark_27 d_B_mark_30 (Nat.le_of_ble_eq_true rfl) (Nat.le_of_ble_eq_true rfl) (Nat.le_of_ble_eq_true rfl) (Nat.le_of_ble_eq_true rfl)
set_option maxRecDepth 100000 in
set_option maxHeartbeats 4000000 in
theorem c_B_masked (G : z_G s0 (dC, dI) cI cS) (A : Nat → Nat) (np ns nc nn nm : Nat) (fv : Nat → Nat → Int32) (so sf st : Nat → Int32) (sn sc : Nat → Nat) (sp : Nat → Option Nat) (sx sy : Nat → Nat → Int32) (x y z : Int32) (a0 : Int32) (hax : a0 = 0 ∨ a0 = 1) (hp : z_pt x y) (hz1 : 1 ≤ z) (hz2 : z ≤ 10000) : Met l y_B_masked [Cond.code y_B_masked b_B_masked 5 (some .int)] ({ frames := 1, cells := 0, slots := 0, locals := 22 }) (z_Pc s0 [.ref (A 0), .int x, .int y, .int z, .int a0] (fun H => z_BD (dC, dI) cI cS H A np ns nc nn nm fv so sf st sn sc sp sx sy)) (z_Qr (some (.int (pl_fdi (if a0 = 0 then x else y) z * z)))) 0 0 z_no := by
  refine z_ofW (by decide +kernel) (Nat.le_of_ble_eq_true rfl) ?_
  intro p e s m below meth c hx hb hml hr hown hlocks hnm hW0 hB ls hl
  have hts := z_hts (args := [.ref (A 0), .int x, .int y, .int z, .int a0].toArray) G.1 hW0
  have hN := z_nstW G.2.1 hW0
  have hK := va_K.moved hW0.alike G.2.2.1
  have hAI := arrOfT_moved hW0.alike G.2.2.2.1
  have hl : lv_has ls 5 [(0, .ref (A 0)), (1, .int x), (2, .int y), (3, .int z), (4, .int a0)] := hl
  obtain ⟨⟨hO0, hO1, hO2, hB3, hFA, hSH⟩, hinj, ⟨hnp, hns, hnn, hnm, hnc⟩, hsb⟩ := id hB
  have hAS := arrOfT_moved hW0.alike G.2.2.2.2.1
  refine lv_iload hx hb d_B_masked_0 (lv_at hl 4 rfl) ?_
  refine z_rdSv (n := 1) (rest := []) ⟨hx, hb, hml, hown, hts⟩ hW0 (c_B_requireAxis G a0 hax) w_493 w_491 w_492 w_1 (by decide +kernel) ⟨rfl, rfl, Nat.le_of_ble_eq_true rfl, Nat.le_of_ble_eq_true rfl⟩ (trivial) rfl rfl hl.1 (Nat.le_of_ble_eq_true rfl) d_B_masked_2 ⟨Nat.zero_le _, Nat.zero_le _⟩ ?_
  refine lv_iload_n hx hb d_B_masked_5 rfl (lv_at hl 1 rfl) ?_
  refine lv_iload_n hx hb d_B_masked_6 rfl (lv_at hl 2 rfl) ?_
  refine z_rdSv (n := 2) (rest := []) ⟨hx, hb, hml, hown, hts⟩ hW0 (c_B_requirePoint G x y hp) w_271 w_269 w_270 w_1 (by decide +kernel) ⟨rfl, rfl, Nat.le_of_ble_eq_true rfl, Nat.le_of_ble_eq_true rfl⟩ (trivial) rfl rfl hl.1 (Nat.le_of_ble_eq_true rfl) d_B_masked_7 ⟨Nat.zero_le _, Nat.zero_le _⟩ ?_
  refine lv_iload_n hx hb d_B_masked_10 rfl (lv_at hl 3 rfl) ?_
  refine lv_iconst (v := 1) hx hb d_B_masked_11 (by decide) ?_
  refine lv_icmp_lt (tgt := 22) hx hb d_B_masked_12 (by decide) (fun c_1 => ?_) (fun c_1 => ?_)
  · skip
    have c_1' : ¬ ((1 : Int32) ≤ z) := Int32.not_le.mpr c_1
    exfalso
    exact absurd hz1 c_1'
  · skip
    have c_1' : (1 : Int32) ≤ z := Int32.not_lt.mp c_1
    refine lv_iload_n hx hb d_B_masked_15 rfl (lv_at hl 3 rfl) ?_
    refine lv_sipush (v := 10000) hx hb d_B_masked_16 (by decide) ?_
    refine lv_icmp_le (tgt := 32) hx hb d_B_masked_19 (by decide) (fun c_2 => ?_) (fun c_2 => ?_)
    · skip
      have c_2' : ¬ ((10000 : Int32) < z) := Int32.not_lt.mpr c_2
      refine lv_iload hx hb d_B_masked_32 (lv_at hl 4 rfl) ?_
      refine lv_if_ne (tgt := 41) hx hb d_B_masked_34 (by decide) (fun c_3 => ?_) (fun c_3 => ?_)
      · skip
        refine lv_iload_n hx hb d_B_masked_41 rfl (lv_at hl 2 rfl) ?_
        refine lv_iload_n hx hb d_B_masked_42 rfl (lv_at hl 3 rfl) ?_
        refine z_rdS (n := 2) (rest := []) ⟨hx, hb, hml, hown, hts⟩ hW0 (c_J_floorDiv_II G y z (fun h => absurd hz1 (by rw [h]; decide))) w_533 w_531 w_532 w_12 (by decide +kernel) ⟨rfl, rfl, Nat.le_of_ble_eq_true rfl, Nat.le_of_ble_eq_true rfl⟩ (trivial) rfl rfl hl.1 (Nat.le_of_ble_eq_true rfl) d_B_masked_43 ⟨Nat.zero_le _, Nat.zero_le _⟩ ?_
        refine lv_iload_n hx hb d_B_masked_46 rfl (lv_at hl 3 rfl) ?_
        refine lv_imul hx hb d_B_masked_47 ?_
        exact z_iret hx hb hr hlocks (by simp [c_3]) d_B_masked_48
      · skip
        refine lv_iload_n hx hb d_B_masked_37 rfl (lv_at hl 1 rfl) ?_
        refine lv_goto (tgt := 42) hx hb d_B_masked_38 (by decide) ?_
        refine lv_iload_n hx hb d_B_masked_42 rfl (lv_at hl 3 rfl) ?_
        refine z_rdS (n := 2) (rest := []) ⟨hx, hb, hml, hown, hts⟩ hW0 (c_J_floorDiv_II G x z (fun h => absurd hz1 (by rw [h]; decide))) w_533 w_531 w_532 w_12 (by decide +kernel) ⟨rfl, rfl, Nat.le_of_ble_eq_true rfl, Nat.le_of_ble_eq_true rfl⟩ (trivial) rfl rfl hl.1 (Nat.le_of_ble_eq_true rfl) d_B_masked_43 ⟨Nat.zero_le _, Nat.zero_le _⟩ ?_
        refine lv_iload_n hx hb d_B_masked_46 rfl (lv_at hl 3 rfl) ?_
        refine lv_imul hx hb d_B_masked_47 ?_
        exact z_iret hx hb hr hlocks (by simp [c_3]) d_B_masked_48
    · skip
      have c_2' : (10000 : Int32) < z := Int32.not_le.mp c_2
      exfalso
      exact absurd hz2 c_2
end S7
