section S4
variable {s0 : State} {dC : Nat → ClassId} {dI : Nat → Nat → Nat} {cI cS : ClassId} {l : Launch}
set_option maxRecDepth 100000 in
set_option maxHeartbeats 4000000 in
theorem c_B_requirePlace (G : z_G s0 (dC, dI) cI cS) (A : Nat → Nat) (np ns nc nn nm : Nat) (fv : Nat → Nat → Int32) (so sf st : Nat → Int32) (sn sc : Nat → Nat) (sp : Nat → Option Nat) (sx sy : Nat → Nat → Int32) (k : Nat) (hk : k < np) : Met l y_B_requirePlace [Cond.code y_B_requirePlace b_B_requirePlace 2 none] ({ frames := 0, cells := 0, slots := 0, locals := 0 }) (z_Pc s0 [.ref (A 0), .int (nI k)] (fun H => z_BD (dC, dI) cI cS H A np ns nc nn nm fv so sf st sn sc sp sx sy)) (z_Qr (none)) 0 0 z_no := by
  refine z_ofW (by decide +kernel) (Nat.le_of_ble_eq_true rfl) ?_
  intro p e s m below meth c hx hb hml hr hown hlocks hnm hW0 hB ls hl
  have hts := z_hts (args := [.ref (A 0), .int (nI k)].toArray) G.1 hW0
  have hN := z_nstW G.2.1 hW0
  have hK := va_K.moved hW0.alike G.2.2.1
  have hAI := arrOfT_moved hW0.alike G.2.2.2.1
  have hl : lv_has ls 2 [(0, .ref (A 0)), (1, .int (nI k))] := hl
  obtain ⟨⟨hO0, hO1, hO2, hB3, hFA, hSH⟩, hinj, ⟨hnp, hns, hnn, hnm, hnc⟩, hsb⟩ := id hB
  have hAS := arrOfT_moved hW0.alike G.2.2.2.2.1
  refine lv_iload_n hx hb d_B_requirePlace_0 rfl (lv_at hl 1 rfl) ?_
  refine lv_if_lt (tgt := 12) hx hb d_B_requirePlace_1 (by decide) (fun c_1 => ?_) (fun c_1 => ?_)
  · skip
    have c_1 : k < 0 := (nI_ltI (a := k) (b := 0) (by omega) (by omega)).mp c_1
    exfalso
    omega
  · skip
    have c_1 : ¬ (k < 0) := fun h => c_1 ((nI_ltI (a := k) (b := 0) (by omega) (by omega)).mpr h)
    refine lv_iload_n hx hb d_B_requirePlace_4 rfl (lv_at hl 1 rfl) ?_
    refine lv_aload_n hx hb d_B_requirePlace_5 rfl (lv_at hl 0 rfl) ?_
    refine va_get (D := (dC, dI)) (ci := 3) (v := .int (nI np)) (C := R_B) (T := T_B) (N := 7) hx hb hts in_B hown hK hO0.P 0 rfl rfl 1 (by decide) (hts _ w_69) (fun _ h9 => h9) rfl d_B_requirePlace_6 ?_
    refine lv_icmp_lt (tgt := 22) hx hb d_B_requirePlace_9 (by decide) (fun c_2 => ?_) (fun c_2 => ?_)
    · skip
      have c_2 : k < np := (nI_ltI (a := k) (b := np) (by omega) (by omega)).mp c_2
      exact z_vret hx hb hr hlocks d_B_requirePlace_22
    · skip
      have c_2 : ¬ (k < np) := fun h => c_2 ((nI_ltI (a := k) (b := np) (by omega) (by omega)).mpr h)
      exfalso
      omega
set_option maxRecDepth 100000 in
set_option maxHeartbeats 4000000 in
theorem t_B_requirePlace (G : z_G s0 (dC, dI) cI cS) (hT : z_T s0 l) (A : Nat → Nat) (np ns nc nn nm : Nat) (fv : Nat → Nat → Int32) (so sf st : Nat → Int32) (sn sc : Nat → Nat) (sp : Nat → Option Nat) (sx sy : Nat → Nat → Int32) (x : Int32) (hx0 : x < 0 ∨ nI np ≤ x) : xt_Met l y_B_requirePlace [Cond.code y_B_requirePlace b_B_requirePlace 2 none] ({ frames := 6, cells := 1, slots := 6, locals := 82 }) (z_Pc s0 [.ref (A 0), .int x] (fun H => z_Old s0 H ∧ z_BD (dC, dI) cI cS H A np ns nc nn nm fv so sf st sn sc sp sx sy)) "java/util/NoSuchElementException" := by
  refine z_ofWX (by decide +kernel) (Nat.le_of_ble_eq_true rfl) ?_
  intro p e s m below meth c hx hb hml hadm hown hlocks hno hW0 hB ls hl
  have hts := z_hts (args := [.ref (A 0), .int x].toArray) G.1 hW0
  have hN := z_nstW G.2.1 hW0
  have hK := va_K.moved hW0.alike G.2.2.1
  have hAI := arrOfT_moved hW0.alike G.2.2.2.1
  have hl : lv_has ls 2 [(0, .ref (A 0)), (1, .int x)] := hl
  obtain ⟨hOld, hB1⟩ := id hB
  obtain ⟨⟨hO0, hO1, hO2, hB3, hFA, hSH⟩, hinj, ⟨hnp, hns, hnn, hnm, hnc⟩, hsb⟩ := id hB1
  have hAS := arrOfT_moved hW0.alike G.2.2.2.2.1
  refine lv_iload_n hx hb d_B_requirePlace_0 rfl (lv_at hl 1 rfl) ?_
  refine lv_if_lt (tgt := 12) hx hb d_B_requirePlace_1 (by decide) (fun c_1 => ?_) (fun c_1 => ?_)
  · skip
    have c_1' : ¬ ((0 : Int32) ≤ x) := Int32.not_le.mpr c_1
    exact xt_new hx hb hT.1 hown hW0 hOld (by decide +kernel) hT.2.1.1 k_B_NSE k_13 (hT.2.2 (R_B, 172, "there is no such place") (List.mem_of_getElem? (i := 0) rfl)) (hts _ w_103) (hts _ w_8) hno hlocks (hl.1.trans hml.symm) d_B_requirePlace_12 d_B_requirePlace_15 d_B_requirePlace_16 d_B_requirePlace_18 d_B_requirePlace_21 (Nat.le_of_ble_eq_true rfl) (Nat.le_of_ble_eq_true rfl) (Nat.le_of_ble_eq_true rfl) (Nat.le_of_ble_eq_true rfl)
  · skip
    have c_1' : (0 : Int32) ≤ x := Int32.not_lt.mp c_1
    refine lv_iload_n hx hb d_B_requirePlace_4 rfl (lv_at hl 1 rfl) ?_
    refine lv_aload_n hx hb d_B_requirePlace_5 rfl (lv_at hl 0 rfl) ?_
    refine va_get (D := (dC, dI)) (ci := 3) (v := .int (nI np)) (C := R_B) (T := T_B) (N := 7) hx hb hts in_B hown hK hO0.P 0 rfl rfl 1 (by decide) (hts _ w_69) (fun _ h9 => h9) rfl d_B_requirePlace_6 ?_
    refine lv_icmp_lt (tgt := 22) hx hb d_B_requirePlace_9 (by decide) (fun c_2 => ?_) (fun c_2 => ?_)
    · skip
      have c_2' : ¬ ((nI np) ≤ x) := Int32.not_le.mpr c_2
      exact absurd hx0 (fun h => h.elim c_1 c_2')
    · skip
      have c_2' : (nI np) ≤ x := Int32.not_lt.mp c_2
      exact xt_new hx hb hT.1 hown hW0 hOld (by decide +kernel) hT.2.1.1 k_B_NSE k_13 (hT.2.2 (R_B, 172, "there is no such place") (List.mem_of_getElem? (i := 0) rfl)) (hts _ w_103) (hts _ w_8) hno hlocks (hl.1.trans hml.symm) d_B_requirePlace_12 d_B_requirePlace_15 d_B_requirePlace_16 d_B_requirePlace_18 d_B_requirePlace_21 (Nat.le_of_ble_eq_true rfl) (Nat.le_of_ble_eq_true rfl) (Nat.le_of_ble_eq_true rfl) (Nat.le_of_ble_eq_true rfl)
set_option maxRecDepth 100000 in
set_option maxHeartbeats 4000000 in
theorem c_B_requireRank (G : z_G s0 (dC, dI) cI cS) (x : Int32) (hx0 : 0 ≤ x) : Met l y_B_requireRank [Cond.code y_B_requireRank b_B_requireRank 1 none] ({ frames := 0, cells := 0, slots := 0, locals := 0 }) (z_Pc s0 [.int x] (fun H => True)) (z_Qr (none)) 0 0 z_no := by
  refine z_ofW (by decide +kernel) (Nat.le_of_ble_eq_true rfl) ?_
  intro p e s m below meth c hx hb hml hr hown hlocks hnm hW0 hB ls hl
  have hts := z_hts (args := [.int x].toArray) G.1 hW0
  have hN := z_nstW G.2.1 hW0
  have hK := va_K.moved hW0.alike G.2.2.1
  have hAI := arrOfT_moved hW0.alike G.2.2.2.1
  have hl : lv_has ls 1 [(0, .int x)] := hl
  refine lv_iload_n hx hb d_B_requireRank_0 rfl (lv_at hl 0 rfl) ?_
  refine lv_if_ge (tgt := 14) hx hb d_B_requireRank_1 (by decide) (fun c_1 => ?_) (fun c_1 => ?_)
  · skip
    have c_1' : ¬ (x < (0 : Int32)) := Int32.not_lt.mpr c_1
    exact z_vret hx hb hr hlocks d_B_requireRank_14
  · skip
    have c_1' : x < (0 : Int32) := Int32.not_le.mp c_1
    exfalso
    exact absurd hx0 c_1
set_option maxRecDepth 100000 in
set_option maxHeartbeats 4000000 in
theorem t_B_requireRank (G : z_G s0 (dC, dI) cI cS) (hT : z_T s0 l) (x : Int32) (hx0 : x < 0) : xt_Met l y_B_requireRank [Cond.code y_B_requireRank b_B_requireRank 1 none] ({ frames := 6, cells := 1, slots := 6, locals := 82 }) (z_Pc s0 [.int x] (fun H => z_Old s0 H)) "java/util/NoSuchElementException" := by
  refine z_ofWX (by decide +kernel) (Nat.le_of_ble_eq_true rfl) ?_
  intro p e s m below meth c hx hb hml hadm hown hlocks hno hW0 hB ls hl
  have hts := z_hts (args := [.int x].toArray) G.1 hW0
  have hN := z_nstW G.2.1 hW0
  have hK := va_K.moved hW0.alike G.2.2.1
  have hAI := arrOfT_moved hW0.alike G.2.2.2.1
  have hl : lv_has ls 1 [(0, .int x)] := hl
  refine lv_iload_n hx hb d_B_requireRank_0 rfl (lv_at hl 0 rfl) ?_
  refine lv_if_ge (tgt := 14) hx hb d_B_requireRank_1 (by decide) (fun c_1 => ?_) (fun c_1 => ?_)
  · skip
    have c_1' : ¬ (x < (0 : Int32)) := Int32.not_lt.mpr c_1
    exact absurd hx0 c_1'
  · skip
    have c_1' : x < (0 : Int32) := Int32.not_le.mp c_1
    exact xt_new hx hb hT.1 hown hW0 hB (by decide +kernel) hT.2.1.1 k_B_NSE k_13 (hT.2.2 (R_B, 174, "k is below 0") (List.mem_of_getElem? (i := 8) rfl)) (hts _ w_103) (hts _ w_8) hno hlocks (hl.1.trans hml.symm) d_B_requireRank_4 d_B_requireRank_7 d_B_requireRank_8 d_B_requireRank_10 d_B_requireRank_13 (Nat.le_of_ble_eq_true rfl) (Nat.le_of_ble_eq_true rfl) (Nat.le_of_ble_eq_true rfl) (Nat.le_of_ble_eq_true rfl)
set_option maxRecDepth 100000 in
set_option maxHeartbeats 4000000 in
theorem c_B_requireAxis (G : z_G s0 (dC, dI) cI cS) (x : Int32) (hx0 : x = 0 ∨ x = 1) : Met l y_B_requireAxis [Cond.code y_B_requireAxis b_B_requireAxis 1 none] ({ frames := 0, cells := 0, slots := 0, locals := 0 }) (z_Pc s0 [.int x] (fun H => True)) (z_Qr (none)) 0 0 z_no := by
  refine z_ofW (by decide +kernel) (Nat.le_of_ble_eq_true rfl) ?_
  intro p e s m below meth c hx hb hml hr hown hlocks hnm hW0 hB ls hl
  have hts := z_hts (args := [.int x].toArray) G.1 hW0
  have hN := z_nstW G.2.1 hW0
  have hK := va_K.moved hW0.alike G.2.2.1
  have hAI := arrOfT_moved hW0.alike G.2.2.2.1
  have hl : lv_has ls 1 [(0, .int x)] := hl
  refine lv_iload_n hx hb d_B_requireAxis_0 rfl (lv_at hl 0 rfl) ?_
  refine lv_if_eq (tgt := 19) hx hb d_B_requireAxis_1 (by decide) (fun c_1 => ?_) (fun c_1 => ?_)
  · skip
    exact z_vret hx hb hr hlocks d_B_requireAxis_19
  · skip
    refine lv_iload_n hx hb d_B_requireAxis_4 rfl (lv_at hl 0 rfl) ?_
    refine lv_iconst (v := 1) hx hb d_B_requireAxis_5 (by decide) ?_
    refine lv_icmp_eq (tgt := 19) hx hb d_B_requireAxis_6 (by decide) (fun c_2 => ?_) (fun c_2 => ?_)
    · skip
      exact z_vret hx hb hr hlocks d_B_requireAxis_19
    · skip
      exfalso
      exact hx0.elim c_1 c_2
set_option maxRecDepth 100000 in
set_option maxHeartbeats 4000000 in
theorem t_B_requireAxis (G : z_G s0 (dC, dI) cI cS) (hT : z_T s0 l) (x : Int32) (hx0 : ¬ (x = 0 ∨ x = 1)) : xt_Met l y_B_requireAxis [Cond.code y_B_requireAxis b_B_requireAxis 1 none] ({ frames := 6, cells := 1, slots := 6, locals := 82 }) (z_Pc s0 [.int x] (fun H => z_Old s0 H)) "java/util/NoSuchElementException" := by
  refine z_ofWX (by decide +kernel) (Nat.le_of_ble_eq_true rfl) ?_
  intro p e s m below meth c hx hb hml hadm hown hlocks hno hW0 hB ls hl
  have hts := z_hts (args := [.int x].toArray) G.1 hW0
  have hN := z_nstW G.2.1 hW0
  have hK := va_K.moved hW0.alike G.2.2.1
  have hAI := arrOfT_moved hW0.alike G.2.2.2.1
  have hl : lv_has ls 1 [(0, .int x)] := hl
  refine lv_iload_n hx hb d_B_requireAxis_0 rfl (lv_at hl 0 rfl) ?_
  refine lv_if_eq (tgt := 19) hx hb d_B_requireAxis_1 (by decide) (fun c_1 => ?_) (fun c_1 => ?_)
  · skip
    exact absurd (Or.inl c_1) hx0
  · skip
    refine lv_iload_n hx hb d_B_requireAxis_4 rfl (lv_at hl 0 rfl) ?_
    refine lv_iconst (v := 1) hx hb d_B_requireAxis_5 (by decide) ?_
    refine lv_icmp_eq (tgt := 19) hx hb d_B_requireAxis_6 (by decide) (fun c_2 => ?_) (fun c_2 => ?_)
    · skip
      exact absurd (Or.inr c_2) hx0
    · skip
      exact xt_new hx hb hT.1 hown hW0 hB (by decide +kernel) hT.2.1.1 k_B_NSE k_13 (hT.2.2 (R_B, 176, "there is no such axis") (List.mem_of_getElem? (i := 12) rfl)) (hts _ w_103) (hts _ w_8) hno hlocks (hl.1.trans hml.symm) d_B_requireAxis_9 d_B_requireAxis_12 d_B_requireAxis_13 d_B_requireAxis_15 d_B_requireAxis_18 (Nat.le_of_ble_eq_true rfl) (Nat.le_of_ble_eq_true rfl) (Nat.le_of_ble_eq_true rfl) (Nat.le_of_ble_eq_true rfl)
set_option maxRecDepth 100000 in
set_option maxHeartbeats 4000000 in
theorem c_B_requireDay (G : z_G s0 (dC, dI) cI cS) (x : Int32) (hd : z_day x) : Met l y_B_requireDay [Cond.code y_B_requireDay b_B_requireDay 1 none] ({ frames := 0, cells := 0, slots := 0, locals := 0 }) (z_Pc s0 [.int x] (fun H => True)) (z_Qr (none)) 0 0 z_no := by
  refine z_ofW (by decide +kernel) (Nat.le_of_ble_eq_true rfl) ?_
  intro p e s m below meth c hx hb hml hr hown hlocks hnm hW0 hB ls hl
  have hts := z_hts (args := [.int x].toArray) G.1 hW0
  have hN := z_nstW G.2.1 hW0
  have hK := va_K.moved hW0.alike G.2.2.1
  have hAI := arrOfT_moved hW0.alike G.2.2.2.1
  have hl : lv_has ls 1 [(0, .int x)] := hl
  refine lv_iload_n hx hb d_B_requireDay_0 rfl (lv_at hl 0 rfl) ?_
  refine lv_if_lt (tgt := 10) hx hb d_B_requireDay_1 (by decide) (fun c_1 => ?_) (fun c_1 => ?_)
  · skip
    have c_1' : ¬ ((0 : Int32) ≤ x) := Int32.not_le.mpr c_1
    exfalso
    exact absurd hd.1 c_1'
  · skip
    have c_1' : (0 : Int32) ≤ x := Int32.not_lt.mp c_1
    refine lv_iload_n hx hb d_B_requireDay_4 rfl (lv_at hl 0 rfl) ?_
    refine lv_ldc hx hb hown (hts _ w_201) d_B_requireDay_5 ?_
    refine lv_icmp_le (tgt := 20) hx hb d_B_requireDay_7 (by decide) (fun c_2 => ?_) (fun c_2 => ?_)
    · skip
      have c_2' : ¬ ((100000 : Int32) < x) := Int32.not_lt.mpr c_2
      exact z_vret hx hb hr hlocks d_B_requireDay_20
    · skip
      have c_2' : (100000 : Int32) < x := Int32.not_le.mp c_2
      exfalso
      exact absurd hd.2 c_2
set_option maxRecDepth 100000 in
set_option maxHeartbeats 4000000 in
theorem t_B_requireDay (G : z_G s0 (dC, dI) cI cS) (hT : z_T s0 l) (x : Int32) (hd : ¬ z_day x) : xt_Met l y_B_requireDay [Cond.code y_B_requireDay b_B_requireDay 1 none] ({ frames := 6, cells := 1, slots := 6, locals := 82 }) (z_Pc s0 [.int x] (fun H => z_Old s0 H)) "java/lang/IllegalArgumentException" := by
  refine z_ofWX (by decide +kernel) (Nat.le_of_ble_eq_true rfl) ?_
  intro p e s m below meth c hx hb hml hadm hown hlocks hno hW0 hB ls hl
  have hts := z_hts (args := [.int x].toArray) G.1 hW0
  have hN := z_nstW G.2.1 hW0
  have hK := va_K.moved hW0.alike G.2.2.1
  have hAI := arrOfT_moved hW0.alike G.2.2.2.1
  have hl : lv_has ls 1 [(0, .int x)] := hl
  refine lv_iload_n hx hb d_B_requireDay_0 rfl (lv_at hl 0 rfl) ?_
  refine lv_if_lt (tgt := 10) hx hb d_B_requireDay_1 (by decide) (fun c_1 => ?_) (fun c_1 => ?_)
  · skip
    have c_1' : ¬ ((0 : Int32) ≤ x) := Int32.not_le.mpr c_1
    exact xt_new hx hb hT.1 hown hW0 hB (by decide +kernel) hT.2.1.2.2.1 k_B_IAE k_7 (hT.2.2 (R_B, 179, "a day is not 0 to 100000") (List.mem_of_getElem? (i := 2) rfl)) (hts _ w_202) (hts _ w_10) hno hlocks (hl.1.trans hml.symm) d_B_requireDay_10 d_B_requireDay_13 d_B_requireDay_14 d_B_requireDay_16 d_B_requireDay_19 (Nat.le_of_ble_eq_true rfl) (Nat.le_of_ble_eq_true rfl) (Nat.le_of_ble_eq_true rfl) (Nat.le_of_ble_eq_true rfl)
  · skip
    have c_1' : (0 : Int32) ≤ x := Int32.not_lt.mp c_1
    refine lv_iload_n hx hb d_B_requireDay_4 rfl (lv_at hl 0 rfl) ?_
    refine lv_ldc hx hb hown (hts _ w_201) d_B_requireDay_5 ?_
    refine lv_icmp_le (tgt := 20) hx hb d_B_requireDay_7 (by decide) (fun c_2 => ?_) (fun c_2 => ?_)
    · skip
      have c_2' : ¬ ((100000 : Int32) < x) := Int32.not_lt.mpr c_2
      exact absurd ⟨c_1', c_2⟩ hd
    · skip
      have c_2' : (100000 : Int32) < x := Int32.not_le.mp c_2
      exact xt_new hx hb hT.1 hown hW0 hB (by decide +kernel) hT.2.1.2.2.1 k_B_IAE k_7 (hT.2.2 (R_B, 179, "a day is not 0 to 100000") (List.mem_of_getElem? (i := 2) rfl)) (hts _ w_202) (hts _ w_10) hno hlocks (hl.1.trans hml.symm) d_B_requireDay_10 d_B_requireDay_13 d_B_requireDay_14 d_B_requireDay_16 d_B_requireDay_19 (Nat.le_of_ble_eq_true rfl) (Nat.le_of_ble_eq_true rfl) (Nat.le_of_ble_eq_true rfl) (Nat.le_of_ble_eq_true rfl)
set_option maxRecDepth 100000 in
set_option maxHeartbeats 4000000 in
theorem c_B_requireSpan (G : z_G s0 (dC, dI) cI cS) (x y : Int32) (hd1 : z_day x) (hd2 : z_day y) (hle : x ≤ y) : Met l y_B_requireSpan [Cond.code y_B_requireSpan b_B_requireSpan 2 none] ({ frames := 1, cells := 0, slots := 0, locals := 20 }) (z_Pc s0 [.int x, .int y] (fun H => True)) (z_Qr (none)) 0 0 z_no := by
  refine z_ofW (by decide +kernel) (Nat.le_of_ble_eq_true rfl) ?_
  intro p e s m below meth c hx hb hml hr hown hlocks hnm hW0 hB ls hl
  have hts := z_hts (args := [.int x, .int y].toArray) G.1 hW0
  have hN := z_nstW G.2.1 hW0
  have hK := va_K.moved hW0.alike G.2.2.1
  have hAI := arrOfT_moved hW0.alike G.2.2.2.1
  have hl : lv_has ls 2 [(0, .int x), (1, .int y)] := hl
  refine lv_iload_n hx hb d_B_requireSpan_0 rfl (lv_at hl 0 rfl) ?_
  refine z_rdSv (n := 1) (rest := []) ⟨hx, hb, hml, hown, hts⟩ hW0 (c_B_requireDay G x hd1) w_200 w_198 w_199 w_1 (by decide +kernel) ⟨rfl, rfl, Nat.le_of_ble_eq_true rfl, Nat.le_of_ble_eq_true rfl⟩ (trivial) rfl rfl hl.1 (Nat.le_of_ble_eq_true rfl) d_B_requireSpan_1 ⟨Nat.zero_le _, Nat.zero_le _⟩ ?_
  refine lv_iload_n hx hb d_B_requireSpan_4 rfl (lv_at hl 1 rfl) ?_
  refine z_rdSv (n := 1) (rest := []) ⟨hx, hb, hml, hown, hts⟩ hW0 (c_B_requireDay G y hd2) w_200 w_198 w_199 w_1 (by decide +kernel) ⟨rfl, rfl, Nat.le_of_ble_eq_true rfl, Nat.le_of_ble_eq_true rfl⟩ (trivial) rfl rfl hl.1 (Nat.le_of_ble_eq_true rfl) d_B_requireSpan_5 ⟨Nat.zero_le _, Nat.zero_le _⟩ ?_
  refine lv_iload_n hx hb d_B_requireSpan_8 rfl (lv_at hl 0 rfl) ?_
  refine lv_iload_n hx hb d_B_requireSpan_9 rfl (lv_at hl 1 rfl) ?_
  refine lv_icmp_le (tgt := 23) hx hb d_B_requireSpan_10 (by decide) (fun c_1 => ?_) (fun c_1 => ?_)
  · skip
    have c_1' : ¬ (y < x) := Int32.not_lt.mpr c_1
    exact z_vret hx hb hr hlocks d_B_requireSpan_23
  · skip
    have c_1' : y < x := Int32.not_le.mp c_1
    exfalso
    exact absurd hle c_1
set_option maxRecDepth 100000 in
set_option maxHeartbeats 4000000 in
theorem t_B_requireSpan1 (G : z_G s0 (dC, dI) cI cS) (hT : z_T s0 l) (x y : Int32) (hd1 : ¬ z_day x) : xt_Met l y_B_requireSpan [Cond.code y_B_requireSpan b_B_requireSpan 2 none] ({ frames := 7, cells := 1, slots := 6, locals := 102 }) (z_Pc s0 [.int x, .int y] (fun H => z_Old s0 H)) "java/lang/IllegalArgumentException" := by
  refine z_ofWX (by decide +kernel) (Nat.le_of_ble_eq_true rfl) ?_
  intro p e s m below meth c hx hb hml hadm hown hlocks hno hW0 hB ls hl
  have hts := z_hts (args := [.int x, .int y].toArray) G.1 hW0
  have hN := z_nstW G.2.1 hW0
  have hK := va_K.moved hW0.alike G.2.2.1
  have hAI := arrOfT_moved hW0.alike G.2.2.2.1
  have hl : lv_has ls 2 [(0, .int x), (1, .int y)] := hl
  refine lv_iload_n hx hb d_B_requireSpan_0 rfl (lv_at hl 0 rfl) ?_
  exact z_thS (n := 1) (rest := []) ⟨hx, hb, hml, hown, hts⟩ hW0 hno hlocks (t_B_requireDay G hT x hd1) w_200 w_198 w_199 w_1 (by decide +kernel) ⟨rfl, rfl, Nat.le_of_ble_eq_true rfl, Nat.le_of_ble_eq_true rfl⟩ (hB) rfl rfl hl.1 (Nat.le_of_ble_eq_true rfl) d_B_requireSpan_1 ⟨Nat.le_of_ble_eq_true rfl, Nat.le_of_ble_eq_true rfl⟩
set_option maxRecDepth 100000 in
set_option maxHeartbeats 4000000 in
theorem t_B_requireSpan2 (G : z_G s0 (dC, dI) cI cS) (hT : z_T s0 l) (x y : Int32) (hd1 : z_day x) (hd2 : ¬ z_day y) : xt_Met l y_B_requireSpan [Cond.code y_B_requireSpan b_B_requireSpan 2 none] ({ frames := 7, cells := 1, slots := 6, locals := 102 }) (z_Pc s0 [.int x, .int y] (fun H => z_Old s0 H)) "java/lang/IllegalArgumentException" := by
  refine z_ofWX (by decide +kernel) (Nat.le_of_ble_eq_true rfl) ?_
  intro p e s m below meth c hx hb hml hadm hown hlocks hno hW0 hB ls hl
  have hts := z_hts (args := [.int x, .int y].toArray) G.1 hW0
  have hN := z_nstW G.2.1 hW0
  have hK := va_K.moved hW0.alike G.2.2.1
  have hAI := arrOfT_moved hW0.alike G.2.2.2.1
  have hl : lv_has ls 2 [(0, .int x), (1, .int y)] := hl
  refine lv_iload_n hx hb d_B_requireSpan_0 rfl (lv_at hl 0 rfl) ?_
  refine z_rdSv (n := 1) (rest := []) ⟨hx, hb, hml, hown, hts⟩ hW0 (c_B_requireDay G x hd1) w_200 w_198 w_199 w_1 (by decide +kernel) ⟨rfl, rfl, Nat.le_of_ble_eq_true rfl, Nat.le_of_ble_eq_true rfl⟩ (trivial) rfl rfl hl.1 (Nat.le_of_ble_eq_true rfl) d_B_requireSpan_1 ⟨Nat.zero_le _, Nat.zero_le _⟩ ?_
  refine lv_iload_n hx hb d_B_requireSpan_4 rfl (lv_at hl 1 rfl) ?_
  exact z_thS (n := 1) (rest := []) ⟨hx, hb, hml, hown, hts⟩ hW0 hno hlocks (t_B_requireDay G hT y hd2) w_200 w_198 w_199 w_1 (by decide +kernel) ⟨rfl, rfl, Nat.le_of_ble_eq_true rfl, Nat.le_of_ble_eq_true rfl⟩ (hB) rfl rfl hl.1 (Nat.le_of_ble_eq_true rfl) d_B_requireSpan_5 ⟨Nat.le_of_ble_eq_true rfl, Nat.le_of_ble_eq_true rfl⟩
set_option maxRecDepth 100000 in
set_option maxHeartbeats 4000000 in
theorem t_B_requireSpan3 (G : z_G s0 (dC, dI) cI cS) (hT : z_T s0 l) (x y : Int32) (hd1 : z_day x) (hd2 : z_day y) (hlt : ¬ x ≤ y) : xt_Met l y_B_requireSpan [Cond.code y_B_requireSpan b_B_requireSpan 2 none] ({ frames := 6, cells := 1, slots := 6, locals := 82 }) (z_Pc s0 [.int x, .int y] (fun H => z_Old s0 H)) "java/lang/IllegalArgumentException" := by
  refine z_ofWX (by decide +kernel) (Nat.le_of_ble_eq_true rfl) ?_
  intro p e s m below meth c hx hb hml hadm hown hlocks hno hW0 hB ls hl
  have hts := z_hts (args := [.int x, .int y].toArray) G.1 hW0
  have hN := z_nstW G.2.1 hW0
  have hK := va_K.moved hW0.alike G.2.2.1
  have hAI := arrOfT_moved hW0.alike G.2.2.2.1
  have hl : lv_has ls 2 [(0, .int x), (1, .int y)] := hl
  refine lv_iload_n hx hb d_B_requireSpan_0 rfl (lv_at hl 0 rfl) ?_
  refine z_rdSv (n := 1) (rest := []) ⟨hx, hb, hml, hown, hts⟩ hW0 (c_B_requireDay G x hd1) w_200 w_198 w_199 w_1 (by decide +kernel) ⟨rfl, rfl, Nat.le_of_ble_eq_true rfl, Nat.le_of_ble_eq_true rfl⟩ (trivial) rfl rfl hl.1 (Nat.le_of_ble_eq_true rfl) d_B_requireSpan_1 ⟨Nat.zero_le _, Nat.zero_le _⟩ ?_
  refine lv_iload_n hx hb d_B_requireSpan_4 rfl (lv_at hl 1 rfl) ?_
  refine z_rdSv (n := 1) (rest := []) ⟨hx, hb, hml, hown, hts⟩ hW0 (c_B_requireDay G y hd2) w_200 w_198 w_199 w_1 (by decide +kernel) ⟨rfl, rfl, Nat.le_of_ble_eq_true rfl, Nat.le_of_ble_eq_true rfl⟩ (trivial) rfl rfl hl.1 (Nat.le_of_ble_eq_true rfl) d_B_requireSpan_5 ⟨Nat.zero_le _, Nat.zero_le _⟩ ?_
  refine lv_iload_n hx hb d_B_requireSpan_8 rfl (lv_at hl 0 rfl) ?_
  refine lv_iload_n hx hb d_B_requireSpan_9 rfl (lv_at hl 1 rfl) ?_
  refine lv_icmp_le (tgt := 23) hx hb d_B_requireSpan_10 (by decide) (fun c_1 => ?_) (fun c_1 => ?_)
  · skip
    have c_1' : ¬ (y < x) := Int32.not_lt.mpr c_1
    exact absurd c_1 hlt
  · skip
    have c_1' : y < x := Int32.not_le.mp c_1
    exact xt_new hx hb hT.1 hown hW0 hB (by decide +kernel) hT.2.1.2.2.1 k_B_IAE k_7 (hT.2.2 (R_B, 181, "the first day is above the last") (List.mem_of_getElem? (i := 3) rfl)) (hts _ w_202) (hts _ w_10) hno hlocks (hl.1.trans hml.symm) d_B_requireSpan_13 d_B_requireSpan_16 d_B_requireSpan_17 d_B_requireSpan_19 d_B_requireSpan_22 (Nat.le_of_ble_eq_true rfl) (Nat.le_of_ble_eq_true rfl) (Nat.le_of_ble_eq_true rfl) (Nat.le_of_ble_eq_true rfl)
set_option maxRecDepth 100000 in
set_option maxHeartbeats 4000000 in
theorem c_B_requirePoint (G : z_G s0 (dC, dI) cI cS) (x y : Int32) (hp : z_pt x y) : Met l y_B_requirePoint [Cond.code y_B_requirePoint b_B_requirePoint 2 none] ({ frames := 0, cells := 0, slots := 0, locals := 0 }) (z_Pc s0 [.int x, .int y] (fun H => True)) (z_Qr (none)) 0 0 z_no := by
  refine z_ofW (by decide +kernel) (Nat.le_of_ble_eq_true rfl) ?_
  intro p e s m below meth c hx hb hml hr hown hlocks hnm hW0 hB ls hl
  have hts := z_hts (args := [.int x, .int y].toArray) G.1 hW0
  have hN := z_nstW G.2.1 hW0
  have hK := va_K.moved hW0.alike G.2.2.1
  have hAI := arrOfT_moved hW0.alike G.2.2.2.1
  have hl : lv_has ls 2 [(0, .int x), (1, .int y)] := hl
  refine lv_iload_n hx hb d_B_requirePoint_0 rfl (lv_at hl 0 rfl) ?_
  refine lv_sipush (v := (-10000)) hx hb d_B_requirePoint_1 (by decide) ?_
  refine lv_icmp_lt (tgt := 28) hx hb d_B_requirePoint_4 (by decide) (fun c_1 => ?_) (fun c_1 => ?_)
  · skip
    have c_1' : ¬ ((-10000) ≤ x) := Int32.not_le.mpr c_1
    exfalso
    exact absurd hp.1 c_1'
  · skip
    have c_1' : (-10000) ≤ x := Int32.not_lt.mp c_1
    refine lv_iload_n hx hb d_B_requirePoint_7 rfl (lv_at hl 0 rfl) ?_
    refine lv_sipush (v := 10000) hx hb d_B_requirePoint_8 (by decide) ?_
    refine lv_icmp_gt (tgt := 28) hx hb d_B_requirePoint_11 (by decide) (fun c_2 => ?_) (fun c_2 => ?_)
    · skip
      have c_2' : ¬ (x ≤ (10000 : Int32)) := Int32.not_le.mpr c_2
      exfalso
      exact absurd hp.2.1 c_2'
    · skip
      have c_2' : x ≤ (10000 : Int32) := Int32.not_lt.mp c_2
      refine lv_iload_n hx hb d_B_requirePoint_14 rfl (lv_at hl 1 rfl) ?_
      refine lv_sipush (v := (-10000)) hx hb d_B_requirePoint_15 (by decide) ?_
      refine lv_icmp_lt (tgt := 28) hx hb d_B_requirePoint_18 (by decide) (fun c_3 => ?_) (fun c_3 => ?_)
      · skip
        have c_3' : ¬ ((-10000) ≤ y) := Int32.not_le.mpr c_3
        exfalso
        exact absurd hp.2.2.1 c_3'
      · skip
        have c_3' : (-10000) ≤ y := Int32.not_lt.mp c_3
        refine lv_iload_n hx hb d_B_requirePoint_21 rfl (lv_at hl 1 rfl) ?_
        refine lv_sipush (v := 10000) hx hb d_B_requirePoint_22 (by decide) ?_
        refine lv_icmp_le (tgt := 38) hx hb d_B_requirePoint_25 (by decide) (fun c_4 => ?_) (fun c_4 => ?_)
        · skip
          have c_4' : ¬ ((10000 : Int32) < y) := Int32.not_lt.mpr c_4
          exact z_vret hx hb hr hlocks d_B_requirePoint_38
        · skip
          have c_4' : (10000 : Int32) < y := Int32.not_le.mp c_4
          exfalso
          exact absurd hp.2.2.2 c_4
set_option maxRecDepth 100000 in
set_option maxHeartbeats 4000000 in
theorem t_B_requirePoint (G : z_G s0 (dC, dI) cI cS) (hT : z_T s0 l) (x y : Int32) (hp : ¬ z_pt x y) : xt_Met l y_B_requirePoint [Cond.code y_B_requirePoint b_B_requirePoint 2 none] ({ frames := 6, cells := 1, slots := 6, locals := 82 }) (z_Pc s0 [.int x, .int y] (fun H => z_Old s0 H)) "java/lang/IllegalArgumentException" := by
  refine z_ofWX (by decide +kernel) (Nat.le_of_ble_eq_true rfl) ?_
  intro p e s m below meth c hx hb hml hadm hown hlocks hno hW0 hB ls hl
  have hts := z_hts (args := [.int x, .int y].toArray) G.1 hW0
  have hN := z_nstW G.2.1 hW0
  have hK := va_K.moved hW0.alike G.2.2.1
  have hAI := arrOfT_moved hW0.alike G.2.2.2.1
  have hl : lv_has ls 2 [(0, .int x), (1, .int y)] := hl
  refine lv_iload_n hx hb d_B_requirePoint_0 rfl (lv_at hl 0 rfl) ?_
  refine lv_sipush (v := (-10000)) hx hb d_B_requirePoint_1 (by decide) ?_
  refine lv_icmp_lt (tgt := 28) hx hb d_B_requirePoint_4 (by decide) (fun c_1 => ?_) (fun c_1 => ?_)
  · skip
    have c_1' : ¬ ((-10000) ≤ x) := Int32.not_le.mpr c_1
    exact xt_new hx hb hT.1 hown hW0 hB (by decide +kernel) hT.2.1.2.2.1 k_B_IAE k_7 (hT.2.2 (R_B, 183, "a point is not within -10000 to 10000") (List.mem_of_getElem? (i := 6) rfl)) (hts _ w_202) (hts _ w_10) hno hlocks (hl.1.trans hml.symm) d_B_requirePoint_28 d_B_requirePoint_31 d_B_requirePoint_32 d_B_requirePoint_34 d_B_requirePoint_37 (Nat.le_of_ble_eq_true rfl) (Nat.le_of_ble_eq_true rfl) (Nat.le_of_ble_eq_true rfl) (Nat.le_of_ble_eq_true rfl)
  · skip
    have c_1' : (-10000) ≤ x := Int32.not_lt.mp c_1
    refine lv_iload_n hx hb d_B_requirePoint_7 rfl (lv_at hl 0 rfl) ?_
    refine lv_sipush (v := 10000) hx hb d_B_requirePoint_8 (by decide) ?_
    refine lv_icmp_gt (tgt := 28) hx hb d_B_requirePoint_11 (by decide) (fun c_2 => ?_) (fun c_2 => ?_)
    · skip
      have c_2' : ¬ (x ≤ (10000 : Int32)) := Int32.not_le.mpr c_2
      exact xt_new hx hb hT.1 hown hW0 hB (by decide +kernel) hT.2.1.2.2.1 k_B_IAE k_7 (hT.2.2 (R_B, 183, "a point is not within -10000 to 10000") (List.mem_of_getElem? (i := 6) rfl)) (hts _ w_202) (hts _ w_10) hno hlocks (hl.1.trans hml.symm) d_B_requirePoint_28 d_B_requirePoint_31 d_B_requirePoint_32 d_B_requirePoint_34 d_B_requirePoint_37 (Nat.le_of_ble_eq_true rfl) (Nat.le_of_ble_eq_true rfl) (Nat.le_of_ble_eq_true rfl) (Nat.le_of_ble_eq_true rfl)
    · skip
      have c_2' : x ≤ (10000 : Int32) := Int32.not_lt.mp c_2
      refine lv_iload_n hx hb d_B_requirePoint_14 rfl (lv_at hl 1 rfl) ?_
      refine lv_sipush (v := (-10000)) hx hb d_B_requirePoint_15 (by decide) ?_
      refine lv_icmp_lt (tgt := 28) hx hb d_B_requirePoint_18 (by decide) (fun c_3 => ?_) (fun c_3 => ?_)
      · skip
        have c_3' : ¬ ((-10000) ≤ y) := Int32.not_le.mpr c_3
        exact xt_new hx hb hT.1 hown hW0 hB (by decide +kernel) hT.2.1.2.2.1 k_B_IAE k_7 (hT.2.2 (R_B, 183, "a point is not within -10000 to 10000") (List.mem_of_getElem? (i := 6) rfl)) (hts _ w_202) (hts _ w_10) hno hlocks (hl.1.trans hml.symm) d_B_requirePoint_28 d_B_requirePoint_31 d_B_requirePoint_32 d_B_requirePoint_34 d_B_requirePoint_37 (Nat.le_of_ble_eq_true rfl) (Nat.le_of_ble_eq_true rfl) (Nat.le_of_ble_eq_true rfl) (Nat.le_of_ble_eq_true rfl)
      · skip
        have c_3' : (-10000) ≤ y := Int32.not_lt.mp c_3
        refine lv_iload_n hx hb d_B_requirePoint_21 rfl (lv_at hl 1 rfl) ?_
        refine lv_sipush (v := 10000) hx hb d_B_requirePoint_22 (by decide) ?_
        refine lv_icmp_le (tgt := 38) hx hb d_B_requirePoint_25 (by decide) (fun c_4 => ?_) (fun c_4 => ?_)
        · skip
          have c_4' : ¬ ((10000 : Int32) < y) := Int32.not_lt.mpr c_4
          exact absurd ⟨c_1', c_2', c_3', c_4⟩ hp
        · skip
          have c_4' : (10000 : Int32) < y := Int32.not_le.mp c_4
          exact xt_new hx hb hT.1 hown hW0 hB (by decide +kernel) hT.2.1.2.2.1 k_B_IAE k_7 (hT.2.2 (R_B, 183, "a point is not within -10000 to 10000") (List.mem_of_getElem? (i := 6) rfl)) (hts _ w_202) (hts _ w_10) hno hlocks (hl.1.trans hml.symm) d_B_requirePoint_28 d_B_requirePoint_31 d_B_requirePoint_32 d_B_requirePoint_34 d_B_requirePoint_37 (Nat.le_of_ble_eq_true rfl) (Nat.le_of_ble_eq_true rfl) (Nat.le_of_ble_eq_true rfl) (Nat.le_of_ble_eq_true rfl)
set_option maxRecDepth 100000 in
set_option maxHeartbeats 4000000 in
theorem c_B_shapeNumbered (G : z_G s0 (dC, dI) cI cS) (A : Nat → Nat) (np ns nc nn nm : Nat) (fv : Nat → Nat → Int32) (so sf st : Nat → Int32) (sn sc : Nat → Nat) (sp : Nat → Option Nat) (sx sy : Nat → Nat → Int32) (k : Nat) (hk : k < ns) : Met l y_B_shapeNumbered [Cond.code y_B_shapeNumbered b_B_shapeNumbered 2 (some (.object "BorderDays$Shape"))] ({ frames := 0, cells := 0, slots := 0, locals := 0 }) (z_Pc s0 [.ref (A 0), .int (nI k)] (fun H => z_BD (dC, dI) cI cS H A np ns nc nn nm fv so sf st sn sc sp sx sy)) (z_Qr (some (.ref (A (13 + 3 * k))))) 0 0 z_no := by
  refine z_ofW (by decide +kernel) (Nat.le_of_ble_eq_true rfl) ?_
  intro p e s m below meth c hx hb hml hr hown hlocks hnm hW0 hB ls hl
  have hts := z_hts (args := [.ref (A 0), .int (nI k)].toArray) G.1 hW0
  have hN := z_nstW G.2.1 hW0
  have hK := va_K.moved hW0.alike G.2.2.1
  have hAI := arrOfT_moved hW0.alike G.2.2.2.1
  have hl : lv_has ls 2 [(0, .ref (A 0)), (1, .int (nI k))] := hl
  obtain ⟨⟨hO0, hO1, hO2, hB3, hFA, hSH⟩, hinj, ⟨hnp, hns, hnn, hnm, hnc⟩, hsb⟩ := id hB
  have hAS := arrOfT_moved hW0.alike G.2.2.2.2.1
  refine lv_iload_n hx hb d_B_shapeNumbered_0 rfl (lv_at hl 1 rfl) ?_
  refine lv_if_lt (tgt := 12) hx hb d_B_shapeNumbered_1 (by decide) (fun c_1 => ?_) (fun c_1 => ?_)
  · skip
    have c_1 : k < 0 := (nI_ltI (a := k) (b := 0) (by omega) (by omega)).mp c_1
    exfalso
    omega
  · skip
    have c_1 : ¬ (k < 0) := fun h => c_1 ((nI_ltI (a := k) (b := 0) (by omega) (by omega)).mpr h)
    refine lv_iload_n hx hb d_B_shapeNumbered_4 rfl (lv_at hl 1 rfl) ?_
    refine lv_aload_n hx hb d_B_shapeNumbered_5 rfl (lv_at hl 0 rfl) ?_
    refine va_get (D := (dC, dI)) (ci := 3) (v := .int (nI ns)) (C := R_B) (T := T_B) (N := 7) hx hb hts in_B hown hK hO0.P 0 rfl rfl 3 (by decide) (hts _ w_71) (fun _ h9 => h9) rfl d_B_shapeNumbered_6 ?_
    refine lv_icmp_lt (tgt := 22) hx hb d_B_shapeNumbered_9 (by decide) (fun c_2 => ?_) (fun c_2 => ?_)
    · skip
      have c_2 : k < ns := (nI_ltI (a := k) (b := ns) (by omega) (by omega)).mp c_2
      refine lv_aload_n hx hb d_B_shapeNumbered_22 rfl (lv_at hl 0 rfl) ?_
      refine va_get (D := (dC, dI)) (ci := 3) (v := .ref (A 3)) (C := R_B) (T := T_B) (N := 7) hx hb hts in_B hown hK hO0.P 0 rfl rfl 2 (by decide) (hts _ w_70) (fun _ h9 => h9) rfl d_B_shapeNumbered_23 ?_
      refine lv_iload_n hx hb d_B_shapeNumbered_26 rfl (lv_at hl 1 rfl) ?_
      refine z_aald (k := k) (q := A (13 + 3 * k)) hx hb hAS hB3 (by omega) (by decide) (if_pos (by omega)) d_B_shapeNumbered_27 ?_
      have hS_k := hSH k (by omega)
      have hb_k := hsb k (by omega)
      obtain ⟨hO_k, hX_k, hY_k⟩ := id hS_k
      exact z_aret hx hb hr hlocks (Or.inl ⟨_, rfl⟩) (Or.inr ⟨_, rfl⟩) (by rfl) d_B_shapeNumbered_28
    · skip
      have c_2 : ¬ (k < ns) := fun h => c_2 ((nI_ltI (a := k) (b := ns) (by omega) (by omega)).mpr h)
      exfalso
      omega
set_option maxRecDepth 100000 in
set_option maxHeartbeats 4000000 in
theorem t_B_shapeNumbered (G : z_G s0 (dC, dI) cI cS) (hT : z_T s0 l) (A : Nat → Nat) (np ns nc nn nm : Nat) (fv : Nat → Nat → Int32) (so sf st : Nat → Int32) (sn sc : Nat → Nat) (sp : Nat → Option Nat) (sx sy : Nat → Nat → Int32) (x : Int32) (hx0 : x < 0 ∨ nI ns ≤ x) : xt_Met l y_B_shapeNumbered [Cond.code y_B_shapeNumbered b_B_shapeNumbered 2 (some (.object "BorderDays$Shape"))] ({ frames := 6, cells := 1, slots := 6, locals := 82 }) (z_Pc s0 [.ref (A 0), .int x] (fun H => z_Old s0 H ∧ z_BD (dC, dI) cI cS H A np ns nc nn nm fv so sf st sn sc sp sx sy)) "java/util/NoSuchElementException" := by
  refine z_ofWX (by decide +kernel) (Nat.le_of_ble_eq_true rfl) ?_
  intro p e s m below meth c hx hb hml hadm hown hlocks hno hW0 hB ls hl
  have hts := z_hts (args := [.ref (A 0), .int x].toArray) G.1 hW0
  have hN := z_nstW G.2.1 hW0
  have hK := va_K.moved hW0.alike G.2.2.1
  have hAI := arrOfT_moved hW0.alike G.2.2.2.1
  have hl : lv_has ls 2 [(0, .ref (A 0)), (1, .int x)] := hl
  obtain ⟨hOld, hB1⟩ := id hB
  obtain ⟨⟨hO0, hO1, hO2, hB3, hFA, hSH⟩, hinj, ⟨hnp, hns, hnn, hnm, hnc⟩, hsb⟩ := id hB1
  have hAS := arrOfT_moved hW0.alike G.2.2.2.2.1
  refine lv_iload_n hx hb d_B_shapeNumbered_0 rfl (lv_at hl 1 rfl) ?_
  refine lv_if_lt (tgt := 12) hx hb d_B_shapeNumbered_1 (by decide) (fun c_1 => ?_) (fun c_1 => ?_)
  · skip
    have c_1' : ¬ ((0 : Int32) ≤ x) := Int32.not_le.mpr c_1
    exact xt_new hx hb hT.1 hown hW0 hOld (by decide +kernel) hT.2.1.1 k_B_NSE k_13 (hT.2.2 (R_B, 162, "there is no such shape") (List.mem_of_getElem? (i := 5) rfl)) (hts _ w_103) (hts _ w_8) hno hlocks (hl.1.trans hml.symm) d_B_shapeNumbered_12 d_B_shapeNumbered_15 d_B_shapeNumbered_16 d_B_shapeNumbered_18 d_B_shapeNumbered_21 (Nat.le_of_ble_eq_true rfl) (Nat.le_of_ble_eq_true rfl) (Nat.le_of_ble_eq_true rfl) (Nat.le_of_ble_eq_true rfl)
  · skip
    have c_1' : (0 : Int32) ≤ x := Int32.not_lt.mp c_1
    refine lv_iload_n hx hb d_B_shapeNumbered_4 rfl (lv_at hl 1 rfl) ?_
    refine lv_aload_n hx hb d_B_shapeNumbered_5 rfl (lv_at hl 0 rfl) ?_
    refine va_get (D := (dC, dI)) (ci := 3) (v := .int (nI ns)) (C := R_B) (T := T_B) (N := 7) hx hb hts in_B hown hK hO0.P 0 rfl rfl 3 (by decide) (hts _ w_71) (fun _ h9 => h9) rfl d_B_shapeNumbered_6 ?_
    refine lv_icmp_lt (tgt := 22) hx hb d_B_shapeNumbered_9 (by decide) (fun c_2 => ?_) (fun c_2 => ?_)
    · skip
      have c_2' : ¬ ((nI ns) ≤ x) := Int32.not_le.mpr c_2
      exact absurd hx0 (fun h => h.elim c_1 c_2')
    · skip
      have c_2' : (nI ns) ≤ x := Int32.not_lt.mp c_2
      exact xt_new hx hb hT.1 hown hW0 hOld (by decide +kernel) hT.2.1.1 k_B_NSE k_13 (hT.2.2 (R_B, 162, "there is no such shape") (List.mem_of_getElem? (i := 5) rfl)) (hts _ w_103) (hts _ w_8) hno hlocks (hl.1.trans hml.symm) d_B_shapeNumbered_12 d_B_shapeNumbered_15 d_B_shapeNumbered_16 d_B_shapeNumbered_18 d_B_shapeNumbered_21 (Nat.le_of_ble_eq_true rfl) (Nat.le_of_ble_eq_true rfl) (Nat.le_of_ble_eq_true rfl) (Nat.le_of_ble_eq_true rfl)
end S4
