section BW1
variable {s0 : State} {dC : Nat → ClassId} {dI : Nat → Nat → Nat} {cI cS : ClassId} {l : Launch}
set_option maxRecDepth 100000 in
set_option maxHeartbeats 4000000 in
theorem c_B_place_n (G : z_G s0 (dC, dI) cI cS) (sz : Nat) (A : Nat → Nat) (np ns nc nn nm : Nat) (fv : Nat → Nat → Int32) (so sf st : Nat → Int32) (sn sc : Nat → Nat) (sp : Nat → Option Nat) (sx sy : Nat → Nat → Int32) (hlt : np < 16) : Met l y_B_place [Cond.code y_B_place b_B_place 2 (some .int)] ({ frames := 0, cells := 0, slots := 0, locals := 0 }) (z_Pc s0 [.ref (A 0), .int (-1)] (fun H => H.size = sz ∧ z_BD (dC, dI) cI cS H A np ns nc nn nm fv so sf st sn sc sp sx sy)) (z_Qw (fun r H => r = some (.int (nI np)) ∧ z_BD (dC, dI) cI cS H A (np + 1) ns nc nn nm (va_up fv 0 (upd (fv 0) np (-1))) so sf st sn sc sp sx sy) (z_fr (fun q => q = A 0 ∨ q = A 4) sz)) 0 0 (z_fr (fun q => q = A 0 ∨ q = A 4) sz) := by
  refine z_ofW (by decide +kernel) (Nat.le_of_ble_eq_true rfl) ?_
  intro p e s m below meth c hx hb hml hr hown hlocks hnm hW0 hB ls hl
  have hts := z_hts (args := [.ref (A 0), .int (-1)].toArray) G.1 hW0
  have hN := z_nstW G.2.1 hW0
  have hK := va_K.moved hW0.alike G.2.2.1
  have hAI := arrOfT_moved hW0.alike G.2.2.2.1
  have hl : lv_has ls 2 [(0, .ref (A 0)), (1, .int (-1))] := hl
  obtain ⟨rfl, hB⟩ := hB
  have hz : s.heap.size = s.heap.size := rfl
  have hS : va_S (z_fr (fun q => q = A 0 ∨ q = A 4) s.heap.size) s.heap s.heap [] := va_S.rf
  have hBs := hB
  obtain ⟨⟨hO0, hO1_, hO2_, hB3, hFA, hSH⟩, hinj, ⟨hnp, hns, hnn, hnm_, hnc⟩, hsb⟩ := id hB
  have hA4 : z_A cI s.heap (A 4) 16 (fv 0) := hFA 0 (by omega)
  have hne0 : A (0) ≠ A (4) := hBs.ne (by omega) (by omega) (by omega)
  refine lv_iload_n hx hb d_B_place_0 rfl (lv_at hl 1 rfl) ?_
  refine lv_iconst (v := (-1)) hx hb d_B_place_1 (by decide) ?_
  refine lv_icmp_eq (tgt := 10) hx hb d_B_place_2 (by decide) (fun c_1 => ?_) (fun c_1 => ?_)
  · skip
    refine lv_aload_n hx hb d_B_place_10 rfl (lv_at hl 0 rfl) ?_
    refine va_get (D := (dC, dI)) (ci := 3) (v := .int (nI np)) (C := R_B) (T := T_B) (N := 7) hx hb hts in_B hown hK hO0.P 0 rfl rfl 1 (by decide) (hts _ w_69) (fun _ h9 => h9) rfl d_B_place_11 ?_
    refine lv_bipush (v := 16) hx hb d_B_place_14 (by decide) ?_
    refine lv_icmp_lt (tgt := 29) hx hb d_B_place_16 (by decide) (fun c_2 => ?_) (fun c_2 => ?_)
    · skip
      have c_2 : np < 16 := (nI_ltI (a := np) (b := 16) (by omega) (by omega)).mp c_2
      refine lv_aload_n hx hb d_B_place_29 rfl (lv_at hl 0 rfl) ?_
      refine va_get (D := (dC, dI)) (ci := 3) (v := .ref (A 4)) (C := R_B) (T := T_B) (N := 7) hx hb hts in_B hown hK hO0.P 0 rfl rfl 0 (by decide) (hts _ w_68) (fun _ h9 => h9) rfl d_B_place_30 ?_
      refine lv_aload_n hx hb d_B_place_33 rfl (lv_at hl 0 rfl) ?_
      refine va_get (D := (dC, dI)) (ci := 3) (v := .int (nI np)) (C := R_B) (T := T_B) (N := 7) hx hb hts in_B hown hK hO0.P 0 rfl rfl 1 (by decide) (hts _ w_69) (fun _ h9 => h9) rfl d_B_place_34 ?_
      refine lv_iload_n hx hb d_B_place_37 rfl (lv_at hl 1 rfl) ?_
      refine z_iast (k := np) hx hb hAI hA4 hS (Or.inl (Or.inr rfl)) (by omega) (by decide) d_B_place_38 (fun H1 locs1 hz1 hA1 ho1 hS => ?_)
      have hO0 := hO0.keep (ho1 _ (by omega))
      have hA4 := hA1
      have hz : H1.size = s.heap.size := hz1.trans hz
      refine lv_aload_n hx hb d_B_place_39 rfl (lv_at hl 0 rfl) ?_
      refine lv_dup hx hb d_B_place_40 rfl ?_
      refine va_get (D := (dC, dI)) (ci := 3) (v := .int (nI np)) (C := R_B) (T := T_B) (N := 7) hx hb hts in_B hown hK hO0.P 0 rfl rfl 1 (by decide) (hts _ w_69) (fun _ h9 => h9) rfl d_B_place_41 ?_
      refine lv_iconst (v := 1) hx hb d_B_place_44 (by decide) ?_
      refine lv_iadd hx hb d_B_place_45 ?_
      refine z_topi (y := nI (np + 1)) (nI_add np 1) ?_
      refine z_put (D := (dC, dI)) (ci := 3) (v := .int (nI (np + 1))) (ty := .int) (C := R_B) (T := T_B) (N := 7) hx hb hts in_B t_B t_B_ok nm_B hown hK hO0 hS (Or.inl (Or.inl rfl)) rfl 1 (by decide) (hts _ w_69) (fun _ h9 => h9) rfl (by decide +kernel) rfl rfl (Nat.le_of_ble_eq_true rfl) d_B_place_46 (fun H1 locs1 hz1 hO1 ho1 hS => ?_)
      have hA4 := hA4.keep (ho1 _ (by omega))
      have hO0 : z_O (dC, dI) H1 (A 0) 3 [.ref (A 4), .int (nI (np + 1)), .ref (A 3), .int (nI ns), .int (nI nc), .ref (A 1), .ref (A 2)] := hO1
      have hz : H1.size = s.heap.size := hz1.trans hz
      refine lv_aload_n hx hb d_B_place_49 rfl (lv_at hl 0 rfl) ?_
      refine va_get (D := (dC, dI)) (ci := 3) (v := .int (nI (np + 1))) (C := R_B) (T := T_B) (N := 7) hx hb hts in_B hown hK hO0.P 0 rfl rfl 1 (by decide) (hts _ w_69) (fun _ h9 => h9) rfl d_B_place_50 ?_
      refine lv_iconst (v := 1) hx hb d_B_place_53 (by decide) ?_
      refine lv_isub hx hb d_B_place_54 ?_
      refine z_topi (y := nI np) (nI_pred np) ?_
      have hEnd := hBs.plc (x := (-1)) (by omega) hO0 hA4 (fun q h1 h2 => hS.2.1 q h1 (fun h => h.elim h2 (fun h => by omega)))
      exact z_wi hx hb hr hlocks ⟨rfl, hEnd⟩ hS d_B_place_55
    · skip
      have c_2 : ¬ (np < 16) := fun h => c_2 ((nI_ltI (a := np) (b := 16) (by omega) (by omega)).mpr h)
      exfalso
      omega
  · skip
    exact absurd (by decide) c_1
set_option maxRecDepth 100000 in
set_option maxHeartbeats 4000000 in
theorem c_B_place_k (G : z_G s0 (dC, dI) cI cS) (sz : Nat) (A : Nat → Nat) (np ns nc nn nm : Nat) (fv : Nat → Nat → Int32) (so sf st : Nat → Int32) (sn sc : Nat → Nat) (sp : Nat → Option Nat) (sx sy : Nat → Nat → Int32) (k : Nat) (hk : k < np) (hlt : np < 16) : Met l y_B_place [Cond.code y_B_place b_B_place 2 (some .int)] ({ frames := 1, cells := 0, slots := 0, locals := 21 }) (z_Pc s0 [.ref (A 0), .int (nI k)] (fun H => H.size = sz ∧ z_BD (dC, dI) cI cS H A np ns nc nn nm fv so sf st sn sc sp sx sy)) (z_Qw (fun r H => r = some (.int (nI np)) ∧ z_BD (dC, dI) cI cS H A (np + 1) ns nc nn nm (va_up fv 0 (upd (fv 0) np (nI k))) so sf st sn sc sp sx sy) (z_fr (fun q => q = A 0 ∨ q = A 4) sz)) 0 0 (z_fr (fun q => q = A 0 ∨ q = A 4) sz) := by
  refine z_ofW (by decide +kernel) (Nat.le_of_ble_eq_true rfl) ?_
  intro p e s m below meth c hx hb hml hr hown hlocks hnm hW0 hB ls hl
  have hts := z_hts (args := [.ref (A 0), .int (nI k)].toArray) G.1 hW0
  have hN := z_nstW G.2.1 hW0
  have hK := va_K.moved hW0.alike G.2.2.1
  have hAI := arrOfT_moved hW0.alike G.2.2.2.1
  have hl : lv_has ls 2 [(0, .ref (A 0)), (1, .int (nI k))] := hl
  obtain ⟨rfl, hB⟩ := hB
  have hz : s.heap.size = s.heap.size := rfl
  have hS : va_S (z_fr (fun q => q = A 0 ∨ q = A 4) s.heap.size) s.heap s.heap [] := va_S.rf
  have hBs := hB
  obtain ⟨⟨hO0, hO1_, hO2_, hB3, hFA, hSH⟩, hinj, ⟨hnp, hns, hnn, hnm_, hnc⟩, hsb⟩ := id hB
  have hA4 : z_A cI s.heap (A 4) 16 (fv 0) := hFA 0 (by omega)
  have hne0 : A (0) ≠ A (4) := hBs.ne (by omega) (by omega) (by omega)
  refine lv_iload_n hx hb d_B_place_0 rfl (lv_at hl 1 rfl) ?_
  refine lv_iconst (v := (-1)) hx hb d_B_place_1 (by decide) ?_
  refine lv_icmp_eq (tgt := 10) hx hb d_B_place_2 (by decide) (fun c_1 => ?_) (fun c_1 => ?_)
  · skip
    exact absurd c_1 (z_ne1 (by omega))
  · skip
    refine lv_aload_n hx hb d_B_place_5 rfl (lv_at hl 0 rfl) ?_
    refine lv_iload_n hx hb d_B_place_6 rfl (lv_at hl 1 rfl) ?_
    refine z_rdVv (n := 1) (C := R_B) (rest := []) ⟨hx, hb, hml, hown, hts⟩ hW0 (c_B_requirePlace G A np ns nc nn nm fv so sf st sn sc sp sx sy k (by omega)) w_102 w_99 w_101 wp_0 w_1 (by decide +kernel) ⟨rfl, rfl, Nat.le_of_ble_eq_true rfl, Nat.le_of_ble_eq_true rfl⟩ (hO0.recv hK rfl) (hB) rfl rfl hl.1 (Nat.le_of_ble_eq_true rfl) d_B_place_7 ⟨Nat.zero_le _, Nat.zero_le _⟩ ?_
    refine lv_aload_n hx hb d_B_place_10 rfl (lv_at hl 0 rfl) ?_
    refine va_get (D := (dC, dI)) (ci := 3) (v := .int (nI np)) (C := R_B) (T := T_B) (N := 7) hx hb hts in_B hown hK hO0.P 0 rfl rfl 1 (by decide) (hts _ w_69) (fun _ h9 => h9) rfl d_B_place_11 ?_
    refine lv_bipush (v := 16) hx hb d_B_place_14 (by decide) ?_
    refine lv_icmp_lt (tgt := 29) hx hb d_B_place_16 (by decide) (fun c_2 => ?_) (fun c_2 => ?_)
    · skip
      have c_2 : np < 16 := (nI_ltI (a := np) (b := 16) (by omega) (by omega)).mp c_2
      refine lv_aload_n hx hb d_B_place_29 rfl (lv_at hl 0 rfl) ?_
      refine va_get (D := (dC, dI)) (ci := 3) (v := .ref (A 4)) (C := R_B) (T := T_B) (N := 7) hx hb hts in_B hown hK hO0.P 0 rfl rfl 0 (by decide) (hts _ w_68) (fun _ h9 => h9) rfl d_B_place_30 ?_
      refine lv_aload_n hx hb d_B_place_33 rfl (lv_at hl 0 rfl) ?_
      refine va_get (D := (dC, dI)) (ci := 3) (v := .int (nI np)) (C := R_B) (T := T_B) (N := 7) hx hb hts in_B hown hK hO0.P 0 rfl rfl 1 (by decide) (hts _ w_69) (fun _ h9 => h9) rfl d_B_place_34 ?_
      refine lv_iload_n hx hb d_B_place_37 rfl (lv_at hl 1 rfl) ?_
      refine z_iast (k := np) hx hb hAI hA4 hS (Or.inl (Or.inr rfl)) (by omega) (by decide) d_B_place_38 (fun H1 locs1 hz1 hA1 ho1 hS => ?_)
      have hO0 := hO0.keep (ho1 _ (by omega))
      have hA4 := hA1
      have hz : H1.size = s.heap.size := hz1.trans hz
      refine lv_aload_n hx hb d_B_place_39 rfl (lv_at hl 0 rfl) ?_
      refine lv_dup hx hb d_B_place_40 rfl ?_
      refine va_get (D := (dC, dI)) (ci := 3) (v := .int (nI np)) (C := R_B) (T := T_B) (N := 7) hx hb hts in_B hown hK hO0.P 0 rfl rfl 1 (by decide) (hts _ w_69) (fun _ h9 => h9) rfl d_B_place_41 ?_
      refine lv_iconst (v := 1) hx hb d_B_place_44 (by decide) ?_
      refine lv_iadd hx hb d_B_place_45 ?_
      refine z_topi (y := nI (np + 1)) (nI_add np 1) ?_
      refine z_put (D := (dC, dI)) (ci := 3) (v := .int (nI (np + 1))) (ty := .int) (C := R_B) (T := T_B) (N := 7) hx hb hts in_B t_B t_B_ok nm_B hown hK hO0 hS (Or.inl (Or.inl rfl)) rfl 1 (by decide) (hts _ w_69) (fun _ h9 => h9) rfl (by decide +kernel) rfl rfl (Nat.le_of_ble_eq_true rfl) d_B_place_46 (fun H1 locs1 hz1 hO1 ho1 hS => ?_)
      have hA4 := hA4.keep (ho1 _ (by omega))
      have hO0 : z_O (dC, dI) H1 (A 0) 3 [.ref (A 4), .int (nI (np + 1)), .ref (A 3), .int (nI ns), .int (nI nc), .ref (A 1), .ref (A 2)] := hO1
      have hz : H1.size = s.heap.size := hz1.trans hz
      refine lv_aload_n hx hb d_B_place_49 rfl (lv_at hl 0 rfl) ?_
      refine va_get (D := (dC, dI)) (ci := 3) (v := .int (nI (np + 1))) (C := R_B) (T := T_B) (N := 7) hx hb hts in_B hown hK hO0.P 0 rfl rfl 1 (by decide) (hts _ w_69) (fun _ h9 => h9) rfl d_B_place_50 ?_
      refine lv_iconst (v := 1) hx hb d_B_place_53 (by decide) ?_
      refine lv_isub hx hb d_B_place_54 ?_
      refine z_topi (y := nI np) (nI_pred np) ?_
      have hEnd := hBs.plc (x := (nI k)) (by omega) hO0 hA4 (fun q h1 h2 => hS.2.1 q h1 (fun h => h.elim h2 (fun h => by omega)))
      exact z_wi hx hb hr hlocks ⟨rfl, hEnd⟩ hS d_B_place_55
    · skip
      have c_2 : ¬ (np < 16) := fun h => c_2 ((nI_ltI (a := np) (b := 16) (by omega) (by omega)).mpr h)
      exfalso
      omega
set_option maxRecDepth 100000 in
set_option maxHeartbeats 4000000 in
theorem c_B_shape (G : z_G s0 (dC, dI) cI cS) (hGI : z_GI s0 cI) (sz : Nat) (A : Nat → Nat) (np ns nc nn nm : Nat) (fv : Nat → Nat → Int32) (so sf st : Nat → Int32) (sn sc : Nat → Nat) (sp : Nat → Option Nat) (sx sy : Nat → Nat → Int32) (k : Nat) (hk : k < np) (f t : Int32) (hd1 : z_day f) (hd2 : z_day t) (hle : f ≤ t) (hlt : ns < 32) : Met l y_B_shape [Cond.code y_B_shape b_B_shape 4 (some .int)] ({ frames := 2, cells := 3, slots := 33, locals := 44 }) (z_Pc s0 [.ref (A 0), .int (nI k), .int f, .int t] (fun H => H.size = sz ∧ z_BD (dC, dI) cI cS H A np ns nc nn nm fv so sf st sn sc sp sx sy)) (z_Qw (fun r H => r = some (.int (nI ns)) ∧ z_BD (dC, dI) cI cS H (z_An A ns sz) np (ns + 1) nc nn nm fv (va_up so ns (nI k)) (va_up sf ns f) (va_up st ns t) (va_up sn ns 0) (va_up sc ns 0) (va_up sp ns none) (va_up sx ns (fun _ => 0)) (va_up sy ns (fun _ => 0))) (z_fr (fun q => q = A 0 ∨ q = A 3) sz)) 3 33 (z_fr (fun q => q = A 0 ∨ q = A 3) sz) := by
  refine z_ofW (by decide +kernel) (Nat.le_of_ble_eq_true rfl) ?_
  intro p e s m below meth c hx hb hml hr hown hlocks hnm hW0 hB ls hl
  have hts := z_hts (args := [.ref (A 0), .int (nI k), .int f, .int t].toArray) G.1 hW0
  have hN := z_nstW G.2.1 hW0
  have hK := va_K.moved hW0.alike G.2.2.1
  have hAI := arrOfT_moved hW0.alike G.2.2.2.1
  have hl : lv_has ls 4 [(0, .ref (A 0)), (1, .int (nI k)), (2, .int f), (3, .int t)] := hl
  have hnm : meth.name = "shape" := hnm
  have hRI := va_RA.moved hW0.alike hGI.1
  have hAO := va_AO.moved hW0.alike hGI.2
  have hRS := va_RA.moved hW0.alike G.2.2.2.2.2
  obtain ⟨rfl, hB⟩ := hB
  have hz : s.heap.size = s.heap.size := rfl
  have hS : va_S (z_fr (fun q => q = A 0 ∨ q = A 3) s.heap.size) s.heap s.heap [] := va_S.rf
  have hBs := hB
  obtain ⟨⟨hO0, hO1_, hO2_, hB3, hFA, hSH⟩, hinj, ⟨hnp, hns, hnn, hnm_, hnc⟩, hsb⟩ := id hB
  have hne0 : A (0) ≠ A (3) := hBs.ne (by omega) (by omega) (by omega)
  have hlA0 := hBs.lt (k := 0) (by omega)
  have hlA3 := hBs.lt (k := 3) (by omega)
  refine lv_aload_n hx hb d_B_shape_0 rfl (lv_at hl 0 rfl) ?_
  refine lv_iload_n hx hb d_B_shape_1 rfl (lv_at hl 1 rfl) ?_
  refine z_rdVv (n := 1) (C := R_B) (rest := []) ⟨hx, hb, hml, hown, hts⟩ hW0 (c_B_requirePlace G A np ns nc nn nm fv so sf st sn sc sp sx sy k (by omega)) w_102 w_99 w_101 wp_0 w_1 (by decide +kernel) ⟨rfl, rfl, Nat.le_of_ble_eq_true rfl, Nat.le_of_ble_eq_true rfl⟩ (hO0.recv hK rfl) (hB) rfl rfl hl.1 (Nat.le_of_ble_eq_true rfl) d_B_shape_2 ⟨Nat.zero_le _, Nat.zero_le _⟩ ?_
  refine lv_iload_n hx hb d_B_shape_5 rfl (lv_at hl 2 rfl) ?_
  refine lv_iload_n hx hb d_B_shape_6 rfl (lv_at hl 3 rfl) ?_
  refine z_rdSv (n := 2) (rest := []) ⟨hx, hb, hml, hown, hts⟩ hW0 (c_B_requireSpan G f t hd1 hd2 hle) w_197 w_195 w_196 w_1 (by decide +kernel) ⟨rfl, rfl, Nat.le_of_ble_eq_true rfl, Nat.le_of_ble_eq_true rfl⟩ (trivial) rfl rfl hl.1 (Nat.le_of_ble_eq_true rfl) d_B_shape_7 ⟨Nat.zero_le _, Nat.zero_le _⟩ ?_
  refine lv_aload_n hx hb d_B_shape_10 rfl (lv_at hl 0 rfl) ?_
  refine va_get (D := (dC, dI)) (ci := 3) (v := .int (nI ns)) (C := R_B) (T := T_B) (N := 7) hx hb hts in_B hown hK hO0.P 0 rfl rfl 3 (by decide) (hts _ w_71) (fun _ h9 => h9) rfl d_B_shape_11 ?_
  refine lv_bipush (v := 32) hx hb d_B_shape_14 (by decide) ?_
  refine lv_icmp_lt (tgt := 29) hx hb d_B_shape_16 (by decide) (fun c_1 => ?_) (fun c_1 => ?_)
  · skip
    have c_1 : ns < 32 := (nI_ltI (a := ns) (b := 32) (by omega) (by omega)).mp c_1
    refine lv_aload_n hx hb d_B_shape_29 rfl (lv_at hl 0 rfl) ?_
    refine va_get (D := (dC, dI)) (ci := 3) (v := .ref (A 3)) (C := R_B) (T := T_B) (N := 7) hx hb hts in_B hown hK hO0.P 0 rfl rfl 2 (by decide) (hts _ w_70) (fun _ h9 => h9) rfl d_B_shape_30 ?_
    refine lv_aload_n hx hb d_B_shape_33 rfl (lv_at hl 0 rfl) ?_
    refine va_get (D := (dC, dI)) (ci := 3) (v := .int (nI ns)) (C := R_B) (T := T_B) (N := 7) hx hb hts in_B hown hK hO0.P 0 rfl rfl 3 (by decide) (hts _ w_71) (fun _ h9 => h9) rfl d_B_shape_34 ?_
    refine z_new (D := (dC, dI)) (ci := 2) (C := R_S) (T := T_S) (N := 9) (h := s.heap.size) (fs := [.int 0, .int 0, .int 0, .int 0, .null, .null, .int 0, .int 0, .null]) hx hb hts in_S t_S t_S_ok hown (hts _ w_21) (hts _ w_220) (hts _ w_11) hK hz hS rfl (by decide +kernel) (Nat.le_of_ble_eq_true rfl) (Nat.le_of_ble_eq_true rfl) d_B_shape_37 (fun H1 hz1 hA1 ho1 hS => ?_)
    have hO0 := hO0.keep (ho1 _ (by omega))
    have hB3 := hB3.keep (ho1 _ (by omega))
    have hO_z := hA1
    have hz : H1.size = s.heap.size + 1 := hz1
    refine lv_dup hx hb d_B_shape_40 rfl ?_
    refine lv_aload_n hx hb d_B_shape_41 rfl (lv_at hl 0 rfl) ?_
    refine va_get (D := (dC, dI)) (ci := 3) (v := .int (nI ns)) (C := R_B) (T := T_B) (N := 7) hx hb hts in_B hown hK hO0.P 0 rfl rfl 3 (by decide) (hts _ w_71) (fun _ h9 => h9) rfl d_B_shape_42 ?_
    refine lv_iload_n hx hb d_B_shape_45 rfl (lv_at hl 1 rfl) ?_
    refine lv_iload_n hx hb d_B_shape_46 rfl (lv_at hl 2 rfl) ?_
    refine lv_iload_n hx hb d_B_shape_47 rfl (lv_at hl 3 rfl) ?_
    refine z_wrI (n := 4) (rest := [.ref s.heap.size, .int (nI ns), .ref (A 3)]) ⟨hx, hb, hml, hown, hts⟩ hW0 (c_S_init G hGI (s.heap.size + 1) s.heap.size (nI ns) (nI k) f t) w_223 w_221 w_222 w_11 rfl (by decide +kernel) ⟨rfl, rfl, Nat.le_of_ble_eq_true rfl, Nat.le_of_ble_eq_true rfl⟩ ⟨hz, hO_z⟩ rfl rfl hl.1 (Nat.le_of_ble_eq_true rfl) d_B_shape_48 ⟨Nat.le_of_ble_eq_true rfl, Nat.le_of_ble_eq_true rfl⟩ hS (fun q h => h.elim (fun h => Or.inr (by omega)) (fun h => Or.inr (by omega))) (fun H1 locs1 hP1 hz1 hk1 hS => ?_)
    have hO0 := hO0.keep (hk1 _ (by omega) (fun h => h.elim (fun h => by omega) (fun h => by omega)))
    have hB3 := hB3.keep (hk1 _ (by omega) (fun h => h.elim (fun h => by omega) (fun h => by omega)))
    obtain ⟨hz, hO_z, hA_zp1, hA_zp2⟩ := hP1
    have hz : H1.size = s.heap.size + 3 := hz
    refine z_aast (D := (dC, dI)) (ci := 2) (r := (R_S, T_S, 9)) (k := ns) hx hb hK hRS hB3 hO_z rfl hS (Or.inl (Or.inr rfl)) (by omega) (by decide) d_B_shape_51 (fun H1 locs1 hz1 hA1 ho1 hS => ?_)
    have hO0 := hO0.keep (ho1 _ (by omega))
    have hO_z := hO_z.keep (ho1 _ (by omega))
    have hA_zp1 := hA_zp1.keep (ho1 _ (by omega))
    have hA_zp2 := hA_zp2.keep (ho1 _ (by omega))
    have hB3 := hA1
    have hz : H1.size = s.heap.size + 3 := hz1.trans hz
    refine lv_aload_n hx hb d_B_shape_52 rfl (lv_at hl 0 rfl) ?_
    refine lv_dup hx hb d_B_shape_53 rfl ?_
    refine va_get (D := (dC, dI)) (ci := 3) (v := .int (nI ns)) (C := R_B) (T := T_B) (N := 7) hx hb hts in_B hown hK hO0.P 0 rfl rfl 3 (by decide) (hts _ w_71) (fun _ h9 => h9) rfl d_B_shape_54 ?_
    refine lv_iconst (v := 1) hx hb d_B_shape_57 (by decide) ?_
    refine lv_iadd hx hb d_B_shape_58 ?_
    refine z_topi (y := nI (ns + 1)) (nI_add ns 1) ?_
    refine z_put (D := (dC, dI)) (ci := 3) (v := .int (nI (ns + 1))) (ty := .int) (C := R_B) (T := T_B) (N := 7) hx hb hts in_B t_B t_B_ok nm_B hown hK hO0 hS (Or.inl (Or.inl rfl)) rfl 3 (by decide) (hts _ w_71) (fun _ h9 => h9) rfl (by decide +kernel) rfl rfl (Nat.le_of_ble_eq_true rfl) d_B_shape_59 (fun H1 locs1 hz1 hO1 ho1 hS => ?_)
    have hO_z := hO_z.keep (ho1 _ (by omega))
    have hA_zp1 := hA_zp1.keep (ho1 _ (by omega))
    have hA_zp2 := hA_zp2.keep (ho1 _ (by omega))
    have hB3 := hB3.keep (ho1 _ (by omega))
    have hO0 : z_O (dC, dI) H1 (A 0) 3 [.ref (A 4), .int (nI np), .ref (A 3), .int (nI (ns + 1)), .int (nI nc), .ref (A 1), .ref (A 2)] := hO1
    have hz : H1.size = s.heap.size + 3 := hz1.trans hz
    refine lv_aload_n hx hb d_B_shape_62 rfl (lv_at hl 0 rfl) ?_
    refine va_get (D := (dC, dI)) (ci := 3) (v := .int (nI (ns + 1))) (C := R_B) (T := T_B) (N := 7) hx hb hts in_B hown hK hO0.P 0 rfl rfl 3 (by decide) (hts _ w_71) (fun _ h9 => h9) rfl d_B_shape_63 ?_
    refine lv_iconst (v := 1) hx hb d_B_shape_66 (by decide) ?_
    refine lv_isub hx hb d_B_shape_67 ?_
    refine z_topi (y := nI ns) (nI_pred ns) ?_
    have hEnd := hBs.new rfl hlt hO0 hB3 hO_z hA_zp1 hA_zp2 (fun q h1 h2 => hS.2.1 q h1 (fun h => h.elim h2 (fun h => by omega)))
    exact z_wi hx hb hr hlocks ⟨rfl, hEnd⟩ hS d_B_shape_68
  · skip
    have c_1 : ¬ (ns < 32) := fun h => c_1 ((nI_ltI (a := ns) (b := 32) (by omega) (by omega)).mpr h)
    exfalso
    omega
set_option maxRecDepth 100000 in
set_option maxHeartbeats 4000000 in
theorem c_B_close_ok (G : z_G s0 (dC, dI) cI cS) (sz : Nat) (A : Nat → Nat) (np ns nc nn nm : Nat) (fv : Nat → Nat → Int32) (so sf st : Nat → Int32) (sn sc : Nat → Nat) (sp : Nat → Option Nat) (sx sy : Nat → Nat → Int32) (k : Nat) (hk : k < ns) (hcan : pc_can (sx k) (sy k) (sn k) (nI (sc k)) = true) (hnc2 : nc < 10000) : Met l y_B_close [Cond.code y_B_close b_B_close 3 (some .boolean)] ({ frames := 7, cells := 0, slots := 0, locals := 161 }) (z_Pc s0 [.ref (A 0), .int (nI k)] (fun H => H.size = sz ∧ z_BD (dC, dI) cI cS H A np ns nc nn nm fv so sf st sn sc sp sx sy)) (z_Qw (fun r H => r = some (.int (pi_b true)) ∧ z_BD (dC, dI) cI cS H A np ns (nc + 1) nn nm fv so sf st sn (va_up sc k (nc + 1)) sp sx sy) (z_fr (fun q => q = A 0 ∨ q = A (13 + 3 * k)) sz)) 0 0 (z_fr (fun q => q = A 0 ∨ q = A (13 + 3 * k)) sz) := by
  refine z_ofW (by decide +kernel) (Nat.le_of_ble_eq_true rfl) ?_
  intro p e s m below meth c hx hb hml hr hown hlocks hnm hW0 hB ls hl
  have hts := z_hts (args := [.ref (A 0), .int (nI k)].toArray) G.1 hW0
  have hN := z_nstW G.2.1 hW0
  have hK := va_K.moved hW0.alike G.2.2.1
  have hAI := arrOfT_moved hW0.alike G.2.2.2.1
  have hl : lv_has ls 3 [(0, .ref (A 0)), (1, .int (nI k))] := hl
  obtain ⟨rfl, hB⟩ := hB
  have hz : s.heap.size = s.heap.size := rfl
  have hS : va_S (z_fr (fun q => q = A 0 ∨ q = A (13 + 3 * k)) s.heap.size) s.heap s.heap [] := va_S.rf
  have hBs := hB
  obtain ⟨⟨hO0, hO1_, hO2_, hB3, hFA, hSH⟩, hinj, ⟨hnp, hns, hnn, hnm_, hnc⟩, hsb⟩ := id hB
  have hS_k := hSH k hk
  have hb_k := hsb k hk
  obtain ⟨hO_k, hX_k, hY_k⟩ := id hS_k
  have hne0 : A (0) ≠ A (13 + 3 * k) := hBs.ne (by omega) (by omega) (by omega)
  refine lv_aload_n hx hb d_B_close_0 rfl (lv_at hl 0 rfl) ?_
  refine lv_iload_n hx hb d_B_close_1 rfl (lv_at hl 1 rfl) ?_
  refine z_rdV (n := 1) (C := R_B) (rest := []) ⟨hx, hb, hml, hown, hts⟩ hW0 (c_B_shapeNumbered G A np ns nc nn nm fv so sf st sn sc sp sx sy k (by omega)) w_267 w_264 w_266 wp_2 w_1 (by decide +kernel) ⟨rfl, rfl, Nat.le_of_ble_eq_true rfl, Nat.le_of_ble_eq_true rfl⟩ (hO0.recv hK rfl) (hB) rfl rfl hl.1 (Nat.le_of_ble_eq_true rfl) d_B_close_2 ⟨Nat.zero_le _, Nat.zero_le _⟩ ?_
  refine lv_astore_n (lv' := [(2, .ref (A (13 + 3 * k))), (0, .ref (A 0)), (1, .int (nI k))]) hx hb d_B_close_5 rfl hl (by decide) rfl (fun ls hl => ?_)
  refine lv_aload_n hx hb d_B_close_6 rfl (lv_at hl 0 rfl) ?_
  refine z_rdV (n := 0) (C := R_S) (rest := []) ⟨hx, hb, hml, hown, hts⟩ hW0 (c_S_canClose G (A (13 + 3 * k)) (A (14 + 3 * k)) (A (15 + 3 * k)) (sn k) (nI k) (so k) (sf k) (st k) (nI (sc k)) (z_pv A (sp k)) (sx k) (sy k) hb_k.1) w_296 w_293 w_294 w_295 w_11 (by decide +kernel) ⟨rfl, rfl, Nat.le_of_ble_eq_true rfl, Nat.le_of_ble_eq_true rfl⟩ (hO_k.recv hK rfl) (hS_k) rfl rfl hl.1 (Nat.le_of_ble_eq_true rfl) d_B_close_7 ⟨Nat.zero_le _, Nat.zero_le _⟩ ?_
  refine lv_if_ne (tgt := 15) hx hb d_B_close_10 (by decide) (fun c_1 => ?_) (fun c_1 => ?_)
  · skip
    have c_1 : (pc_can (sx k) (sy k) (sn k) (nI (sc k))) = true := pi_b_1.mp c_1
    refine lv_aload_n hx hb d_B_close_15 rfl (lv_at hl 1 rfl) ?_
    refine lv_dup hx hb d_B_close_16 rfl ?_
    refine va_get (D := (dC, dI)) (ci := 3) (v := .int (nI nc)) (C := R_B) (T := T_B) (N := 7) hx hb hts in_B hown hK hO0.P 0 rfl rfl 4 (by decide) (hts _ w_72) (fun _ h9 => h9) rfl d_B_close_17 ?_
    refine lv_iconst (v := 1) hx hb d_B_close_20 (by decide) ?_
    refine lv_iadd hx hb d_B_close_21 ?_
    refine z_topi (y := nI (nc + 1)) (nI_add nc 1) ?_
    refine z_put (D := (dC, dI)) (ci := 3) (v := .int (nI (nc + 1))) (ty := .int) (C := R_B) (T := T_B) (N := 7) hx hb hts in_B t_B t_B_ok nm_B hown hK hO0 hS (Or.inl (Or.inl rfl)) rfl 4 (by decide) (hts _ w_72) (fun _ h9 => h9) rfl (by decide +kernel) rfl rfl (Nat.le_of_ble_eq_true rfl) d_B_close_22 (fun H1 locs1 hz1 hO1 ho1 hS => ?_)
    have hO_k := hO_k.keep (ho1 _ (by omega))
    have hO0 : z_O (dC, dI) H1 (A 0) 3 [.ref (A 4), .int (nI np), .ref (A 3), .int (nI ns), .int (nI (nc + 1)), .ref (A 1), .ref (A 2)] := hO1
    have hz : H1.size = s.heap.size := hz1.trans hz
    refine lv_aload_n hx hb d_B_close_25 rfl (lv_at hl 0 rfl) ?_
    refine lv_aload_n hx hb d_B_close_26 rfl (lv_at hl 1 rfl) ?_
    refine va_get (D := (dC, dI)) (ci := 3) (v := .int (nI (nc + 1))) (C := R_B) (T := T_B) (N := 7) hx hb hts in_B hown hK hO0.P 0 rfl rfl 4 (by decide) (hts _ w_72) (fun _ h9 => h9) rfl d_B_close_27 ?_
    refine z_put (D := (dC, dI)) (ci := 2) (v := .int (nI (nc + 1))) (ty := .int) (C := R_S) (T := T_S) (N := 9) hx hb hts in_S t_S t_S_ok nm_S hown hK hO_k hS (Or.inl (Or.inr rfl)) rfl 7 (by decide) (hts _ w_235) (fun _ h9 => h9) rfl (by decide +kernel) rfl rfl (Nat.le_of_ble_eq_true rfl) d_B_close_30 (fun H1 locs1 hz1 hO1 ho1 hS => ?_)
    have hO0 := hO0.keep (ho1 _ (by omega))
    have hO_k : z_O (dC, dI) H1 (A (13 + 3 * k)) 2 [.int (nI k), .int (so k), .int (sf k), .int (st k), .ref (A (14 + 3 * k)), .ref (A (15 + 3 * k)), .int (nI (sn k)), .int (nI (nc + 1)), z_pv A (sp k)] := hO1
    have hz : H1.size = s.heap.size := hz1.trans hz
    refine lv_iconst (v := 1) hx hb d_B_close_33 (by decide) ?_
    have hEnd := hBs.clo hk hO0 hO_k (fun q h1 h2 => hS.2.1 q h1 (fun h => h.elim h2 (fun h => by omega))) (by omega) (pc_can_3 hcan)
    exact z_wz (v := true) hx hb hr hlocks rfl ⟨rfl, hEnd⟩ hS d_B_close_34
  · skip
    have c_1 : (pc_can (sx k) (sy k) (sn k) (nI (sc k))) = false := pi_b_0.mp c_1
    exact absurd (hcan.symm.trans c_1) (by decide)
set_option maxRecDepth 100000 in
set_option maxHeartbeats 4000000 in
theorem c_B_close_no (G : z_G s0 (dC, dI) cI cS) (A : Nat → Nat) (np ns nc nn nm : Nat) (fv : Nat → Nat → Int32) (so sf st : Nat → Int32) (sn sc : Nat → Nat) (sp : Nat → Option Nat) (sx sy : Nat → Nat → Int32) (k : Nat) (hk : k < ns) (hcan : pc_can (sx k) (sy k) (sn k) (nI (sc k)) = false) : Met l y_B_close [Cond.code y_B_close b_B_close 3 (some .boolean)] ({ frames := 7, cells := 0, slots := 0, locals := 161 }) (z_Pc s0 [.ref (A 0), .int (nI k)] (fun H => z_BD (dC, dI) cI cS H A np ns nc nn nm fv so sf st sn sc sp sx sy)) (z_Qr (some (.int (pi_b false)))) 0 0 z_no := by
  refine z_ofW (by decide +kernel) (Nat.le_of_ble_eq_true rfl) ?_
  intro p e s m below meth c hx hb hml hr hown hlocks hnm hW0 hB ls hl
  have hts := z_hts (args := [.ref (A 0), .int (nI k)].toArray) G.1 hW0
  have hN := z_nstW G.2.1 hW0
  have hK := va_K.moved hW0.alike G.2.2.1
  have hAI := arrOfT_moved hW0.alike G.2.2.2.1
  have hl : lv_has ls 3 [(0, .ref (A 0)), (1, .int (nI k))] := hl
  have hBs := hB
  obtain ⟨⟨hO0, hO1_, hO2_, hB3, hFA, hSH⟩, hinj, ⟨hnp, hns, hnn, hnm_, hnc⟩, hsb⟩ := id hB
  have hS_k := hSH k hk
  have hb_k := hsb k hk
  obtain ⟨hO_k, hX_k, hY_k⟩ := id hS_k
  refine lv_aload_n hx hb d_B_close_0 rfl (lv_at hl 0 rfl) ?_
  refine lv_iload_n hx hb d_B_close_1 rfl (lv_at hl 1 rfl) ?_
  refine z_rdV (n := 1) (C := R_B) (rest := []) ⟨hx, hb, hml, hown, hts⟩ hW0 (c_B_shapeNumbered G A np ns nc nn nm fv so sf st sn sc sp sx sy k (by omega)) w_267 w_264 w_266 wp_2 w_1 (by decide +kernel) ⟨rfl, rfl, Nat.le_of_ble_eq_true rfl, Nat.le_of_ble_eq_true rfl⟩ (hO0.recv hK rfl) (hB) rfl rfl hl.1 (Nat.le_of_ble_eq_true rfl) d_B_close_2 ⟨Nat.zero_le _, Nat.zero_le _⟩ ?_
  refine lv_astore_n (lv' := [(2, .ref (A (13 + 3 * k))), (0, .ref (A 0)), (1, .int (nI k))]) hx hb d_B_close_5 rfl hl (by decide) rfl (fun ls hl => ?_)
  refine lv_aload_n hx hb d_B_close_6 rfl (lv_at hl 0 rfl) ?_
  refine z_rdV (n := 0) (C := R_S) (rest := []) ⟨hx, hb, hml, hown, hts⟩ hW0 (c_S_canClose G (A (13 + 3 * k)) (A (14 + 3 * k)) (A (15 + 3 * k)) (sn k) (nI k) (so k) (sf k) (st k) (nI (sc k)) (z_pv A (sp k)) (sx k) (sy k) hb_k.1) w_296 w_293 w_294 w_295 w_11 (by decide +kernel) ⟨rfl, rfl, Nat.le_of_ble_eq_true rfl, Nat.le_of_ble_eq_true rfl⟩ (hO_k.recv hK rfl) (hS_k) rfl rfl hl.1 (Nat.le_of_ble_eq_true rfl) d_B_close_7 ⟨Nat.zero_le _, Nat.zero_le _⟩ ?_
  refine lv_if_ne (tgt := 15) hx hb d_B_close_10 (by decide) (fun c_1 => ?_) (fun c_1 => ?_)
  · skip
    have c_1 : (pc_can (sx k) (sy k) (sn k) (nI (sc k))) = true := pi_b_1.mp c_1
    exact absurd (c_1.symm.trans hcan) (by decide)
  · skip
    have c_1 : (pc_can (sx k) (sy k) (sn k) (nI (sc k))) = false := pi_b_0.mp c_1
    refine lv_iconst (v := 0) hx hb d_B_close_13 (by decide) ?_
    exact z_zret hx hb hr hlocks (by rfl) d_B_close_14
set_option maxRecDepth 100000 in
set_option maxHeartbeats 4000000 in
theorem c_B_corner (G : z_G s0 (dC, dI) cI cS) (sz : Nat) (A : Nat → Nat) (np ns nc nn nm : Nat) (fv : Nat → Nat → Int32) (so sf st : Nat → Int32) (sn sc : Nat → Nat) (sp : Nat → Option Nat) (sx sy : Nat → Nat → Int32) (k : Nat) (hk : k < ns) (x y : Int32) (hp : z_pt x y) (hop : ¬ 0 < sc k) (hlt : sn k < 12) : Met l y_B_corner [Cond.code y_B_corner b_B_corner 5 (some .int)] ({ frames := 1, cells := 0, slots := 0, locals := 22 }) (z_Pc s0 [.ref (A 0), .int (nI k), .int x, .int y] (fun H => H.size = sz ∧ z_BD (dC, dI) cI cS H A np ns nc nn nm fv so sf st sn sc sp sx sy)) (z_Qw (fun r H => r = some (.int (nI (sn k + 1))) ∧ z_BD (dC, dI) cI cS H A np ns nc nn nm fv so sf st (va_up sn k (sn k + 1)) sc sp (va_up sx k (upd (sx k) (sn k) x)) (va_up sy k (upd (sy k) (sn k) y))) (z_fr (z_bF A ns) sz)) 0 0 (z_fr (z_bF A ns) sz) := by
  refine z_ofW (by decide +kernel) (Nat.le_of_ble_eq_true rfl) ?_
  intro p e s m below meth c hx hb hml hr hown hlocks hnm hW0 hB ls hl
  have hts := z_hts (args := [.ref (A 0), .int (nI k), .int x, .int y].toArray) G.1 hW0
  have hN := z_nstW G.2.1 hW0
  have hK := va_K.moved hW0.alike G.2.2.1
  have hAI := arrOfT_moved hW0.alike G.2.2.2.1
  have hl : lv_has ls 5 [(0, .ref (A 0)), (1, .int (nI k)), (2, .int x), (3, .int y)] := hl
  obtain ⟨rfl, hB⟩ := hB
  have hS : va_S (z_fr (z_bF A ns) s.heap.size) s.heap s.heap [] := va_S.rf
  have hBs := hB
  obtain ⟨⟨hO0, hO1_, hO2_, hB3, hFA, hSH⟩, hinj, ⟨hnp, hns, hnn, hnm_, hnc⟩, hsb⟩ := id hB
  have hS_k := hSH k hk
  have hb_k := hsb k hk
  obtain ⟨hO_k, hX_k, hY_k⟩ := id hS_k
  have hne0 : A (13 + 3 * k) ≠ A (14 + 3 * k) := hBs.ne (by omega) (by omega) (by omega)
  have hne1 : A (13 + 3 * k) ≠ A (15 + 3 * k) := hBs.ne (by omega) (by omega) (by omega)
  have hne2 : A (14 + 3 * k) ≠ A (15 + 3 * k) := hBs.ne (by omega) (by omega) (by omega)
  have hz0 : sc k = 0 := by omega
  have hop2 : ¬ 0 < nI (sc k) := by rw [hz0]; decide
  refine lv_aload_n hx hb d_B_corner_0 rfl (lv_at hl 0 rfl) ?_
  refine lv_iload_n hx hb d_B_corner_1 rfl (lv_at hl 1 rfl) ?_
  refine z_rdV (n := 1) (C := R_B) (rest := []) ⟨hx, hb, hml, hown, hts⟩ hW0 (c_B_shapeNumbered G A np ns nc nn nm fv so sf st sn sc sp sx sy k (by omega)) w_267 w_264 w_266 wp_2 w_1 (by decide +kernel) ⟨rfl, rfl, Nat.le_of_ble_eq_true rfl, Nat.le_of_ble_eq_true rfl⟩ (hO0.recv hK rfl) (hB) rfl rfl hl.1 (Nat.le_of_ble_eq_true rfl) d_B_corner_2 ⟨Nat.zero_le _, Nat.zero_le _⟩ ?_
  refine lv_astore (lv' := [(4, .ref (A (13 + 3 * k))), (0, .ref (A 0)), (1, .int (nI k)), (2, .int x), (3, .int y)]) hx hb d_B_corner_5 hl (by decide) rfl (fun ls hl => ?_)
  refine lv_iload_n hx hb d_B_corner_7 rfl (lv_at hl 3 rfl) ?_
  refine lv_iload_n hx hb d_B_corner_8 rfl (lv_at hl 4 rfl) ?_
  refine z_rdSv (n := 2) (rest := []) ⟨hx, hb, hml, hown, hts⟩ hW0 (c_B_requirePoint G x y hp) w_271 w_269 w_270 w_1 (by decide +kernel) ⟨rfl, rfl, Nat.le_of_ble_eq_true rfl, Nat.le_of_ble_eq_true rfl⟩ (trivial) rfl rfl hl.1 (Nat.le_of_ble_eq_true rfl) d_B_corner_9 ⟨Nat.zero_le _, Nat.zero_le _⟩ ?_
  refine lv_aload hx hb d_B_corner_12 (lv_at hl 0 rfl) ?_
  refine z_rdV (n := 0) (C := R_S) (rest := []) ⟨hx, hb, hml, hown, hts⟩ hW0 (c_S_isClosed G (A (13 + 3 * k)) (A (14 + 3 * k)) (A (15 + 3 * k)) (sn k) (nI k) (so k) (sf k) (st k) (nI (sc k)) (z_pv A (sp k)) (sx k) (sy k)) w_276 w_273 w_274 w_275 w_11 (by decide +kernel) ⟨rfl, rfl, Nat.le_of_ble_eq_true rfl, Nat.le_of_ble_eq_true rfl⟩ (hO_k.recv hK rfl) (hS_k) rfl rfl hl.1 (Nat.le_of_ble_eq_true rfl) d_B_corner_14 ⟨Nat.zero_le _, Nat.zero_le _⟩ ?_
  refine lv_if_ne (tgt := 28) hx hb d_B_corner_17 (by decide) (fun c_1 => ?_) (fun c_1 => ?_)
  · skip
    have c_1 : (0 < nI (sc k)) := of_decide_eq_true (pi_b_1.mp c_1)
    exact absurd c_1 hop2
  · skip
    have c_1 : ¬ (0 < nI (sc k)) := of_decide_eq_false (pi_b_0.mp c_1)
    refine lv_aload hx hb d_B_corner_20 (lv_at hl 0 rfl) ?_
    refine z_rdV (n := 0) (C := R_S) (rest := []) ⟨hx, hb, hml, hown, hts⟩ hW0 (c_S_isFull G (A (13 + 3 * k)) (A (14 + 3 * k)) (A (15 + 3 * k)) (sn k) (nI k) (so k) (sf k) (st k) (nI (sc k)) (z_pv A (sp k)) (sx k) (sy k) hb_k.1) w_280 w_277 w_278 w_279 w_11 (by decide +kernel) ⟨rfl, rfl, Nat.le_of_ble_eq_true rfl, Nat.le_of_ble_eq_true rfl⟩ (hO_k.recv hK rfl) (hS_k) rfl rfl hl.1 (Nat.le_of_ble_eq_true rfl) d_B_corner_22 ⟨Nat.zero_le _, Nat.zero_le _⟩ ?_
    refine lv_if_eq (tgt := 38) hx hb d_B_corner_25 (by decide) (fun c_2 => ?_) (fun c_2 => ?_)
    · skip
      have c_2 : ¬ (12 ≤ sn k) := of_decide_eq_false (pi_b_0.mp c_2)
      refine lv_aload hx hb d_B_corner_38 (lv_at hl 0 rfl) ?_
      refine lv_iload_n hx hb d_B_corner_40 rfl (lv_at hl 3 rfl) ?_
      refine lv_iload_n hx hb d_B_corner_41 rfl (lv_at hl 4 rfl) ?_
      refine z_wrV (n := 2) (C := R_S) (rest := []) ⟨hx, hb, hml, hown, hts⟩ hW0 (c_S_addCorner G _ (A (13 + 3 * k)) (A (14 + 3 * k)) (A (15 + 3 * k)) (sn k) (nI k) (so k) (sf k) (st k) (nI (sc k)) (z_pv A (sp k)) (sx k) (sy k) x y hlt hne0 hne1 hne2) w_285 w_282 w_283 w_284 w_11 (by decide +kernel) ⟨rfl, rfl, Nat.le_of_ble_eq_true rfl, Nat.le_of_ble_eq_true rfl⟩ (hO_k.recv hK rfl) ⟨rfl, hS_k⟩ rfl rfl hl.1 (Nat.le_of_ble_eq_true rfl) d_B_corner_42 ⟨Nat.le_of_ble_eq_true rfl, Nat.le_of_ble_eq_true rfl⟩ hS (fun q h => by rcases h with (e | e | e) | h; exact Or.inl ⟨13 + 3 * k, by omega, e⟩; exact Or.inl ⟨14 + 3 * k, by omega, e⟩; exact Or.inl ⟨15 + 3 * k, by omega, e⟩; exact Or.inr (by have := hS.1; omega)) (fun H1 locs1 hP1 hz1 hk1 hS => ?_)
      have hEnd := hBs.cor hk hP1 (fun q h1 h2 => hk1 q h1 (fun h => h.elim h2 (fun h => by omega))) (by omega) (fun h => absurd h hop)
      exact z_wi hx hb hr hlocks ⟨rfl, hEnd⟩ hS d_B_corner_45
    · skip
      have c_2 : (12 ≤ sn k) := of_decide_eq_true (pi_b_1.mp c_2)
      exfalso
      first | exact absurd (by assumption) hop2 | omega
set_option maxRecDepth 100000 in
set_option maxHeartbeats 4000000 in
theorem c_B_name (G : z_G s0 (dC, dI) cI cS) (sz : Nat) (A : Nat → Nat) (np ns nc nn nm : Nat) (fv : Nat → Nat → Int32) (so sf st : Nat → Int32) (sn sc : Nat → Nat) (sp : Nat → Option Nat) (sx sy : Nat → Nat → Int32) (k : Nat) (hk : k < np) (n0 f t : Int32) (hd1 : z_day f) (hd2 : z_day t) (hle : f ≤ t) (hnn0 : 0 ≤ n0) (hlt : nn < 40) : Met l y_B_name [Cond.code y_B_name b_B_name 5 none] ({ frames := 2, cells := 0, slots := 0, locals := 41 }) (z_Pc s0 [.ref (A 0), .int (nI k), .int n0, .int f, .int t] (fun H => H.size = sz ∧ z_BD (dC, dI) cI cS H A np ns nc nn nm fv so sf st sn sc sp sx sy)) (z_Qw (fun r H => r = none ∧ z_BD (dC, dI) cI cS H A np ns nc (nn + 1) nm (va_up (va_up (va_up (va_up fv 1 (upd (fv 1) nn (nI k))) 2 (upd (fv 2) nn n0)) 3 (upd (fv 3) nn f)) 4 (upd (fv 4) nn t)) so sf st sn sc sp sx sy) (z_fr (z_bF A ns) sz)) 0 0 (z_fr (z_bF A ns) sz) := by
  refine z_ofW (by decide +kernel) (Nat.le_of_ble_eq_true rfl) ?_
  intro p e s m below meth c hx hb hml hr hown hlocks hnm hW0 hB ls hl
  have hts := z_hts (args := [.ref (A 0), .int (nI k), .int n0, .int f, .int t].toArray) G.1 hW0
  have hN := z_nstW G.2.1 hW0
  have hK := va_K.moved hW0.alike G.2.2.1
  have hAI := arrOfT_moved hW0.alike G.2.2.2.1
  have hl : lv_has ls 5 [(0, .ref (A 0)), (1, .int (nI k)), (2, .int n0), (3, .int f), (4, .int t)] := hl
  obtain ⟨rfl, hB⟩ := hB
  have hS : va_S (z_fr (z_bF A ns) s.heap.size) s.heap s.heap [] := va_S.rf
  have hBs := hB
  obtain ⟨⟨hO0, hO1_, hO2_, hB3, hFA, hSH⟩, hinj, ⟨hnp, hns, hnn, hnm_, hnc⟩, hsb⟩ := id hB
  have hNm : z_Nm (dC, dI) cI s.heap (A 1) (A 5) (A 6) (A 7) (A 8) nn (fv 1) (fv 2) (fv 3) (fv 4) := ⟨hO1_, hFA 1 (by omega), hFA 2 (by omega), hFA 3 (by omega), hFA 4 (by omega)⟩
  have hne0 : A (1) ≠ A (5) := hBs.ne (by omega) (by omega) (by omega)
  have hne1 : A (1) ≠ A (6) := hBs.ne (by omega) (by omega) (by omega)
  have hne2 : A (1) ≠ A (7) := hBs.ne (by omega) (by omega) (by omega)
  have hne3 : A (1) ≠ A (8) := hBs.ne (by omega) (by omega) (by omega)
  have hne4 : A (5) ≠ A (6) := hBs.ne (by omega) (by omega) (by omega)
  have hne5 : A (5) ≠ A (7) := hBs.ne (by omega) (by omega) (by omega)
  have hne6 : A (5) ≠ A (8) := hBs.ne (by omega) (by omega) (by omega)
  have hne7 : A (6) ≠ A (7) := hBs.ne (by omega) (by omega) (by omega)
  have hne8 : A (6) ≠ A (8) := hBs.ne (by omega) (by omega) (by omega)
  have hne9 : A (7) ≠ A (8) := hBs.ne (by omega) (by omega) (by omega)
  refine lv_aload_n hx hb d_B_name_0 rfl (lv_at hl 0 rfl) ?_
  refine lv_iload_n hx hb d_B_name_1 rfl (lv_at hl 1 rfl) ?_
  refine z_rdVv (n := 1) (C := R_B) (rest := []) ⟨hx, hb, hml, hown, hts⟩ hW0 (c_B_requirePlace G A np ns nc nn nm fv so sf st sn sc sp sx sy k (by omega)) w_102 w_99 w_101 wp_0 w_1 (by decide +kernel) ⟨rfl, rfl, Nat.le_of_ble_eq_true rfl, Nat.le_of_ble_eq_true rfl⟩ (hO0.recv hK rfl) (hB) rfl rfl hl.1 (Nat.le_of_ble_eq_true rfl) d_B_name_2 ⟨Nat.zero_le _, Nat.zero_le _⟩ ?_
  refine lv_iload_n hx hb d_B_name_5 rfl (lv_at hl 3 rfl) ?_
  refine lv_iload hx hb d_B_name_6 (lv_at hl 4 rfl) ?_
  refine z_rdSv (n := 2) (rest := []) ⟨hx, hb, hml, hown, hts⟩ hW0 (c_B_requireSpan G f t hd1 hd2 hle) w_197 w_195 w_196 w_1 (by decide +kernel) ⟨rfl, rfl, Nat.le_of_ble_eq_true rfl, Nat.le_of_ble_eq_true rfl⟩ (trivial) rfl rfl hl.1 (Nat.le_of_ble_eq_true rfl) d_B_name_8 ⟨Nat.zero_le _, Nat.zero_le _⟩ ?_
  refine lv_iload_n hx hb d_B_name_11 rfl (lv_at hl 2 rfl) ?_
  refine lv_if_ge (tgt := 25) hx hb d_B_name_12 (by decide) (fun c_1 => ?_) (fun c_1 => ?_)
  · skip
    have c_1' : ¬ (n0 < (0 : Int32)) := Int32.not_lt.mpr c_1
    refine lv_aload_n hx hb d_B_name_25 rfl (lv_at hl 0 rfl) ?_
    refine va_get (D := (dC, dI)) (ci := 3) (v := .ref (A 1)) (C := R_B) (T := T_B) (N := 7) hx hb hts in_B hown hK hO0.P 0 rfl rfl 5 (by decide) (hts _ w_73) (fun _ h9 => h9) rfl d_B_name_26 ?_
    refine z_rdV (n := 0) (C := R_N) (rest := []) ⟨hx, hb, hml, hown, hts⟩ hW0 (c_N_isFull G (A 1) (A 5) (A 6) (A 7) (A 8) nn (fv 1) (fv 2) (fv 3) (fv 4) hnn) w_451 w_448 w_449 w_450 w_2 (by decide +kernel) ⟨rfl, rfl, Nat.le_of_ble_eq_true rfl, Nat.le_of_ble_eq_true rfl⟩ (hO1_.recv hK rfl) (hNm) rfl rfl hl.1 (Nat.le_of_ble_eq_true rfl) d_B_name_29 ⟨Nat.zero_le _, Nat.zero_le _⟩ ?_
    refine lv_if_eq (tgt := 45) hx hb d_B_name_32 (by decide) (fun c_2 => ?_) (fun c_2 => ?_)
    · skip
      have c_2 : ¬ (40 ≤ nn) := of_decide_eq_false (pi_b_0.mp c_2)
      refine lv_aload_n hx hb d_B_name_45 rfl (lv_at hl 0 rfl) ?_
      refine va_get (D := (dC, dI)) (ci := 3) (v := .ref (A 1)) (C := R_B) (T := T_B) (N := 7) hx hb hts in_B hown hK hO0.P 0 rfl rfl 5 (by decide) (hts _ w_73) (fun _ h9 => h9) rfl d_B_name_46 ?_
      refine lv_iload_n hx hb d_B_name_49 rfl (lv_at hl 1 rfl) ?_
      refine lv_iload_n hx hb d_B_name_50 rfl (lv_at hl 2 rfl) ?_
      refine lv_iload_n hx hb d_B_name_51 rfl (lv_at hl 3 rfl) ?_
      refine lv_iload hx hb d_B_name_52 (lv_at hl 4 rfl) ?_
      refine z_wrVv (n := 4) (C := R_N) (rest := []) ⟨hx, hb, hml, hown, hts⟩ hW0 (c_N_add G _ (A 1) (A 5) (A 6) (A 7) (A 8) nn (fv 1) (fv 2) (fv 3) (fv 4) (nI k) n0 f t hlt hne0 hne1 hne2 hne3 hne4 hne5 hne6 hne7 hne8 hne9) w_456 w_453 w_454 w_455 w_2 (by decide +kernel) ⟨rfl, rfl, Nat.le_of_ble_eq_true rfl, Nat.le_of_ble_eq_true rfl⟩ (hO1_.recv hK rfl) ⟨rfl, hNm⟩ rfl rfl hl.1 (Nat.le_of_ble_eq_true rfl) d_B_name_54 ⟨Nat.le_of_ble_eq_true rfl, Nat.le_of_ble_eq_true rfl⟩ hS (fun q h => by rcases h with (e | e | e | e | e) | h; exact Or.inl ⟨1, by omega, e⟩; exact Or.inl ⟨5, by omega, e⟩; exact Or.inl ⟨6, by omega, e⟩; exact Or.inl ⟨7, by omega, e⟩; exact Or.inl ⟨8, by omega, e⟩; exact Or.inr (by have := hS.1; omega)) (fun H1 locs1 hP1 hz1 hk1 hS => ?_)
      have hEnd := hBs.nam hP1 (fun q h1 h2 => hk1 q h1 (fun h => h.elim h2 (fun h => by omega))) (by omega)
      exact z_wv hx hb hr hlocks ⟨rfl, hEnd⟩ hS d_B_name_57
    · skip
      have c_2 : (40 ≤ nn) := of_decide_eq_true (pi_b_1.mp c_2)
      exfalso
      first | exact absurd hnn0 (by assumption) | omega
  · skip
    have c_1' : n0 < (0 : Int32) := Int32.not_le.mp c_1
    exact absurd hnn0 c_1
set_option maxRecDepth 100000 in
set_option maxHeartbeats 4000000 in
theorem c_B_mark (G : z_G s0 (dC, dI) cI cS) (sz : Nat) (A : Nat → Nat) (np ns nc nn nm : Nat) (fv : Nat → Nat → Int32) (so sf st : Nat → Int32) (sn sc : Nat → Nat) (sp : Nat → Option Nat) (sx sy : Nat → Nat → Int32) (x y u v : Int32) (hp : z_pt x y) (hp2 : z_pt u v) (hlt : nm < 12) : Met l y_B_mark [Cond.code y_B_mark b_B_mark 5 (some .int)] ({ frames := 1, cells := 0, slots := 0, locals := 24 }) (z_Pc s0 [.ref (A 0), .int x, .int y, .int u, .int v] (fun H => H.size = sz ∧ z_BD (dC, dI) cI cS H A np ns nc nn nm fv so sf st sn sc sp sx sy)) (z_Qw (fun r H => r = some (.int (nI nm)) ∧ z_BD (dC, dI) cI cS H A np ns nc nn (nm + 1) (va_up (va_up (va_up (va_up fv 5 (upd (fv 5) nm x)) 6 (upd (fv 6) nm y)) 7 (upd (fv 7) nm u)) 8 (upd (fv 8) nm v)) so sf st sn sc sp sx sy) (z_fr (z_bF A ns) sz)) 0 0 (z_fr (z_bF A ns) sz) := by
  refine z_ofW (by decide +kernel) (Nat.le_of_ble_eq_true rfl) ?_
  intro p e s m below meth c hx hb hml hr hown hlocks hnm hW0 hB ls hl
  have hts := z_hts (args := [.ref (A 0), .int x, .int y, .int u, .int v].toArray) G.1 hW0
  have hN := z_nstW G.2.1 hW0
  have hK := va_K.moved hW0.alike G.2.2.1
  have hAI := arrOfT_moved hW0.alike G.2.2.2.1
  have hl : lv_has ls 5 [(0, .ref (A 0)), (1, .int x), (2, .int y), (3, .int u), (4, .int v)] := hl
  obtain ⟨rfl, hB⟩ := hB
  have hS : va_S (z_fr (z_bF A ns) s.heap.size) s.heap s.heap [] := va_S.rf
  have hBs := hB
  obtain ⟨⟨hO0, hO1_, hO2_, hB3, hFA, hSH⟩, hinj, ⟨hnp, hns, hnn, hnm_, hnc⟩, hsb⟩ := id hB
  have hOm : z_Om (dC, dI) cI s.heap (A 2) (A 9) (A 10) (A 11) (A 12) nm (fv 5) (fv 6) (fv 7) (fv 8) := ⟨hO2_, hFA 5 (by omega), hFA 6 (by omega), hFA 7 (by omega), hFA 8 (by omega)⟩
  have hne0 : A (2) ≠ A (9) := hBs.ne (by omega) (by omega) (by omega)
  have hne1 : A (2) ≠ A (10) := hBs.ne (by omega) (by omega) (by omega)
  have hne2 : A (2) ≠ A (11) := hBs.ne (by omega) (by omega) (by omega)
  have hne3 : A (2) ≠ A (12) := hBs.ne (by omega) (by omega) (by omega)
  have hne4 : A (9) ≠ A (10) := hBs.ne (by omega) (by omega) (by omega)
  have hne5 : A (9) ≠ A (11) := hBs.ne (by omega) (by omega) (by omega)
  have hne6 : A (9) ≠ A (12) := hBs.ne (by omega) (by omega) (by omega)
  have hne7 : A (10) ≠ A (11) := hBs.ne (by omega) (by omega) (by omega)
  have hne8 : A (10) ≠ A (12) := hBs.ne (by omega) (by omega) (by omega)
  have hne9 : A (11) ≠ A (12) := hBs.ne (by omega) (by omega) (by omega)
  refine lv_iload_n hx hb d_B_mark_0 rfl (lv_at hl 1 rfl) ?_
  refine lv_iload_n hx hb d_B_mark_1 rfl (lv_at hl 2 rfl) ?_
  refine z_rdSv (n := 2) (rest := []) ⟨hx, hb, hml, hown, hts⟩ hW0 (c_B_requirePoint G x y hp) w_271 w_269 w_270 w_1 (by decide +kernel) ⟨rfl, rfl, Nat.le_of_ble_eq_true rfl, Nat.le_of_ble_eq_true rfl⟩ (trivial) rfl rfl hl.1 (Nat.le_of_ble_eq_true rfl) d_B_mark_2 ⟨Nat.zero_le _, Nat.zero_le _⟩ ?_
  refine lv_iload_n hx hb d_B_mark_5 rfl (lv_at hl 3 rfl) ?_
  refine lv_iload hx hb d_B_mark_6 (lv_at hl 4 rfl) ?_
  refine z_rdSv (n := 2) (rest := []) ⟨hx, hb, hml, hown, hts⟩ hW0 (c_B_requirePoint G u v hp2) w_271 w_269 w_270 w_1 (by decide +kernel) ⟨rfl, rfl, Nat.le_of_ble_eq_true rfl, Nat.le_of_ble_eq_true rfl⟩ (trivial) rfl rfl hl.1 (Nat.le_of_ble_eq_true rfl) d_B_mark_8 ⟨Nat.zero_le _, Nat.zero_le _⟩ ?_
  refine lv_aload_n hx hb d_B_mark_11 rfl (lv_at hl 0 rfl) ?_
  refine va_get (D := (dC, dI)) (ci := 3) (v := .ref (A 2)) (C := R_B) (T := T_B) (N := 7) hx hb hts in_B hown hK hO0.P 0 rfl rfl 6 (by decide) (hts _ w_74) (fun _ h9 => h9) rfl d_B_mark_12 ?_
  refine z_rdV (n := 0) (C := R_O) (rest := []) ⟨hx, hb, hml, hown, hts⟩ hW0 (c_O_isFull G (A 2) (A 9) (A 10) (A 11) (A 12) nm (fv 5) (fv 6) (fv 7) (fv 8) hnm_) w_478 w_475 w_476 w_477 w_3 (by decide +kernel) ⟨rfl, rfl, Nat.le_of_ble_eq_true rfl, Nat.le_of_ble_eq_true rfl⟩ (hO2_.recv hK rfl) (hOm) rfl rfl hl.1 (Nat.le_of_ble_eq_true rfl) d_B_mark_15 ⟨Nat.zero_le _, Nat.zero_le _⟩ ?_
  refine lv_if_eq (tgt := 31) hx hb d_B_mark_18 (by decide) (fun c_1 => ?_) (fun c_1 => ?_)
  · skip
    have c_1 : ¬ (12 ≤ nm) := of_decide_eq_false (pi_b_0.mp c_1)
    refine lv_aload_n hx hb d_B_mark_31 rfl (lv_at hl 0 rfl) ?_
    refine va_get (D := (dC, dI)) (ci := 3) (v := .ref (A 2)) (C := R_B) (T := T_B) (N := 7) hx hb hts in_B hown hK hO0.P 0 rfl rfl 6 (by decide) (hts _ w_74) (fun _ h9 => h9) rfl d_B_mark_32 ?_
    refine lv_iload_n hx hb d_B_mark_35 rfl (lv_at hl 1 rfl) ?_
    refine lv_iload_n hx hb d_B_mark_36 rfl (lv_at hl 2 rfl) ?_
    refine lv_iload_n hx hb d_B_mark_37 rfl (lv_at hl 3 rfl) ?_
    refine lv_iload hx hb d_B_mark_38 (lv_at hl 4 rfl) ?_
    refine z_wrV (n := 4) (C := R_O) (rest := []) ⟨hx, hb, hml, hown, hts⟩ hW0 (c_O_add G _ (A 2) (A 9) (A 10) (A 11) (A 12) nm (fv 5) (fv 6) (fv 7) (fv 8) x y u v hlt hne0 hne1 hne2 hne3 hne4 hne5 hne6 hne7 hne8 hne9) w_483 w_480 w_481 w_482 w_3 (by decide +kernel) ⟨rfl, rfl, Nat.le_of_ble_eq_true rfl, Nat.le_of_ble_eq_true rfl⟩ (hO2_.recv hK rfl) ⟨rfl, hOm⟩ rfl rfl hl.1 (Nat.le_of_ble_eq_true rfl) d_B_mark_40 ⟨Nat.le_of_ble_eq_true rfl, Nat.le_of_ble_eq_true rfl⟩ hS (fun q h => by rcases h with (e | e | e | e | e) | h; exact Or.inl ⟨2, by omega, e⟩; exact Or.inl ⟨9, by omega, e⟩; exact Or.inl ⟨10, by omega, e⟩; exact Or.inl ⟨11, by omega, e⟩; exact Or.inl ⟨12, by omega, e⟩; exact Or.inr (by have := hS.1; omega)) (fun H1 locs1 hP1 hz1 hk1 hS => ?_)
    have hEnd := hBs.mrk hP1 (fun q h1 h2 => hk1 q h1 (fun h => h.elim h2 (fun h => by omega))) (by omega)
    exact z_wi hx hb hr hlocks ⟨rfl, hEnd⟩ hS d_B_mark_43
  · skip
    have c_1 : (12 ≤ nm) := of_decide_eq_true (pi_b_1.mp c_1)
    exfalso
    omega
set_option maxRecDepth 100000 in
set_option maxHeartbeats 4000000 in
theorem c_S_leave_n (G : z_G s0 (dC, dI) cI cS) (sz : Nat) (A : Nat → Nat) (np ns nc nn nm : Nat) (fv : Nat → Nat → Int32) (so sf st : Nat → Int32) (sn sc : Nat → Nat) (sp : Nat → Option Nat) (sx sy : Nat → Nat → Int32) (i : Nat) (hi : i < ns) (hsp : sp i = none) : Met l y_S_leavePartner [Cond.code y_S_leavePartner b_S_leavePartner 1 none] ({ frames := 0, cells := 0, slots := 0, locals := 0 }) (z_Pc s0 [.ref (A (13 + 3 * i))] (fun H => H.size = sz ∧ z_BD (dC, dI) cI cS H A np ns nc nn nm fv so sf st sn sc sp sx sy)) (z_Qw (fun r H => r = none ∧ z_BD (dC, dI) cI cS H A np ns nc nn nm fv so sf st sn sc sp sx sy) (z_fr (z_bF A ns) sz)) 0 0 (z_fr (z_bF A ns) sz) := by
  refine z_ofW (by decide +kernel) (Nat.le_of_ble_eq_true rfl) ?_
  intro p e s m below meth c hx hb hml hr hown hlocks hnm hW0 hB ls hl
  have hts := z_hts (args := [.ref (A (13 + 3 * i))].toArray) G.1 hW0
  have hN := z_nstW G.2.1 hW0
  have hK := va_K.moved hW0.alike G.2.2.1
  have hAI := arrOfT_moved hW0.alike G.2.2.2.1
  have hl : lv_has ls 1 [(0, .ref (A (13 + 3 * i)))] := hl
  obtain ⟨rfl, hB⟩ := hB
  have hS : va_S (z_fr (z_bF A ns) s.heap.size) s.heap s.heap [] := va_S.rf
  have hBs := hB
  obtain ⟨⟨hO0, hO1_, hO2_, hB3, hFA, hSH⟩, hinj, ⟨hnp, hns, hnn, hnm_, hnc⟩, hsb⟩ := id hB
  have hS_i := hSH i hi
  have hb_i := hsb i hi
  obtain ⟨hO_i, hX_i, hY_i⟩ := id hS_i
  rw [hsp] at hO_i
  refine lv_aload_n hx hb d_S_leavePartner_0 rfl (lv_at hl 0 rfl) ?_
  refine va_get (D := (dC, dI)) (ci := 2) (v := .null) (C := R_S) (T := T_S) (N := 9) hx hb hts in_S hown hK hO_i.P 0 rfl rfl 8 (by decide) (hts _ w_236) (fun _ h9 => h9) rfl d_S_leavePartner_1 ?_
  refine lv_ifnullN (tgt := 20) hx hb d_S_leavePartner_4 (by decide) ?_
  have hEnd := hB
  exact z_wv hx hb hr hlocks ⟨rfl, hEnd⟩ hS d_S_leavePartner_20
set_option maxRecDepth 100000 in
set_option maxHeartbeats 4000000 in
theorem c_S_leave_s (G : z_G s0 (dC, dI) cI cS) (sz : Nat) (A : Nat → Nat) (np ns nc nn nm : Nat) (fv : Nat → Nat → Int32) (so sf st : Nat → Int32) (sn sc : Nat → Nat) (sp : Nat → Option Nat) (sx sy : Nat → Nat → Int32) (i : Nat) (hi : i < ns) (j : Nat) (hj : j < ns) (hsp : sp i = some j) : Met l y_S_leavePartner [Cond.code y_S_leavePartner b_S_leavePartner 1 none] ({ frames := 0, cells := 0, slots := 0, locals := 0 }) (z_Pc s0 [.ref (A (13 + 3 * i))] (fun H => H.size = sz ∧ z_BD (dC, dI) cI cS H A np ns nc nn nm fv so sf st sn sc sp sx sy)) (z_Qw (fun r H => r = none ∧ z_BD (dC, dI) cI cS H A np ns nc nn nm fv so sf st sn sc (va_up (va_up sp j none) i none) sx sy) (z_fr (z_bF A ns) sz)) 0 0 (z_fr (z_bF A ns) sz) := by
  refine z_ofW (by decide +kernel) (Nat.le_of_ble_eq_true rfl) ?_
  intro p e s m below meth c hx hb hml hr hown hlocks hnm hW0 hB ls hl
  have hts := z_hts (args := [.ref (A (13 + 3 * i))].toArray) G.1 hW0
  have hN := z_nstW G.2.1 hW0
  have hK := va_K.moved hW0.alike G.2.2.1
  have hAI := arrOfT_moved hW0.alike G.2.2.2.1
  have hl : lv_has ls 1 [(0, .ref (A (13 + 3 * i)))] := hl
  obtain ⟨rfl, hB⟩ := hB
  have hS : va_S (z_fr (z_bF A ns) s.heap.size) s.heap s.heap [] := va_S.rf
  have hBs := hB
  obtain ⟨⟨hO0, hO1_, hO2_, hB3, hFA, hSH⟩, hinj, ⟨hnp, hns, hnn, hnm_, hnc⟩, hsb⟩ := id hB
  have hS_i := hSH i hi
  have hb_i := hsb i hi
  obtain ⟨hO_i, hX_i, hY_i⟩ := id hS_i
  have hS_j := hSH j hj
  have hb_j := hsb j hj
  obtain ⟨hO_j, hX_j, hY_j⟩ := id hS_j
  rw [hsp] at hO_i
  refine lv_aload_n hx hb d_S_leavePartner_0 rfl (lv_at hl 0 rfl) ?_
  refine va_get (D := (dC, dI)) (ci := 2) (v := .ref (A (13 + 3 * j))) (C := R_S) (T := T_S) (N := 9) hx hb hts in_S hown hK hO_i.P 0 rfl rfl 8 (by decide) (hts _ w_236) (fun _ h9 => h9) rfl d_S_leavePartner_1 ?_
  refine lv_ifnull hx hb d_S_leavePartner_4 ?_
  refine lv_aload_n hx hb d_S_leavePartner_7 rfl (lv_at hl 0 rfl) ?_
  refine va_get (D := (dC, dI)) (ci := 2) (v := .ref (A (13 + 3 * j))) (C := R_S) (T := T_S) (N := 9) hx hb hts in_S hown hK hO_i.P 0 rfl rfl 8 (by decide) (hts _ w_236) (fun _ h9 => h9) rfl d_S_leavePartner_8 ?_
  refine lv_null hx hb d_S_leavePartner_11 ?_
  refine z_put (D := (dC, dI)) (ci := 2) (v := .null) (ty := .object "BorderDays$Shape") (C := R_S) (T := T_S) (N := 9) hx hb hts in_S t_S t_S_ok nm_S hown hK hO_j hS (Or.inl ⟨13 + 3 * j, by omega, rfl⟩) rfl 8 (by decide) (hts _ w_236) (fun _ h9 => h9) rfl (by decide +kernel) rfl rfl (Nat.le_of_ble_eq_true rfl) d_S_leavePartner_12 (fun H1 locs1 hz1 hP1 ho1 hS => ?_)
  have hB : z_BD (dC, dI) cI cS H1 A np ns nc nn nm fv so sf st sn sc (va_up sp j (none)) sx sy := hB.par (o2 := none) hj hP1 ho1 (fun j hj => by first | (cases hj; done) | (cases hj; omega))
  obtain ⟨⟨hO0, hO1_, hO2_, hB3, hFA, hSH⟩, hinj, ⟨hnp, hns, hnn, hnm_, hnc⟩, hsb⟩ := id hB
  have hS_i := hSH i hi
  have hb_i := hsb i hi
  obtain ⟨hO_i, hX_i, hY_i⟩ := id hS_i
  have hS_j := hSH j hj
  have hb_j := hsb j hj
  obtain ⟨hO_j, hX_j, hY_j⟩ := id hS_j
  refine lv_aload_n hx hb d_S_leavePartner_15 rfl (lv_at hl 0 rfl) ?_
  refine lv_null hx hb d_S_leavePartner_16 ?_
  refine z_put (D := (dC, dI)) (ci := 2) (v := .null) (ty := .object "BorderDays$Shape") (C := R_S) (T := T_S) (N := 9) hx hb hts in_S t_S t_S_ok nm_S hown hK hO_i hS (Or.inl ⟨13 + 3 * i, by omega, rfl⟩) rfl 8 (by decide) (hts _ w_236) (fun _ h9 => h9) rfl (by decide +kernel) rfl rfl (Nat.le_of_ble_eq_true rfl) d_S_leavePartner_17 (fun H1 locs1 hz1 hP1 ho1 hS => ?_)
  have hB : z_BD (dC, dI) cI cS H1 A np ns nc nn nm fv so sf st sn sc (va_up (va_up sp j (none)) i (none)) sx sy := hB.par (o2 := none) hi hP1 ho1 (fun j hj => by first | (cases hj; done) | (cases hj; omega))
  obtain ⟨⟨hO0, hO1_, hO2_, hB3, hFA, hSH⟩, hinj, ⟨hnp, hns, hnn, hnm_, hnc⟩, hsb⟩ := id hB
  have hS_i := hSH i hi
  have hb_i := hsb i hi
  obtain ⟨hO_i, hX_i, hY_i⟩ := id hS_i
  have hS_j := hSH j hj
  have hb_j := hsb j hj
  obtain ⟨hO_j, hX_j, hY_j⟩ := id hS_j
  have hEnd := hB
  exact z_wv hx hb hr hlocks ⟨rfl, hEnd⟩ hS d_S_leavePartner_20
theorem c_S_leave (G : z_G s0 (dC, dI) cI cS) (sz : Nat) (A : Nat → Nat) (np ns nc nn nm : Nat) (fv : Nat → Nat → Int32) (so sf st : Nat → Int32) (sn sc : Nat → Nat) (sp : Nat → Option Nat) (sx sy : Nat → Nat → Int32) (i : Nat) (hi : i < ns) (hj : ∀ j, sp i = some j → j < ns) : Met l y_S_leavePartner [Cond.code y_S_leavePartner b_S_leavePartner 1 none] ({ frames := 0, cells := 0, slots := 0, locals := 0 }) (z_Pc s0 [.ref (A (13 + 3 * i))] (fun H => H.size = sz ∧ z_BD (dC, dI) cI cS H A np ns nc nn nm fv so sf st sn sc sp sx sy)) (z_Qw (fun r H => r = none ∧ z_BD (dC, dI) cI cS H A np ns nc nn nm fv so sf st sn sc (pb_lv sp i) sx sy) (z_fr (z_bF A ns) sz)) 0 0 (z_fr (z_bF A ns) sz) := by
  cases h : sp i with
  | none =>
    have e : pb_lv sp i = sp := by unfold pb_lv; rw [h]
    rw [e]; exact c_S_leave_n G sz A np ns nc nn nm fv so sf st sn sc sp sx sy i hi h
  | some j =>
    have e : pb_lv sp i = va_up (va_up sp j none) i none := by unfold pb_lv; rw [h]
    rw [e]; exact c_S_leave_s G sz A np ns nc nn nm fv so sf st sn sc sp sx sy i hi j (hj j h) h
set_option maxRecDepth 100000 in
set_option maxHeartbeats 4000000 in
theorem c_B_unsure_ok (G : z_G s0 (dC, dI) cI cS) (sz : Nat) (A : Nat → Nat) (np ns nc nn nm : Nat) (fv : Nat → Nat → Int32) (so sf st : Nat → Int32) (sn sc : Nat → Nat) (sp : Nat → Option Nat) (sx sy : Nat → Nat → Int32) (i j : Nat) (hi : i < ns) (hj : j < ns) (hij : i ≠ j) (hso : so i = so j) (hc1 : 0 < nI (sc i)) (hc2 : 0 < nI (sc j)) : Met l y_B_unsure [Cond.code y_B_unsure b_B_unsure 5 (some .boolean)] ({ frames := 1, cells := 0, slots := 0, locals := 21 }) (z_Pc s0 [.ref (A 0), .int (nI i), .int (nI j)] (fun H => H.size = sz ∧ z_BD (dC, dI) cI cS H A np ns nc nn nm fv so sf st sn sc sp sx sy)) (z_Qw (fun r H => r = some (.int (pi_b true)) ∧ z_BD (dC, dI) cI cS H A np ns nc nn nm fv so sf st sn sc (va_up (va_up (pb_lv (pb_lv sp i) j) i (some j)) j (some i)) sx sy) (z_fr (z_bF A ns) sz)) 0 0 (z_fr (z_bF A ns) sz) := by
  refine z_ofW (by decide +kernel) (Nat.le_of_ble_eq_true rfl) ?_
  intro p e s m below meth c hx hb hml hr hown hlocks hnm hW0 hB ls hl
  have hts := z_hts (args := [.ref (A 0), .int (nI i), .int (nI j)].toArray) G.1 hW0
  have hN := z_nstW G.2.1 hW0
  have hK := va_K.moved hW0.alike G.2.2.1
  have hAI := arrOfT_moved hW0.alike G.2.2.2.1
  have hl : lv_has ls 5 [(0, .ref (A 0)), (1, .int (nI i)), (2, .int (nI j))] := hl
  obtain ⟨rfl, hB⟩ := hB
  have hS : va_S (z_fr (z_bF A ns) s.heap.size) s.heap s.heap [] := va_S.rf
  have hBs := hB
  obtain ⟨⟨hO0, hO1_, hO2_, hB3, hFA, hSH⟩, hinj, ⟨hnp, hns, hnn, hnm_, hnc⟩, hsb⟩ := id hB
  have hS_i := hSH i hi
  have hb_i := hsb i hi
  obtain ⟨hO_i, hX_i, hY_i⟩ := id hS_i
  have hS_j := hSH j hj
  have hb_j := hsb j hj
  obtain ⟨hO_j, hX_j, hY_j⟩ := id hS_j
  refine lv_aload_n hx hb d_B_unsure_0 rfl (lv_at hl 0 rfl) ?_
  refine lv_iload_n hx hb d_B_unsure_1 rfl (lv_at hl 1 rfl) ?_
  refine z_rdV (n := 1) (C := R_B) (rest := []) ⟨hx, hb, hml, hown, hts⟩ hW0 (c_B_shapeNumbered G A np ns nc nn nm fv so sf st sn sc sp sx sy i (by omega)) w_267 w_264 w_266 wp_2 w_1 (by decide +kernel) ⟨rfl, rfl, Nat.le_of_ble_eq_true rfl, Nat.le_of_ble_eq_true rfl⟩ (hO0.recv hK rfl) (hB) rfl rfl hl.1 (Nat.le_of_ble_eq_true rfl) d_B_unsure_2 ⟨Nat.zero_le _, Nat.zero_le _⟩ ?_
  refine lv_astore_n (lv' := [(3, .ref (A (13 + 3 * i))), (0, .ref (A 0)), (1, .int (nI i)), (2, .int (nI j))]) hx hb d_B_unsure_5 rfl hl (by decide) rfl (fun ls hl => ?_)
  refine lv_aload_n hx hb d_B_unsure_6 rfl (lv_at hl 1 rfl) ?_
  refine lv_iload_n hx hb d_B_unsure_7 rfl (lv_at hl 3 rfl) ?_
  refine z_rdV (n := 1) (C := R_B) (rest := []) ⟨hx, hb, hml, hown, hts⟩ hW0 (c_B_shapeNumbered G A np ns nc nn nm fv so sf st sn sc sp sx sy j (by omega)) w_267 w_264 w_266 wp_2 w_1 (by decide +kernel) ⟨rfl, rfl, Nat.le_of_ble_eq_true rfl, Nat.le_of_ble_eq_true rfl⟩ (hO0.recv hK rfl) (hB) rfl rfl hl.1 (Nat.le_of_ble_eq_true rfl) d_B_unsure_8 ⟨Nat.zero_le _, Nat.zero_le _⟩ ?_
  refine lv_astore (lv' := [(4, .ref (A (13 + 3 * j))), (3, .ref (A (13 + 3 * i))), (0, .ref (A 0)), (1, .int (nI i)), (2, .int (nI j))]) hx hb d_B_unsure_11 hl (by decide) rfl (fun ls hl => ?_)
  refine lv_aload_n hx hb d_B_unsure_13 rfl (lv_at hl 1 rfl) ?_
  refine lv_aload hx hb d_B_unsure_14 (lv_at hl 0 rfl) ?_
  refine lv_acmp_eq (rx := some (A (13 + 3 * i))) (ry := some (A (13 + 3 * j))) (tgt := 46) hx hb d_B_unsure_16 (by decide) (fun c_a => ?_) (fun c_a => ?_)
  · skip
    exact absurd (hinj _ _ (by omega) (by omega) (Option.some.inj c_a)) (by omega)
  · skip
    refine lv_aload_n hx hb d_B_unsure_19 rfl (lv_at hl 1 rfl) ?_
    refine va_get (D := (dC, dI)) (ci := 2) (v := .int (so i)) (C := R_S) (T := T_S) (N := 9) hx hb hts in_S hown hK hO_i.P 0 rfl rfl 1 (by decide) (hts _ w_228) (fun _ h9 => h9) rfl d_B_unsure_20 ?_
    refine lv_aload hx hb d_B_unsure_23 (lv_at hl 0 rfl) ?_
    refine va_get (D := (dC, dI)) (ci := 2) (v := .int (so j)) (C := R_S) (T := T_S) (N := 9) hx hb hts in_S hown hK hO_j.P 0 rfl rfl 1 (by decide) (hts _ w_228) (fun _ h9 => h9) rfl d_B_unsure_25 ?_
    refine lv_icmp_ne (tgt := 46) hx hb d_B_unsure_28 (by decide) (fun c_1 => ?_) (fun c_1 => ?_)
    · skip
      exact absurd hso c_1
    · skip
      refine lv_aload_n hx hb d_B_unsure_31 rfl (lv_at hl 1 rfl) ?_
      refine z_rdV (n := 0) (C := R_S) (rest := []) ⟨hx, hb, hml, hown, hts⟩ hW0 (c_S_isClosed G (A (13 + 3 * i)) (A (14 + 3 * i)) (A (15 + 3 * i)) (sn i) (nI i) (so i) (sf i) (st i) (nI (sc i)) (z_pv A (sp i)) (sx i) (sy i)) w_276 w_273 w_274 w_275 w_11 (by decide +kernel) ⟨rfl, rfl, Nat.le_of_ble_eq_true rfl, Nat.le_of_ble_eq_true rfl⟩ (hO_i.recv hK rfl) (hS_i) rfl rfl hl.1 (Nat.le_of_ble_eq_true rfl) d_B_unsure_32 ⟨Nat.zero_le _, Nat.zero_le _⟩ ?_
      refine lv_if_eq (tgt := 46) hx hb d_B_unsure_35 (by decide) (fun c_2 => ?_) (fun c_2 => ?_)
      · skip
        have c_2 : ¬ (0 < nI (sc i)) := of_decide_eq_false (pi_b_0.mp c_2)
        exact absurd hc1 c_2
      · skip
        have c_2 : (0 < nI (sc i)) := of_decide_eq_true (pi_b_1.mp c_2)
        refine lv_aload hx hb d_B_unsure_38 (lv_at hl 0 rfl) ?_
        refine z_rdV (n := 0) (C := R_S) (rest := []) ⟨hx, hb, hml, hown, hts⟩ hW0 (c_S_isClosed G (A (13 + 3 * j)) (A (14 + 3 * j)) (A (15 + 3 * j)) (sn j) (nI j) (so j) (sf j) (st j) (nI (sc j)) (z_pv A (sp j)) (sx j) (sy j)) w_276 w_273 w_274 w_275 w_11 (by decide +kernel) ⟨rfl, rfl, Nat.le_of_ble_eq_true rfl, Nat.le_of_ble_eq_true rfl⟩ (hO_j.recv hK rfl) (hS_j) rfl rfl hl.1 (Nat.le_of_ble_eq_true rfl) d_B_unsure_40 ⟨Nat.zero_le _, Nat.zero_le _⟩ ?_
        refine lv_if_ne (tgt := 48) hx hb d_B_unsure_43 (by decide) (fun c_3 => ?_) (fun c_3 => ?_)
        · skip
          have c_3 : (0 < nI (sc j)) := of_decide_eq_true (pi_b_1.mp c_3)
          refine lv_aload_n hx hb d_B_unsure_48 rfl (lv_at hl 1 rfl) ?_
          refine z_wrVv (n := 0) (C := R_S) (rest := []) ⟨hx, hb, hml, hown, hts⟩ hW0 (c_S_leave G _ A np ns nc nn nm fv so sf st sn sc sp sx sy i hi (hsb i hi).2.2.2) w_352 w_349 w_350 w_351 w_11 (by decide +kernel) ⟨rfl, rfl, Nat.le_of_ble_eq_true rfl, Nat.le_of_ble_eq_true rfl⟩ (hO_i.recv hK rfl) ⟨rfl, hB⟩ rfl rfl hl.1 (Nat.le_of_ble_eq_true rfl) d_B_unsure_49 ⟨Nat.le_of_ble_eq_true rfl, Nat.le_of_ble_eq_true rfl⟩ hS (fun q h => h.elim Or.inl (fun h => Or.inr (Nat.le_trans hS.1 h))) (fun H1 locs1 hP1 hz1 hk1 hS => ?_)
          have hB := hP1
          obtain ⟨⟨hO0, hO1_, hO2_, hB3, hFA, hSH⟩, hinj, ⟨hnp, hns, hnn, hnm_, hnc⟩, hsb⟩ := id hB
          have hS_i := hSH i hi
          have hb_i := hsb i hi
          obtain ⟨hO_i, hX_i, hY_i⟩ := id hS_i
          have hS_j := hSH j hj
          have hb_j := hsb j hj
          obtain ⟨hO_j, hX_j, hY_j⟩ := id hS_j
          refine lv_aload hx hb d_B_unsure_52 (lv_at hl 0 rfl) ?_
          refine z_wrVv (n := 0) (C := R_S) (rest := []) ⟨hx, hb, hml, hown, hts⟩ hW0 (c_S_leave G _ A np ns nc nn nm fv so sf st sn sc (pb_lv sp i) sx sy j hj (hsb j hj).2.2.2) w_352 w_349 w_350 w_351 w_11 (by decide +kernel) ⟨rfl, rfl, Nat.le_of_ble_eq_true rfl, Nat.le_of_ble_eq_true rfl⟩ (hO_j.recv hK rfl) ⟨rfl, hB⟩ rfl rfl hl.1 (Nat.le_of_ble_eq_true rfl) d_B_unsure_54 ⟨Nat.le_of_ble_eq_true rfl, Nat.le_of_ble_eq_true rfl⟩ hS (fun q h => h.elim Or.inl (fun h => Or.inr (Nat.le_trans hS.1 h))) (fun H1 locs1 hP1 hz1 hk1 hS => ?_)
          have hB := hP1
          obtain ⟨⟨hO0, hO1_, hO2_, hB3, hFA, hSH⟩, hinj, ⟨hnp, hns, hnn, hnm_, hnc⟩, hsb⟩ := id hB
          have hS_i := hSH i hi
          have hb_i := hsb i hi
          obtain ⟨hO_i, hX_i, hY_i⟩ := id hS_i
          have hS_j := hSH j hj
          have hb_j := hsb j hj
          obtain ⟨hO_j, hX_j, hY_j⟩ := id hS_j
          refine lv_aload_n hx hb d_B_unsure_57 rfl (lv_at hl 1 rfl) ?_
          refine lv_aload hx hb d_B_unsure_58 (lv_at hl 0 rfl) ?_
          refine z_put (D := (dC, dI)) (ci := 2) (v := .ref (A (13 + 3 * j))) (ty := .object "BorderDays$Shape") (C := R_S) (T := T_S) (N := 9) hx hb hts in_S t_S t_S_ok nm_S hown hK hO_i hS (Or.inl ⟨13 + 3 * i, by omega, rfl⟩) rfl 8 (by decide) (hts _ w_237) (fun _ h9 => h9) rfl (by decide +kernel) rfl rfl (Nat.le_of_ble_eq_true rfl) d_B_unsure_60 (fun H1 locs1 hz1 hP1 ho1 hS => ?_)
          have hB : z_BD (dC, dI) cI cS H1 A np ns nc nn nm fv so sf st sn sc (va_up (pb_lv (pb_lv sp i) j) i (some j)) sx sy := hB.par (o2 := some j) hi hP1 ho1 (fun j hj => by first | (cases hj; done) | (cases hj; omega))
          obtain ⟨⟨hO0, hO1_, hO2_, hB3, hFA, hSH⟩, hinj, ⟨hnp, hns, hnn, hnm_, hnc⟩, hsb⟩ := id hB
          have hS_i := hSH i hi
          have hb_i := hsb i hi
          obtain ⟨hO_i, hX_i, hY_i⟩ := id hS_i
          have hS_j := hSH j hj
          have hb_j := hsb j hj
          obtain ⟨hO_j, hX_j, hY_j⟩ := id hS_j
          refine lv_aload hx hb d_B_unsure_63 (lv_at hl 0 rfl) ?_
          refine lv_aload_n hx hb d_B_unsure_65 rfl (lv_at hl 1 rfl) ?_
          refine z_put (D := (dC, dI)) (ci := 2) (v := .ref (A (13 + 3 * i))) (ty := .object "BorderDays$Shape") (C := R_S) (T := T_S) (N := 9) hx hb hts in_S t_S t_S_ok nm_S hown hK hO_j hS (Or.inl ⟨13 + 3 * j, by omega, rfl⟩) rfl 8 (by decide) (hts _ w_237) (fun _ h9 => h9) rfl (by decide +kernel) rfl rfl (Nat.le_of_ble_eq_true rfl) d_B_unsure_66 (fun H1 locs1 hz1 hP1 ho1 hS => ?_)
          have hB : z_BD (dC, dI) cI cS H1 A np ns nc nn nm fv so sf st sn sc (va_up (va_up (pb_lv (pb_lv sp i) j) i (some j)) j (some i)) sx sy := hB.par (o2 := some i) hj hP1 ho1 (fun j hj => by first | (cases hj; done) | (cases hj; omega))
          obtain ⟨⟨hO0, hO1_, hO2_, hB3, hFA, hSH⟩, hinj, ⟨hnp, hns, hnn, hnm_, hnc⟩, hsb⟩ := id hB
          have hS_i := hSH i hi
          have hb_i := hsb i hi
          obtain ⟨hO_i, hX_i, hY_i⟩ := id hS_i
          have hS_j := hSH j hj
          have hb_j := hsb j hj
          obtain ⟨hO_j, hX_j, hY_j⟩ := id hS_j
          refine lv_iconst (v := 1) hx hb d_B_unsure_69 (by decide) ?_
          have hEnd := hB
          exact z_wz (v := true) hx hb hr hlocks rfl ⟨rfl, hEnd⟩ hS d_B_unsure_70
        · skip
          have c_3 : ¬ (0 < nI (sc j)) := of_decide_eq_false (pi_b_0.mp c_3)
          exact absurd hc2 c_3
set_option maxRecDepth 100000 in
set_option maxHeartbeats 4000000 in
theorem c_B_unsure_no (G : z_G s0 (dC, dI) cI cS) (A : Nat → Nat) (np ns nc nn nm : Nat) (fv : Nat → Nat → Int32) (so sf st : Nat → Int32) (sn sc : Nat → Nat) (sp : Nat → Option Nat) (sx sy : Nat → Nat → Int32) (i j : Nat) (hi : i < ns) (hj : j < ns) (hno : i = j ∨ ¬ so i = so j ∨ ¬ 0 < nI (sc i) ∨ ¬ 0 < nI (sc j)) : Met l y_B_unsure [Cond.code y_B_unsure b_B_unsure 5 (some .boolean)] ({ frames := 1, cells := 0, slots := 0, locals := 21 }) (z_Pc s0 [.ref (A 0), .int (nI i), .int (nI j)] (fun H => z_BD (dC, dI) cI cS H A np ns nc nn nm fv so sf st sn sc sp sx sy)) (z_Qr (some (.int (pi_b false)))) 0 0 z_no := by
  refine z_ofW (by decide +kernel) (Nat.le_of_ble_eq_true rfl) ?_
  intro p e s m below meth c hx hb hml hr hown hlocks hnm hW0 hB ls hl
  have hts := z_hts (args := [.ref (A 0), .int (nI i), .int (nI j)].toArray) G.1 hW0
  have hN := z_nstW G.2.1 hW0
  have hK := va_K.moved hW0.alike G.2.2.1
  have hAI := arrOfT_moved hW0.alike G.2.2.2.1
  have hl : lv_has ls 5 [(0, .ref (A 0)), (1, .int (nI i)), (2, .int (nI j))] := hl
  have hBs := hB
  obtain ⟨⟨hO0, hO1_, hO2_, hB3, hFA, hSH⟩, hinj, ⟨hnp, hns, hnn, hnm_, hnc⟩, hsb⟩ := id hB
  have hS_i := hSH i hi
  have hb_i := hsb i hi
  obtain ⟨hO_i, hX_i, hY_i⟩ := id hS_i
  have hS_j := hSH j hj
  have hb_j := hsb j hj
  obtain ⟨hO_j, hX_j, hY_j⟩ := id hS_j
  refine lv_aload_n hx hb d_B_unsure_0 rfl (lv_at hl 0 rfl) ?_
  refine lv_iload_n hx hb d_B_unsure_1 rfl (lv_at hl 1 rfl) ?_
  refine z_rdV (n := 1) (C := R_B) (rest := []) ⟨hx, hb, hml, hown, hts⟩ hW0 (c_B_shapeNumbered G A np ns nc nn nm fv so sf st sn sc sp sx sy i (by omega)) w_267 w_264 w_266 wp_2 w_1 (by decide +kernel) ⟨rfl, rfl, Nat.le_of_ble_eq_true rfl, Nat.le_of_ble_eq_true rfl⟩ (hO0.recv hK rfl) (hB) rfl rfl hl.1 (Nat.le_of_ble_eq_true rfl) d_B_unsure_2 ⟨Nat.zero_le _, Nat.zero_le _⟩ ?_
  refine lv_astore_n (lv' := [(3, .ref (A (13 + 3 * i))), (0, .ref (A 0)), (1, .int (nI i)), (2, .int (nI j))]) hx hb d_B_unsure_5 rfl hl (by decide) rfl (fun ls hl => ?_)
  refine lv_aload_n hx hb d_B_unsure_6 rfl (lv_at hl 1 rfl) ?_
  refine lv_iload_n hx hb d_B_unsure_7 rfl (lv_at hl 3 rfl) ?_
  refine z_rdV (n := 1) (C := R_B) (rest := []) ⟨hx, hb, hml, hown, hts⟩ hW0 (c_B_shapeNumbered G A np ns nc nn nm fv so sf st sn sc sp sx sy j (by omega)) w_267 w_264 w_266 wp_2 w_1 (by decide +kernel) ⟨rfl, rfl, Nat.le_of_ble_eq_true rfl, Nat.le_of_ble_eq_true rfl⟩ (hO0.recv hK rfl) (hB) rfl rfl hl.1 (Nat.le_of_ble_eq_true rfl) d_B_unsure_8 ⟨Nat.zero_le _, Nat.zero_le _⟩ ?_
  refine lv_astore (lv' := [(4, .ref (A (13 + 3 * j))), (3, .ref (A (13 + 3 * i))), (0, .ref (A 0)), (1, .int (nI i)), (2, .int (nI j))]) hx hb d_B_unsure_11 hl (by decide) rfl (fun ls hl => ?_)
  refine lv_aload_n hx hb d_B_unsure_13 rfl (lv_at hl 1 rfl) ?_
  refine lv_aload hx hb d_B_unsure_14 (lv_at hl 0 rfl) ?_
  refine lv_acmp_eq (rx := some (A (13 + 3 * i))) (ry := some (A (13 + 3 * j))) (tgt := 46) hx hb d_B_unsure_16 (by decide) (fun c_a => ?_) (fun c_a => ?_)
  · skip
    refine lv_iconst (v := 0) hx hb d_B_unsure_46 (by decide) ?_
    exact z_zret hx hb hr hlocks (by rfl) d_B_unsure_47
  · skip
    refine lv_aload_n hx hb d_B_unsure_19 rfl (lv_at hl 1 rfl) ?_
    refine va_get (D := (dC, dI)) (ci := 2) (v := .int (so i)) (C := R_S) (T := T_S) (N := 9) hx hb hts in_S hown hK hO_i.P 0 rfl rfl 1 (by decide) (hts _ w_228) (fun _ h9 => h9) rfl d_B_unsure_20 ?_
    refine lv_aload hx hb d_B_unsure_23 (lv_at hl 0 rfl) ?_
    refine va_get (D := (dC, dI)) (ci := 2) (v := .int (so j)) (C := R_S) (T := T_S) (N := 9) hx hb hts in_S hown hK hO_j.P 0 rfl rfl 1 (by decide) (hts _ w_228) (fun _ h9 => h9) rfl d_B_unsure_25 ?_
    refine lv_icmp_ne (tgt := 46) hx hb d_B_unsure_28 (by decide) (fun c_1 => ?_) (fun c_1 => ?_)
    · skip
      refine lv_iconst (v := 0) hx hb d_B_unsure_46 (by decide) ?_
      exact z_zret hx hb hr hlocks (by rfl) d_B_unsure_47
    · skip
      refine lv_aload_n hx hb d_B_unsure_31 rfl (lv_at hl 1 rfl) ?_
      refine z_rdV (n := 0) (C := R_S) (rest := []) ⟨hx, hb, hml, hown, hts⟩ hW0 (c_S_isClosed G (A (13 + 3 * i)) (A (14 + 3 * i)) (A (15 + 3 * i)) (sn i) (nI i) (so i) (sf i) (st i) (nI (sc i)) (z_pv A (sp i)) (sx i) (sy i)) w_276 w_273 w_274 w_275 w_11 (by decide +kernel) ⟨rfl, rfl, Nat.le_of_ble_eq_true rfl, Nat.le_of_ble_eq_true rfl⟩ (hO_i.recv hK rfl) (hS_i) rfl rfl hl.1 (Nat.le_of_ble_eq_true rfl) d_B_unsure_32 ⟨Nat.zero_le _, Nat.zero_le _⟩ ?_
      refine lv_if_eq (tgt := 46) hx hb d_B_unsure_35 (by decide) (fun c_2 => ?_) (fun c_2 => ?_)
      · skip
        have c_2 : ¬ (0 < nI (sc i)) := of_decide_eq_false (pi_b_0.mp c_2)
        refine lv_iconst (v := 0) hx hb d_B_unsure_46 (by decide) ?_
        exact z_zret hx hb hr hlocks (by rfl) d_B_unsure_47
      · skip
        have c_2 : (0 < nI (sc i)) := of_decide_eq_true (pi_b_1.mp c_2)
        refine lv_aload hx hb d_B_unsure_38 (lv_at hl 0 rfl) ?_
        refine z_rdV (n := 0) (C := R_S) (rest := []) ⟨hx, hb, hml, hown, hts⟩ hW0 (c_S_isClosed G (A (13 + 3 * j)) (A (14 + 3 * j)) (A (15 + 3 * j)) (sn j) (nI j) (so j) (sf j) (st j) (nI (sc j)) (z_pv A (sp j)) (sx j) (sy j)) w_276 w_273 w_274 w_275 w_11 (by decide +kernel) ⟨rfl, rfl, Nat.le_of_ble_eq_true rfl, Nat.le_of_ble_eq_true rfl⟩ (hO_j.recv hK rfl) (hS_j) rfl rfl hl.1 (Nat.le_of_ble_eq_true rfl) d_B_unsure_40 ⟨Nat.zero_le _, Nat.zero_le _⟩ ?_
        refine lv_if_ne (tgt := 48) hx hb d_B_unsure_43 (by decide) (fun c_3 => ?_) (fun c_3 => ?_)
        · skip
          have c_3 : (0 < nI (sc j)) := of_decide_eq_true (pi_b_1.mp c_3)
          exact absurd hno (fun h => h.elim (fun e => c_a (by rw [e])) (fun h => h.elim (fun h => h c_1) (fun h => h.elim (fun h => h c_2) (fun h => h c_3))))
        · skip
          have c_3 : ¬ (0 < nI (sc j)) := of_decide_eq_false (pi_b_0.mp c_3)
          refine lv_iconst (v := 0) hx hb d_B_unsure_46 (by decide) ?_
          exact z_zret hx hb hr hlocks (by rfl) d_B_unsure_47
end BW1
