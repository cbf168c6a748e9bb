section CTO
variable {s0 : State} {dC : Nat → ClassId} {dI : Nat → Nat → Nat} {cI cS : ClassId} {l : Launch}
set_option maxRecDepth 100000 in
set_option maxHeartbeats 4000000 in
theorem c_N_init (G : z_G s0 (dC, dI) cI cS) (hGI : z_GI s0 cI) (sz : Nat) (a : Nat)  : Met l y_N_init [Cond.code y_N_init b_N_init 1 none] ({ frames := 1, cells := 4, slots := 160, locals := 20 }) (z_Pc s0 [.ref a] (fun H => H.size = sz ∧ z_O (dC, dI) H a 0 [.null, .null, .null, .null, .int 0])) (z_Qw (fun r H => r = none ∧ (H.size = sz + 4 ∧ z_O (dC, dI) H a 0 [.ref sz, .ref (sz + 1), .ref (sz + 2), .ref (sz + 3), .int 0] ∧ z_A cI H sz 40 (fun _ => 0) ∧ z_A cI H (sz + 1) 40 (fun _ => 0) ∧ z_A cI H (sz + 2) 40 (fun _ => 0) ∧ z_A cI H (sz + 3) 40 (fun _ => 0))) (z_fr (fun q => q = a) sz)) 4 160 (z_fr (fun q => q = a) sz) := by
  refine z_ofW (by decide +kernel) (Nat.le_of_ble_eq_true rfl) ?_
  intro p e s m below meth c hx hb hml hr hown hlocks hnm hW0 hB ls hl
  have hts := z_hts (args := [.ref a].toArray) G.1 hW0
  have hN := z_nstW G.2.1 hW0
  have hK := va_K.moved hW0.alike G.2.2.1
  have hAI := arrOfT_moved hW0.alike G.2.2.2.1
  have hl : lv_has ls 1 [(0, .ref a)] := hl
  have hnm : meth.name = "<init>" := hnm
  have hRI := va_RA.moved hW0.alike hGI.1
  have hAO := va_AO.moved hW0.alike hGI.2
  have hRS := va_RA.moved hW0.alike G.2.2.2.2.2
  obtain ⟨rfl, hO⟩ := hB
  have hz : s.heap.size = s.heap.size := rfl
  have hS : va_S (z_fr (fun q => q = a) s.heap.size) s.heap s.heap [] := va_S.rf
  have ha := hO.lt
  refine lv_aload_n hx hb d_N_init_0 rfl (lv_at hl 0 rfl) ?_
  refine W.objInit hx hb hown (hts _ w_28) (hts _ w_19) (hts _ w_20) rfl (by rw [hml]; exact hl.1) rfl d_N_init_1 (Nat.le_of_ble_eq_true rfl) (Nat.le_of_ble_eq_true rfl) ?_
  refine W.eq (g2 := F0 m 4 ls []) rfl ?_
  refine lv_aload_n hx hb d_N_init_4 rfl (lv_at hl 0 rfl) ?_
  refine lv_bipush (v := 40) hx hb d_N_init_5 (by decide) ?_
  refine z_newa (n := 40) (N := 40) (h := s.heap.size) hx hb (hts _ w_45) hRI hz hS (by decide) (by decide) (by decide) (Nat.le_of_ble_eq_true rfl) (Nat.le_of_ble_eq_true rfl) d_N_init_7 (fun H1 hz1 hA1 ho1 hS => ?_)
  have hO := hO.keep (ho1 _ (by omega))
  have hA_z := hA1
  have hz : H1.size = s.heap.size + 1 := hz1
  refine z_putF (D := (dC, dI)) (ci := 0) (v := .ref s.heap.size) (ty := .array .int) (C := R_N) (T := T_N) (N := 5) hx hb hts in_N t_N t_N_ok nm_N hown hK hO hS (Or.inl (rfl)) rfl 0 (by decide) (hts _ w_29) (fun _ h9 => h9) rfl hnm rfl (by decide +kernel) rfl rfl (Nat.le_of_ble_eq_true rfl) d_N_init_9 (fun H1 locs1 hz1 hO1 ho1 hS => ?_)
  have hA_z := hA_z.keep (ho1 _ (by omega))
  have hO : z_O (dC, dI) H1 a 0 [.ref s.heap.size, .null, .null, .null, .int 0] := hO1
  have hz : H1.size = s.heap.size + 1 := hz1.trans hz
  refine lv_aload_n hx hb d_N_init_12 rfl (lv_at hl 0 rfl) ?_
  refine lv_bipush (v := 40) hx hb d_N_init_13 (by decide) ?_
  refine z_newa (n := 40) (N := 40) (h := s.heap.size + 1) hx hb (hts _ w_45) hRI hz hS (by decide) (by decide) (by decide) (Nat.le_of_ble_eq_true rfl) (Nat.le_of_ble_eq_true rfl) d_N_init_15 (fun H1 hz1 hA1 ho1 hS => ?_)
  have hO := hO.keep (ho1 _ (by omega))
  have hA_z := hA_z.keep (ho1 _ (by omega))
  have hA_zp1 := hA1
  have hz : H1.size = s.heap.size + 2 := hz1
  refine z_putF (D := (dC, dI)) (ci := 0) (v := .ref (s.heap.size + 1)) (ty := .array .int) (C := R_N) (T := T_N) (N := 5) hx hb hts in_N t_N t_N_ok nm_N hown hK hO hS (Or.inl (rfl)) rfl 1 (by decide) (hts _ w_30) (fun _ h9 => h9) rfl hnm rfl (by decide +kernel) rfl rfl (Nat.le_of_ble_eq_true rfl) d_N_init_17 (fun H1 locs1 hz1 hO1 ho1 hS => ?_)
  have hA_z := hA_z.keep (ho1 _ (by omega))
  have hA_zp1 := hA_zp1.keep (ho1 _ (by omega))
  have hO : z_O (dC, dI) H1 a 0 [.ref s.heap.size, .ref (s.heap.size + 1), .null, .null, .int 0] := hO1
  have hz : H1.size = s.heap.size + 2 := hz1.trans hz
  refine lv_aload_n hx hb d_N_init_20 rfl (lv_at hl 0 rfl) ?_
  refine lv_bipush (v := 40) hx hb d_N_init_21 (by decide) ?_
  refine z_newa (n := 40) (N := 40) (h := s.heap.size + 2) hx hb (hts _ w_45) hRI hz hS (by decide) (by decide) (by decide) (Nat.le_of_ble_eq_true rfl) (Nat.le_of_ble_eq_true rfl) d_N_init_23 (fun H1 hz1 hA1 ho1 hS => ?_)
  have hO := hO.keep (ho1 _ (by omega))
  have hA_z := hA_z.keep (ho1 _ (by omega))
  have hA_zp1 := hA_zp1.keep (ho1 _ (by omega))
  have hA_zp2 := hA1
  have hz : H1.size = s.heap.size + 3 := hz1
  refine z_putF (D := (dC, dI)) (ci := 0) (v := .ref (s.heap.size + 2)) (ty := .array .int) (C := R_N) (T := T_N) (N := 5) hx hb hts in_N t_N t_N_ok nm_N hown hK hO hS (Or.inl (rfl)) rfl 2 (by decide) (hts _ w_31) (fun _ h9 => h9) rfl hnm rfl (by decide +kernel) rfl rfl (Nat.le_of_ble_eq_true rfl) d_N_init_25 (fun H1 locs1 hz1 hO1 ho1 hS => ?_)
  have hA_z := hA_z.keep (ho1 _ (by omega))
  have hA_zp1 := hA_zp1.keep (ho1 _ (by omega))
  have hA_zp2 := hA_zp2.keep (ho1 _ (by omega))
  have hO : z_O (dC, dI) H1 a 0 [.ref s.heap.size, .ref (s.heap.size + 1), .ref (s.heap.size + 2), .null, .int 0] := hO1
  have hz : H1.size = s.heap.size + 3 := hz1.trans hz
  refine lv_aload_n hx hb d_N_init_28 rfl (lv_at hl 0 rfl) ?_
  refine lv_bipush (v := 40) hx hb d_N_init_29 (by decide) ?_
  refine z_newa (n := 40) (N := 40) (h := s.heap.size + 3) hx hb (hts _ w_45) hRI hz hS (by decide) (by decide) (by decide) (Nat.le_of_ble_eq_true rfl) (Nat.le_of_ble_eq_true rfl) d_N_init_31 (fun H1 hz1 hA1 ho1 hS => ?_)
  have hO := hO.keep (ho1 _ (by omega))
  have hA_z := hA_z.keep (ho1 _ (by omega))
  have hA_zp1 := hA_zp1.keep (ho1 _ (by omega))
  have hA_zp2 := hA_zp2.keep (ho1 _ (by omega))
  have hA_zp3 := hA1
  have hz : H1.size = s.heap.size + 4 := hz1
  refine z_putF (D := (dC, dI)) (ci := 0) (v := .ref (s.heap.size + 3)) (ty := .array .int) (C := R_N) (T := T_N) (N := 5) hx hb hts in_N t_N t_N_ok nm_N hown hK hO hS (Or.inl (rfl)) rfl 3 (by decide) (hts _ w_32) (fun _ h9 => h9) rfl hnm rfl (by decide +kernel) rfl rfl (Nat.le_of_ble_eq_true rfl) d_N_init_33 (fun H1 locs1 hz1 hO1 ho1 hS => ?_)
  have hA_z := hA_z.keep (ho1 _ (by omega))
  have hA_zp1 := hA_zp1.keep (ho1 _ (by omega))
  have hA_zp2 := hA_zp2.keep (ho1 _ (by omega))
  have hA_zp3 := hA_zp3.keep (ho1 _ (by omega))
  have hO : z_O (dC, dI) H1 a 0 [.ref s.heap.size, .ref (s.heap.size + 1), .ref (s.heap.size + 2), .ref (s.heap.size + 3), .int 0] := hO1
  have hz : H1.size = s.heap.size + 4 := hz1.trans hz
  have hEnd := And.intro hz (And.intro hO (And.intro hA_z (And.intro hA_zp1 (And.intro hA_zp2 hA_zp3))))
  exact z_wv hx hb hr hlocks ⟨rfl, hEnd⟩ hS d_N_init_36
set_option maxRecDepth 100000 in
set_option maxHeartbeats 4000000 in
theorem c_O_init (G : z_G s0 (dC, dI) cI cS) (hGI : z_GI s0 cI) (sz : Nat) (a : Nat)  : Met l y_O_init [Cond.code y_O_init b_O_init 1 none] ({ frames := 1, cells := 4, slots := 48, locals := 20 }) (z_Pc s0 [.ref a] (fun H => H.size = sz ∧ z_O (dC, dI) H a 1 [.null, .null, .null, .null, .int 0])) (z_Qw (fun r H => r = none ∧ (H.size = sz + 4 ∧ z_O (dC, dI) H a 1 [.ref sz, .ref (sz + 1), .ref (sz + 2), .ref (sz + 3), .int 0] ∧ z_A cI H sz 12 (fun _ => 0) ∧ z_A cI H (sz + 1) 12 (fun _ => 0) ∧ z_A cI H (sz + 2) 12 (fun _ => 0) ∧ z_A cI H (sz + 3) 12 (fun _ => 0))) (z_fr (fun q => q = a) sz)) 4 48 (z_fr (fun q => q = a) sz) := by
  refine z_ofW (by decide +kernel) (Nat.le_of_ble_eq_true rfl) ?_
  intro p e s m below meth c hx hb hml hr hown hlocks hnm hW0 hB ls hl
  have hts := z_hts (args := [.ref a].toArray) G.1 hW0
  have hN := z_nstW G.2.1 hW0
  have hK := va_K.moved hW0.alike G.2.2.1
  have hAI := arrOfT_moved hW0.alike G.2.2.2.1
  have hl : lv_has ls 1 [(0, .ref a)] := hl
  have hnm : meth.name = "<init>" := hnm
  have hRI := va_RA.moved hW0.alike hGI.1
  have hAO := va_AO.moved hW0.alike hGI.2
  have hRS := va_RA.moved hW0.alike G.2.2.2.2.2
  obtain ⟨rfl, hO⟩ := hB
  have hz : s.heap.size = s.heap.size := rfl
  have hS : va_S (z_fr (fun q => q = a) s.heap.size) s.heap s.heap [] := va_S.rf
  have ha := hO.lt
  refine lv_aload_n hx hb d_O_init_0 rfl (lv_at hl 0 rfl) ?_
  refine W.objInit hx hb hown (hts _ w_51) (hts _ w_19) (hts _ w_20) rfl (by rw [hml]; exact hl.1) rfl d_O_init_1 (Nat.le_of_ble_eq_true rfl) (Nat.le_of_ble_eq_true rfl) ?_
  refine W.eq (g2 := F0 m 4 ls []) rfl ?_
  refine lv_aload_n hx hb d_O_init_4 rfl (lv_at hl 0 rfl) ?_
  refine lv_bipush (v := 12) hx hb d_O_init_5 (by decide) ?_
  refine z_newa (n := 12) (N := 12) (h := s.heap.size) hx hb (hts _ w_45) hRI hz hS (by decide) (by decide) (by decide) (Nat.le_of_ble_eq_true rfl) (Nat.le_of_ble_eq_true rfl) d_O_init_7 (fun H1 hz1 hA1 ho1 hS => ?_)
  have hO := hO.keep (ho1 _ (by omega))
  have hA_z := hA1
  have hz : H1.size = s.heap.size + 1 := hz1
  refine z_putF (D := (dC, dI)) (ci := 1) (v := .ref s.heap.size) (ty := .array .int) (C := R_O) (T := T_O) (N := 5) hx hb hts in_O t_O t_O_ok nm_O hown hK hO hS (Or.inl (rfl)) rfl 0 (by decide) (hts _ w_52) (fun _ h9 => h9) rfl hnm rfl (by decide +kernel) rfl rfl (Nat.le_of_ble_eq_true rfl) d_O_init_9 (fun H1 locs1 hz1 hO1 ho1 hS => ?_)
  have hA_z := hA_z.keep (ho1 _ (by omega))
  have hO : z_O (dC, dI) H1 a 1 [.ref s.heap.size, .null, .null, .null, .int 0] := hO1
  have hz : H1.size = s.heap.size + 1 := hz1.trans hz
  refine lv_aload_n hx hb d_O_init_12 rfl (lv_at hl 0 rfl) ?_
  refine lv_bipush (v := 12) hx hb d_O_init_13 (by decide) ?_
  refine z_newa (n := 12) (N := 12) (h := s.heap.size + 1) hx hb (hts _ w_45) hRI hz hS (by decide) (by decide) (by decide) (Nat.le_of_ble_eq_true rfl) (Nat.le_of_ble_eq_true rfl) d_O_init_15 (fun H1 hz1 hA1 ho1 hS => ?_)
  have hO := hO.keep (ho1 _ (by omega))
  have hA_z := hA_z.keep (ho1 _ (by omega))
  have hA_zp1 := hA1
  have hz : H1.size = s.heap.size + 2 := hz1
  refine z_putF (D := (dC, dI)) (ci := 1) (v := .ref (s.heap.size + 1)) (ty := .array .int) (C := R_O) (T := T_O) (N := 5) hx hb hts in_O t_O t_O_ok nm_O hown hK hO hS (Or.inl (rfl)) rfl 1 (by decide) (hts _ w_53) (fun _ h9 => h9) rfl hnm rfl (by decide +kernel) rfl rfl (Nat.le_of_ble_eq_true rfl) d_O_init_17 (fun H1 locs1 hz1 hO1 ho1 hS => ?_)
  have hA_z := hA_z.keep (ho1 _ (by omega))
  have hA_zp1 := hA_zp1.keep (ho1 _ (by omega))
  have hO : z_O (dC, dI) H1 a 1 [.ref s.heap.size, .ref (s.heap.size + 1), .null, .null, .int 0] := hO1
  have hz : H1.size = s.heap.size + 2 := hz1.trans hz
  refine lv_aload_n hx hb d_O_init_20 rfl (lv_at hl 0 rfl) ?_
  refine lv_bipush (v := 12) hx hb d_O_init_21 (by decide) ?_
  refine z_newa (n := 12) (N := 12) (h := s.heap.size + 2) hx hb (hts _ w_45) hRI hz hS (by decide) (by decide) (by decide) (Nat.le_of_ble_eq_true rfl) (Nat.le_of_ble_eq_true rfl) d_O_init_23 (fun H1 hz1 hA1 ho1 hS => ?_)
  have hO := hO.keep (ho1 _ (by omega))
  have hA_z := hA_z.keep (ho1 _ (by omega))
  have hA_zp1 := hA_zp1.keep (ho1 _ (by omega))
  have hA_zp2 := hA1
  have hz : H1.size = s.heap.size + 3 := hz1
  refine z_putF (D := (dC, dI)) (ci := 1) (v := .ref (s.heap.size + 2)) (ty := .array .int) (C := R_O) (T := T_O) (N := 5) hx hb hts in_O t_O t_O_ok nm_O hown hK hO hS (Or.inl (rfl)) rfl 2 (by decide) (hts _ w_54) (fun _ h9 => h9) rfl hnm rfl (by decide +kernel) rfl rfl (Nat.le_of_ble_eq_true rfl) d_O_init_25 (fun H1 locs1 hz1 hO1 ho1 hS => ?_)
  have hA_z := hA_z.keep (ho1 _ (by omega))
  have hA_zp1 := hA_zp1.keep (ho1 _ (by omega))
  have hA_zp2 := hA_zp2.keep (ho1 _ (by omega))
  have hO : z_O (dC, dI) H1 a 1 [.ref s.heap.size, .ref (s.heap.size + 1), .ref (s.heap.size + 2), .null, .int 0] := hO1
  have hz : H1.size = s.heap.size + 3 := hz1.trans hz
  refine lv_aload_n hx hb d_O_init_28 rfl (lv_at hl 0 rfl) ?_
  refine lv_bipush (v := 12) hx hb d_O_init_29 (by decide) ?_
  refine z_newa (n := 12) (N := 12) (h := s.heap.size + 3) hx hb (hts _ w_45) hRI hz hS (by decide) (by decide) (by decide) (Nat.le_of_ble_eq_true rfl) (Nat.le_of_ble_eq_true rfl) d_O_init_31 (fun H1 hz1 hA1 ho1 hS => ?_)
  have hO := hO.keep (ho1 _ (by omega))
  have hA_z := hA_z.keep (ho1 _ (by omega))
  have hA_zp1 := hA_zp1.keep (ho1 _ (by omega))
  have hA_zp2 := hA_zp2.keep (ho1 _ (by omega))
  have hA_zp3 := hA1
  have hz : H1.size = s.heap.size + 4 := hz1
  refine z_putF (D := (dC, dI)) (ci := 1) (v := .ref (s.heap.size + 3)) (ty := .array .int) (C := R_O) (T := T_O) (N := 5) hx hb hts in_O t_O t_O_ok nm_O hown hK hO hS (Or.inl (rfl)) rfl 3 (by decide) (hts _ w_55) (fun _ h9 => h9) rfl hnm rfl (by decide +kernel) rfl rfl (Nat.le_of_ble_eq_true rfl) d_O_init_33 (fun H1 locs1 hz1 hO1 ho1 hS => ?_)
  have hA_z := hA_z.keep (ho1 _ (by omega))
  have hA_zp1 := hA_zp1.keep (ho1 _ (by omega))
  have hA_zp2 := hA_zp2.keep (ho1 _ (by omega))
  have hA_zp3 := hA_zp3.keep (ho1 _ (by omega))
  have hO : z_O (dC, dI) H1 a 1 [.ref s.heap.size, .ref (s.heap.size + 1), .ref (s.heap.size + 2), .ref (s.heap.size + 3), .int 0] := hO1
  have hz : H1.size = s.heap.size + 4 := hz1.trans hz
  have hEnd := And.intro hz (And.intro hO (And.intro hA_z (And.intro hA_zp1 (And.intro hA_zp2 hA_zp3))))
  exact z_wv hx hb hr hlocks ⟨rfl, hEnd⟩ hS d_O_init_36
set_option maxRecDepth 100000 in
set_option maxHeartbeats 4000000 in
theorem c_S_init (G : z_G s0 (dC, dI) cI cS) (hGI : z_GI s0 cI) (sz : Nat) (a : Nat) (num own fr to_ : Int32) : Met l y_S_init [Cond.code y_S_init b_S_init 5 none] ({ frames := 1, cells := 2, slots := 24, locals := 20 }) (z_Pc s0 [.ref a, .int num, .int own, .int fr, .int to_] (fun H => H.size = sz ∧ z_O (dC, dI) H a 2 [.int 0, .int 0, .int 0, .int 0, .null, .null, .int 0, .int 0, .null])) (z_Qw (fun r H => r = none ∧ (H.size = sz + 2 ∧ z_O (dC, dI) H a 2 [.int num, .int own, .int fr, .int to_, .ref sz, .ref (sz + 1), .int 0, .int 0, .null] ∧ z_A cI H sz 12 (fun _ => 0) ∧ z_A cI H (sz + 1) 12 (fun _ => 0))) (z_fr (fun q => q = a) sz)) 2 24 (z_fr (fun q => q = a) sz) := by
  refine z_ofW (by decide +kernel) (Nat.le_of_ble_eq_true rfl) ?_
  intro p e s m below meth c hx hb hml hr hown hlocks hnm hW0 hB ls hl
  have hts := z_hts (args := [.ref a, .int num, .int own, .int fr, .int to_].toArray) G.1 hW0
  have hN := z_nstW G.2.1 hW0
  have hK := va_K.moved hW0.alike G.2.2.1
  have hAI := arrOfT_moved hW0.alike G.2.2.2.1
  have hl : lv_has ls 5 [(0, .ref a), (1, .int num), (2, .int own), (3, .int fr), (4, .int to_)] := hl
  have hnm : meth.name = "<init>" := hnm
  have hRI := va_RA.moved hW0.alike hGI.1
  have hAO := va_AO.moved hW0.alike hGI.2
  have hRS := va_RA.moved hW0.alike G.2.2.2.2.2
  obtain ⟨rfl, hO⟩ := hB
  have hz : s.heap.size = s.heap.size := rfl
  have hS : va_S (z_fr (fun q => q = a) s.heap.size) s.heap s.heap [] := va_S.rf
  have ha := hO.lt
  refine lv_aload_n hx hb d_S_init_0 rfl (lv_at hl 0 rfl) ?_
  refine W.objInit hx hb hown (hts _ w_224) (hts _ w_19) (hts _ w_20) rfl (by rw [hml]; exact hl.1) rfl d_S_init_1 (Nat.le_of_ble_eq_true rfl) (Nat.le_of_ble_eq_true rfl) ?_
  refine W.eq (g2 := F0 m 4 ls []) rfl ?_
  refine lv_aload_n hx hb d_S_init_4 rfl (lv_at hl 0 rfl) ?_
  refine lv_iload_n hx hb d_S_init_5 rfl (lv_at hl 1 rfl) ?_
  refine z_putF (D := (dC, dI)) (ci := 2) (v := .int num) (ty := .int) (C := R_S) (T := T_S) (N := 9) hx hb hts in_S t_S t_S_ok nm_S hown hK hO hS (Or.inl (rfl)) rfl 0 (by decide) (hts _ w_225) (fun _ h9 => h9) rfl hnm rfl (by decide +kernel) rfl rfl (Nat.le_of_ble_eq_true rfl) d_S_init_6 (fun H1 locs1 hz1 hO1 ho1 hS => ?_)
  have hO : z_O (dC, dI) H1 a 2 [.int num, .int 0, .int 0, .int 0, .null, .null, .int 0, .int 0, .null] := hO1
  have hz : H1.size = s.heap.size := hz1.trans hz
  refine lv_aload_n hx hb d_S_init_9 rfl (lv_at hl 0 rfl) ?_
  refine lv_iload_n hx hb d_S_init_10 rfl (lv_at hl 2 rfl) ?_
  refine z_putF (D := (dC, dI)) (ci := 2) (v := .int own) (ty := .int) (C := R_S) (T := T_S) (N := 9) hx hb hts in_S t_S t_S_ok nm_S hown hK hO hS (Or.inl (rfl)) rfl 1 (by decide) (hts _ w_227) (fun _ h9 => h9) rfl hnm rfl (by decide +kernel) rfl rfl (Nat.le_of_ble_eq_true rfl) d_S_init_11 (fun H1 locs1 hz1 hO1 ho1 hS => ?_)
  have hO : z_O (dC, dI) H1 a 2 [.int num, .int own, .int 0, .int 0, .null, .null, .int 0, .int 0, .null] := hO1
  have hz : H1.size = s.heap.size := hz1.trans hz
  refine lv_aload_n hx hb d_S_init_14 rfl (lv_at hl 0 rfl) ?_
  refine lv_iload_n hx hb d_S_init_15 rfl (lv_at hl 3 rfl) ?_
  refine z_putF (D := (dC, dI)) (ci := 2) (v := .int fr) (ty := .int) (C := R_S) (T := T_S) (N := 9) hx hb hts in_S t_S t_S_ok nm_S hown hK hO hS (Or.inl (rfl)) rfl 2 (by decide) (hts _ w_229) (fun _ h9 => h9) rfl hnm rfl (by decide +kernel) rfl rfl (Nat.le_of_ble_eq_true rfl) d_S_init_16 (fun H1 locs1 hz1 hO1 ho1 hS => ?_)
  have hO : z_O (dC, dI) H1 a 2 [.int num, .int own, .int fr, .int 0, .null, .null, .int 0, .int 0, .null] := hO1
  have hz : H1.size = s.heap.size := hz1.trans hz
  refine lv_aload_n hx hb d_S_init_19 rfl (lv_at hl 0 rfl) ?_
  refine lv_iload hx hb d_S_init_20 (lv_at hl 4 rfl) ?_
  refine z_putF (D := (dC, dI)) (ci := 2) (v := .int to_) (ty := .int) (C := R_S) (T := T_S) (N := 9) hx hb hts in_S t_S t_S_ok nm_S hown hK hO hS (Or.inl (rfl)) rfl 3 (by decide) (hts _ w_230) (fun _ h9 => h9) rfl hnm rfl (by decide +kernel) rfl rfl (Nat.le_of_ble_eq_true rfl) d_S_init_22 (fun H1 locs1 hz1 hO1 ho1 hS => ?_)
  have hO : z_O (dC, dI) H1 a 2 [.int num, .int own, .int fr, .int to_, .null, .null, .int 0, .int 0, .null] := hO1
  have hz : H1.size = s.heap.size := hz1.trans hz
  refine lv_aload_n hx hb d_S_init_25 rfl (lv_at hl 0 rfl) ?_
  refine lv_bipush (v := 12) hx hb d_S_init_26 (by decide) ?_
  refine z_newa (n := 12) (N := 12) (h := s.heap.size) hx hb (hts _ w_45) hRI hz hS (by decide) (by decide) (by decide) (Nat.le_of_ble_eq_true rfl) (Nat.le_of_ble_eq_true rfl) d_S_init_28 (fun H1 hz1 hA1 ho1 hS => ?_)
  have hO := hO.keep (ho1 _ (by omega))
  have hA_z := hA1
  have hz : H1.size = s.heap.size + 1 := hz1
  refine z_putF (D := (dC, dI)) (ci := 2) (v := .ref s.heap.size) (ty := .array .int) (C := R_S) (T := T_S) (N := 9) hx hb hts in_S t_S t_S_ok nm_S hown hK hO hS (Or.inl (rfl)) rfl 4 (by decide) (hts _ w_231) (fun _ h9 => h9) rfl hnm rfl (by decide +kernel) rfl rfl (Nat.le_of_ble_eq_true rfl) d_S_init_30 (fun H1 locs1 hz1 hO1 ho1 hS => ?_)
  have hA_z := hA_z.keep (ho1 _ (by omega))
  have hO : z_O (dC, dI) H1 a 2 [.int num, .int own, .int fr, .int to_, .ref s.heap.size, .null, .int 0, .int 0, .null] := hO1
  have hz : H1.size = s.heap.size + 1 := hz1.trans hz
  refine lv_aload_n hx hb d_S_init_33 rfl (lv_at hl 0 rfl) ?_
  refine lv_bipush (v := 12) hx hb d_S_init_34 (by decide) ?_
  refine z_newa (n := 12) (N := 12) (h := s.heap.size + 1) hx hb (hts _ w_45) hRI hz hS (by decide) (by decide) (by decide) (Nat.le_of_ble_eq_true rfl) (Nat.le_of_ble_eq_true rfl) d_S_init_36 (fun H1 hz1 hA1 ho1 hS => ?_)
  have hO := hO.keep (ho1 _ (by omega))
  have hA_z := hA_z.keep (ho1 _ (by omega))
  have hA_zp1 := hA1
  have hz : H1.size = s.heap.size + 2 := hz1
  refine z_putF (D := (dC, dI)) (ci := 2) (v := .ref (s.heap.size + 1)) (ty := .array .int) (C := R_S) (T := T_S) (N := 9) hx hb hts in_S t_S t_S_ok nm_S hown hK hO hS (Or.inl (rfl)) rfl 5 (by decide) (hts _ w_232) (fun _ h9 => h9) rfl hnm rfl (by decide +kernel) rfl rfl (Nat.le_of_ble_eq_true rfl) d_S_init_38 (fun H1 locs1 hz1 hO1 ho1 hS => ?_)
  have hA_z := hA_z.keep (ho1 _ (by omega))
  have hA_zp1 := hA_zp1.keep (ho1 _ (by omega))
  have hO : z_O (dC, dI) H1 a 2 [.int num, .int own, .int fr, .int to_, .ref s.heap.size, .ref (s.heap.size + 1), .int 0, .int 0, .null] := hO1
  have hz : H1.size = s.heap.size + 2 := hz1.trans hz
  have hEnd := And.intro hz (And.intro hO (And.intro hA_z hA_zp1))
  exact z_wv hx hb hr hlocks ⟨rfl, hEnd⟩ hS d_S_init_41
set_option maxRecDepth 100000 in
set_option maxHeartbeats 4000000 in
theorem c_B_init (G : z_G s0 (dC, dI) cI cS) (hGI : z_GI s0 cI) (sz : Nat) (a : Nat)  : Met l y_B_init [Cond.code y_B_init b_B_init 1 none] ({ frames := 2, cells := 12, slots := 266, locals := 40 }) (z_Pc s0 [.ref a] (fun H => H.size = sz ∧ z_O (dC, dI) H a 3 [.null, .int 0, .null, .int 0, .int 0, .null, .null])) (z_Qw (fun r H => r = none ∧ (H.size = sz + 12 ∧ z_BD (dC, dI) cI cS H (z_A0 a sz) 0 0 0 0 0 (fun _ _ => 0) (fun _ => 0) (fun _ => 0) (fun _ => 0) (fun _ => 0) (fun _ => 0) (fun _ => none) (fun _ _ => 0) (fun _ _ => 0))) (z_fr (fun q => q = a) sz)) 12 266 (z_fr (fun q => q = a) sz) := by
  refine z_ofW (by decide +kernel) (Nat.le_of_ble_eq_true rfl) ?_
  intro p e s m below meth c hx hb hml hr hown hlocks hnm hW0 hB ls hl
  have hts := z_hts (args := [.ref a].toArray) G.1 hW0
  have hN := z_nstW G.2.1 hW0
  have hK := va_K.moved hW0.alike G.2.2.1
  have hAI := arrOfT_moved hW0.alike G.2.2.2.1
  have hl : lv_has ls 1 [(0, .ref a)] := hl
  have hnm : meth.name = "<init>" := hnm
  have hRI := va_RA.moved hW0.alike hGI.1
  have hAO := va_AO.moved hW0.alike hGI.2
  have hRS := va_RA.moved hW0.alike G.2.2.2.2.2
  obtain ⟨rfl, hO⟩ := hB
  have hz : s.heap.size = s.heap.size := rfl
  have hS : va_S (z_fr (fun q => q = a) s.heap.size) s.heap s.heap [] := va_S.rf
  have ha := hO.lt
  refine lv_aload_n hx hb d_B_init_0 rfl (lv_at hl 0 rfl) ?_
  refine W.objInit hx hb hown (hts _ w_18) (hts _ w_19) (hts _ w_20) rfl (by rw [hml]; exact hl.1) rfl d_B_init_1 (Nat.le_of_ble_eq_true rfl) (Nat.le_of_ble_eq_true rfl) ?_
  refine W.eq (g2 := F0 m 4 ls []) rfl ?_
  refine lv_aload_n hx hb d_B_init_4 rfl (lv_at hl 0 rfl) ?_
  refine lv_bipush (v := 16) hx hb d_B_init_5 (by decide) ?_
  refine z_newa (n := 16) (N := 16) (h := s.heap.size) hx hb (hts _ w_45) hRI hz hS (by decide) (by decide) (by decide) (Nat.le_of_ble_eq_true rfl) (Nat.le_of_ble_eq_true rfl) d_B_init_7 (fun H1 hz1 hA1 ho1 hS => ?_)
  have hO := hO.keep (ho1 _ (by omega))
  have hA_z := hA1
  have hz : H1.size = s.heap.size + 1 := hz1
  refine z_putF (D := (dC, dI)) (ci := 3) (v := .ref s.heap.size) (ty := .array .int) (C := R_B) (T := T_B) (N := 7) hx hb hts in_B t_B t_B_ok nm_B hown hK hO hS (Or.inl (rfl)) rfl 0 (by decide) (hts _ w_68) (fun _ h9 => h9) rfl hnm rfl (by decide +kernel) rfl rfl (Nat.le_of_ble_eq_true rfl) d_B_init_9 (fun H1 locs1 hz1 hO1 ho1 hS => ?_)
  have hA_z := hA_z.keep (ho1 _ (by omega))
  have hO : z_O (dC, dI) H1 a 3 [.ref s.heap.size, .int 0, .null, .int 0, .int 0, .null, .null] := hO1
  have hz : H1.size = s.heap.size + 1 := hz1.trans hz
  refine lv_aload_n hx hb d_B_init_12 rfl (lv_at hl 0 rfl) ?_
  refine lv_bipush (v := 32) hx hb d_B_init_13 (by decide) ?_
  refine z_anew (n := 32) (N := 32) (h := s.heap.size + 1) hx hb hown (hts _ w_21) hAO hRS hz hS (by decide) (by decide) (by decide) (Nat.le_of_ble_eq_true rfl) (Nat.le_of_ble_eq_true rfl) d_B_init_15 (fun H1 hz1 hA1 ho1 hS => ?_)
  have hO := hO.keep (ho1 _ (by omega))
  have hA_z := hA_z.keep (ho1 _ (by omega))
  have hA_zp1 := hA1
  have hz : H1.size = s.heap.size + 2 := hz1
  refine z_putF (D := (dC, dI)) (ci := 3) (v := .ref (s.heap.size + 1)) (ty := .array (.object "BorderDays$Shape")) (C := R_B) (T := T_B) (N := 7) hx hb hts in_B t_B t_B_ok nm_B hown hK hO hS (Or.inl (rfl)) rfl 2 (by decide) (hts _ w_70) (fun _ h9 => h9) rfl hnm rfl (by decide +kernel) rfl rfl (Nat.le_of_ble_eq_true rfl) d_B_init_18 (fun H1 locs1 hz1 hO1 ho1 hS => ?_)
  have hA_z := hA_z.keep (ho1 _ (by omega))
  have hA_zp1 := hA_zp1.keep (ho1 _ (by omega))
  have hO : z_O (dC, dI) H1 a 3 [.ref s.heap.size, .int 0, .ref (s.heap.size + 1), .int 0, .int 0, .null, .null] := hO1
  have hz : H1.size = s.heap.size + 2 := hz1.trans hz
  refine lv_aload_n hx hb d_B_init_21 rfl (lv_at hl 0 rfl) ?_
  refine z_new (D := (dC, dI)) (ci := 0) (C := R_N) (T := T_N) (N := 5) (h := s.heap.size + 2) (fs := [.null, .null, .null, .null, .int 0]) hx hb hts in_N t_N t_N_ok hown (hts _ w_23) (hts _ w_24) (hts _ w_2) hK hz hS rfl (by decide +kernel) (Nat.le_of_ble_eq_true rfl) (Nat.le_of_ble_eq_true rfl) d_B_init_22 (fun H1 hz1 hA1 ho1 hS => ?_)
  have hO := hO.keep (ho1 _ (by omega))
  have hA_z := hA_z.keep (ho1 _ (by omega))
  have hA_zp1 := hA_zp1.keep (ho1 _ (by omega))
  have hO_zp2 := hA1
  have hz : H1.size = s.heap.size + 3 := hz1
  refine lv_dup hx hb d_B_init_25 rfl ?_
  refine z_wrI (n := 0) (rest := [.ref (s.heap.size + 2), .ref a]) ⟨hx, hb, hml, hown, hts⟩ hW0 (c_N_init G hGI (s.heap.size + 3) (s.heap.size + 2) ) w_27 w_25 w_26 w_2 rfl (by decide +kernel) ⟨rfl, rfl, Nat.le_of_ble_eq_true rfl, Nat.le_of_ble_eq_true rfl⟩ ⟨hz, hO_zp2⟩ rfl rfl hl.1 (Nat.le_of_ble_eq_true rfl) d_B_init_26 ⟨Nat.le_of_ble_eq_true rfl, Nat.le_of_ble_eq_true rfl⟩ hS (fun q h => h.elim (fun h => Or.inr (by omega)) (fun h => Or.inr (by omega))) (fun H1 locs1 hP1 hz1 hk1 hS => ?_)
  have hO := hO.keep (hk1 _ (by omega) (fun h => h.elim (fun h => by omega) (fun h => by omega)))
  have hA_z := hA_z.keep (hk1 _ (by omega) (fun h => h.elim (fun h => by omega) (fun h => by omega)))
  have hA_zp1 := hA_zp1.keep (hk1 _ (by omega) (fun h => h.elim (fun h => by omega) (fun h => by omega)))
  obtain ⟨hz, hO_zp2, hA_zp3, hA_zp4, hA_zp5, hA_zp6⟩ := hP1
  have hz : H1.size = s.heap.size + 7 := hz
  refine z_putF (D := (dC, dI)) (ci := 3) (v := .ref (s.heap.size + 2)) (ty := .object "BorderDays$Names") (C := R_B) (T := T_B) (N := 7) hx hb hts in_B t_B t_B_ok nm_B hown hK hO hS (Or.inl (rfl)) rfl 5 (by decide) (hts _ w_73) (fun _ h9 => h9) rfl hnm rfl (by decide +kernel) rfl rfl (Nat.le_of_ble_eq_true rfl) d_B_init_29 (fun H1 locs1 hz1 hO1 ho1 hS => ?_)
  have hO_zp2 := hO_zp2.keep (ho1 _ (by omega))
  have hA_z := hA_z.keep (ho1 _ (by omega))
  have hA_zp3 := hA_zp3.keep (ho1 _ (by omega))
  have hA_zp4 := hA_zp4.keep (ho1 _ (by omega))
  have hA_zp5 := hA_zp5.keep (ho1 _ (by omega))
  have hA_zp6 := hA_zp6.keep (ho1 _ (by omega))
  have hA_zp1 := hA_zp1.keep (ho1 _ (by omega))
  have hO : z_O (dC, dI) H1 a 3 [.ref s.heap.size, .int 0, .ref (s.heap.size + 1), .int 0, .int 0, .ref (s.heap.size + 2), .null] := hO1
  have hz : H1.size = s.heap.size + 7 := hz1.trans hz
  refine lv_aload_n hx hb d_B_init_32 rfl (lv_at hl 0 rfl) ?_
  refine z_new (D := (dC, dI)) (ci := 1) (C := R_O) (T := T_O) (N := 5) (h := s.heap.size + 7) (fs := [.null, .null, .null, .null, .int 0]) hx hb hts in_O t_O t_O_ok hown (hts _ w_46) (hts _ w_47) (hts _ w_3) hK hz hS rfl (by decide +kernel) (Nat.le_of_ble_eq_true rfl) (Nat.le_of_ble_eq_true rfl) d_B_init_33 (fun H1 hz1 hA1 ho1 hS => ?_)
  have hO := hO.keep (ho1 _ (by omega))
  have hO_zp2 := hO_zp2.keep (ho1 _ (by omega))
  have hA_z := hA_z.keep (ho1 _ (by omega))
  have hA_zp3 := hA_zp3.keep (ho1 _ (by omega))
  have hA_zp4 := hA_zp4.keep (ho1 _ (by omega))
  have hA_zp5 := hA_zp5.keep (ho1 _ (by omega))
  have hA_zp6 := hA_zp6.keep (ho1 _ (by omega))
  have hA_zp1 := hA_zp1.keep (ho1 _ (by omega))
  have hO_zp7 := hA1
  have hz : H1.size = s.heap.size + 8 := hz1
  refine lv_dup hx hb d_B_init_36 rfl ?_
  refine z_wrI (n := 0) (rest := [.ref (s.heap.size + 7), .ref a]) ⟨hx, hb, hml, hown, hts⟩ hW0 (c_O_init G hGI (s.heap.size + 8) (s.heap.size + 7) ) w_50 w_48 w_49 w_3 rfl (by decide +kernel) ⟨rfl, rfl, Nat.le_of_ble_eq_true rfl, Nat.le_of_ble_eq_true rfl⟩ ⟨hz, hO_zp7⟩ rfl rfl hl.1 (Nat.le_of_ble_eq_true rfl) d_B_init_37 ⟨Nat.le_of_ble_eq_true rfl, Nat.le_of_ble_eq_true rfl⟩ hS (fun q h => h.elim (fun h => Or.inr (by omega)) (fun h => Or.inr (by omega))) (fun H1 locs1 hP1 hz1 hk1 hS => ?_)
  have hO := hO.keep (hk1 _ (by omega) (fun h => h.elim (fun h => by omega) (fun h => by omega)))
  have hO_zp2 := hO_zp2.keep (hk1 _ (by omega) (fun h => h.elim (fun h => by omega) (fun h => by omega)))
  have hA_z := hA_z.keep (hk1 _ (by omega) (fun h => h.elim (fun h => by omega) (fun h => by omega)))
  have hA_zp3 := hA_zp3.keep (hk1 _ (by omega) (fun h => h.elim (fun h => by omega) (fun h => by omega)))
  have hA_zp4 := hA_zp4.keep (hk1 _ (by omega) (fun h => h.elim (fun h => by omega) (fun h => by omega)))
  have hA_zp5 := hA_zp5.keep (hk1 _ (by omega) (fun h => h.elim (fun h => by omega) (fun h => by omega)))
  have hA_zp6 := hA_zp6.keep (hk1 _ (by omega) (fun h => h.elim (fun h => by omega) (fun h => by omega)))
  have hA_zp1 := hA_zp1.keep (hk1 _ (by omega) (fun h => h.elim (fun h => by omega) (fun h => by omega)))
  obtain ⟨hz, hO_zp7, hA_zp8, hA_zp9, hA_zp10, hA_zp11⟩ := hP1
  have hz : H1.size = s.heap.size + 12 := hz
  refine z_putF (D := (dC, dI)) (ci := 3) (v := .ref (s.heap.size + 7)) (ty := .object "BorderDays$OldMap") (C := R_B) (T := T_B) (N := 7) hx hb hts in_B t_B t_B_ok nm_B hown hK hO hS (Or.inl (rfl)) rfl 6 (by decide) (hts _ w_74) (fun _ h9 => h9) rfl hnm rfl (by decide +kernel) rfl rfl (Nat.le_of_ble_eq_true rfl) d_B_init_40 (fun H1 locs1 hz1 hO1 ho1 hS => ?_)
  have hO_zp2 := hO_zp2.keep (ho1 _ (by omega))
  have hO_zp7 := hO_zp7.keep (ho1 _ (by omega))
  have hA_z := hA_z.keep (ho1 _ (by omega))
  have hA_zp3 := hA_zp3.keep (ho1 _ (by omega))
  have hA_zp4 := hA_zp4.keep (ho1 _ (by omega))
  have hA_zp5 := hA_zp5.keep (ho1 _ (by omega))
  have hA_zp6 := hA_zp6.keep (ho1 _ (by omega))
  have hA_zp8 := hA_zp8.keep (ho1 _ (by omega))
  have hA_zp9 := hA_zp9.keep (ho1 _ (by omega))
  have hA_zp10 := hA_zp10.keep (ho1 _ (by omega))
  have hA_zp11 := hA_zp11.keep (ho1 _ (by omega))
  have hA_zp1 := hA_zp1.keep (ho1 _ (by omega))
  have hO : z_O (dC, dI) H1 a 3 [.ref s.heap.size, .int 0, .ref (s.heap.size + 1), .int 0, .int 0, .ref (s.heap.size + 2), .ref (s.heap.size + 7)] := hO1
  have hz : H1.size = s.heap.size + 12 := hz1.trans hz
  have hEnd : H1.size = s.heap.size + 12 ∧ z_BD (dC, dI) cI cS H1 (z_A0 a s.heap.size) 0 0 0 0 0 (fun _ _ => 0) (fun _ => 0) (fun _ => 0) (fun _ => 0) (fun _ => 0) (fun _ => 0) (fun _ => none) (fun _ _ => 0) (fun _ _ => 0) := ⟨hz, z_BD0 ha hO hO_zp2 hO_zp7 hA_zp1 hA_z hA_zp3 hA_zp4 hA_zp5 hA_zp6 hA_zp8 hA_zp9 hA_zp10 hA_zp11⟩
  exact z_wv hx hb hr hlocks ⟨rfl, hEnd⟩ hS d_B_init_43
set_option maxRecDepth 100000 in
set_option maxHeartbeats 4000000 in
theorem c_M_init (G : z_G s0 (dC, dI) cI cS) (hGI : z_GI s0 cI) (sz : Nat) (a : Nat)  : Met l y_M_init [Cond.code y_M_init b_M_init 1 none] ({ frames := 1, cells := 17, slots := 1184, locals := 20 }) (z_Pc s0 [.ref a] (fun H => H.size = sz ∧ z_O (dC, dI) H a 4 [.int 0, .int 0, .null, .int 0, .null, .null, .null, .null, .null, .null, .null, .int 0, .null, .int 0, .null, .null, .null, .null, .int 0, .null, .null, .null, .null])) (z_Qw (fun r H => r = none ∧ (H.size = sz + 17 ∧ z_Md (dC, dI) cI H (z_E0 a sz) 0 0 0 0 0 0 (fun _ _ => 0))) (z_fr (fun q => q = a) sz)) 17 1184 (z_fr (fun q => q = a) sz) := by
  refine z_ofW (by decide +kernel) (Nat.le_of_ble_eq_true rfl) ?_
  intro p e s m below meth c hx hb hml hr hown hlocks hnm hW0 hB ls hl
  have hts := z_hts (args := [.ref a].toArray) G.1 hW0
  have hN := z_nstW G.2.1 hW0
  have hK := va_K.moved hW0.alike G.2.2.1
  have hAI := arrOfT_moved hW0.alike G.2.2.2.1
  have hl : lv_has ls 1 [(0, .ref a)] := hl
  have hnm : meth.name = "<init>" := hnm
  have hRI := va_RA.moved hW0.alike hGI.1
  have hAO := va_AO.moved hW0.alike hGI.2
  have hRS := va_RA.moved hW0.alike G.2.2.2.2.2
  obtain ⟨rfl, hO⟩ := hB
  have hz : s.heap.size = s.heap.size := rfl
  have hS : va_S (z_fr (fun q => q = a) s.heap.size) s.heap s.heap [] := va_S.rf
  have ha := hO.lt
  have hGA : ∀ k, k < 0 → z_A cI s.heap (s.heap.size + k) (z_mlen k) (fun _ => 0) := fun k h => absurd h (Nat.not_lt_zero _)
  refine lv_aload_n hx hb d_M_init_0 rfl (lv_at hl 0 rfl) ?_
  refine W.objInit hx hb hown (hts _ w_539) (hts _ w_19) (hts _ w_20) rfl (by rw [hml]; exact hl.1) rfl d_M_init_1 (Nat.le_of_ble_eq_true rfl) (Nat.le_of_ble_eq_true rfl) ?_
  refine W.eq (g2 := F0 m 4 ls []) rfl ?_
  refine lv_aload_n hx hb d_M_init_4 rfl (lv_at hl 0 rfl) ?_
  refine lv_bipush (v := 16) hx hb d_M_init_5 (by decide) ?_
  refine z_newa (n := 16) (N := 16) (h := s.heap.size + 0) hx hb (hts _ w_45) hRI hz hS (by decide) (by decide) (by decide) (Nat.le_of_ble_eq_true rfl) (Nat.le_of_ble_eq_true rfl) d_M_init_7 (fun H1 hz1 hA1 ho1 hS => ?_)
  have hGA := z_gaN hGA hA1 rfl ho1
  have hO := hO.keep (ho1 _ (Nat.lt_of_lt_of_le ha (Nat.le_add_right _ _)))
  have hz : H1.size = s.heap.size + 1 := hz1
  refine z_putF (D := (dC, dI)) (ci := 4) (v := .ref (s.heap.size + 0)) (ty := .array .int) (C := R_M) (T := T_M) (N := 23) hx hb hts in_M t_M t_M_ok nm_M hown hK hO hS (Or.inl (rfl)) rfl 2 (by decide) (hts _ w_542) (fun _ h9 => h9) rfl hnm rfl (by decide +kernel) rfl rfl (Nat.le_of_ble_eq_true rfl) d_M_init_9 (fun H1 locs1 hz1 hO1 ho1 hS => ?_)
  have hGA := z_gaP hGA ha ho1
  have hO : z_O (dC, dI) H1 a 4 [.int 0, .int 0, .ref (s.heap.size + 0), .int 0, .null, .null, .null, .null, .null, .null, .null, .int 0, .null, .int 0, .null, .null, .null, .null, .int 0, .null, .null, .null, .null] := hO1
  have hz : H1.size = s.heap.size + 1 := hz1.trans hz
  refine lv_aload_n hx hb d_M_init_12 rfl (lv_at hl 0 rfl) ?_
  refine lv_bipush (v := 32) hx hb d_M_init_13 (by decide) ?_
  refine z_newa (n := 32) (N := 32) (h := s.heap.size + 1) hx hb (hts _ w_45) hRI hz hS (by decide) (by decide) (by decide) (Nat.le_of_ble_eq_true rfl) (Nat.le_of_ble_eq_true rfl) d_M_init_15 (fun H1 hz1 hA1 ho1 hS => ?_)
  have hGA := z_gaN hGA hA1 rfl ho1
  have hO := hO.keep (ho1 _ (Nat.lt_of_lt_of_le ha (Nat.le_add_right _ _)))
  have hz : H1.size = s.heap.size + 2 := hz1
  refine z_putF (D := (dC, dI)) (ci := 4) (v := .ref (s.heap.size + 1)) (ty := .array .int) (C := R_M) (T := T_M) (N := 23) hx hb hts in_M t_M t_M_ok nm_M hown hK hO hS (Or.inl (rfl)) rfl 4 (by decide) (hts _ w_544) (fun _ h9 => h9) rfl hnm rfl (by decide +kernel) rfl rfl (Nat.le_of_ble_eq_true rfl) d_M_init_17 (fun H1 locs1 hz1 hO1 ho1 hS => ?_)
  have hGA := z_gaP hGA ha ho1
  have hO : z_O (dC, dI) H1 a 4 [.int 0, .int 0, .ref (s.heap.size + 0), .int 0, .ref (s.heap.size + 1), .null, .null, .null, .null, .null, .null, .int 0, .null, .int 0, .null, .null, .null, .null, .int 0, .null, .null, .null, .null] := hO1
  have hz : H1.size = s.heap.size + 2 := hz1.trans hz
  refine lv_aload_n hx hb d_M_init_20 rfl (lv_at hl 0 rfl) ?_
  refine lv_bipush (v := 32) hx hb d_M_init_21 (by decide) ?_
  refine z_newa (n := 32) (N := 32) (h := s.heap.size + 2) hx hb (hts _ w_45) hRI hz hS (by decide) (by decide) (by decide) (Nat.le_of_ble_eq_true rfl) (Nat.le_of_ble_eq_true rfl) d_M_init_23 (fun H1 hz1 hA1 ho1 hS => ?_)
  have hGA := z_gaN hGA hA1 rfl ho1
  have hO := hO.keep (ho1 _ (Nat.lt_of_lt_of_le ha (Nat.le_add_right _ _)))
  have hz : H1.size = s.heap.size + 3 := hz1
  refine z_putF (D := (dC, dI)) (ci := 4) (v := .ref (s.heap.size + 2)) (ty := .array .int) (C := R_M) (T := T_M) (N := 23) hx hb hts in_M t_M t_M_ok nm_M hown hK hO hS (Or.inl (rfl)) rfl 5 (by decide) (hts _ w_545) (fun _ h9 => h9) rfl hnm rfl (by decide +kernel) rfl rfl (Nat.le_of_ble_eq_true rfl) d_M_init_25 (fun H1 locs1 hz1 hO1 ho1 hS => ?_)
  have hGA := z_gaP hGA ha ho1
  have hO : z_O (dC, dI) H1 a 4 [.int 0, .int 0, .ref (s.heap.size + 0), .int 0, .ref (s.heap.size + 1), .ref (s.heap.size + 2), .null, .null, .null, .null, .null, .int 0, .null, .int 0, .null, .null, .null, .null, .int 0, .null, .null, .null, .null] := hO1
  have hz : H1.size = s.heap.size + 3 := hz1.trans hz
  refine lv_aload_n hx hb d_M_init_28 rfl (lv_at hl 0 rfl) ?_
  refine lv_bipush (v := 32) hx hb d_M_init_29 (by decide) ?_
  refine z_newa (n := 32) (N := 32) (h := s.heap.size + 3) hx hb (hts _ w_45) hRI hz hS (by decide) (by decide) (by decide) (Nat.le_of_ble_eq_true rfl) (Nat.le_of_ble_eq_true rfl) d_M_init_31 (fun H1 hz1 hA1 ho1 hS => ?_)
  have hGA := z_gaN hGA hA1 rfl ho1
  have hO := hO.keep (ho1 _ (Nat.lt_of_lt_of_le ha (Nat.le_add_right _ _)))
  have hz : H1.size = s.heap.size + 4 := hz1
  refine z_putF (D := (dC, dI)) (ci := 4) (v := .ref (s.heap.size + 3)) (ty := .array .int) (C := R_M) (T := T_M) (N := 23) hx hb hts in_M t_M t_M_ok nm_M hown hK hO hS (Or.inl (rfl)) rfl 6 (by decide) (hts _ w_546) (fun _ h9 => h9) rfl hnm rfl (by decide +kernel) rfl rfl (Nat.le_of_ble_eq_true rfl) d_M_init_33 (fun H1 locs1 hz1 hO1 ho1 hS => ?_)
  have hGA := z_gaP hGA ha ho1
  have hO : z_O (dC, dI) H1 a 4 [.int 0, .int 0, .ref (s.heap.size + 0), .int 0, .ref (s.heap.size + 1), .ref (s.heap.size + 2), .ref (s.heap.size + 3), .null, .null, .null, .null, .int 0, .null, .int 0, .null, .null, .null, .null, .int 0, .null, .null, .null, .null] := hO1
  have hz : H1.size = s.heap.size + 4 := hz1.trans hz
  refine lv_aload_n hx hb d_M_init_36 rfl (lv_at hl 0 rfl) ?_
  refine lv_bipush (v := 32) hx hb d_M_init_37 (by decide) ?_
  refine z_newa (n := 32) (N := 32) (h := s.heap.size + 4) hx hb (hts _ w_45) hRI hz hS (by decide) (by decide) (by decide) (Nat.le_of_ble_eq_true rfl) (Nat.le_of_ble_eq_true rfl) d_M_init_39 (fun H1 hz1 hA1 ho1 hS => ?_)
  have hGA := z_gaN hGA hA1 rfl ho1
  have hO := hO.keep (ho1 _ (Nat.lt_of_lt_of_le ha (Nat.le_add_right _ _)))
  have hz : H1.size = s.heap.size + 5 := hz1
  refine z_putF (D := (dC, dI)) (ci := 4) (v := .ref (s.heap.size + 4)) (ty := .array .int) (C := R_M) (T := T_M) (N := 23) hx hb hts in_M t_M t_M_ok nm_M hown hK hO hS (Or.inl (rfl)) rfl 7 (by decide) (hts _ w_547) (fun _ h9 => h9) rfl hnm rfl (by decide +kernel) rfl rfl (Nat.le_of_ble_eq_true rfl) d_M_init_41 (fun H1 locs1 hz1 hO1 ho1 hS => ?_)
  have hGA := z_gaP hGA ha ho1
  have hO : z_O (dC, dI) H1 a 4 [.int 0, .int 0, .ref (s.heap.size + 0), .int 0, .ref (s.heap.size + 1), .ref (s.heap.size + 2), .ref (s.heap.size + 3), .ref (s.heap.size + 4), .null, .null, .null, .int 0, .null, .int 0, .null, .null, .null, .null, .int 0, .null, .null, .null, .null] := hO1
  have hz : H1.size = s.heap.size + 5 := hz1.trans hz
  refine lv_aload_n hx hb d_M_init_44 rfl (lv_at hl 0 rfl) ?_
  refine lv_sipush (v := 384) hx hb d_M_init_45 (by decide) ?_
  refine z_newa (n := 384) (N := 384) (h := s.heap.size + 5) hx hb (hts _ w_45) hRI hz hS (by decide) (by decide) (by decide) (Nat.le_of_ble_eq_true rfl) (Nat.le_of_ble_eq_true rfl) d_M_init_48 (fun H1 hz1 hA1 ho1 hS => ?_)
  have hGA := z_gaN hGA hA1 rfl ho1
  have hO := hO.keep (ho1 _ (Nat.lt_of_lt_of_le ha (Nat.le_add_right _ _)))
  have hz : H1.size = s.heap.size + 6 := hz1
  refine z_putF (D := (dC, dI)) (ci := 4) (v := .ref (s.heap.size + 5)) (ty := .array .int) (C := R_M) (T := T_M) (N := 23) hx hb hts in_M t_M t_M_ok nm_M hown hK hO hS (Or.inl (rfl)) rfl 8 (by decide) (hts _ w_548) (fun _ h9 => h9) rfl hnm rfl (by decide +kernel) rfl rfl (Nat.le_of_ble_eq_true rfl) d_M_init_50 (fun H1 locs1 hz1 hO1 ho1 hS => ?_)
  have hGA := z_gaP hGA ha ho1
  have hO : z_O (dC, dI) H1 a 4 [.int 0, .int 0, .ref (s.heap.size + 0), .int 0, .ref (s.heap.size + 1), .ref (s.heap.size + 2), .ref (s.heap.size + 3), .ref (s.heap.size + 4), .ref (s.heap.size + 5), .null, .null, .int 0, .null, .int 0, .null, .null, .null, .null, .int 0, .null, .null, .null, .null] := hO1
  have hz : H1.size = s.heap.size + 6 := hz1.trans hz
  refine lv_aload_n hx hb d_M_init_53 rfl (lv_at hl 0 rfl) ?_
  refine lv_sipush (v := 384) hx hb d_M_init_54 (by decide) ?_
  refine z_newa (n := 384) (N := 384) (h := s.heap.size + 6) hx hb (hts _ w_45) hRI hz hS (by decide) (by decide) (by decide) (Nat.le_of_ble_eq_true rfl) (Nat.le_of_ble_eq_true rfl) d_M_init_57 (fun H1 hz1 hA1 ho1 hS => ?_)
  have hGA := z_gaN hGA hA1 rfl ho1
  have hO := hO.keep (ho1 _ (Nat.lt_of_lt_of_le ha (Nat.le_add_right _ _)))
  have hz : H1.size = s.heap.size + 7 := hz1
  refine z_putF (D := (dC, dI)) (ci := 4) (v := .ref (s.heap.size + 6)) (ty := .array .int) (C := R_M) (T := T_M) (N := 23) hx hb hts in_M t_M t_M_ok nm_M hown hK hO hS (Or.inl (rfl)) rfl 9 (by decide) (hts _ w_549) (fun _ h9 => h9) rfl hnm rfl (by decide +kernel) rfl rfl (Nat.le_of_ble_eq_true rfl) d_M_init_59 (fun H1 locs1 hz1 hO1 ho1 hS => ?_)
  have hGA := z_gaP hGA ha ho1
  have hO : z_O (dC, dI) H1 a 4 [.int 0, .int 0, .ref (s.heap.size + 0), .int 0, .ref (s.heap.size + 1), .ref (s.heap.size + 2), .ref (s.heap.size + 3), .ref (s.heap.size + 4), .ref (s.heap.size + 5), .ref (s.heap.size + 6), .null, .int 0, .null, .int 0, .null, .null, .null, .null, .int 0, .null, .null, .null, .null] := hO1
  have hz : H1.size = s.heap.size + 7 := hz1.trans hz
  refine lv_aload_n hx hb d_M_init_62 rfl (lv_at hl 0 rfl) ?_
  refine lv_bipush (v := 32) hx hb d_M_init_63 (by decide) ?_
  refine z_newa (n := 32) (N := 32) (h := s.heap.size + 7) hx hb (hts _ w_45) hRI hz hS (by decide) (by decide) (by decide) (Nat.le_of_ble_eq_true rfl) (Nat.le_of_ble_eq_true rfl) d_M_init_65 (fun H1 hz1 hA1 ho1 hS => ?_)
  have hGA := z_gaN hGA hA1 rfl ho1
  have hO := hO.keep (ho1 _ (Nat.lt_of_lt_of_le ha (Nat.le_add_right _ _)))
  have hz : H1.size = s.heap.size + 8 := hz1
  refine z_putF (D := (dC, dI)) (ci := 4) (v := .ref (s.heap.size + 7)) (ty := .array .int) (C := R_M) (T := T_M) (N := 23) hx hb hts in_M t_M t_M_ok nm_M hown hK hO hS (Or.inl (rfl)) rfl 10 (by decide) (hts _ w_550) (fun _ h9 => h9) rfl hnm rfl (by decide +kernel) rfl rfl (Nat.le_of_ble_eq_true rfl) d_M_init_67 (fun H1 locs1 hz1 hO1 ho1 hS => ?_)
  have hGA := z_gaP hGA ha ho1
  have hO : z_O (dC, dI) H1 a 4 [.int 0, .int 0, .ref (s.heap.size + 0), .int 0, .ref (s.heap.size + 1), .ref (s.heap.size + 2), .ref (s.heap.size + 3), .ref (s.heap.size + 4), .ref (s.heap.size + 5), .ref (s.heap.size + 6), .ref (s.heap.size + 7), .int 0, .null, .int 0, .null, .null, .null, .null, .int 0, .null, .null, .null, .null] := hO1
  have hz : H1.size = s.heap.size + 8 := hz1.trans hz
  refine lv_aload_n hx hb d_M_init_70 rfl (lv_at hl 0 rfl) ?_
  refine lv_bipush (v := 32) hx hb d_M_init_71 (by decide) ?_
  refine z_newa (n := 32) (N := 32) (h := s.heap.size + 8) hx hb (hts _ w_45) hRI hz hS (by decide) (by decide) (by decide) (Nat.le_of_ble_eq_true rfl) (Nat.le_of_ble_eq_true rfl) d_M_init_73 (fun H1 hz1 hA1 ho1 hS => ?_)
  have hGA := z_gaN hGA hA1 rfl ho1
  have hO := hO.keep (ho1 _ (Nat.lt_of_lt_of_le ha (Nat.le_add_right _ _)))
  have hz : H1.size = s.heap.size + 9 := hz1
  refine z_putF (D := (dC, dI)) (ci := 4) (v := .ref (s.heap.size + 8)) (ty := .array .int) (C := R_M) (T := T_M) (N := 23) hx hb hts in_M t_M t_M_ok nm_M hown hK hO hS (Or.inl (rfl)) rfl 12 (by decide) (hts _ w_552) (fun _ h9 => h9) rfl hnm rfl (by decide +kernel) rfl rfl (Nat.le_of_ble_eq_true rfl) d_M_init_75 (fun H1 locs1 hz1 hO1 ho1 hS => ?_)
  have hGA := z_gaP hGA ha ho1
  have hO : z_O (dC, dI) H1 a 4 [.int 0, .int 0, .ref (s.heap.size + 0), .int 0, .ref (s.heap.size + 1), .ref (s.heap.size + 2), .ref (s.heap.size + 3), .ref (s.heap.size + 4), .ref (s.heap.size + 5), .ref (s.heap.size + 6), .ref (s.heap.size + 7), .int 0, .ref (s.heap.size + 8), .int 0, .null, .null, .null, .null, .int 0, .null, .null, .null, .null] := hO1
  have hz : H1.size = s.heap.size + 9 := hz1.trans hz
  refine lv_aload_n hx hb d_M_init_78 rfl (lv_at hl 0 rfl) ?_
  refine lv_bipush (v := 40) hx hb d_M_init_79 (by decide) ?_
  refine z_newa (n := 40) (N := 40) (h := s.heap.size + 9) hx hb (hts _ w_45) hRI hz hS (by decide) (by decide) (by decide) (Nat.le_of_ble_eq_true rfl) (Nat.le_of_ble_eq_true rfl) d_M_init_81 (fun H1 hz1 hA1 ho1 hS => ?_)
  have hGA := z_gaN hGA hA1 rfl ho1
  have hO := hO.keep (ho1 _ (Nat.lt_of_lt_of_le ha (Nat.le_add_right _ _)))
  have hz : H1.size = s.heap.size + 10 := hz1
  refine z_putF (D := (dC, dI)) (ci := 4) (v := .ref (s.heap.size + 9)) (ty := .array .int) (C := R_M) (T := T_M) (N := 23) hx hb hts in_M t_M t_M_ok nm_M hown hK hO hS (Or.inl (rfl)) rfl 14 (by decide) (hts _ w_554) (fun _ h9 => h9) rfl hnm rfl (by decide +kernel) rfl rfl (Nat.le_of_ble_eq_true rfl) d_M_init_83 (fun H1 locs1 hz1 hO1 ho1 hS => ?_)
  have hGA := z_gaP hGA ha ho1
  have hO : z_O (dC, dI) H1 a 4 [.int 0, .int 0, .ref (s.heap.size + 0), .int 0, .ref (s.heap.size + 1), .ref (s.heap.size + 2), .ref (s.heap.size + 3), .ref (s.heap.size + 4), .ref (s.heap.size + 5), .ref (s.heap.size + 6), .ref (s.heap.size + 7), .int 0, .ref (s.heap.size + 8), .int 0, .ref (s.heap.size + 9), .null, .null, .null, .int 0, .null, .null, .null, .null] := hO1
  have hz : H1.size = s.heap.size + 10 := hz1.trans hz
  refine lv_aload_n hx hb d_M_init_86 rfl (lv_at hl 0 rfl) ?_
  refine lv_bipush (v := 40) hx hb d_M_init_87 (by decide) ?_
  refine z_newa (n := 40) (N := 40) (h := s.heap.size + 10) hx hb (hts _ w_45) hRI hz hS (by decide) (by decide) (by decide) (Nat.le_of_ble_eq_true rfl) (Nat.le_of_ble_eq_true rfl) d_M_init_89 (fun H1 hz1 hA1 ho1 hS => ?_)
  have hGA := z_gaN hGA hA1 rfl ho1
  have hO := hO.keep (ho1 _ (Nat.lt_of_lt_of_le ha (Nat.le_add_right _ _)))
  have hz : H1.size = s.heap.size + 11 := hz1
  refine z_putF (D := (dC, dI)) (ci := 4) (v := .ref (s.heap.size + 10)) (ty := .array .int) (C := R_M) (T := T_M) (N := 23) hx hb hts in_M t_M t_M_ok nm_M hown hK hO hS (Or.inl (rfl)) rfl 15 (by decide) (hts _ w_555) (fun _ h9 => h9) rfl hnm rfl (by decide +kernel) rfl rfl (Nat.le_of_ble_eq_true rfl) d_M_init_91 (fun H1 locs1 hz1 hO1 ho1 hS => ?_)
  have hGA := z_gaP hGA ha ho1
  have hO : z_O (dC, dI) H1 a 4 [.int 0, .int 0, .ref (s.heap.size + 0), .int 0, .ref (s.heap.size + 1), .ref (s.heap.size + 2), .ref (s.heap.size + 3), .ref (s.heap.size + 4), .ref (s.heap.size + 5), .ref (s.heap.size + 6), .ref (s.heap.size + 7), .int 0, .ref (s.heap.size + 8), .int 0, .ref (s.heap.size + 9), .ref (s.heap.size + 10), .null, .null, .int 0, .null, .null, .null, .null] := hO1
  have hz : H1.size = s.heap.size + 11 := hz1.trans hz
  refine lv_aload_n hx hb d_M_init_94 rfl (lv_at hl 0 rfl) ?_
  refine lv_bipush (v := 40) hx hb d_M_init_95 (by decide) ?_
  refine z_newa (n := 40) (N := 40) (h := s.heap.size + 11) hx hb (hts _ w_45) hRI hz hS (by decide) (by decide) (by decide) (Nat.le_of_ble_eq_true rfl) (Nat.le_of_ble_eq_true rfl) d_M_init_97 (fun H1 hz1 hA1 ho1 hS => ?_)
  have hGA := z_gaN hGA hA1 rfl ho1
  have hO := hO.keep (ho1 _ (Nat.lt_of_lt_of_le ha (Nat.le_add_right _ _)))
  have hz : H1.size = s.heap.size + 12 := hz1
  refine z_putF (D := (dC, dI)) (ci := 4) (v := .ref (s.heap.size + 11)) (ty := .array .int) (C := R_M) (T := T_M) (N := 23) hx hb hts in_M t_M t_M_ok nm_M hown hK hO hS (Or.inl (rfl)) rfl 16 (by decide) (hts _ w_556) (fun _ h9 => h9) rfl hnm rfl (by decide +kernel) rfl rfl (Nat.le_of_ble_eq_true rfl) d_M_init_99 (fun H1 locs1 hz1 hO1 ho1 hS => ?_)
  have hGA := z_gaP hGA ha ho1
  have hO : z_O (dC, dI) H1 a 4 [.int 0, .int 0, .ref (s.heap.size + 0), .int 0, .ref (s.heap.size + 1), .ref (s.heap.size + 2), .ref (s.heap.size + 3), .ref (s.heap.size + 4), .ref (s.heap.size + 5), .ref (s.heap.size + 6), .ref (s.heap.size + 7), .int 0, .ref (s.heap.size + 8), .int 0, .ref (s.heap.size + 9), .ref (s.heap.size + 10), .ref (s.heap.size + 11), .null, .int 0, .null, .null, .null, .null] := hO1
  have hz : H1.size = s.heap.size + 12 := hz1.trans hz
  refine lv_aload_n hx hb d_M_init_102 rfl (lv_at hl 0 rfl) ?_
  refine lv_bipush (v := 40) hx hb d_M_init_103 (by decide) ?_
  refine z_newa (n := 40) (N := 40) (h := s.heap.size + 12) hx hb (hts _ w_45) hRI hz hS (by decide) (by decide) (by decide) (Nat.le_of_ble_eq_true rfl) (Nat.le_of_ble_eq_true rfl) d_M_init_105 (fun H1 hz1 hA1 ho1 hS => ?_)
  have hGA := z_gaN hGA hA1 rfl ho1
  have hO := hO.keep (ho1 _ (Nat.lt_of_lt_of_le ha (Nat.le_add_right _ _)))
  have hz : H1.size = s.heap.size + 13 := hz1
  refine z_putF (D := (dC, dI)) (ci := 4) (v := .ref (s.heap.size + 12)) (ty := .array .int) (C := R_M) (T := T_M) (N := 23) hx hb hts in_M t_M t_M_ok nm_M hown hK hO hS (Or.inl (rfl)) rfl 17 (by decide) (hts _ w_557) (fun _ h9 => h9) rfl hnm rfl (by decide +kernel) rfl rfl (Nat.le_of_ble_eq_true rfl) d_M_init_107 (fun H1 locs1 hz1 hO1 ho1 hS => ?_)
  have hGA := z_gaP hGA ha ho1
  have hO : z_O (dC, dI) H1 a 4 [.int 0, .int 0, .ref (s.heap.size + 0), .int 0, .ref (s.heap.size + 1), .ref (s.heap.size + 2), .ref (s.heap.size + 3), .ref (s.heap.size + 4), .ref (s.heap.size + 5), .ref (s.heap.size + 6), .ref (s.heap.size + 7), .int 0, .ref (s.heap.size + 8), .int 0, .ref (s.heap.size + 9), .ref (s.heap.size + 10), .ref (s.heap.size + 11), .ref (s.heap.size + 12), .int 0, .null, .null, .null, .null] := hO1
  have hz : H1.size = s.heap.size + 13 := hz1.trans hz
  refine lv_aload_n hx hb d_M_init_110 rfl (lv_at hl 0 rfl) ?_
  refine lv_bipush (v := 12) hx hb d_M_init_111 (by decide) ?_
  refine z_newa (n := 12) (N := 12) (h := s.heap.size + 13) hx hb (hts _ w_45) hRI hz hS (by decide) (by decide) (by decide) (Nat.le_of_ble_eq_true rfl) (Nat.le_of_ble_eq_true rfl) d_M_init_113 (fun H1 hz1 hA1 ho1 hS => ?_)
  have hGA := z_gaN hGA hA1 rfl ho1
  have hO := hO.keep (ho1 _ (Nat.lt_of_lt_of_le ha (Nat.le_add_right _ _)))
  have hz : H1.size = s.heap.size + 14 := hz1
  refine z_putF (D := (dC, dI)) (ci := 4) (v := .ref (s.heap.size + 13)) (ty := .array .int) (C := R_M) (T := T_M) (N := 23) hx hb hts in_M t_M t_M_ok nm_M hown hK hO hS (Or.inl (rfl)) rfl 19 (by decide) (hts _ w_559) (fun _ h9 => h9) rfl hnm rfl (by decide +kernel) rfl rfl (Nat.le_of_ble_eq_true rfl) d_M_init_115 (fun H1 locs1 hz1 hO1 ho1 hS => ?_)
  have hGA := z_gaP hGA ha ho1
  have hO : z_O (dC, dI) H1 a 4 [.int 0, .int 0, .ref (s.heap.size + 0), .int 0, .ref (s.heap.size + 1), .ref (s.heap.size + 2), .ref (s.heap.size + 3), .ref (s.heap.size + 4), .ref (s.heap.size + 5), .ref (s.heap.size + 6), .ref (s.heap.size + 7), .int 0, .ref (s.heap.size + 8), .int 0, .ref (s.heap.size + 9), .ref (s.heap.size + 10), .ref (s.heap.size + 11), .ref (s.heap.size + 12), .int 0, .ref (s.heap.size + 13), .null, .null, .null] := hO1
  have hz : H1.size = s.heap.size + 14 := hz1.trans hz
  refine lv_aload_n hx hb d_M_init_118 rfl (lv_at hl 0 rfl) ?_
  refine lv_bipush (v := 12) hx hb d_M_init_119 (by decide) ?_
  refine z_newa (n := 12) (N := 12) (h := s.heap.size + 14) hx hb (hts _ w_45) hRI hz hS (by decide) (by decide) (by decide) (Nat.le_of_ble_eq_true rfl) (Nat.le_of_ble_eq_true rfl) d_M_init_121 (fun H1 hz1 hA1 ho1 hS => ?_)
  have hGA := z_gaN hGA hA1 rfl ho1
  have hO := hO.keep (ho1 _ (Nat.lt_of_lt_of_le ha (Nat.le_add_right _ _)))
  have hz : H1.size = s.heap.size + 15 := hz1
  refine z_putF (D := (dC, dI)) (ci := 4) (v := .ref (s.heap.size + 14)) (ty := .array .int) (C := R_M) (T := T_M) (N := 23) hx hb hts in_M t_M t_M_ok nm_M hown hK hO hS (Or.inl (rfl)) rfl 20 (by decide) (hts _ w_560) (fun _ h9 => h9) rfl hnm rfl (by decide +kernel) rfl rfl (Nat.le_of_ble_eq_true rfl) d_M_init_123 (fun H1 locs1 hz1 hO1 ho1 hS => ?_)
  have hGA := z_gaP hGA ha ho1
  have hO : z_O (dC, dI) H1 a 4 [.int 0, .int 0, .ref (s.heap.size + 0), .int 0, .ref (s.heap.size + 1), .ref (s.heap.size + 2), .ref (s.heap.size + 3), .ref (s.heap.size + 4), .ref (s.heap.size + 5), .ref (s.heap.size + 6), .ref (s.heap.size + 7), .int 0, .ref (s.heap.size + 8), .int 0, .ref (s.heap.size + 9), .ref (s.heap.size + 10), .ref (s.heap.size + 11), .ref (s.heap.size + 12), .int 0, .ref (s.heap.size + 13), .ref (s.heap.size + 14), .null, .null] := hO1
  have hz : H1.size = s.heap.size + 15 := hz1.trans hz
  refine lv_aload_n hx hb d_M_init_126 rfl (lv_at hl 0 rfl) ?_
  refine lv_bipush (v := 12) hx hb d_M_init_127 (by decide) ?_
  refine z_newa (n := 12) (N := 12) (h := s.heap.size + 15) hx hb (hts _ w_45) hRI hz hS (by decide) (by decide) (by decide) (Nat.le_of_ble_eq_true rfl) (Nat.le_of_ble_eq_true rfl) d_M_init_129 (fun H1 hz1 hA1 ho1 hS => ?_)
  have hGA := z_gaN hGA hA1 rfl ho1
  have hO := hO.keep (ho1 _ (Nat.lt_of_lt_of_le ha (Nat.le_add_right _ _)))
  have hz : H1.size = s.heap.size + 16 := hz1
  refine z_putF (D := (dC, dI)) (ci := 4) (v := .ref (s.heap.size + 15)) (ty := .array .int) (C := R_M) (T := T_M) (N := 23) hx hb hts in_M t_M t_M_ok nm_M hown hK hO hS (Or.inl (rfl)) rfl 21 (by decide) (hts _ w_561) (fun _ h9 => h9) rfl hnm rfl (by decide +kernel) rfl rfl (Nat.le_of_ble_eq_true rfl) d_M_init_131 (fun H1 locs1 hz1 hO1 ho1 hS => ?_)
  have hGA := z_gaP hGA ha ho1
  have hO : z_O (dC, dI) H1 a 4 [.int 0, .int 0, .ref (s.heap.size + 0), .int 0, .ref (s.heap.size + 1), .ref (s.heap.size + 2), .ref (s.heap.size + 3), .ref (s.heap.size + 4), .ref (s.heap.size + 5), .ref (s.heap.size + 6), .ref (s.heap.size + 7), .int 0, .ref (s.heap.size + 8), .int 0, .ref (s.heap.size + 9), .ref (s.heap.size + 10), .ref (s.heap.size + 11), .ref (s.heap.size + 12), .int 0, .ref (s.heap.size + 13), .ref (s.heap.size + 14), .ref (s.heap.size + 15), .null] := hO1
  have hz : H1.size = s.heap.size + 16 := hz1.trans hz
  refine lv_aload_n hx hb d_M_init_134 rfl (lv_at hl 0 rfl) ?_
  refine lv_bipush (v := 12) hx hb d_M_init_135 (by decide) ?_
  refine z_newa (n := 12) (N := 12) (h := s.heap.size + 16) hx hb (hts _ w_45) hRI hz hS (by decide) (by decide) (by decide) (Nat.le_of_ble_eq_true rfl) (Nat.le_of_ble_eq_true rfl) d_M_init_137 (fun H1 hz1 hA1 ho1 hS => ?_)
  have hGA := z_gaN hGA hA1 rfl ho1
  have hO := hO.keep (ho1 _ (Nat.lt_of_lt_of_le ha (Nat.le_add_right _ _)))
  have hz : H1.size = s.heap.size + 17 := hz1
  refine z_putF (D := (dC, dI)) (ci := 4) (v := .ref (s.heap.size + 16)) (ty := .array .int) (C := R_M) (T := T_M) (N := 23) hx hb hts in_M t_M t_M_ok nm_M hown hK hO hS (Or.inl (rfl)) rfl 22 (by decide) (hts _ w_562) (fun _ h9 => h9) rfl hnm rfl (by decide +kernel) rfl rfl (Nat.le_of_ble_eq_true rfl) d_M_init_139 (fun H1 locs1 hz1 hO1 ho1 hS => ?_)
  have hGA := z_gaP hGA ha ho1
  have hO : z_O (dC, dI) H1 a 4 [.int 0, .int 0, .ref (s.heap.size + 0), .int 0, .ref (s.heap.size + 1), .ref (s.heap.size + 2), .ref (s.heap.size + 3), .ref (s.heap.size + 4), .ref (s.heap.size + 5), .ref (s.heap.size + 6), .ref (s.heap.size + 7), .int 0, .ref (s.heap.size + 8), .int 0, .ref (s.heap.size + 9), .ref (s.heap.size + 10), .ref (s.heap.size + 11), .ref (s.heap.size + 12), .int 0, .ref (s.heap.size + 13), .ref (s.heap.size + 14), .ref (s.heap.size + 15), .ref (s.heap.size + 16)] := hO1
  have hz : H1.size = s.heap.size + 17 := hz1.trans hz
  have hEnd : H1.size = s.heap.size + 17 ∧ z_Md (dC, dI) cI H1 (z_E0 a s.heap.size) 0 0 0 0 0 0 (fun _ _ => 0) := ⟨hz, z_Md0 ha hO hGA⟩
  exact z_wv hx hb hr hlocks ⟨rfl, hEnd⟩ hS d_M_init_142
end CTO
