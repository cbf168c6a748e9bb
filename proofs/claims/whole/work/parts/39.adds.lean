section ADD
variable {s0 : State} {dC : Nat → ClassId} {dI : Nat → Nat → Nat} {cI cS : ClassId} {l : Launch}
set_option maxRecDepth 100000 in
set_option maxHeartbeats 4000000 in
theorem c_S_addCorner (G : z_G s0 (dC, dI) cI cS) (sz : Nat) (a ax ay n : Nat) (num own fr to_ ca : Int32) (pv : Value) (xs ys : Nat → Int32) (x y : Int32) (hn : n < 12) (hd1 : a ≠ ax) (hd2 : a ≠ ay) (hd3 : ax ≠ ay) : Met l y_S_addCorner [Cond.code y_S_addCorner b_S_addCorner 3 (some .int)] ({ frames := 0, cells := 0, slots := 0, locals := 0 }) (z_Pc s0 [.ref a, .int x, .int y] (fun H => H.size = sz ∧ z_Sh (dC, dI) cI H a ax ay n num own fr to_ ca pv xs ys)) (z_Qw (fun r H => r = some (.int (nI (n + 1))) ∧ z_Sh (dC, dI) cI H a ax ay (n + 1) num own fr to_ ca pv (upd xs n x) (upd ys n y)) (z_fr (fun q => q = a ∨ q = ax ∨ q = ay) sz)) 0 0 (z_fr (fun q => q = a ∨ q = ax ∨ q = ay) sz) := by
  refine z_ofW (by decide +kernel) (Nat.le_of_ble_eq_true rfl) ?_
  intro p e s m below meth c hx hb hml hr hown hlocks hnm hW0 hB ls hl
  have hts := z_hts (args := [.ref a, .int x, .int y].toArray) G.1 hW0
  have hN := z_nstW G.2.1 hW0
  have hK := va_K.moved hW0.alike G.2.2.1
  have hAI := arrOfT_moved hW0.alike G.2.2.2.1
  have hl : lv_has ls 3 [(0, .ref a), (1, .int x), (2, .int y)] := hl
  obtain ⟨rfl, hO, hX, hY⟩ := hB
  have hz : s.heap.size = s.heap.size := rfl
  have hS : va_S (z_fr (fun q => q = a ∨ q = ax ∨ q = ay) s.heap.size) s.heap s.heap [] := va_S.rf
  refine lv_aload_n hx hb d_S_addCorner_0 rfl (lv_at hl 0 rfl) ?_
  refine va_get (D := (dC, dI)) (ci := 2) (v := .ref ax) (C := R_S) (T := T_S) (N := 9) hx hb hts in_S hown hK hO.P 0 rfl rfl 4 (by decide) (hts _ w_231) (fun _ h9 => h9) rfl d_S_addCorner_1 ?_
  refine lv_aload_n hx hb d_S_addCorner_4 rfl (lv_at hl 0 rfl) ?_
  refine va_get (D := (dC, dI)) (ci := 2) (v := .int (nI n)) (C := R_S) (T := T_S) (N := 9) hx hb hts in_S hown hK hO.P 0 rfl rfl 6 (by decide) (hts _ w_233) (fun _ h9 => h9) rfl d_S_addCorner_5 ?_
  refine lv_iload_n hx hb d_S_addCorner_8 rfl (lv_at hl 1 rfl) ?_
  refine z_iast (k := n) hx hb hAI hX hS (Or.inl (Or.inr (Or.inl rfl))) (by omega) (by decide) d_S_addCorner_9 (fun H1 locs1 hz1 hA1 ho1 hS => ?_)
  have hO := hO.keep (ho1 _ (by omega))
  have hY := hY.keep (ho1 _ (by omega))
  have hX := hA1
  have hz : H1.size = s.heap.size := hz1.trans hz
  refine lv_aload_n hx hb d_S_addCorner_10 rfl (lv_at hl 0 rfl) ?_
  refine va_get (D := (dC, dI)) (ci := 2) (v := .ref ay) (C := R_S) (T := T_S) (N := 9) hx hb hts in_S hown hK hO.P 0 rfl rfl 5 (by decide) (hts _ w_232) (fun _ h9 => h9) rfl d_S_addCorner_11 ?_
  refine lv_aload_n hx hb d_S_addCorner_14 rfl (lv_at hl 0 rfl) ?_
  refine va_get (D := (dC, dI)) (ci := 2) (v := .int (nI n)) (C := R_S) (T := T_S) (N := 9) hx hb hts in_S hown hK hO.P 0 rfl rfl 6 (by decide) (hts _ w_233) (fun _ h9 => h9) rfl d_S_addCorner_15 ?_
  refine lv_iload_n hx hb d_S_addCorner_18 rfl (lv_at hl 2 rfl) ?_
  refine z_iast (k := n) hx hb hAI hY hS (Or.inl (Or.inr (Or.inr rfl))) (by omega) (by decide) d_S_addCorner_19 (fun H1 locs1 hz1 hA1 ho1 hS => ?_)
  have hO := hO.keep (ho1 _ (by omega))
  have hX := hX.keep (ho1 _ (by omega))
  have hY := hA1
  have hz : H1.size = s.heap.size := hz1.trans hz
  refine lv_aload_n hx hb d_S_addCorner_20 rfl (lv_at hl 0 rfl) ?_
  refine lv_dup hx hb d_S_addCorner_21 rfl ?_
  refine va_get (D := (dC, dI)) (ci := 2) (v := .int (nI n)) (C := R_S) (T := T_S) (N := 9) hx hb hts in_S hown hK hO.P 0 rfl rfl 6 (by decide) (hts _ w_233) (fun _ h9 => h9) rfl d_S_addCorner_22 ?_
  refine lv_iconst (v := 1) hx hb d_S_addCorner_25 (by decide) ?_
  refine lv_iadd hx hb d_S_addCorner_26 ?_
  refine z_topi (y := nI (n + 1)) (nI_add n 1) ?_
  refine z_put (D := (dC, dI)) (ci := 2) (v := .int (nI (n + 1))) (ty := .int) (C := R_S) (T := T_S) (N := 9) hx hb hts in_S t_S t_S_ok nm_S hown hK hO hS (Or.inl (Or.inl rfl)) rfl 6 (by decide) (hts _ w_233) (fun _ h9 => h9) rfl (by decide +kernel) rfl rfl (Nat.le_of_ble_eq_true rfl) d_S_addCorner_27 (fun H1 locs1 hz1 hO1 ho1 hS => ?_)
  have hX := hX.keep (ho1 _ (by omega))
  have hY := hY.keep (ho1 _ (by omega))
  have hO : z_O (dC, dI) H1 a 2 [.int num, .int own, .int fr, .int to_, .ref ax, .ref ay, .int (nI (n + 1)), .int ca, pv] := hO1
  have hz : H1.size = s.heap.size := hz1.trans hz
  refine lv_aload_n hx hb d_S_addCorner_30 rfl (lv_at hl 0 rfl) ?_
  refine va_get (D := (dC, dI)) (ci := 2) (v := .int (nI (n + 1))) (C := R_S) (T := T_S) (N := 9) hx hb hts in_S hown hK hO.P 0 rfl rfl 6 (by decide) (hts _ w_233) (fun _ h9 => h9) rfl d_S_addCorner_31 ?_
  have hEnd := And.intro hO (And.intro hX hY)
  exact z_wi hx hb hr hlocks ⟨rfl, hEnd⟩ hS d_S_addCorner_34
set_option maxRecDepth 100000 in
set_option maxHeartbeats 4000000 in
theorem c_N_add (G : z_G s0 (dC, dI) cI cS) (sz : Nat) (a b1 b2 b3 b4 n : Nat) (ow nu fs ts : Nat → Int32) (x0 n0 f t : Int32) (hn : n < 40) (hd01 : a ≠ b1) (hd02 : a ≠ b2) (hd03 : a ≠ b3) (hd04 : a ≠ b4) (hd12 : b1 ≠ b2) (hd13 : b1 ≠ b3) (hd14 : b1 ≠ b4) (hd23 : b2 ≠ b3) (hd24 : b2 ≠ b4) (hd34 : b3 ≠ b4) : Met l y_N_add [Cond.code y_N_add b_N_add 5 none] ({ frames := 0, cells := 0, slots := 0, locals := 0 }) (z_Pc s0 [.ref a, .int x0, .int n0, .int f, .int t] (fun H => H.size = sz ∧ z_Nm (dC, dI) cI H a b1 b2 b3 b4 n ow nu fs ts)) (z_Qw (fun r H => r = none ∧ z_Nm (dC, dI) cI H a b1 b2 b3 b4 (n + 1) (upd ow n x0) (upd nu n n0) (upd fs n f) (upd ts n t)) (z_fr (fun q => q = a ∨ q = b1 ∨ q = b2 ∨ q = b3 ∨ q = b4) sz)) 0 0 (z_fr (fun q => q = a ∨ q = b1 ∨ q = b2 ∨ q = b3 ∨ q = b4) sz) := by
  refine z_ofW (by decide +kernel) (Nat.le_of_ble_eq_true rfl) ?_
  intro p e s m below meth c hx hb hml hr hown hlocks hnm hW0 hB ls hl
  have hts := z_hts (args := [.ref a, .int x0, .int n0, .int f, .int t].toArray) G.1 hW0
  have hN := z_nstW G.2.1 hW0
  have hK := va_K.moved hW0.alike G.2.2.1
  have hAI := arrOfT_moved hW0.alike G.2.2.2.1
  have hl : lv_has ls 5 [(0, .ref a), (1, .int x0), (2, .int n0), (3, .int f), (4, .int t)] := hl
  obtain ⟨rfl, hO, hA1_, hA2_, hA3_, hA4_⟩ := hB
  have hz : s.heap.size = s.heap.size := rfl
  have hS : va_S (z_fr (fun q => q = a ∨ q = b1 ∨ q = b2 ∨ q = b3 ∨ q = b4) s.heap.size) s.heap s.heap [] := va_S.rf
  refine lv_aload_n hx hb d_N_add_0 rfl (lv_at hl 0 rfl) ?_
  refine va_get (D := (dC, dI)) (ci := 0) (v := .ref b1) (C := R_N) (T := T_N) (N := 5) hx hb hts in_N hown hK hO.P 0 rfl rfl 0 (by decide) (hts _ w_29) (fun _ h9 => h9) rfl d_N_add_1 ?_
  refine lv_aload_n hx hb d_N_add_4 rfl (lv_at hl 0 rfl) ?_
  refine va_get (D := (dC, dI)) (ci := 0) (v := .int (nI n)) (C := R_N) (T := T_N) (N := 5) hx hb hts in_N hown hK hO.P 0 rfl rfl 4 (by decide) (hts _ w_33) (fun _ h9 => h9) rfl d_N_add_5 ?_
  refine lv_iload_n hx hb d_N_add_8 rfl (lv_at hl 1 rfl) ?_
  refine z_iast (k := n) hx hb hAI hA1_ hS (Or.inl (Or.inr (Or.inl rfl))) (by omega) (by decide) d_N_add_9 (fun H1 locs1 hz1 hA1 ho1 hS => ?_)
  have hO := hO.keep (ho1 _ (by omega))
  have hA2_ := hA2_.keep (ho1 _ (by omega))
  have hA3_ := hA3_.keep (ho1 _ (by omega))
  have hA4_ := hA4_.keep (ho1 _ (by omega))
  have hA1_ := hA1
  have hz : H1.size = s.heap.size := hz1.trans hz
  refine lv_aload_n hx hb d_N_add_10 rfl (lv_at hl 0 rfl) ?_
  refine va_get (D := (dC, dI)) (ci := 0) (v := .ref b2) (C := R_N) (T := T_N) (N := 5) hx hb hts in_N hown hK hO.P 0 rfl rfl 1 (by decide) (hts _ w_30) (fun _ h9 => h9) rfl d_N_add_11 ?_
  refine lv_aload_n hx hb d_N_add_14 rfl (lv_at hl 0 rfl) ?_
  refine va_get (D := (dC, dI)) (ci := 0) (v := .int (nI n)) (C := R_N) (T := T_N) (N := 5) hx hb hts in_N hown hK hO.P 0 rfl rfl 4 (by decide) (hts _ w_33) (fun _ h9 => h9) rfl d_N_add_15 ?_
  refine lv_iload_n hx hb d_N_add_18 rfl (lv_at hl 2 rfl) ?_
  refine z_iast (k := n) hx hb hAI hA2_ hS (Or.inl (Or.inr (Or.inr (Or.inl rfl)))) (by omega) (by decide) d_N_add_19 (fun H1 locs1 hz1 hA1 ho1 hS => ?_)
  have hO := hO.keep (ho1 _ (by omega))
  have hA1_ := hA1_.keep (ho1 _ (by omega))
  have hA3_ := hA3_.keep (ho1 _ (by omega))
  have hA4_ := hA4_.keep (ho1 _ (by omega))
  have hA2_ := hA1
  have hz : H1.size = s.heap.size := hz1.trans hz
  refine lv_aload_n hx hb d_N_add_20 rfl (lv_at hl 0 rfl) ?_
  refine va_get (D := (dC, dI)) (ci := 0) (v := .ref b3) (C := R_N) (T := T_N) (N := 5) hx hb hts in_N hown hK hO.P 0 rfl rfl 2 (by decide) (hts _ w_31) (fun _ h9 => h9) rfl d_N_add_21 ?_
  refine lv_aload_n hx hb d_N_add_24 rfl (lv_at hl 0 rfl) ?_
  refine va_get (D := (dC, dI)) (ci := 0) (v := .int (nI n)) (C := R_N) (T := T_N) (N := 5) hx hb hts in_N hown hK hO.P 0 rfl rfl 4 (by decide) (hts _ w_33) (fun _ h9 => h9) rfl d_N_add_25 ?_
  refine lv_iload_n hx hb d_N_add_28 rfl (lv_at hl 3 rfl) ?_
  refine z_iast (k := n) hx hb hAI hA3_ hS (Or.inl (Or.inr (Or.inr (Or.inr (Or.inl rfl))))) (by omega) (by decide) d_N_add_29 (fun H1 locs1 hz1 hA1 ho1 hS => ?_)
  have hO := hO.keep (ho1 _ (by omega))
  have hA1_ := hA1_.keep (ho1 _ (by omega))
  have hA2_ := hA2_.keep (ho1 _ (by omega))
  have hA4_ := hA4_.keep (ho1 _ (by omega))
  have hA3_ := hA1
  have hz : H1.size = s.heap.size := hz1.trans hz
  refine lv_aload_n hx hb d_N_add_30 rfl (lv_at hl 0 rfl) ?_
  refine va_get (D := (dC, dI)) (ci := 0) (v := .ref b4) (C := R_N) (T := T_N) (N := 5) hx hb hts in_N hown hK hO.P 0 rfl rfl 3 (by decide) (hts _ w_32) (fun _ h9 => h9) rfl d_N_add_31 ?_
  refine lv_aload_n hx hb d_N_add_34 rfl (lv_at hl 0 rfl) ?_
  refine va_get (D := (dC, dI)) (ci := 0) (v := .int (nI n)) (C := R_N) (T := T_N) (N := 5) hx hb hts in_N hown hK hO.P 0 rfl rfl 4 (by decide) (hts _ w_33) (fun _ h9 => h9) rfl d_N_add_35 ?_
  refine lv_iload hx hb d_N_add_38 (lv_at hl 4 rfl) ?_
  refine z_iast (k := n) hx hb hAI hA4_ hS (Or.inl (Or.inr (Or.inr (Or.inr (Or.inr rfl))))) (by omega) (by decide) d_N_add_40 (fun H1 locs1 hz1 hA1 ho1 hS => ?_)
  have hO := hO.keep (ho1 _ (by omega))
  have hA1_ := hA1_.keep (ho1 _ (by omega))
  have hA2_ := hA2_.keep (ho1 _ (by omega))
  have hA3_ := hA3_.keep (ho1 _ (by omega))
  have hA4_ := hA1
  have hz : H1.size = s.heap.size := hz1.trans hz
  refine lv_aload_n hx hb d_N_add_41 rfl (lv_at hl 0 rfl) ?_
  refine lv_dup hx hb d_N_add_42 rfl ?_
  refine va_get (D := (dC, dI)) (ci := 0) (v := .int (nI n)) (C := R_N) (T := T_N) (N := 5) hx hb hts in_N hown hK hO.P 0 rfl rfl 4 (by decide) (hts _ w_33) (fun _ h9 => h9) rfl d_N_add_43 ?_
  refine lv_iconst (v := 1) hx hb d_N_add_46 (by decide) ?_
  refine lv_iadd hx hb d_N_add_47 ?_
  refine z_topi (y := nI (n + 1)) (nI_add n 1) ?_
  refine z_put (D := (dC, dI)) (ci := 0) (v := .int (nI (n + 1))) (ty := .int) (C := R_N) (T := T_N) (N := 5) hx hb hts in_N t_N t_N_ok nm_N hown hK hO hS (Or.inl (Or.inl rfl)) rfl 4 (by decide) (hts _ w_33) (fun _ h9 => h9) rfl (by decide +kernel) rfl rfl (Nat.le_of_ble_eq_true rfl) d_N_add_48 (fun H1 locs1 hz1 hO1 ho1 hS => ?_)
  have hA1_ := hA1_.keep (ho1 _ (by omega))
  have hA2_ := hA2_.keep (ho1 _ (by omega))
  have hA3_ := hA3_.keep (ho1 _ (by omega))
  have hA4_ := hA4_.keep (ho1 _ (by omega))
  have hO : z_O (dC, dI) H1 a 0 [.ref b1, .ref b2, .ref b3, .ref b4, .int (nI (n + 1))] := hO1
  have hz : H1.size = s.heap.size := hz1.trans hz
  have hEnd := And.intro hO (And.intro hA1_ (And.intro hA2_ (And.intro hA3_ hA4_)))
  exact z_wv hx hb hr hlocks ⟨rfl, hEnd⟩ hS d_N_add_51
set_option maxRecDepth 100000 in
set_option maxHeartbeats 4000000 in
theorem c_O_add (G : z_G s0 (dC, dI) cI cS) (sz : Nat) (a b1 b2 b3 b4 n : Nat) (mx my px py : Nat → Int32) (x y u v : Int32) (hn : n < 12) (hd01 : a ≠ b1) (hd02 : a ≠ b2) (hd03 : a ≠ b3) (hd04 : a ≠ b4) (hd12 : b1 ≠ b2) (hd13 : b1 ≠ b3) (hd14 : b1 ≠ b4) (hd23 : b2 ≠ b3) (hd24 : b2 ≠ b4) (hd34 : b3 ≠ b4) : Met l y_O_add [Cond.code y_O_add b_O_add 5 (some .int)] ({ frames := 0, cells := 0, slots := 0, locals := 0 }) (z_Pc s0 [.ref a, .int x, .int y, .int u, .int v] (fun H => H.size = sz ∧ z_Om (dC, dI) cI H a b1 b2 b3 b4 n mx my px py)) (z_Qw (fun r H => r = some (.int (nI n)) ∧ z_Om (dC, dI) cI H a b1 b2 b3 b4 (n + 1) (upd mx n x) (upd my n y) (upd px n u) (upd py n v)) (z_fr (fun q => q = a ∨ q = b1 ∨ q = b2 ∨ q = b3 ∨ q = b4) sz)) 0 0 (z_fr (fun q => q = a ∨ q = b1 ∨ q = b2 ∨ q = b3 ∨ q = b4) sz) := by
  refine z_ofW (by decide +kernel) (Nat.le_of_ble_eq_true rfl) ?_
  intro p e s m below meth c hx hb hml hr hown hlocks hnm hW0 hB ls hl
  have hts := z_hts (args := [.ref a, .int x, .int y, .int u, .int v].toArray) G.1 hW0
  have hN := z_nstW G.2.1 hW0
  have hK := va_K.moved hW0.alike G.2.2.1
  have hAI := arrOfT_moved hW0.alike G.2.2.2.1
  have hl : lv_has ls 5 [(0, .ref a), (1, .int x), (2, .int y), (3, .int u), (4, .int v)] := hl
  obtain ⟨rfl, hO, hA1_, hA2_, hA3_, hA4_⟩ := hB
  have hz : s.heap.size = s.heap.size := rfl
  have hS : va_S (z_fr (fun q => q = a ∨ q = b1 ∨ q = b2 ∨ q = b3 ∨ q = b4) s.heap.size) s.heap s.heap [] := va_S.rf
  refine lv_aload_n hx hb d_O_add_0 rfl (lv_at hl 0 rfl) ?_
  refine va_get (D := (dC, dI)) (ci := 1) (v := .ref b1) (C := R_O) (T := T_O) (N := 5) hx hb hts in_O hown hK hO.P 0 rfl rfl 0 (by decide) (hts _ w_52) (fun _ h9 => h9) rfl d_O_add_1 ?_
  refine lv_aload_n hx hb d_O_add_4 rfl (lv_at hl 0 rfl) ?_
  refine va_get (D := (dC, dI)) (ci := 1) (v := .int (nI n)) (C := R_O) (T := T_O) (N := 5) hx hb hts in_O hown hK hO.P 0 rfl rfl 4 (by decide) (hts _ w_56) (fun _ h9 => h9) rfl d_O_add_5 ?_
  refine lv_iload_n hx hb d_O_add_8 rfl (lv_at hl 1 rfl) ?_
  refine z_iast (k := n) hx hb hAI hA1_ hS (Or.inl (Or.inr (Or.inl rfl))) (by omega) (by decide) d_O_add_9 (fun H1 locs1 hz1 hA1 ho1 hS => ?_)
  have hO := hO.keep (ho1 _ (by omega))
  have hA2_ := hA2_.keep (ho1 _ (by omega))
  have hA3_ := hA3_.keep (ho1 _ (by omega))
  have hA4_ := hA4_.keep (ho1 _ (by omega))
  have hA1_ := hA1
  have hz : H1.size = s.heap.size := hz1.trans hz
  refine lv_aload_n hx hb d_O_add_10 rfl (lv_at hl 0 rfl) ?_
  refine va_get (D := (dC, dI)) (ci := 1) (v := .ref b2) (C := R_O) (T := T_O) (N := 5) hx hb hts in_O hown hK hO.P 0 rfl rfl 1 (by decide) (hts _ w_53) (fun _ h9 => h9) rfl d_O_add_11 ?_
  refine lv_aload_n hx hb d_O_add_14 rfl (lv_at hl 0 rfl) ?_
  refine va_get (D := (dC, dI)) (ci := 1) (v := .int (nI n)) (C := R_O) (T := T_O) (N := 5) hx hb hts in_O hown hK hO.P 0 rfl rfl 4 (by decide) (hts _ w_56) (fun _ h9 => h9) rfl d_O_add_15 ?_
  refine lv_iload_n hx hb d_O_add_18 rfl (lv_at hl 2 rfl) ?_
  refine z_iast (k := n) hx hb hAI hA2_ hS (Or.inl (Or.inr (Or.inr (Or.inl rfl)))) (by omega) (by decide) d_O_add_19 (fun H1 locs1 hz1 hA1 ho1 hS => ?_)
  have hO := hO.keep (ho1 _ (by omega))
  have hA1_ := hA1_.keep (ho1 _ (by omega))
  have hA3_ := hA3_.keep (ho1 _ (by omega))
  have hA4_ := hA4_.keep (ho1 _ (by omega))
  have hA2_ := hA1
  have hz : H1.size = s.heap.size := hz1.trans hz
  refine lv_aload_n hx hb d_O_add_20 rfl (lv_at hl 0 rfl) ?_
  refine va_get (D := (dC, dI)) (ci := 1) (v := .ref b3) (C := R_O) (T := T_O) (N := 5) hx hb hts in_O hown hK hO.P 0 rfl rfl 2 (by decide) (hts _ w_54) (fun _ h9 => h9) rfl d_O_add_21 ?_
  refine lv_aload_n hx hb d_O_add_24 rfl (lv_at hl 0 rfl) ?_
  refine va_get (D := (dC, dI)) (ci := 1) (v := .int (nI n)) (C := R_O) (T := T_O) (N := 5) hx hb hts in_O hown hK hO.P 0 rfl rfl 4 (by decide) (hts _ w_56) (fun _ h9 => h9) rfl d_O_add_25 ?_
  refine lv_iload_n hx hb d_O_add_28 rfl (lv_at hl 3 rfl) ?_
  refine z_iast (k := n) hx hb hAI hA3_ hS (Or.inl (Or.inr (Or.inr (Or.inr (Or.inl rfl))))) (by omega) (by decide) d_O_add_29 (fun H1 locs1 hz1 hA1 ho1 hS => ?_)
  have hO := hO.keep (ho1 _ (by omega))
  have hA1_ := hA1_.keep (ho1 _ (by omega))
  have hA2_ := hA2_.keep (ho1 _ (by omega))
  have hA4_ := hA4_.keep (ho1 _ (by omega))
  have hA3_ := hA1
  have hz : H1.size = s.heap.size := hz1.trans hz
  refine lv_aload_n hx hb d_O_add_30 rfl (lv_at hl 0 rfl) ?_
  refine va_get (D := (dC, dI)) (ci := 1) (v := .ref b4) (C := R_O) (T := T_O) (N := 5) hx hb hts in_O hown hK hO.P 0 rfl rfl 3 (by decide) (hts _ w_55) (fun _ h9 => h9) rfl d_O_add_31 ?_
  refine lv_aload_n hx hb d_O_add_34 rfl (lv_at hl 0 rfl) ?_
  refine va_get (D := (dC, dI)) (ci := 1) (v := .int (nI n)) (C := R_O) (T := T_O) (N := 5) hx hb hts in_O hown hK hO.P 0 rfl rfl 4 (by decide) (hts _ w_56) (fun _ h9 => h9) rfl d_O_add_35 ?_
  refine lv_iload hx hb d_O_add_38 (lv_at hl 4 rfl) ?_
  refine z_iast (k := n) hx hb hAI hA4_ hS (Or.inl (Or.inr (Or.inr (Or.inr (Or.inr rfl))))) (by omega) (by decide) d_O_add_40 (fun H1 locs1 hz1 hA1 ho1 hS => ?_)
  have hO := hO.keep (ho1 _ (by omega))
  have hA1_ := hA1_.keep (ho1 _ (by omega))
  have hA2_ := hA2_.keep (ho1 _ (by omega))
  have hA3_ := hA3_.keep (ho1 _ (by omega))
  have hA4_ := hA1
  have hz : H1.size = s.heap.size := hz1.trans hz
  refine lv_aload_n hx hb d_O_add_41 rfl (lv_at hl 0 rfl) ?_
  refine lv_dup hx hb d_O_add_42 rfl ?_
  refine va_get (D := (dC, dI)) (ci := 1) (v := .int (nI n)) (C := R_O) (T := T_O) (N := 5) hx hb hts in_O hown hK hO.P 0 rfl rfl 4 (by decide) (hts _ w_56) (fun _ h9 => h9) rfl d_O_add_43 ?_
  refine lv_iconst (v := 1) hx hb d_O_add_46 (by decide) ?_
  refine lv_iadd hx hb d_O_add_47 ?_
  refine z_topi (y := nI (n + 1)) (nI_add n 1) ?_
  refine z_put (D := (dC, dI)) (ci := 1) (v := .int (nI (n + 1))) (ty := .int) (C := R_O) (T := T_O) (N := 5) hx hb hts in_O t_O t_O_ok nm_O hown hK hO hS (Or.inl (Or.inl rfl)) rfl 4 (by decide) (hts _ w_56) (fun _ h9 => h9) rfl (by decide +kernel) rfl rfl (Nat.le_of_ble_eq_true rfl) d_O_add_48 (fun H1 locs1 hz1 hO1 ho1 hS => ?_)
  have hA1_ := hA1_.keep (ho1 _ (by omega))
  have hA2_ := hA2_.keep (ho1 _ (by omega))
  have hA3_ := hA3_.keep (ho1 _ (by omega))
  have hA4_ := hA4_.keep (ho1 _ (by omega))
  have hO : z_O (dC, dI) H1 a 1 [.ref b1, .ref b2, .ref b3, .ref b4, .int (nI (n + 1))] := hO1
  have hz : H1.size = s.heap.size := hz1.trans hz
  refine lv_aload_n hx hb d_O_add_51 rfl (lv_at hl 0 rfl) ?_
  refine va_get (D := (dC, dI)) (ci := 1) (v := .int (nI (n + 1))) (C := R_O) (T := T_O) (N := 5) hx hb hts in_O hown hK hO.P 0 rfl rfl 4 (by decide) (hts _ w_56) (fun _ h9 => h9) rfl d_O_add_52 ?_
  refine lv_iconst (v := 1) hx hb d_O_add_55 (by decide) ?_
  refine lv_isub hx hb d_O_add_56 ?_
  refine z_topi (y := nI n) (nI_pred n) ?_
  have hEnd := And.intro hO (And.intro hA1_ (And.intro hA2_ (And.intro hA3_ hA4_)))
  exact z_wi hx hb hr hlocks ⟨rfl, hEnd⟩ hS d_O_add_57
end ADD
