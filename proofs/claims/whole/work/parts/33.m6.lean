section M6
variable {s0 : State} {dC : Nat → ClassId} {dI : Nat → Nat → Nat} {cI cS : ClassId} {l : Launch}
set_option maxRecDepth 100000 in
set_option maxHeartbeats 4000000 in
theorem c_M_corner_un (G : z_G s0 (dC, dI) cI cS) (E : Nat → Nat) (th : Int32) (mp ms mc mn mm : Nat) (gv : Nat → Nat → Int32) (sz : Nat) (x0 x y : Int32) (hx0 : pm_idx ms x0 = false) (hg : (false && ((pm_pt x y) && false)) = false) : Met l y_M_corner [Cond.code y_M_corner b_M_corner 5 (some .int)] ({ frames := 1, cells := 0, slots := 0, locals := 23 }) (z_Pc s0 [.ref (E 0), .int x0, .int x, .int y] (fun H => H.size = sz ∧ z_Md (dC, dI) cI H E th mp ms mc mn mm gv)) (z_Qw (fun r H => r = some (.int 0) ∧ z_Md (dC, dI) cI H E (pm_th false (pm_pt x y) false) mp ms mc mn mm gv) (z_fr (z_mF E) sz)) 0 0 (z_fr (z_mF E) sz) := by
  refine z_ofW (by decide +kernel) (Nat.le_of_ble_eq_true rfl) ?_
  intro p e s m below meth c hx hb hml hr hown hlocks hnm hW0 hB ls hl
  have hts := z_hts (args := [.ref (E 0), .int x0, .int x, .int y].toArray) G.1 hW0
  have hN := z_nstW G.2.1 hW0
  have hK := va_K.moved hW0.alike G.2.2.1
  have hAI := arrOfT_moved hW0.alike G.2.2.2.1
  have hl : lv_has ls 5 [(0, .ref (E 0)), (1, .int x0), (2, .int x), (3, .int y)] := hl
  obtain ⟨rfl, hB⟩ := hB
  have hS : va_S (z_fr (z_mF E) s.heap.size) s.heap s.heap [] := va_S.rf
  obtain ⟨⟨hE0, hGA⟩, hEi, ⟨hmp, hms, hmn, hmm, hmc⟩⟩ := id hB
  have tail : ∀ ls : Array Slot, lv_has ls 5 [(0, .ref (E 0)), (1, .int x0), (2, .int x), (3, .int y)] → W p l e ({ frames := 1, cells := 0, slots := 0, locals := 23 }) s m [.ref (E 0), .int x0, .int x, .int y].toArray below meth c s.heap [] 0 0 (MQ below (z_Qw (fun r H => r = some (.int 0) ∧ z_Md (dC, dI) cI H E (pm_th false (pm_pt x y) false) mp ms mc mn mm gv) (z_fr (z_mF E) s.heap.size)) [.ref (E 0), .int x0, .int x, .int y].toArray s 0 0 (z_fr (z_mF E) s.heap.size)) (F0 m 45 ls [.int (pi_b false), .int (pi_b (pm_pt x y)), .int (pi_b false), .ref (E 0)]) := by
    intro ls hl
    refine z_wrV (n := 3) (C := R_M) (rest := []) ⟨hx, hb, hml, hown, hts⟩ hW0 (c_M_goes G E th mp ms mc mn mm gv _ false (pm_pt x y) false) w_625 w_622 w_624 wp_19 w_4 (by decide +kernel) ⟨rfl, rfl, Nat.le_of_ble_eq_true rfl, Nat.le_of_ble_eq_true rfl⟩ (hE0.recv hK rfl) ⟨rfl, hB⟩ rfl rfl hl.1 (Nat.le_of_ble_eq_true rfl) d_M_corner_45 ⟨Nat.le_of_ble_eq_true rfl, Nat.le_of_ble_eq_true rfl⟩ hS (fun q h => h.elim Or.inl (fun h => Or.inr (Nat.le_trans hS.1 h))) (fun H1 locs1 hB hz1 hk1 hS => ?_)
    obtain ⟨⟨hE0, hGA⟩, hEi, ⟨hmp, hms, hmn, hmm, hmc⟩⟩ := id hB
    refine z_topi (y := 0) (by rw [hg]; rfl) ?_
    refine lv_if_ne (tgt := 53) hx hb d_M_corner_48 (by decide) (fun c_1 => ?_) (fun c_1 => ?_)
    · skip
      exact absurd (by decide) c_1
    · skip
      refine lv_iconst (v := 0) hx hb d_M_corner_51 (by decide) ?_
      exact z_wi hx hb hr hlocks (⟨rfl, hB⟩) hS d_M_corner_52
  refine lv_aload_n hx hb d_M_corner_0 rfl (lv_at hl 0 rfl) ?_
  refine lv_iload_n hx hb d_M_corner_1 rfl (lv_at hl 1 rfl) ?_
  refine z_rdV (n := 1) (C := R_M) (rest := []) ⟨hx, hb, hml, hown, hts⟩ hW0 (c_M_isShape G E th mp ms mc mn mm gv x0) w_641 w_638 w_640 wp_20 w_4 (by decide +kernel) ⟨rfl, rfl, Nat.le_of_ble_eq_true rfl, Nat.le_of_ble_eq_true rfl⟩ (hE0.recv hK rfl) (hB) rfl rfl hl.1 (Nat.le_of_ble_eq_true rfl) d_M_corner_2 ⟨Nat.zero_le _, Nat.zero_le _⟩ ?_
  refine z_topi (y := 0) (by rw [hx0]; rfl) ?_
  refine lv_istore (lv' := [(4, .int 0), (0, .ref (E 0)), (1, .int x0), (2, .int x), (3, .int y)]) hx hb d_M_corner_5 hl (by decide) rfl (fun ls hl => ?_)
  refine lv_aload_n hx hb d_M_corner_7 rfl (lv_at hl 1 rfl) ?_
  refine lv_iload hx hb d_M_corner_8 (lv_at hl 0 rfl) ?_
  refine lv_iload_n hx hb d_M_corner_10 rfl (lv_at hl 3 rfl) ?_
  refine lv_iload_n hx hb d_M_corner_11 rfl (lv_at hl 4 rfl) ?_
  refine z_rdS (n := 2) (rest := [.int 0, .ref (E 0)]) ⟨hx, hb, hml, hown, hts⟩ hW0 (c_M_isPoint G x y) w_644 w_642 w_643 w_4 (by decide +kernel) ⟨rfl, rfl, Nat.le_of_ble_eq_true rfl, Nat.le_of_ble_eq_true rfl⟩ (trivial) rfl rfl hl.1 (Nat.le_of_ble_eq_true rfl) d_M_corner_12 ⟨Nat.zero_le _, Nat.zero_le _⟩ ?_
  refine lv_iload hx hb d_M_corner_15 (lv_at hl 0 rfl) ?_
  refine lv_if_eq (tgt := 44) hx hb d_M_corner_17 (by decide) (fun c_2 => ?_) (fun c_2 => ?_)
  · skip
    refine lv_iconst (v := 0) hx hb d_M_corner_44 (by decide) ?_
    refine z_g3 (w1 := pi_b false) (w2 := pi_b (pm_pt x y)) (w3 := pi_b false) (rfl) (rfl) (rfl) ?_
    exact tail ls (lv_sub hl [1, 2, 3, 4] rfl)
  · skip
    exact absurd (by decide) c_2
set_option maxRecDepth 100000 in
set_option maxHeartbeats 4000000 in
theorem c_M_corner_no (G : z_G s0 (dC, dI) cI cS) (E : Nat → Nat) (th : Int32) (mp ms mc mn mm : Nat) (gv : Nat → Nat → Int32) (sz : Nat) (k n : Nat) (hk : k < ms) (hm : gv 4 k = nI n) (hn : n ≤ 12) (x y : Int32) (hg : (true && ((pm_pt x y) && (decide (gv 7 k = 0) && decide (n < 12)))) = false) : Met l y_M_corner [Cond.code y_M_corner b_M_corner 5 (some .int)] ({ frames := 1, cells := 0, slots := 0, locals := 23 }) (z_Pc s0 [.ref (E 0), .int (nI k), .int x, .int y] (fun H => H.size = sz ∧ z_Md (dC, dI) cI H E th mp ms mc mn mm gv)) (z_Qw (fun r H => r = some (.int 0) ∧ z_Md (dC, dI) cI H E (pm_th true (pm_pt x y) (decide (gv 7 k = 0) && decide (n < 12))) mp ms mc mn mm gv) (z_fr (z_mF E) sz)) 0 0 (z_fr (z_mF E) sz) := by
  refine z_ofW (by decide +kernel) (Nat.le_of_ble_eq_true rfl) ?_
  intro p e s m below meth c hx hb hml hr hown hlocks hnm hW0 hB ls hl
  have hts := z_hts (args := [.ref (E 0), .int (nI k), .int x, .int y].toArray) G.1 hW0
  have hN := z_nstW G.2.1 hW0
  have hK := va_K.moved hW0.alike G.2.2.1
  have hAI := arrOfT_moved hW0.alike G.2.2.2.1
  have hl : lv_has ls 5 [(0, .ref (E 0)), (1, .int (nI k)), (2, .int x), (3, .int y)] := hl
  obtain ⟨rfl, hB⟩ := hB
  have hS : va_S (z_fr (z_mF E) s.heap.size) s.heap s.heap [] := va_S.rf
  obtain ⟨⟨hE0, hGA⟩, hEi, ⟨hmp, hms, hmn, hmm, hmc⟩⟩ := id hB
  have hik : pm_idx ms (nI k) = true := pm_idx_ok hk (by omega)
  have tail : ∀ ls : Array Slot, lv_has ls 5 [(0, .ref (E 0)), (1, .int (nI k)), (2, .int x), (3, .int y)] → W p l e ({ frames := 1, cells := 0, slots := 0, locals := 23 }) s m [.ref (E 0), .int (nI k), .int x, .int y].toArray below meth c s.heap [] 0 0 (MQ below (z_Qw (fun r H => r = some (.int 0) ∧ z_Md (dC, dI) cI H E (pm_th true (pm_pt x y) (decide (gv 7 k = 0) && decide (n < 12))) mp ms mc mn mm gv) (z_fr (z_mF E) s.heap.size)) [.ref (E 0), .int (nI k), .int x, .int y].toArray s 0 0 (z_fr (z_mF E) s.heap.size)) (F0 m 45 ls [.int (pi_b (decide (gv 7 k = 0) && decide (n < 12))), .int (pi_b (pm_pt x y)), .int (pi_b true), .ref (E 0)]) := by
    intro ls hl
    refine z_wrV (n := 3) (C := R_M) (rest := []) ⟨hx, hb, hml, hown, hts⟩ hW0 (c_M_goes G E th mp ms mc mn mm gv _ true (pm_pt x y) (decide (gv 7 k = 0) && decide (n < 12))) w_625 w_622 w_624 wp_19 w_4 (by decide +kernel) ⟨rfl, rfl, Nat.le_of_ble_eq_true rfl, Nat.le_of_ble_eq_true rfl⟩ (hE0.recv hK rfl) ⟨rfl, hB⟩ rfl rfl hl.1 (Nat.le_of_ble_eq_true rfl) d_M_corner_45 ⟨Nat.le_of_ble_eq_true rfl, Nat.le_of_ble_eq_true rfl⟩ hS (fun q h => h.elim Or.inl (fun h => Or.inr (Nat.le_trans hS.1 h))) (fun H1 locs1 hB hz1 hk1 hS => ?_)
    obtain ⟨⟨hE0, hGA⟩, hEi, ⟨hmp, hms, hmn, hmm, hmc⟩⟩ := id hB
    refine z_topi (y := 0) (by rw [hg]; rfl) ?_
    refine lv_if_ne (tgt := 53) hx hb d_M_corner_48 (by decide) (fun c_1 => ?_) (fun c_1 => ?_)
    · skip
      exact absurd (by decide) c_1
    · skip
      refine lv_iconst (v := 0) hx hb d_M_corner_51 (by decide) ?_
      exact z_wi hx hb hr hlocks (⟨rfl, hB⟩) hS d_M_corner_52
  refine lv_aload_n hx hb d_M_corner_0 rfl (lv_at hl 0 rfl) ?_
  refine lv_iload_n hx hb d_M_corner_1 rfl (lv_at hl 1 rfl) ?_
  refine z_rdV (n := 1) (C := R_M) (rest := []) ⟨hx, hb, hml, hown, hts⟩ hW0 (c_M_isShape G E th mp ms mc mn mm gv (nI k)) w_641 w_638 w_640 wp_20 w_4 (by decide +kernel) ⟨rfl, rfl, Nat.le_of_ble_eq_true rfl, Nat.le_of_ble_eq_true rfl⟩ (hE0.recv hK rfl) (hB) rfl rfl hl.1 (Nat.le_of_ble_eq_true rfl) d_M_corner_2 ⟨Nat.zero_le _, Nat.zero_le _⟩ ?_
  refine z_topi (y := 1) (by rw [hik]; rfl) ?_
  refine lv_istore (lv' := [(4, .int 1), (0, .ref (E 0)), (1, .int (nI k)), (2, .int x), (3, .int y)]) hx hb d_M_corner_5 hl (by decide) rfl (fun ls hl => ?_)
  refine lv_aload_n hx hb d_M_corner_7 rfl (lv_at hl 1 rfl) ?_
  refine lv_iload hx hb d_M_corner_8 (lv_at hl 0 rfl) ?_
  refine lv_iload_n hx hb d_M_corner_10 rfl (lv_at hl 3 rfl) ?_
  refine lv_iload_n hx hb d_M_corner_11 rfl (lv_at hl 4 rfl) ?_
  refine z_rdS (n := 2) (rest := [.int 1, .ref (E 0)]) ⟨hx, hb, hml, hown, hts⟩ hW0 (c_M_isPoint G x y) w_644 w_642 w_643 w_4 (by decide +kernel) ⟨rfl, rfl, Nat.le_of_ble_eq_true rfl, Nat.le_of_ble_eq_true rfl⟩ (trivial) rfl rfl hl.1 (Nat.le_of_ble_eq_true rfl) d_M_corner_12 ⟨Nat.zero_le _, Nat.zero_le _⟩ ?_
  refine lv_iload hx hb d_M_corner_15 (lv_at hl 0 rfl) ?_
  refine lv_if_eq (tgt := 44) hx hb d_M_corner_17 (by decide) (fun c_2 => ?_) (fun c_2 => ?_)
  · skip
    exact absurd c_2 (by decide)
  · skip
    refine lv_aload_n hx hb d_M_corner_20 rfl (lv_at hl 1 rfl) ?_
    refine va_get (D := (dC, dI)) (ci := 4) (v := .ref (E 8)) (C := R_M) (T := T_M) (N := 23) hx hb hts in_M hown hK hE0.P 0 rfl rfl 10 (by decide) (hts _ w_550) (fun _ h9 => h9) rfl d_M_corner_21 ?_
    refine lv_iload_n hx hb d_M_corner_24 rfl (lv_at hl 2 rfl) ?_
    refine z_iald hx hb hAI (show z_A cI _ (E 8) 32 (gv 7) from hGA 7 (by omega)) (by omega) (by decide) d_M_corner_25 ?_
    refine lv_if_ne (tgt := 44) hx hb d_M_corner_26 (by decide) (fun c_3 => ?_) (fun c_3 => ?_)
    · skip
      refine lv_iconst (v := 0) hx hb d_M_corner_44 (by decide) ?_
      refine z_g3 (w1 := pi_b true) (w2 := pi_b (pm_pt x y)) (w3 := pi_b (decide (gv 7 k = 0) && decide (n < 12))) (by simp [pi_b, c_3]) (rfl) (rfl) ?_
      exact tail ls (lv_sub hl [1, 2, 3, 4] rfl)
    · skip
      refine lv_aload_n hx hb d_M_corner_29 rfl (lv_at hl 1 rfl) ?_
      refine va_get (D := (dC, dI)) (ci := 4) (v := .ref (E 5)) (C := R_M) (T := T_M) (N := 23) hx hb hts in_M hown hK hE0.P 0 rfl rfl 7 (by decide) (hts _ w_547) (fun _ h9 => h9) rfl d_M_corner_30 ?_
      refine lv_iload_n hx hb d_M_corner_33 rfl (lv_at hl 2 rfl) ?_
      refine z_iald hx hb hAI (show z_A cI _ (E 5) 32 (gv 4) from hGA 4 (by omega)) (by omega) (by decide) d_M_corner_34 ?_
      refine z_topi (y := nI n) hm ?_
      refine lv_bipush (v := 12) hx hb d_M_corner_35 (by decide) ?_
      refine lv_icmp_ge (tgt := 44) hx hb d_M_corner_37 (by decide) (fun c_4 => ?_) (fun c_4 => ?_)
      · skip
        have c_4 : 12 ≤ n := (nI_leI (a := 12) (b := n) (by omega) (by omega)).mp c_4
        refine lv_iconst (v := 0) hx hb d_M_corner_44 (by decide) ?_
        refine z_g3 (w1 := pi_b true) (w2 := pi_b (pm_pt x y)) (w3 := pi_b (decide (gv 7 k = 0) && decide (n < 12))) (by simp [pi_b, c_3, c_4]) (rfl) (rfl) ?_
        exact tail ls (lv_sub hl [1, 2, 3, 4] rfl)
      · skip
        have c_4 : ¬ (12 ≤ n) := fun h => c_4 ((nI_leI (a := 12) (b := n) (by omega) (by omega)).mpr h)
        refine lv_iconst (v := 1) hx hb d_M_corner_40 (by decide) ?_
        refine lv_goto (tgt := 45) hx hb d_M_corner_41 (by decide) ?_
        refine z_g3 (w1 := pi_b true) (w2 := pi_b (pm_pt x y)) (w3 := pi_b (decide (gv 7 k = 0) && decide (n < 12))) (by simp [pi_b, c_3, c_4]) (rfl) (rfl) ?_
        exact tail ls (lv_sub hl [1, 2, 3, 4] rfl)
set_option maxRecDepth 100000 in
set_option maxHeartbeats 4000000 in
theorem c_M_corner_ok (G : z_G s0 (dC, dI) cI cS) (E : Nat → Nat) (th : Int32) (mp ms mc mn mm : Nat) (gv : Nat → Nat → Int32) (sz : Nat) (k n : Nat) (hk : k < ms) (hm : gv 4 k = nI n) (hn : n ≤ 12) (x y : Int32) (hlt : n < 12) (hg : (true && ((pm_pt x y) && (decide (gv 7 k = 0) && decide (n < 12)))) = true) : Met l y_M_corner [Cond.code y_M_corner b_M_corner 5 (some .int)] ({ frames := 1, cells := 0, slots := 0, locals := 23 }) (z_Pc s0 [.ref (E 0), .int (nI k), .int x, .int y] (fun H => H.size = sz ∧ z_Md (dC, dI) cI H E th mp ms mc mn mm gv)) (z_Qw (fun r H => r = some (.int (nI (n + 1))) ∧ z_Md (dC, dI) cI H E 0 mp ms mc mn mm (va_up (va_up (va_up gv 5 (upd (gv 5) (12 * k + n) x)) 6 (upd (gv 6) (12 * k + n) y)) 4 (upd (gv 4) k (nI (n + 1))))) (z_fr (z_mF E) sz)) 0 0 (z_fr (z_mF E) sz) := by
  refine z_ofW (by decide +kernel) (Nat.le_of_ble_eq_true rfl) ?_
  intro p e s m below meth c hx hb hml hr hown hlocks hnm hW0 hB ls hl
  have hts := z_hts (args := [.ref (E 0), .int (nI k), .int x, .int y].toArray) G.1 hW0
  have hN := z_nstW G.2.1 hW0
  have hK := va_K.moved hW0.alike G.2.2.1
  have hAI := arrOfT_moved hW0.alike G.2.2.2.1
  have hl : lv_has ls 5 [(0, .ref (E 0)), (1, .int (nI k)), (2, .int x), (3, .int y)] := hl
  obtain ⟨rfl, hB⟩ := hB
  have hS : va_S (z_fr (z_mF E) s.heap.size) s.heap s.heap [] := va_S.rf
  obtain ⟨⟨hE0, hGA⟩, hEi, ⟨hmp, hms, hmn, hmm, hmc⟩⟩ := id hB
  have hik : pm_idx ms (nI k) = true := pm_idx_ok hk (by omega)
  have tail : ∀ ls : Array Slot, lv_has ls 5 [(0, .ref (E 0)), (1, .int (nI k)), (2, .int x), (3, .int y)] → W p l e ({ frames := 1, cells := 0, slots := 0, locals := 23 }) s m [.ref (E 0), .int (nI k), .int x, .int y].toArray below meth c s.heap [] 0 0 (MQ below (z_Qw (fun r H => r = some (.int (nI (n + 1))) ∧ z_Md (dC, dI) cI H E 0 mp ms mc mn mm (va_up (va_up (va_up gv 5 (upd (gv 5) (12 * k + n) x)) 6 (upd (gv 6) (12 * k + n) y)) 4 (upd (gv 4) k (nI (n + 1))))) (z_fr (z_mF E) s.heap.size)) [.ref (E 0), .int (nI k), .int x, .int y].toArray s 0 0 (z_fr (z_mF E) s.heap.size)) (F0 m 45 ls [.int (pi_b (decide (gv 7 k = 0) && decide (n < 12))), .int (pi_b (pm_pt x y)), .int (pi_b true), .ref (E 0)]) := by
    intro ls hl
    refine z_wrV (n := 3) (C := R_M) (rest := []) ⟨hx, hb, hml, hown, hts⟩ hW0 (c_M_goes G E th mp ms mc mn mm gv _ true (pm_pt x y) (decide (gv 7 k = 0) && decide (n < 12))) w_625 w_622 w_624 wp_19 w_4 (by decide +kernel) ⟨rfl, rfl, Nat.le_of_ble_eq_true rfl, Nat.le_of_ble_eq_true rfl⟩ (hE0.recv hK rfl) ⟨rfl, hB⟩ rfl rfl hl.1 (Nat.le_of_ble_eq_true rfl) d_M_corner_45 ⟨Nat.le_of_ble_eq_true rfl, Nat.le_of_ble_eq_true rfl⟩ hS (fun q h => h.elim Or.inl (fun h => Or.inr (Nat.le_trans hS.1 h))) (fun H1 locs1 hB hz1 hk1 hS => ?_)
    obtain ⟨⟨hE0, hGA⟩, hEi, ⟨hmp, hms, hmn, hmm, hmc⟩⟩ := id hB
    refine z_topi (y := 1) (by rw [hg]; rfl) ?_
    rw [pm_th_ok hg] at hB
    obtain ⟨⟨hE0, hGA⟩, hEi, ⟨hmp, hms, hmn, hmm, hmc⟩⟩ := id hB
    refine lv_if_ne (tgt := 53) hx hb d_M_corner_48 (by decide) (fun c_1 => ?_) (fun c_1 => ?_)
    · skip
      refine lv_aload_n hx hb d_M_corner_53 rfl (lv_at hl 0 rfl) ?_
      refine va_get (D := (dC, dI)) (ci := 4) (v := .ref (E 6)) (C := R_M) (T := T_M) (N := 23) hx hb hts in_M hown hK hE0.P 0 rfl rfl 8 (by decide) (hts _ w_548) (fun _ h9 => h9) rfl d_M_corner_54 ?_
      refine lv_bipush (v := 12) hx hb d_M_corner_57 (by decide) ?_
      refine lv_iload_n hx hb d_M_corner_59 rfl (lv_at hl 1 rfl) ?_
      refine lv_imul hx hb d_M_corner_60 ?_
      refine z_topi (y := nI (12 * k)) (pk_mul 12 k) ?_
      refine lv_aload_n hx hb d_M_corner_61 rfl (lv_at hl 0 rfl) ?_
      refine va_get (D := (dC, dI)) (ci := 4) (v := .ref (E 5)) (C := R_M) (T := T_M) (N := 23) hx hb hts in_M hown hK hE0.P 0 rfl rfl 7 (by decide) (hts _ w_547) (fun _ h9 => h9) rfl d_M_corner_62 ?_
      refine lv_iload_n hx hb d_M_corner_65 rfl (lv_at hl 1 rfl) ?_
      refine z_iald hx hb hAI (show z_A cI _ (E 5) 32 (gv 4) from hGA 4 (by omega)) (by omega) (by decide) d_M_corner_66 ?_
      refine z_topi (y := nI n) hm ?_
      refine lv_iadd hx hb d_M_corner_67 ?_
      refine z_topi (y := nI (12 * k + n)) (nI_add (12 * k) n) ?_
      refine lv_iload_n hx hb d_M_corner_68 rfl (lv_at hl 2 rfl) ?_
      refine z_iast (k := 12 * k + n) hx hb hAI (show z_A cI _ (E 6) 384 (gv 5) from hGA 5 (by omega)) hS (Or.inl ⟨6, by omega, rfl⟩) (by omega) (by decide) d_M_corner_69 (fun H1 locs1 hz1 hA1 ho1 hS => ?_)
      have hB : z_Md (dC, dI) cI H1 E 0 mp ms mc mn mm (va_up gv 5 (upd (gv 5) (12 * k + n) x)) := z_Md.store hB (k := 5) (by omega) hA1 ho1
      obtain ⟨⟨hE0, hGA⟩, hEi, ⟨hmp, hms, hmn, hmm, hmc⟩⟩ := id hB
      refine lv_aload_n hx hb d_M_corner_70 rfl (lv_at hl 0 rfl) ?_
      refine va_get (D := (dC, dI)) (ci := 4) (v := .ref (E 7)) (C := R_M) (T := T_M) (N := 23) hx hb hts in_M hown hK hE0.P 0 rfl rfl 9 (by decide) (hts _ w_549) (fun _ h9 => h9) rfl d_M_corner_71 ?_
      refine lv_bipush (v := 12) hx hb d_M_corner_74 (by decide) ?_
      refine lv_iload_n hx hb d_M_corner_76 rfl (lv_at hl 1 rfl) ?_
      refine lv_imul hx hb d_M_corner_77 ?_
      refine z_topi (y := nI (12 * k)) (pk_mul 12 k) ?_
      refine lv_aload_n hx hb d_M_corner_78 rfl (lv_at hl 0 rfl) ?_
      refine va_get (D := (dC, dI)) (ci := 4) (v := .ref (E 5)) (C := R_M) (T := T_M) (N := 23) hx hb hts in_M hown hK hE0.P 0 rfl rfl 7 (by decide) (hts _ w_547) (fun _ h9 => h9) rfl d_M_corner_79 ?_
      refine lv_iload_n hx hb d_M_corner_82 rfl (lv_at hl 1 rfl) ?_
      refine z_iald hx hb hAI (show z_A cI _ (E 5) 32 (gv 4) from hGA 4 (by omega)) (by omega) (by decide) d_M_corner_83 ?_
      refine z_topi (y := nI n) hm ?_
      refine lv_iadd hx hb d_M_corner_84 ?_
      refine z_topi (y := nI (12 * k + n)) (nI_add (12 * k) n) ?_
      refine lv_iload_n hx hb d_M_corner_85 rfl (lv_at hl 3 rfl) ?_
      refine z_iast (k := 12 * k + n) hx hb hAI (show z_A cI _ (E 7) 384 (gv 6) from hGA 6 (by omega)) hS (Or.inl ⟨7, by omega, rfl⟩) (by omega) (by decide) d_M_corner_86 (fun H1 locs1 hz1 hA1 ho1 hS => ?_)
      have hB : z_Md (dC, dI) cI H1 E 0 mp ms mc mn mm (va_up (va_up gv 5 (upd (gv 5) (12 * k + n) x)) 6 (upd (gv 6) (12 * k + n) y)) := z_Md.store hB (k := 6) (by omega) hA1 ho1
      obtain ⟨⟨hE0, hGA⟩, hEi, ⟨hmp, hms, hmn, hmm, hmc⟩⟩ := id hB
      refine lv_aload_n hx hb d_M_corner_87 rfl (lv_at hl 0 rfl) ?_
      refine va_get (D := (dC, dI)) (ci := 4) (v := .ref (E 5)) (C := R_M) (T := T_M) (N := 23) hx hb hts in_M hown hK hE0.P 0 rfl rfl 7 (by decide) (hts _ w_547) (fun _ h9 => h9) rfl d_M_corner_88 ?_
      refine lv_iload_n hx hb d_M_corner_91 rfl (lv_at hl 1 rfl) ?_
      refine lv_dup2_11 hx hb d_M_corner_92 rfl rfl ?_
      refine z_iald hx hb hAI (show z_A cI _ (E 5) 32 (gv 4) from hGA 4 (by omega)) (by omega) (by decide) d_M_corner_93 ?_
      refine z_topi (y := nI n) hm ?_
      refine lv_iconst (v := 1) hx hb d_M_corner_94 (by decide) ?_
      refine lv_iadd hx hb d_M_corner_95 ?_
      refine z_topi (y := nI (n + 1)) (nI_add n 1) ?_
      refine z_iast (k := k) hx hb hAI (show z_A cI _ (E 5) 32 (gv 4) from hGA 4 (by omega)) hS (Or.inl ⟨5, by omega, rfl⟩) (by omega) (by decide) d_M_corner_96 (fun H1 locs1 hz1 hA1 ho1 hS => ?_)
      have hB : z_Md (dC, dI) cI H1 E 0 mp ms mc mn mm (va_up (va_up (va_up gv 5 (upd (gv 5) (12 * k + n) x)) 6 (upd (gv 6) (12 * k + n) y)) 4 (upd (gv 4) k (nI (n + 1)))) := z_Md.store hB (k := 4) (by omega) hA1 ho1
      obtain ⟨⟨hE0, hGA⟩, hEi, ⟨hmp, hms, hmn, hmm, hmc⟩⟩ := id hB
      refine lv_aload_n hx hb d_M_corner_97 rfl (lv_at hl 0 rfl) ?_
      refine va_get (D := (dC, dI)) (ci := 4) (v := .ref (E 5)) (C := R_M) (T := T_M) (N := 23) hx hb hts in_M hown hK hE0.P 0 rfl rfl 7 (by decide) (hts _ w_547) (fun _ h9 => h9) rfl d_M_corner_98 ?_
      refine lv_iload_n hx hb d_M_corner_101 rfl (lv_at hl 1 rfl) ?_
      refine z_iald hx hb hAI (show z_A cI _ (E 5) 32 (upd (gv 4) k (nI (n + 1))) from hGA 4 (by omega)) (by omega) (by decide) d_M_corner_102 ?_
      exact z_wi hx hb hr hlocks (⟨by simp [upd], hB⟩) hS d_M_corner_103
    · skip
      exact absurd c_1 (by decide)
  refine lv_aload_n hx hb d_M_corner_0 rfl (lv_at hl 0 rfl) ?_
  refine lv_iload_n hx hb d_M_corner_1 rfl (lv_at hl 1 rfl) ?_
  refine z_rdV (n := 1) (C := R_M) (rest := []) ⟨hx, hb, hml, hown, hts⟩ hW0 (c_M_isShape G E th mp ms mc mn mm gv (nI k)) w_641 w_638 w_640 wp_20 w_4 (by decide +kernel) ⟨rfl, rfl, Nat.le_of_ble_eq_true rfl, Nat.le_of_ble_eq_true rfl⟩ (hE0.recv hK rfl) (hB) rfl rfl hl.1 (Nat.le_of_ble_eq_true rfl) d_M_corner_2 ⟨Nat.zero_le _, Nat.zero_le _⟩ ?_
  refine z_topi (y := 1) (by rw [hik]; rfl) ?_
  refine lv_istore (lv' := [(4, .int 1), (0, .ref (E 0)), (1, .int (nI k)), (2, .int x), (3, .int y)]) hx hb d_M_corner_5 hl (by decide) rfl (fun ls hl => ?_)
  refine lv_aload_n hx hb d_M_corner_7 rfl (lv_at hl 1 rfl) ?_
  refine lv_iload hx hb d_M_corner_8 (lv_at hl 0 rfl) ?_
  refine lv_iload_n hx hb d_M_corner_10 rfl (lv_at hl 3 rfl) ?_
  refine lv_iload_n hx hb d_M_corner_11 rfl (lv_at hl 4 rfl) ?_
  refine z_rdS (n := 2) (rest := [.int 1, .ref (E 0)]) ⟨hx, hb, hml, hown, hts⟩ hW0 (c_M_isPoint G x y) w_644 w_642 w_643 w_4 (by decide +kernel) ⟨rfl, rfl, Nat.le_of_ble_eq_true rfl, Nat.le_of_ble_eq_true rfl⟩ (trivial) rfl rfl hl.1 (Nat.le_of_ble_eq_true rfl) d_M_corner_12 ⟨Nat.zero_le _, Nat.zero_le _⟩ ?_
  refine lv_iload hx hb d_M_corner_15 (lv_at hl 0 rfl) ?_
  refine lv_if_eq (tgt := 44) hx hb d_M_corner_17 (by decide) (fun c_2 => ?_) (fun c_2 => ?_)
  · skip
    exact absurd c_2 (by decide)
  · skip
    refine lv_aload_n hx hb d_M_corner_20 rfl (lv_at hl 1 rfl) ?_
    refine va_get (D := (dC, dI)) (ci := 4) (v := .ref (E 8)) (C := R_M) (T := T_M) (N := 23) hx hb hts in_M hown hK hE0.P 0 rfl rfl 10 (by decide) (hts _ w_550) (fun _ h9 => h9) rfl d_M_corner_21 ?_
    refine lv_iload_n hx hb d_M_corner_24 rfl (lv_at hl 2 rfl) ?_
    refine z_iald hx hb hAI (show z_A cI _ (E 8) 32 (gv 7) from hGA 7 (by omega)) (by omega) (by decide) d_M_corner_25 ?_
    refine lv_if_ne (tgt := 44) hx hb d_M_corner_26 (by decide) (fun c_3 => ?_) (fun c_3 => ?_)
    · skip
      refine lv_iconst (v := 0) hx hb d_M_corner_44 (by decide) ?_
      refine z_g3 (w1 := pi_b true) (w2 := pi_b (pm_pt x y)) (w3 := pi_b (decide (gv 7 k = 0) && decide (n < 12))) (by simp [pi_b, c_3]) (rfl) (rfl) ?_
      exact tail ls (lv_sub hl [1, 2, 3, 4] rfl)
    · skip
      refine lv_aload_n hx hb d_M_corner_29 rfl (lv_at hl 1 rfl) ?_
      refine va_get (D := (dC, dI)) (ci := 4) (v := .ref (E 5)) (C := R_M) (T := T_M) (N := 23) hx hb hts in_M hown hK hE0.P 0 rfl rfl 7 (by decide) (hts _ w_547) (fun _ h9 => h9) rfl d_M_corner_30 ?_
      refine lv_iload_n hx hb d_M_corner_33 rfl (lv_at hl 2 rfl) ?_
      refine z_iald hx hb hAI (show z_A cI _ (E 5) 32 (gv 4) from hGA 4 (by omega)) (by omega) (by decide) d_M_corner_34 ?_
      refine z_topi (y := nI n) hm ?_
      refine lv_bipush (v := 12) hx hb d_M_corner_35 (by decide) ?_
      refine lv_icmp_ge (tgt := 44) hx hb d_M_corner_37 (by decide) (fun c_4 => ?_) (fun c_4 => ?_)
      · skip
        have c_4 : 12 ≤ n := (nI_leI (a := 12) (b := n) (by omega) (by omega)).mp c_4
        refine lv_iconst (v := 0) hx hb d_M_corner_44 (by decide) ?_
        refine z_g3 (w1 := pi_b true) (w2 := pi_b (pm_pt x y)) (w3 := pi_b (decide (gv 7 k = 0) && decide (n < 12))) (by simp [pi_b, c_3, c_4]) (rfl) (rfl) ?_
        exact tail ls (lv_sub hl [1, 2, 3, 4] rfl)
      · skip
        have c_4 : ¬ (12 ≤ n) := fun h => c_4 ((nI_leI (a := 12) (b := n) (by omega) (by omega)).mpr h)
        refine lv_iconst (v := 1) hx hb d_M_corner_40 (by decide) ?_
        refine lv_goto (tgt := 45) hx hb d_M_corner_41 (by decide) ?_
        refine z_g3 (w1 := pi_b true) (w2 := pi_b (pm_pt x y)) (w3 := pi_b (decide (gv 7 k = 0) && decide (n < 12))) (by simp [pi_b, c_3, c_4]) (rfl) (rfl) ?_
        exact tail ls (lv_sub hl [1, 2, 3, 4] rfl)
set_option maxRecDepth 100000 in
set_option maxHeartbeats 4000000 in
theorem c_M_close_un (G : z_G s0 (dC, dI) cI cS) (E : Nat → Nat) (th : Int32) (mp ms mc mn mm : Nat) (gv : Nat → Nat → Int32) (sz : Nat) (x0 : Int32) (hx0 : pm_idx ms x0 = false) (hg : (false && (true && true)) = false) : Met l y_M_close [Cond.code y_M_close b_M_close 2 (some .boolean)] ({ frames := 1, cells := 0, slots := 0, locals := 23 }) (z_Pc s0 [.ref (E 0), .int x0] (fun H => H.size = sz ∧ z_Md (dC, dI) cI H E th mp ms mc mn mm gv)) (z_Qw (fun r H => r = some (.int (pi_b false)) ∧ z_Md (dC, dI) cI H E (pm_th false true true) mp ms mc mn mm gv) (z_fr (z_mF E) sz)) 0 0 (z_fr (z_mF E) sz) := by
  refine z_ofW (by decide +kernel) (Nat.le_of_ble_eq_true rfl) ?_
  intro p e s m below meth c hx hb hml hr hown hlocks hnm hW0 hB ls hl
  have hts := z_hts (args := [.ref (E 0), .int x0].toArray) G.1 hW0
  have hN := z_nstW G.2.1 hW0
  have hK := va_K.moved hW0.alike G.2.2.1
  have hAI := arrOfT_moved hW0.alike G.2.2.2.1
  have hl : lv_has ls 2 [(0, .ref (E 0)), (1, .int x0)] := hl
  obtain ⟨rfl, hB⟩ := hB
  have hS : va_S (z_fr (z_mF E) s.heap.size) s.heap s.heap [] := va_S.rf
  obtain ⟨⟨hE0, hGA⟩, hEi, ⟨hmp, hms, hmn, hmm, hmc⟩⟩ := id hB
  have tail : ∀ ls : Array Slot, lv_has ls 2 [(0, .ref (E 0)), (1, .int x0)] → W p l e ({ frames := 1, cells := 0, slots := 0, locals := 23 }) s m [.ref (E 0), .int x0].toArray below meth c s.heap [] 0 0 (MQ below (z_Qw (fun r H => r = some (.int (pi_b false)) ∧ z_Md (dC, dI) cI H E (pm_th false true true) mp ms mc mn mm gv) (z_fr (z_mF E) s.heap.size)) [.ref (E 0), .int x0].toArray s 0 0 (z_fr (z_mF E) s.heap.size)) (F0 m 8 ls [.int (pi_b true), .int (pi_b true), .int (pi_b false), .ref (E 0)]) := by
    intro ls hl
    refine z_wrV (n := 3) (C := R_M) (rest := []) ⟨hx, hb, hml, hown, hts⟩ hW0 (c_M_goes G E th mp ms mc mn mm gv _ false true true) w_625 w_622 w_624 wp_19 w_4 (by decide +kernel) ⟨rfl, rfl, Nat.le_of_ble_eq_true rfl, Nat.le_of_ble_eq_true rfl⟩ (hE0.recv hK rfl) ⟨rfl, hB⟩ rfl rfl hl.1 (Nat.le_of_ble_eq_true rfl) d_M_close_8 ⟨Nat.le_of_ble_eq_true rfl, Nat.le_of_ble_eq_true rfl⟩ hS (fun q h => h.elim Or.inl (fun h => Or.inr (Nat.le_trans hS.1 h))) (fun H1 locs1 hB hz1 hk1 hS => ?_)
    obtain ⟨⟨hE0, hGA⟩, hEi, ⟨hmp, hms, hmn, hmm, hmc⟩⟩ := id hB
    refine z_topi (y := 0) (by rw [hg]; rfl) ?_
    refine lv_if_ne (tgt := 16) hx hb d_M_close_11 (by decide) (fun c_1 => ?_) (fun c_1 => ?_)
    · skip
      exact absurd (by decide) c_1
    · skip
      refine lv_iconst (v := 0) hx hb d_M_close_14 (by decide) ?_
      exact z_wz (v := false) hx hb hr hlocks (rfl) (⟨rfl, hB⟩) hS d_M_close_15
  refine lv_aload_n hx hb d_M_close_0 rfl (lv_at hl 0 rfl) ?_
  refine lv_aload_n hx hb d_M_close_1 rfl (lv_at hl 0 rfl) ?_
  refine lv_iload_n hx hb d_M_close_2 rfl (lv_at hl 1 rfl) ?_
  refine z_rdV (n := 1) (C := R_M) (rest := [.ref (E 0)]) ⟨hx, hb, hml, hown, hts⟩ hW0 (c_M_isShape G E th mp ms mc mn mm gv x0) w_641 w_638 w_640 wp_20 w_4 (by decide +kernel) ⟨rfl, rfl, Nat.le_of_ble_eq_true rfl, Nat.le_of_ble_eq_true rfl⟩ (hE0.recv hK rfl) (hB) rfl rfl hl.1 (Nat.le_of_ble_eq_true rfl) d_M_close_3 ⟨Nat.zero_le _, Nat.zero_le _⟩ ?_
  refine z_topi (y := 0) (by rw [hx0]; rfl) ?_
  refine lv_iconst (v := 1) hx hb d_M_close_6 (by decide) ?_
  refine lv_iconst (v := 1) hx hb d_M_close_7 (by decide) ?_
  refine z_g3 (w1 := pi_b false) (w2 := pi_b true) (w3 := pi_b true) (rfl) (rfl) (rfl) ?_
  exact tail ls (lv_sub hl [0, 1] rfl)
set_option maxRecDepth 100000 in
set_option maxHeartbeats 4000000 in
theorem c_M_close_no (G : z_G s0 (dC, dI) cI cS) (E : Nat → Nat) (th : Int32) (mp ms mc mn mm : Nat) (gv : Nat → Nat → Int32) (sz : Nat) (k n : Nat) (hk : k < ms) (hm : gv 4 k = nI n) (hn : n ≤ 12) (hno : ¬ (¬ 0 < gv 7 k ∧ pm_can (gv 5) (gv 6) n k = true)) (hg : (true && (true && true)) = true) : Met l y_M_close [Cond.code y_M_close b_M_close 2 (some .boolean)] ({ frames := 4, cells := 0, slots := 0, locals := 104 }) (z_Pc s0 [.ref (E 0), .int (nI k)] (fun H => H.size = sz ∧ z_Md (dC, dI) cI H E th mp ms mc mn mm gv)) (z_Qw (fun r H => r = some (.int (pi_b false)) ∧ z_Md (dC, dI) cI H E 0 mp ms mc mn mm gv) (z_fr (z_mF E) sz)) 0 0 (z_fr (z_mF E) sz) := by
  refine z_ofW (by decide +kernel) (Nat.le_of_ble_eq_true rfl) ?_
  intro p e s m below meth c hx hb hml hr hown hlocks hnm hW0 hB ls hl
  have hts := z_hts (args := [.ref (E 0), .int (nI k)].toArray) G.1 hW0
  have hN := z_nstW G.2.1 hW0
  have hK := va_K.moved hW0.alike G.2.2.1
  have hAI := arrOfT_moved hW0.alike G.2.2.2.1
  have hl : lv_has ls 2 [(0, .ref (E 0)), (1, .int (nI k))] := hl
  obtain ⟨rfl, hB⟩ := hB
  have hS : va_S (z_fr (z_mF E) s.heap.size) s.heap s.heap [] := va_S.rf
  obtain ⟨⟨hE0, hGA⟩, hEi, ⟨hmp, hms, hmn, hmm, hmc⟩⟩ := id hB
  have hik : pm_idx ms (nI k) = true := pm_idx_ok hk (by omega)
  have tail : ∀ ls : Array Slot, lv_has ls 2 [(0, .ref (E 0)), (1, .int (nI k))] → W p l e ({ frames := 4, cells := 0, slots := 0, locals := 104 }) s m [.ref (E 0), .int (nI k)].toArray below meth c s.heap [] 0 0 (MQ below (z_Qw (fun r H => r = some (.int (pi_b false)) ∧ z_Md (dC, dI) cI H E 0 mp ms mc mn mm gv) (z_fr (z_mF E) s.heap.size)) [.ref (E 0), .int (nI k)].toArray s 0 0 (z_fr (z_mF E) s.heap.size)) (F0 m 8 ls [.int (pi_b true), .int (pi_b true), .int (pi_b true), .ref (E 0)]) := by
    intro ls hl
    refine z_wrV (n := 3) (C := R_M) (rest := []) ⟨hx, hb, hml, hown, hts⟩ hW0 (c_M_goes G E th mp ms mc mn mm gv _ true true true) w_625 w_622 w_624 wp_19 w_4 (by decide +kernel) ⟨rfl, rfl, Nat.le_of_ble_eq_true rfl, Nat.le_of_ble_eq_true rfl⟩ (hE0.recv hK rfl) ⟨rfl, hB⟩ rfl rfl hl.1 (Nat.le_of_ble_eq_true rfl) d_M_close_8 ⟨Nat.le_of_ble_eq_true rfl, Nat.le_of_ble_eq_true rfl⟩ hS (fun q h => h.elim Or.inl (fun h => Or.inr (Nat.le_trans hS.1 h))) (fun H1 locs1 hB hz1 hk1 hS => ?_)
    obtain ⟨⟨hE0, hGA⟩, hEi, ⟨hmp, hms, hmn, hmm, hmc⟩⟩ := id hB
    refine z_topi (y := 1) (by rw [hg]; rfl) ?_
    rw [pm_th_ok hg] at hB
    obtain ⟨⟨hE0, hGA⟩, hEi, ⟨hmp, hms, hmn, hmm, hmc⟩⟩ := id hB
    refine lv_if_ne (tgt := 16) hx hb d_M_close_11 (by decide) (fun c_1 => ?_) (fun c_1 => ?_)
    · skip
      refine lv_aload_n hx hb d_M_close_16 rfl (lv_at hl 0 rfl) ?_
      refine va_get (D := (dC, dI)) (ci := 4) (v := .ref (E 8)) (C := R_M) (T := T_M) (N := 23) hx hb hts in_M hown hK hE0.P 0 rfl rfl 10 (by decide) (hts _ w_550) (fun _ h9 => h9) rfl d_M_close_17 ?_
      refine lv_iload_n hx hb d_M_close_20 rfl (lv_at hl 1 rfl) ?_
      refine z_iald hx hb hAI (show z_A cI _ (E 8) 32 (gv 7) from hGA 7 (by omega)) (by omega) (by decide) d_M_close_21 ?_
      refine lv_if_gt (tgt := 33) hx hb d_M_close_22 (by decide) (fun c_2 => ?_) (fun c_2 => ?_)
      · skip
        have c_2' : ¬ (((gv 7) k) ≤ (0 : Int32)) := Int32.not_le.mpr c_2
        refine lv_iconst (v := 0) hx hb d_M_close_33 (by decide) ?_
        exact z_wz (v := false) hx hb hr hlocks (rfl) (⟨rfl, hB⟩) hS d_M_close_34
      · skip
        have c_2' : ((gv 7) k) ≤ (0 : Int32) := Int32.not_lt.mp c_2
        refine lv_aload_n hx hb d_M_close_25 rfl (lv_at hl 0 rfl) ?_
        refine lv_iload_n hx hb d_M_close_26 rfl (lv_at hl 1 rfl) ?_
        refine z_rdV (n := 1) (C := R_M) (rest := []) ⟨hx, hb, hml, hown, hts⟩ hW0 (c_M_canClose G E 0 mp ms mc mn mm gv k n (by omega) hm hn) w_652 w_649 w_651 wp_21 w_4 (by decide +kernel) ⟨rfl, rfl, Nat.le_of_ble_eq_true rfl, Nat.le_of_ble_eq_true rfl⟩ (hE0.recv hK rfl) (hB) rfl rfl hl.1 (Nat.le_of_ble_eq_true rfl) d_M_close_27 ⟨Nat.zero_le _, Nat.zero_le _⟩ ?_
        refine lv_if_ne (tgt := 35) hx hb d_M_close_30 (by decide) (fun c_3 => ?_) (fun c_3 => ?_)
        · skip
          have c_3 : (pm_can (gv 5) (gv 6) n k) = true := pi_b_1.mp c_3
          exact absurd ⟨c_2, c_3⟩ hno
        · skip
          have c_3 : (pm_can (gv 5) (gv 6) n k) = false := pi_b_0.mp c_3
          refine lv_iconst (v := 0) hx hb d_M_close_33 (by decide) ?_
          exact z_wz (v := false) hx hb hr hlocks (rfl) (⟨rfl, hB⟩) hS d_M_close_34
    · skip
      exact absurd c_1 (by decide)
  refine lv_aload_n hx hb d_M_close_0 rfl (lv_at hl 0 rfl) ?_
  refine lv_aload_n hx hb d_M_close_1 rfl (lv_at hl 0 rfl) ?_
  refine lv_iload_n hx hb d_M_close_2 rfl (lv_at hl 1 rfl) ?_
  refine z_rdV (n := 1) (C := R_M) (rest := [.ref (E 0)]) ⟨hx, hb, hml, hown, hts⟩ hW0 (c_M_isShape G E th mp ms mc mn mm gv (nI k)) w_641 w_638 w_640 wp_20 w_4 (by decide +kernel) ⟨rfl, rfl, Nat.le_of_ble_eq_true rfl, Nat.le_of_ble_eq_true rfl⟩ (hE0.recv hK rfl) (hB) rfl rfl hl.1 (Nat.le_of_ble_eq_true rfl) d_M_close_3 ⟨Nat.zero_le _, Nat.zero_le _⟩ ?_
  refine z_topi (y := 1) (by rw [hik]; rfl) ?_
  refine lv_iconst (v := 1) hx hb d_M_close_6 (by decide) ?_
  refine lv_iconst (v := 1) hx hb d_M_close_7 (by decide) ?_
  refine z_g3 (w1 := pi_b true) (w2 := pi_b true) (w3 := pi_b true) (rfl) (rfl) (rfl) ?_
  exact tail ls (lv_sub hl [0, 1] rfl)
set_option maxRecDepth 100000 in
set_option maxHeartbeats 4000000 in
theorem c_M_close_ok (G : z_G s0 (dC, dI) cI cS) (E : Nat → Nat) (th : Int32) (mp ms mc mn mm : Nat) (gv : Nat → Nat → Int32) (sz : Nat) (k n : Nat) (hk : k < ms) (hm : gv 4 k = nI n) (hn : n ≤ 12) (hc1 : ¬ 0 < gv 7 k) (hc2 : pm_can (gv 5) (gv 6) n k = true) (hcl : mc < 10000) (hg : (true && (true && true)) = true) : Met l y_M_close [Cond.code y_M_close b_M_close 2 (some .boolean)] ({ frames := 4, cells := 0, slots := 0, locals := 104 }) (z_Pc s0 [.ref (E 0), .int (nI k)] (fun H => H.size = sz ∧ z_Md (dC, dI) cI H E th mp ms mc mn mm gv)) (z_Qw (fun r H => r = some (.int (pi_b true)) ∧ z_Md (dC, dI) cI H E 0 mp ms (mc + 1) mn mm (va_up gv 7 (upd (gv 7) k (nI (mc + 1))))) (z_fr (z_mF E) sz)) 0 0 (z_fr (z_mF E) sz) := by
  refine z_ofW (by decide +kernel) (Nat.le_of_ble_eq_true rfl) ?_
  intro p e s m below meth c hx hb hml hr hown hlocks hnm hW0 hB ls hl
  have hts := z_hts (args := [.ref (E 0), .int (nI k)].toArray) G.1 hW0
  have hN := z_nstW G.2.1 hW0
  have hK := va_K.moved hW0.alike G.2.2.1
  have hAI := arrOfT_moved hW0.alike G.2.2.2.1
  have hl : lv_has ls 2 [(0, .ref (E 0)), (1, .int (nI k))] := hl
  obtain ⟨rfl, hB⟩ := hB
  have hS : va_S (z_fr (z_mF E) s.heap.size) s.heap s.heap [] := va_S.rf
  obtain ⟨⟨hE0, hGA⟩, hEi, ⟨hmp, hms, hmn, hmm, hmc⟩⟩ := id hB
  have hik : pm_idx ms (nI k) = true := pm_idx_ok hk (by omega)
  have tail : ∀ ls : Array Slot, lv_has ls 2 [(0, .ref (E 0)), (1, .int (nI k))] → W p l e ({ frames := 4, cells := 0, slots := 0, locals := 104 }) s m [.ref (E 0), .int (nI k)].toArray below meth c s.heap [] 0 0 (MQ below (z_Qw (fun r H => r = some (.int (pi_b true)) ∧ z_Md (dC, dI) cI H E 0 mp ms (mc + 1) mn mm (va_up gv 7 (upd (gv 7) k (nI (mc + 1))))) (z_fr (z_mF E) s.heap.size)) [.ref (E 0), .int (nI k)].toArray s 0 0 (z_fr (z_mF E) s.heap.size)) (F0 m 8 ls [.int (pi_b true), .int (pi_b true), .int (pi_b true), .ref (E 0)]) := by
    intro ls hl
    refine z_wrV (n := 3) (C := R_M) (rest := []) ⟨hx, hb, hml, hown, hts⟩ hW0 (c_M_goes G E th mp ms mc mn mm gv _ true true true) w_625 w_622 w_624 wp_19 w_4 (by decide +kernel) ⟨rfl, rfl, Nat.le_of_ble_eq_true rfl, Nat.le_of_ble_eq_true rfl⟩ (hE0.recv hK rfl) ⟨rfl, hB⟩ rfl rfl hl.1 (Nat.le_of_ble_eq_true rfl) d_M_close_8 ⟨Nat.le_of_ble_eq_true rfl, Nat.le_of_ble_eq_true rfl⟩ hS (fun q h => h.elim Or.inl (fun h => Or.inr (Nat.le_trans hS.1 h))) (fun H1 locs1 hB hz1 hk1 hS => ?_)
    obtain ⟨⟨hE0, hGA⟩, hEi, ⟨hmp, hms, hmn, hmm, hmc⟩⟩ := id hB
    refine z_topi (y := 1) (by rw [hg]; rfl) ?_
    rw [pm_th_ok hg] at hB
    obtain ⟨⟨hE0, hGA⟩, hEi, ⟨hmp, hms, hmn, hmm, hmc⟩⟩ := id hB
    refine lv_if_ne (tgt := 16) hx hb d_M_close_11 (by decide) (fun c_1 => ?_) (fun c_1 => ?_)
    · skip
      refine lv_aload_n hx hb d_M_close_16 rfl (lv_at hl 0 rfl) ?_
      refine va_get (D := (dC, dI)) (ci := 4) (v := .ref (E 8)) (C := R_M) (T := T_M) (N := 23) hx hb hts in_M hown hK hE0.P 0 rfl rfl 10 (by decide) (hts _ w_550) (fun _ h9 => h9) rfl d_M_close_17 ?_
      refine lv_iload_n hx hb d_M_close_20 rfl (lv_at hl 1 rfl) ?_
      refine z_iald hx hb hAI (show z_A cI _ (E 8) 32 (gv 7) from hGA 7 (by omega)) (by omega) (by decide) d_M_close_21 ?_
      refine lv_if_gt (tgt := 33) hx hb d_M_close_22 (by decide) (fun c_2 => ?_) (fun c_2 => ?_)
      · skip
        have c_2' : ¬ (((gv 7) k) ≤ (0 : Int32)) := Int32.not_le.mpr c_2
        exact absurd c_2 hc1
      · skip
        have c_2' : ((gv 7) k) ≤ (0 : Int32) := Int32.not_lt.mp c_2
        refine lv_aload_n hx hb d_M_close_25 rfl (lv_at hl 0 rfl) ?_
        refine lv_iload_n hx hb d_M_close_26 rfl (lv_at hl 1 rfl) ?_
        refine z_rdV (n := 1) (C := R_M) (rest := []) ⟨hx, hb, hml, hown, hts⟩ hW0 (c_M_canClose G E 0 mp ms mc mn mm gv k n (by omega) hm hn) w_652 w_649 w_651 wp_21 w_4 (by decide +kernel) ⟨rfl, rfl, Nat.le_of_ble_eq_true rfl, Nat.le_of_ble_eq_true rfl⟩ (hE0.recv hK rfl) (hB) rfl rfl hl.1 (Nat.le_of_ble_eq_true rfl) d_M_close_27 ⟨Nat.zero_le _, Nat.zero_le _⟩ ?_
        refine lv_if_ne (tgt := 35) hx hb d_M_close_30 (by decide) (fun c_3 => ?_) (fun c_3 => ?_)
        · skip
          have c_3 : (pm_can (gv 5) (gv 6) n k) = true := pi_b_1.mp c_3
          refine lv_aload_n hx hb d_M_close_35 rfl (lv_at hl 0 rfl) ?_
          refine lv_dup hx hb d_M_close_36 rfl ?_
          refine va_get (D := (dC, dI)) (ci := 4) (v := .int (nI mc)) (C := R_M) (T := T_M) (N := 23) hx hb hts in_M hown hK hE0.P 0 rfl rfl 11 (by decide) (hts _ w_551) (fun _ h9 => h9) rfl d_M_close_37 ?_
          refine lv_iconst (v := 1) hx hb d_M_close_40 (by decide) ?_
          refine lv_iadd hx hb d_M_close_41 ?_
          refine z_topi (y := nI (mc + 1)) (nI_add mc 1) ?_
          refine z_put (D := (dC, dI)) (ci := 4) (v := .int (nI (mc + 1))) (ty := .int) (C := R_M) (T := T_M) (N := 23) hx hb hts in_M t_M t_M_ok nm_M hown hK hE0 hS (Or.inl ⟨0, by omega, rfl⟩) rfl 11 (by decide) (hts _ w_551) (fun _ h9 => h9) rfl (by decide +kernel) rfl rfl (Nat.le_of_ble_eq_true rfl) d_M_close_42 (fun H1 locs1 hz1 hO1 ho1 hS => ?_)
          have hB : z_Md (dC, dI) cI H1 E 0 mp ms (mc + 1) mn mm gv := z_Md.put hB (show z_O (dC, dI) H1 (E 0) 4 (z_mfs E 0 mp ms (mc + 1) mn mm) from hO1) ho1 ⟨by omega, by omega, by omega, by omega, by omega⟩
          obtain ⟨⟨hE0, hGA⟩, hEi, ⟨hmp, hms, hmn, hmm, hmc⟩⟩ := id hB
          refine lv_aload_n hx hb d_M_close_45 rfl (lv_at hl 0 rfl) ?_
          refine va_get (D := (dC, dI)) (ci := 4) (v := .ref (E 8)) (C := R_M) (T := T_M) (N := 23) hx hb hts in_M hown hK hE0.P 0 rfl rfl 10 (by decide) (hts _ w_550) (fun _ h9 => h9) rfl d_M_close_46 ?_
          refine lv_iload_n hx hb d_M_close_49 rfl (lv_at hl 1 rfl) ?_
          refine lv_aload_n hx hb d_M_close_50 rfl (lv_at hl 0 rfl) ?_
          refine va_get (D := (dC, dI)) (ci := 4) (v := .int (nI (mc + 1))) (C := R_M) (T := T_M) (N := 23) hx hb hts in_M hown hK hE0.P 0 rfl rfl 11 (by decide) (hts _ w_551) (fun _ h9 => h9) rfl d_M_close_51 ?_
          refine z_iast (k := k) hx hb hAI (show z_A cI _ (E 8) 32 (gv 7) from hGA 7 (by omega)) hS (Or.inl ⟨8, by omega, rfl⟩) (by omega) (by decide) d_M_close_54 (fun H1 locs1 hz1 hA1 ho1 hS => ?_)
          have hB : z_Md (dC, dI) cI H1 E 0 mp ms (mc + 1) mn mm (va_up gv 7 (upd (gv 7) k (nI (mc + 1)))) := z_Md.store hB (k := 7) (by omega) hA1 ho1
          obtain ⟨⟨hE0, hGA⟩, hEi, ⟨hmp, hms, hmn, hmm, hmc⟩⟩ := id hB
          refine lv_iconst (v := 1) hx hb d_M_close_55 (by decide) ?_
          exact z_wz (v := true) hx hb hr hlocks (rfl) (⟨rfl, hB⟩) hS d_M_close_56
        · skip
          have c_3 : (pm_can (gv 5) (gv 6) n k) = false := pi_b_0.mp c_3
          exact absurd (hc2.symm.trans c_3) (by decide)
    · skip
      exact absurd c_1 (by decide)
  refine lv_aload_n hx hb d_M_close_0 rfl (lv_at hl 0 rfl) ?_
  refine lv_aload_n hx hb d_M_close_1 rfl (lv_at hl 0 rfl) ?_
  refine lv_iload_n hx hb d_M_close_2 rfl (lv_at hl 1 rfl) ?_
  refine z_rdV (n := 1) (C := R_M) (rest := [.ref (E 0)]) ⟨hx, hb, hml, hown, hts⟩ hW0 (c_M_isShape G E th mp ms mc mn mm gv (nI k)) w_641 w_638 w_640 wp_20 w_4 (by decide +kernel) ⟨rfl, rfl, Nat.le_of_ble_eq_true rfl, Nat.le_of_ble_eq_true rfl⟩ (hE0.recv hK rfl) (hB) rfl rfl hl.1 (Nat.le_of_ble_eq_true rfl) d_M_close_3 ⟨Nat.zero_le _, Nat.zero_le _⟩ ?_
  refine z_topi (y := 1) (by rw [hik]; rfl) ?_
  refine lv_iconst (v := 1) hx hb d_M_close_6 (by decide) ?_
  refine lv_iconst (v := 1) hx hb d_M_close_7 (by decide) ?_
  refine z_g3 (w1 := pi_b true) (w2 := pi_b true) (w3 := pi_b true) (rfl) (rfl) (rfl) ?_
  exact tail ls (lv_sub hl [0, 1] rfl)
set_option maxRecDepth 100000 in
set_option maxHeartbeats 4000000 in
theorem c_M_free_n (G : z_G s0 (dC, dI) cI cS) (E : Nat → Nat) (th : Int32) (mp ms mc mn mm : Nat) (gv : Nat → Nat → Int32) (sz : Nat) (k : Nat) (hk : k < 32) (h8 : gv 8 k = -1) : Met l y_M_free [Cond.code y_M_free b_M_free 2 none] ({ frames := 0, cells := 0, slots := 0, locals := 0 }) (z_Pc s0 [.ref (E 0), .int (nI k)] (fun H => H.size = sz ∧ z_Md (dC, dI) cI H E th mp ms mc mn mm gv)) (z_Qw (fun r H => r = none ∧ z_Md (dC, dI) cI H E th mp ms mc mn mm (va_up gv 8 (gv 8))) (z_fr (z_mF E) sz)) 0 0 (z_fr (z_mF E) sz) := by
  refine z_ofW (by decide +kernel) (Nat.le_of_ble_eq_true rfl) ?_
  intro p e s m below meth c hx hb hml hr hown hlocks hnm hW0 hB ls hl
  have hts := z_hts (args := [.ref (E 0), .int (nI k)].toArray) G.1 hW0
  have hN := z_nstW G.2.1 hW0
  have hK := va_K.moved hW0.alike G.2.2.1
  have hAI := arrOfT_moved hW0.alike G.2.2.2.1
  have hl : lv_has ls 2 [(0, .ref (E 0)), (1, .int (nI k))] := hl
  obtain ⟨rfl, hB⟩ := hB
  have hS : va_S (z_fr (z_mF E) s.heap.size) s.heap s.heap [] := va_S.rf
  obtain ⟨⟨hE0, hGA⟩, hEi, ⟨hmp, hms, hmn, hmm, hmc⟩⟩ := id hB
  refine lv_aload_n hx hb d_M_free_0 rfl (lv_at hl 0 rfl) ?_
  refine va_get (D := (dC, dI)) (ci := 4) (v := .ref (E 9)) (C := R_M) (T := T_M) (N := 23) hx hb hts in_M hown hK hE0.P 0 rfl rfl 12 (by decide) (hts _ w_552) (fun _ h9 => h9) rfl d_M_free_1 ?_
  refine lv_iload_n hx hb d_M_free_4 rfl (lv_at hl 1 rfl) ?_
  refine z_iald hx hb hAI (show z_A cI _ (E 9) 32 (gv 8) from hGA 8 (by omega)) (by omega) (by decide) d_M_free_5 ?_
  refine z_topi (y := (-1)) h8 ?_
  refine lv_iconst (v := (-1)) hx hb d_M_free_6 (by decide) ?_
  refine lv_icmp_eq (tgt := 29) hx hb d_M_free_7 (by decide) (fun c_1 => ?_) (fun c_1 => ?_)
  · skip
    exact z_wv hx hb hr hlocks (⟨rfl, by rw [va_up_same]; exact hB⟩) hS d_M_free_29
  · skip
    exact absurd (by decide) c_1
set_option maxRecDepth 100000 in
set_option maxHeartbeats 4000000 in
theorem c_M_free_s (G : z_G s0 (dC, dI) cI cS) (E : Nat → Nat) (th : Int32) (mp ms mc mn mm : Nat) (gv : Nat → Nat → Int32) (sz : Nat) (k j : Nat) (hk : k < 32) (hj : j < 32) (h8 : gv 8 k = nI j) : Met l y_M_free [Cond.code y_M_free b_M_free 2 none] ({ frames := 0, cells := 0, slots := 0, locals := 0 }) (z_Pc s0 [.ref (E 0), .int (nI k)] (fun H => H.size = sz ∧ z_Md (dC, dI) cI H E th mp ms mc mn mm gv)) (z_Qw (fun r H => r = none ∧ z_Md (dC, dI) cI H E th mp ms mc mn mm (va_up gv 8 (upd (upd (gv 8) j (-1)) k (-1)))) (z_fr (z_mF E) sz)) 0 0 (z_fr (z_mF E) sz) := by
  refine z_ofW (by decide +kernel) (Nat.le_of_ble_eq_true rfl) ?_
  intro p e s m below meth c hx hb hml hr hown hlocks hnm hW0 hB ls hl
  have hts := z_hts (args := [.ref (E 0), .int (nI k)].toArray) G.1 hW0
  have hN := z_nstW G.2.1 hW0
  have hK := va_K.moved hW0.alike G.2.2.1
  have hAI := arrOfT_moved hW0.alike G.2.2.2.1
  have hl : lv_has ls 2 [(0, .ref (E 0)), (1, .int (nI k))] := hl
  obtain ⟨rfl, hB⟩ := hB
  have hS : va_S (z_fr (z_mF E) s.heap.size) s.heap s.heap [] := va_S.rf
  obtain ⟨⟨hE0, hGA⟩, hEi, ⟨hmp, hms, hmn, hmm, hmc⟩⟩ := id hB
  refine lv_aload_n hx hb d_M_free_0 rfl (lv_at hl 0 rfl) ?_
  refine va_get (D := (dC, dI)) (ci := 4) (v := .ref (E 9)) (C := R_M) (T := T_M) (N := 23) hx hb hts in_M hown hK hE0.P 0 rfl rfl 12 (by decide) (hts _ w_552) (fun _ h9 => h9) rfl d_M_free_1 ?_
  refine lv_iload_n hx hb d_M_free_4 rfl (lv_at hl 1 rfl) ?_
  refine z_iald hx hb hAI (show z_A cI _ (E 9) 32 (gv 8) from hGA 8 (by omega)) (by omega) (by decide) d_M_free_5 ?_
  refine z_topi (y := (nI j)) h8 ?_
  refine lv_iconst (v := (-1)) hx hb d_M_free_6 (by decide) ?_
  refine lv_icmp_eq (tgt := 29) hx hb d_M_free_7 (by decide) (fun c_1 => ?_) (fun c_1 => ?_)
  · skip
    exact absurd c_1 (z_ne1 (by omega))
  · skip
    refine lv_aload_n hx hb d_M_free_10 rfl (lv_at hl 0 rfl) ?_
    refine va_get (D := (dC, dI)) (ci := 4) (v := .ref (E 9)) (C := R_M) (T := T_M) (N := 23) hx hb hts in_M hown hK hE0.P 0 rfl rfl 12 (by decide) (hts _ w_552) (fun _ h9 => h9) rfl d_M_free_11 ?_
    refine lv_aload_n hx hb d_M_free_14 rfl (lv_at hl 0 rfl) ?_
    refine va_get (D := (dC, dI)) (ci := 4) (v := .ref (E 9)) (C := R_M) (T := T_M) (N := 23) hx hb hts in_M hown hK hE0.P 0 rfl rfl 12 (by decide) (hts _ w_552) (fun _ h9 => h9) rfl d_M_free_15 ?_
    refine lv_iload_n hx hb d_M_free_18 rfl (lv_at hl 1 rfl) ?_
    refine z_iald hx hb hAI (show z_A cI _ (E 9) 32 (gv 8) from hGA 8 (by omega)) (by omega) (by decide) d_M_free_19 ?_
    refine z_topi (y := (nI j)) h8 ?_
    refine lv_iconst (v := (-1)) hx hb d_M_free_20 (by decide) ?_
    refine z_iast (k := j) hx hb hAI (show z_A cI _ (E 9) 32 (gv 8) from hGA 8 (by omega)) hS (Or.inl ⟨9, by omega, rfl⟩) (by omega) (by decide) d_M_free_21 (fun H1 locs1 hz1 hA1 ho1 hS => ?_)
    have hB : z_Md (dC, dI) cI H1 E th mp ms mc mn mm (va_up gv 8 (upd (gv 8) j (-1))) := z_Md.store hB (k := 8) (by omega) hA1 ho1
    obtain ⟨⟨hE0, hGA⟩, hEi, ⟨hmp, hms, hmn, hmm, hmc⟩⟩ := id hB
    refine lv_aload_n hx hb d_M_free_22 rfl (lv_at hl 0 rfl) ?_
    refine va_get (D := (dC, dI)) (ci := 4) (v := .ref (E 9)) (C := R_M) (T := T_M) (N := 23) hx hb hts in_M hown hK hE0.P 0 rfl rfl 12 (by decide) (hts _ w_552) (fun _ h9 => h9) rfl d_M_free_23 ?_
    refine lv_iload_n hx hb d_M_free_26 rfl (lv_at hl 1 rfl) ?_
    refine lv_iconst (v := (-1)) hx hb d_M_free_27 (by decide) ?_
    refine z_iast (k := k) hx hb hAI (show z_A cI _ (E 9) 32 (upd (gv 8) j (-1)) from hGA 8 (by omega)) hS (Or.inl ⟨9, by omega, rfl⟩) (by omega) (by decide) d_M_free_28 (fun H1 locs1 hz1 hA1 ho1 hS => ?_)
    have hB : z_Md (dC, dI) cI H1 E th mp ms mc mn mm (va_up (va_up gv 8 (upd (gv 8) j (-1))) 8 (upd (upd (gv 8) j (-1)) k (-1))) := z_Md.store hB (k := 8) (by omega) hA1 ho1
    obtain ⟨⟨hE0, hGA⟩, hEi, ⟨hmp, hms, hmn, hmm, hmc⟩⟩ := id hB
    exact z_wv hx hb hr hlocks (⟨rfl, by rw [← va_up_up]; exact hB⟩) hS d_M_free_29
theorem c_M_free (G : z_G s0 (dC, dI) cI cS) (E : Nat → Nat) (th : Int32) (mp ms mc mn mm : Nat) (gv : Nat → Nat → Int32) (sz : Nat) (k : Nat) (q : Option Nat) (hk : k < 32) (hq : ∀ j, q = some j → j < 32) (h8 : gv 8 k = pb_num q) : Met l y_M_free [Cond.code y_M_free b_M_free 2 none] ({ frames := 0, cells := 0, slots := 0, locals := 0 }) (z_Pc s0 [.ref (E 0), .int (nI k)] (fun H => H.size = sz ∧ z_Md (dC, dI) cI H E th mp ms mc mn mm gv)) (z_Qw (fun r H => r = none ∧ z_Md (dC, dI) cI H E th mp ms mc mn mm (va_up gv 8 (pm_fr (gv 8) k q))) (z_fr (z_mF E) sz)) 0 0 (z_fr (z_mF E) sz) := by
  rcases q with _ | j
  · exact c_M_free_n G E th mp ms mc mn mm gv sz k hk h8
  · exact c_M_free_s G E th mp ms mc mn mm gv sz k j hk (hq j rfl) h8
set_option maxRecDepth 100000 in
set_option maxHeartbeats 4000000 in
theorem c_M_unsure_un (G : z_G s0 (dC, dI) cI cS) (E : Nat → Nat) (th : Int32) (mp ms mc mn mm : Nat) (gv : Nat → Nat → Int32) (sz : Nat) (x0 x1 : Int32) (hg : ((pm_idx ms x0 && pm_idx ms x1) && (true && true)) = false) : Met l y_M_unsure [Cond.code y_M_unsure b_M_unsure 4 (some .boolean)] ({ frames := 1, cells := 0, slots := 0, locals := 23 }) (z_Pc s0 [.ref (E 0), .int x0, .int x1] (fun H => H.size = sz ∧ z_Md (dC, dI) cI H E th mp ms mc mn mm gv)) (z_Qw (fun r H => r = some (.int (pi_b false)) ∧ z_Md (dC, dI) cI H E (pm_th (pm_idx ms x0 && pm_idx ms x1) true true) mp ms mc mn mm gv) (z_fr (z_mF E) sz)) 0 0 (z_fr (z_mF E) sz) := by
  refine z_ofW (by decide +kernel) (Nat.le_of_ble_eq_true rfl) ?_
  intro p e s m below meth c hx hb hml hr hown hlocks hnm hW0 hB ls hl
  have hts := z_hts (args := [.ref (E 0), .int x0, .int x1].toArray) G.1 hW0
  have hN := z_nstW G.2.1 hW0
  have hK := va_K.moved hW0.alike G.2.2.1
  have hAI := arrOfT_moved hW0.alike G.2.2.2.1
  have hl : lv_has ls 4 [(0, .ref (E 0)), (1, .int x0), (2, .int x1)] := hl
  obtain ⟨rfl, hB⟩ := hB
  have hS : va_S (z_fr (z_mF E) s.heap.size) s.heap s.heap [] := va_S.rf
  obtain ⟨⟨hE0, hGA⟩, hEi, ⟨hmp, hms, hmn, hmm, hmc⟩⟩ := id hB
  have tail : ∀ ls : Array Slot, lv_has ls 4 [(0, .ref (E 0)), (1, .int x0), (2, .int x1)] → W p l e ({ frames := 1, cells := 0, slots := 0, locals := 23 }) s m [.ref (E 0), .int x0, .int x1].toArray below meth c s.heap [] 0 0 (MQ below (z_Qw (fun r H => r = some (.int (pi_b false)) ∧ z_Md (dC, dI) cI H E (pm_th (pm_idx ms x0 && pm_idx ms x1) true true) mp ms mc mn mm gv) (z_fr (z_mF E) s.heap.size)) [.ref (E 0), .int x0, .int x1].toArray s 0 0 (z_fr (z_mF E) s.heap.size)) (F0 m 24 ls [.int (pi_b true), .int (pi_b true), .int (pi_b (pm_idx ms x0 && pm_idx ms x1)), .ref (E 0)]) := by
    intro ls hl
    refine z_wrV (n := 3) (C := R_M) (rest := []) ⟨hx, hb, hml, hown, hts⟩ hW0 (c_M_goes G E th mp ms mc mn mm gv _ (pm_idx ms x0 && pm_idx ms x1) true true) w_625 w_622 w_624 wp_19 w_4 (by decide +kernel) ⟨rfl, rfl, Nat.le_of_ble_eq_true rfl, Nat.le_of_ble_eq_true rfl⟩ (hE0.recv hK rfl) ⟨rfl, hB⟩ rfl rfl hl.1 (Nat.le_of_ble_eq_true rfl) d_M_unsure_24 ⟨Nat.le_of_ble_eq_true rfl, Nat.le_of_ble_eq_true rfl⟩ hS (fun q h => h.elim Or.inl (fun h => Or.inr (Nat.le_trans hS.1 h))) (fun H1 locs1 hB hz1 hk1 hS => ?_)
    obtain ⟨⟨hE0, hGA⟩, hEi, ⟨hmp, hms, hmn, hmm, hmc⟩⟩ := id hB
    refine z_topi (y := 0) (by rw [hg]; rfl) ?_
    refine lv_if_ne (tgt := 32) hx hb d_M_unsure_27 (by decide) (fun c_1 => ?_) (fun c_1 => ?_)
    · skip
      exact absurd (by decide) c_1
    · skip
      refine lv_iconst (v := 0) hx hb d_M_unsure_30 (by decide) ?_
      exact z_wz (v := false) hx hb hr hlocks (rfl) (⟨rfl, hB⟩) hS d_M_unsure_31
  refine lv_aload_n hx hb d_M_unsure_0 rfl (lv_at hl 0 rfl) ?_
  refine lv_aload_n hx hb d_M_unsure_1 rfl (lv_at hl 0 rfl) ?_
  refine lv_iload_n hx hb d_M_unsure_2 rfl (lv_at hl 1 rfl) ?_
  refine z_rdV (n := 1) (C := R_M) (rest := [.ref (E 0)]) ⟨hx, hb, hml, hown, hts⟩ hW0 (c_M_isShape G E th mp ms mc mn mm gv x0) w_641 w_638 w_640 wp_20 w_4 (by decide +kernel) ⟨rfl, rfl, Nat.le_of_ble_eq_true rfl, Nat.le_of_ble_eq_true rfl⟩ (hE0.recv hK rfl) (hB) rfl rfl hl.1 (Nat.le_of_ble_eq_true rfl) d_M_unsure_3 ⟨Nat.zero_le _, Nat.zero_le _⟩ ?_
  refine lv_if_eq (tgt := 21) hx hb d_M_unsure_6 (by decide) (fun c_2 => ?_) (fun c_2 => ?_)
  · skip
    have c_2 : (pm_idx ms x0) = false := pi_b_0.mp c_2
    refine lv_iconst (v := 0) hx hb d_M_unsure_21 (by decide) ?_
    refine lv_iconst (v := 1) hx hb d_M_unsure_22 (by decide) ?_
    refine lv_iconst (v := 1) hx hb d_M_unsure_23 (by decide) ?_
    refine z_g3 (w1 := pi_b (pm_idx ms x0 && pm_idx ms x1)) (w2 := pi_b true) (w3 := pi_b true) (rfl) (rfl) (by simp [pi_b, c_2]) ?_
    exact tail ls (lv_sub hl [0, 1, 2] rfl)
  · skip
    have c_2 : (pm_idx ms x0) = true := pi_b_1.mp c_2
    refine lv_aload_n hx hb d_M_unsure_9 rfl (lv_at hl 0 rfl) ?_
    refine lv_iload_n hx hb d_M_unsure_10 rfl (lv_at hl 2 rfl) ?_
    refine z_rdV (n := 1) (C := R_M) (rest := [.ref (E 0)]) ⟨hx, hb, hml, hown, hts⟩ hW0 (c_M_isShape G E th mp ms mc mn mm gv x1) w_641 w_638 w_640 wp_20 w_4 (by decide +kernel) ⟨rfl, rfl, Nat.le_of_ble_eq_true rfl, Nat.le_of_ble_eq_true rfl⟩ (hE0.recv hK rfl) (hB) rfl rfl hl.1 (Nat.le_of_ble_eq_true rfl) d_M_unsure_11 ⟨Nat.zero_le _, Nat.zero_le _⟩ ?_
    refine lv_if_eq (tgt := 21) hx hb d_M_unsure_14 (by decide) (fun c_3 => ?_) (fun c_3 => ?_)
    · skip
      have c_3 : (pm_idx ms x1) = false := pi_b_0.mp c_3
      refine lv_iconst (v := 0) hx hb d_M_unsure_21 (by decide) ?_
      refine lv_iconst (v := 1) hx hb d_M_unsure_22 (by decide) ?_
      refine lv_iconst (v := 1) hx hb d_M_unsure_23 (by decide) ?_
      refine z_g3 (w1 := pi_b (pm_idx ms x0 && pm_idx ms x1)) (w2 := pi_b true) (w3 := pi_b true) (rfl) (rfl) (by simp [pi_b, c_2, c_3]) ?_
      exact tail ls (lv_sub hl [0, 1, 2] rfl)
    · skip
      have c_3 : (pm_idx ms x1) = true := pi_b_1.mp c_3
      refine lv_iconst (v := 1) hx hb d_M_unsure_17 (by decide) ?_
      refine lv_goto (tgt := 22) hx hb d_M_unsure_18 (by decide) ?_
      refine lv_iconst (v := 1) hx hb d_M_unsure_22 (by decide) ?_
      refine lv_iconst (v := 1) hx hb d_M_unsure_23 (by decide) ?_
      refine z_g3 (w1 := pi_b (pm_idx ms x0 && pm_idx ms x1)) (w2 := pi_b true) (w3 := pi_b true) (rfl) (rfl) (by simp [pi_b, c_2, c_3]) ?_
      exact tail ls (lv_sub hl [0, 1, 2] rfl)
set_option maxRecDepth 100000 in
set_option maxHeartbeats 4000000 in
theorem c_M_unsure_no (G : z_G s0 (dC, dI) cI cS) (E : Nat → Nat) (th : Int32) (mp ms mc mn mm : Nat) (gv : Nat → Nat → Int32) (sz : Nat) (k j : Nat) (hk : k < ms) (hj : j < ms) (hno : ¬ (¬ k = j ∧ 0 < gv 7 k ∧ 0 < gv 7 j ∧ gv 1 k = gv 1 j)) (hg : (true && (true && true)) = true) : Met l y_M_unsure [Cond.code y_M_unsure b_M_unsure 4 (some .boolean)] ({ frames := 1, cells := 0, slots := 0, locals := 23 }) (z_Pc s0 [.ref (E 0), .int (nI k), .int (nI j)] (fun H => H.size = sz ∧ z_Md (dC, dI) cI H E th mp ms mc mn mm gv)) (z_Qw (fun r H => r = some (.int (pi_b false)) ∧ z_Md (dC, dI) cI H E 0 mp ms mc mn mm gv) (z_fr (z_mF E) sz)) 0 0 (z_fr (z_mF E) sz) := by
  refine z_ofW (by decide +kernel) (Nat.le_of_ble_eq_true rfl) ?_
  intro p e s m below meth c hx hb hml hr hown hlocks hnm hW0 hB ls hl
  have hts := z_hts (args := [.ref (E 0), .int (nI k), .int (nI j)].toArray) G.1 hW0
  have hN := z_nstW G.2.1 hW0
  have hK := va_K.moved hW0.alike G.2.2.1
  have hAI := arrOfT_moved hW0.alike G.2.2.2.1
  have hl : lv_has ls 4 [(0, .ref (E 0)), (1, .int (nI k)), (2, .int (nI j))] := hl
  obtain ⟨rfl, hB⟩ := hB
  have hS : va_S (z_fr (z_mF E) s.heap.size) s.heap s.heap [] := va_S.rf
  obtain ⟨⟨hE0, hGA⟩, hEi, ⟨hmp, hms, hmn, hmm, hmc⟩⟩ := id hB
  have hik : pm_idx ms (nI k) = true := pm_idx_ok hk (by omega)
  have hij : pm_idx ms (nI j) = true := pm_idx_ok hj (by omega)
  have tail : ∀ ls : Array Slot, lv_has ls 4 [(0, .ref (E 0)), (1, .int (nI k)), (2, .int (nI j))] → W p l e ({ frames := 1, cells := 0, slots := 0, locals := 23 }) s m [.ref (E 0), .int (nI k), .int (nI j)].toArray below meth c s.heap [] 0 0 (MQ below (z_Qw (fun r H => r = some (.int (pi_b false)) ∧ z_Md (dC, dI) cI H E 0 mp ms mc mn mm gv) (z_fr (z_mF E) s.heap.size)) [.ref (E 0), .int (nI k), .int (nI j)].toArray s 0 0 (z_fr (z_mF E) s.heap.size)) (F0 m 24 ls [.int (pi_b true), .int (pi_b true), .int (pi_b true), .ref (E 0)]) := by
    intro ls hl
    refine z_wrV (n := 3) (C := R_M) (rest := []) ⟨hx, hb, hml, hown, hts⟩ hW0 (c_M_goes G E th mp ms mc mn mm gv _ true true true) w_625 w_622 w_624 wp_19 w_4 (by decide +kernel) ⟨rfl, rfl, Nat.le_of_ble_eq_true rfl, Nat.le_of_ble_eq_true rfl⟩ (hE0.recv hK rfl) ⟨rfl, hB⟩ rfl rfl hl.1 (Nat.le_of_ble_eq_true rfl) d_M_unsure_24 ⟨Nat.le_of_ble_eq_true rfl, Nat.le_of_ble_eq_true rfl⟩ hS (fun q h => h.elim Or.inl (fun h => Or.inr (Nat.le_trans hS.1 h))) (fun H1 locs1 hB hz1 hk1 hS => ?_)
    obtain ⟨⟨hE0, hGA⟩, hEi, ⟨hmp, hms, hmn, hmm, hmc⟩⟩ := id hB
    refine z_topi (y := 1) (by rw [hg]; rfl) ?_
    rw [pm_th_ok hg] at hB
    obtain ⟨⟨hE0, hGA⟩, hEi, ⟨hmp, hms, hmn, hmm, hmc⟩⟩ := id hB
    refine lv_if_ne (tgt := 32) hx hb d_M_unsure_27 (by decide) (fun c_1 => ?_) (fun c_1 => ?_)
    · skip
      refine lv_iload_n hx hb d_M_unsure_32 rfl (lv_at hl 1 rfl) ?_
      refine lv_iload_n hx hb d_M_unsure_33 rfl (lv_at hl 2 rfl) ?_
      refine lv_icmp_eq (tgt := 74) hx hb d_M_unsure_34 (by decide) (fun c_2 => ?_) (fun c_2 => ?_)
      · skip
        have c_2 : k = j := (nI_eq (a := k) (b := j) (by omega) (by omega)).mp c_2
        refine lv_iconst (v := 0) hx hb d_M_unsure_74 (by decide) ?_
        refine lv_istore_n (lv' := [(3, .int 0), (0, .ref (E 0)), (1, .int (nI k)), (2, .int (nI j))]) hx hb d_M_unsure_75 rfl hl (by decide) rfl (fun ls hl => ?_)
        refine lv_iload_n hx hb d_M_unsure_76 rfl (lv_at hl 0 rfl) ?_
        refine lv_if_eq (tgt := 104) hx hb d_M_unsure_77 (by decide) (fun c_3 => ?_) (fun c_3 => ?_)
        · skip
          refine lv_iload_n hx hb d_M_unsure_104 rfl (lv_at hl 0 rfl) ?_
          exact z_wz (v := false) hx hb hr hlocks (rfl) (⟨rfl, hB⟩) hS d_M_unsure_105
        · skip
          exact absurd (by decide) c_3
      · skip
        have c_2 : ¬ (k = j) := fun h => c_2 ((nI_eq (a := k) (b := j) (by omega) (by omega)).mpr h)
        refine lv_aload_n hx hb d_M_unsure_37 rfl (lv_at hl 0 rfl) ?_
        refine va_get (D := (dC, dI)) (ci := 4) (v := .ref (E 8)) (C := R_M) (T := T_M) (N := 23) hx hb hts in_M hown hK hE0.P 0 rfl rfl 10 (by decide) (hts _ w_550) (fun _ h9 => h9) rfl d_M_unsure_38 ?_
        refine lv_iload_n hx hb d_M_unsure_41 rfl (lv_at hl 1 rfl) ?_
        refine z_iald hx hb hAI (show z_A cI _ (E 8) 32 (gv 7) from hGA 7 (by omega)) (by omega) (by decide) d_M_unsure_42 ?_
        refine lv_if_le (tgt := 74) hx hb d_M_unsure_43 (by decide) (fun c_4 => ?_) (fun c_4 => ?_)
        · skip
          have c_4' : ¬ ((0 : Int32) < ((gv 7) k)) := Int32.not_lt.mpr c_4
          refine lv_iconst (v := 0) hx hb d_M_unsure_74 (by decide) ?_
          refine lv_istore_n (lv' := [(3, .int 0), (0, .ref (E 0)), (1, .int (nI k)), (2, .int (nI j))]) hx hb d_M_unsure_75 rfl hl (by decide) rfl (fun ls hl => ?_)
          refine lv_iload_n hx hb d_M_unsure_76 rfl (lv_at hl 0 rfl) ?_
          refine lv_if_eq (tgt := 104) hx hb d_M_unsure_77 (by decide) (fun c_5 => ?_) (fun c_5 => ?_)
          · skip
            refine lv_iload_n hx hb d_M_unsure_104 rfl (lv_at hl 0 rfl) ?_
            exact z_wz (v := false) hx hb hr hlocks (rfl) (⟨rfl, hB⟩) hS d_M_unsure_105
          · skip
            exact absurd (by decide) c_5
        · skip
          have c_4' : (0 : Int32) < ((gv 7) k) := Int32.not_le.mp c_4
          refine lv_aload_n hx hb d_M_unsure_46 rfl (lv_at hl 0 rfl) ?_
          refine va_get (D := (dC, dI)) (ci := 4) (v := .ref (E 8)) (C := R_M) (T := T_M) (N := 23) hx hb hts in_M hown hK hE0.P 0 rfl rfl 10 (by decide) (hts _ w_550) (fun _ h9 => h9) rfl d_M_unsure_47 ?_
          refine lv_iload_n hx hb d_M_unsure_50 rfl (lv_at hl 2 rfl) ?_
          refine z_iald hx hb hAI (show z_A cI _ (E 8) 32 (gv 7) from hGA 7 (by omega)) (by omega) (by decide) d_M_unsure_51 ?_
          refine lv_if_le (tgt := 74) hx hb d_M_unsure_52 (by decide) (fun c_6 => ?_) (fun c_6 => ?_)
          · skip
            have c_6' : ¬ ((0 : Int32) < ((gv 7) j)) := Int32.not_lt.mpr c_6
            refine lv_iconst (v := 0) hx hb d_M_unsure_74 (by decide) ?_
            refine lv_istore_n (lv' := [(3, .int 0), (0, .ref (E 0)), (1, .int (nI k)), (2, .int (nI j))]) hx hb d_M_unsure_75 rfl hl (by decide) rfl (fun ls hl => ?_)
            refine lv_iload_n hx hb d_M_unsure_76 rfl (lv_at hl 0 rfl) ?_
            refine lv_if_eq (tgt := 104) hx hb d_M_unsure_77 (by decide) (fun c_7 => ?_) (fun c_7 => ?_)
            · skip
              refine lv_iload_n hx hb d_M_unsure_104 rfl (lv_at hl 0 rfl) ?_
              exact z_wz (v := false) hx hb hr hlocks (rfl) (⟨rfl, hB⟩) hS d_M_unsure_105
            · skip
              exact absurd (by decide) c_7
          · skip
            have c_6' : (0 : Int32) < ((gv 7) j) := Int32.not_le.mp c_6
            refine lv_aload_n hx hb d_M_unsure_55 rfl (lv_at hl 0 rfl) ?_
            refine va_get (D := (dC, dI)) (ci := 4) (v := .ref (E 2)) (C := R_M) (T := T_M) (N := 23) hx hb hts in_M hown hK hE0.P 0 rfl rfl 4 (by decide) (hts _ w_544) (fun _ h9 => h9) rfl d_M_unsure_56 ?_
            refine lv_iload_n hx hb d_M_unsure_59 rfl (lv_at hl 1 rfl) ?_
            refine z_iald hx hb hAI (show z_A cI _ (E 2) 32 (gv 1) from hGA 1 (by omega)) (by omega) (by decide) d_M_unsure_60 ?_
            refine lv_aload_n hx hb d_M_unsure_61 rfl (lv_at hl 0 rfl) ?_
            refine va_get (D := (dC, dI)) (ci := 4) (v := .ref (E 2)) (C := R_M) (T := T_M) (N := 23) hx hb hts in_M hown hK hE0.P 0 rfl rfl 4 (by decide) (hts _ w_544) (fun _ h9 => h9) rfl d_M_unsure_62 ?_
            refine lv_iload_n hx hb d_M_unsure_65 rfl (lv_at hl 2 rfl) ?_
            refine z_iald hx hb hAI (show z_A cI _ (E 2) 32 (gv 1) from hGA 1 (by omega)) (by omega) (by decide) d_M_unsure_66 ?_
            refine lv_icmp_ne (tgt := 74) hx hb d_M_unsure_67 (by decide) (fun c_8 => ?_) (fun c_8 => ?_)
            · skip
              refine lv_iconst (v := 0) hx hb d_M_unsure_74 (by decide) ?_
              refine lv_istore_n (lv' := [(3, .int 0), (0, .ref (E 0)), (1, .int (nI k)), (2, .int (nI j))]) hx hb d_M_unsure_75 rfl hl (by decide) rfl (fun ls hl => ?_)
              refine lv_iload_n hx hb d_M_unsure_76 rfl (lv_at hl 0 rfl) ?_
              refine lv_if_eq (tgt := 104) hx hb d_M_unsure_77 (by decide) (fun c_9 => ?_) (fun c_9 => ?_)
              · skip
                refine lv_iload_n hx hb d_M_unsure_104 rfl (lv_at hl 0 rfl) ?_
                exact z_wz (v := false) hx hb hr hlocks (rfl) (⟨rfl, hB⟩) hS d_M_unsure_105
              · skip
                exact absurd (by decide) c_9
            · skip
              refine lv_iconst (v := 1) hx hb d_M_unsure_70 (by decide) ?_
              refine lv_goto (tgt := 75) hx hb d_M_unsure_71 (by decide) ?_
              refine lv_istore_n (lv' := [(3, .int 1), (0, .ref (E 0)), (1, .int (nI k)), (2, .int (nI j))]) hx hb d_M_unsure_75 rfl hl (by decide) rfl (fun ls hl => ?_)
              refine lv_iload_n hx hb d_M_unsure_76 rfl (lv_at hl 0 rfl) ?_
              refine lv_if_eq (tgt := 104) hx hb d_M_unsure_77 (by decide) (fun c_10 => ?_) (fun c_10 => ?_)
              · skip
                exact absurd c_10 (by decide)
              · skip
                exact absurd ⟨c_2, c_4', c_6', c_8⟩ hno
    · skip
      exact absurd c_1 (by decide)
  refine lv_aload_n hx hb d_M_unsure_0 rfl (lv_at hl 0 rfl) ?_
  refine lv_aload_n hx hb d_M_unsure_1 rfl (lv_at hl 0 rfl) ?_
  refine lv_iload_n hx hb d_M_unsure_2 rfl (lv_at hl 1 rfl) ?_
  refine z_rdV (n := 1) (C := R_M) (rest := [.ref (E 0)]) ⟨hx, hb, hml, hown, hts⟩ hW0 (c_M_isShape G E th mp ms mc mn mm gv (nI k)) w_641 w_638 w_640 wp_20 w_4 (by decide +kernel) ⟨rfl, rfl, Nat.le_of_ble_eq_true rfl, Nat.le_of_ble_eq_true rfl⟩ (hE0.recv hK rfl) (hB) rfl rfl hl.1 (Nat.le_of_ble_eq_true rfl) d_M_unsure_3 ⟨Nat.zero_le _, Nat.zero_le _⟩ ?_
  refine z_topi (y := 1) (by rw [hik]; rfl) ?_
  refine lv_if_eq (tgt := 21) hx hb d_M_unsure_6 (by decide) (fun c_11 => ?_) (fun c_11 => ?_)
  · skip
    exact absurd c_11 (by decide)
  · skip
    refine lv_aload_n hx hb d_M_unsure_9 rfl (lv_at hl 0 rfl) ?_
    refine lv_iload_n hx hb d_M_unsure_10 rfl (lv_at hl 2 rfl) ?_
    refine z_rdV (n := 1) (C := R_M) (rest := [.ref (E 0)]) ⟨hx, hb, hml, hown, hts⟩ hW0 (c_M_isShape G E th mp ms mc mn mm gv (nI j)) w_641 w_638 w_640 wp_20 w_4 (by decide +kernel) ⟨rfl, rfl, Nat.le_of_ble_eq_true rfl, Nat.le_of_ble_eq_true rfl⟩ (hE0.recv hK rfl) (hB) rfl rfl hl.1 (Nat.le_of_ble_eq_true rfl) d_M_unsure_11 ⟨Nat.zero_le _, Nat.zero_le _⟩ ?_
    refine z_topi (y := 1) (by rw [hij]; rfl) ?_
    refine lv_if_eq (tgt := 21) hx hb d_M_unsure_14 (by decide) (fun c_12 => ?_) (fun c_12 => ?_)
    · skip
      exact absurd c_12 (by decide)
    · skip
      refine lv_iconst (v := 1) hx hb d_M_unsure_17 (by decide) ?_
      refine lv_goto (tgt := 22) hx hb d_M_unsure_18 (by decide) ?_
      refine lv_iconst (v := 1) hx hb d_M_unsure_22 (by decide) ?_
      refine lv_iconst (v := 1) hx hb d_M_unsure_23 (by decide) ?_
      refine z_g3 (w1 := pi_b true) (w2 := pi_b true) (w3 := pi_b true) (rfl) (rfl) (rfl) ?_
      exact tail ls (lv_sub hl [0, 1, 2] rfl)
set_option maxRecDepth 100000 in
set_option maxHeartbeats 4000000 in
theorem c_M_unsure_ok (G : z_G s0 (dC, dI) cI cS) (E : Nat → Nat) (th : Int32) (mp ms mc mn mm : Nat) (gv : Nat → Nat → Int32) (sz : Nat) (k j : Nat) (hk : k < ms) (hj : j < ms) (q1 q2 : Option Nat) (hu1 : ¬ k = j) (hu2 : 0 < gv 7 k) (hu3 : 0 < gv 7 j) (hu4 : gv 1 k = gv 1 j) (hq1 : ∀ i, q1 = some i → i < 32) (h81 : gv 8 k = pb_num q1) (hq2 : ∀ i, q2 = some i → i < 32) (h82 : pm_fr (gv 8) k q1 j = pb_num q2) (hg : (true && (true && true)) = true) : Met l y_M_unsure [Cond.code y_M_unsure b_M_unsure 4 (some .boolean)] ({ frames := 1, cells := 0, slots := 0, locals := 23 }) (z_Pc s0 [.ref (E 0), .int (nI k), .int (nI j)] (fun H => H.size = sz ∧ z_Md (dC, dI) cI H E th mp ms mc mn mm gv)) (z_Qw (fun r H => r = some (.int (pi_b true)) ∧ z_Md (dC, dI) cI H E 0 mp ms mc mn mm (va_up (va_up (va_up (va_up gv 8 (pm_fr (gv 8) k q1)) 8 (pm_fr (pm_fr (gv 8) k q1) j q2)) 8 (upd (pm_fr (pm_fr (gv 8) k q1) j q2) k (nI j))) 8 (upd (upd (pm_fr (pm_fr (gv 8) k q1) j q2) k (nI j)) j (nI k)))) (z_fr (z_mF E) sz)) 0 0 (z_fr (z_mF E) sz) := by
  refine z_ofW (by decide +kernel) (Nat.le_of_ble_eq_true rfl) ?_
  intro p e s m below meth c hx hb hml hr hown hlocks hnm hW0 hB ls hl
  have hts := z_hts (args := [.ref (E 0), .int (nI k), .int (nI j)].toArray) G.1 hW0
  have hN := z_nstW G.2.1 hW0
  have hK := va_K.moved hW0.alike G.2.2.1
  have hAI := arrOfT_moved hW0.alike G.2.2.2.1
  have hl : lv_has ls 4 [(0, .ref (E 0)), (1, .int (nI k)), (2, .int (nI j))] := hl
  obtain ⟨rfl, hB⟩ := hB
  have hS : va_S (z_fr (z_mF E) s.heap.size) s.heap s.heap [] := va_S.rf
  obtain ⟨⟨hE0, hGA⟩, hEi, ⟨hmp, hms, hmn, hmm, hmc⟩⟩ := id hB
  have hik : pm_idx ms (nI k) = true := pm_idx_ok hk (by omega)
  have hij : pm_idx ms (nI j) = true := pm_idx_ok hj (by omega)
  have tail : ∀ ls : Array Slot, lv_has ls 4 [(0, .ref (E 0)), (1, .int (nI k)), (2, .int (nI j))] → W p l e ({ frames := 1, cells := 0, slots := 0, locals := 23 }) s m [.ref (E 0), .int (nI k), .int (nI j)].toArray below meth c s.heap [] 0 0 (MQ below (z_Qw (fun r H => r = some (.int (pi_b true)) ∧ z_Md (dC, dI) cI H E 0 mp ms mc mn mm (va_up (va_up (va_up (va_up gv 8 (pm_fr (gv 8) k q1)) 8 (pm_fr (pm_fr (gv 8) k q1) j q2)) 8 (upd (pm_fr (pm_fr (gv 8) k q1) j q2) k (nI j))) 8 (upd (upd (pm_fr (pm_fr (gv 8) k q1) j q2) k (nI j)) j (nI k)))) (z_fr (z_mF E) s.heap.size)) [.ref (E 0), .int (nI k), .int (nI j)].toArray s 0 0 (z_fr (z_mF E) s.heap.size)) (F0 m 24 ls [.int (pi_b true), .int (pi_b true), .int (pi_b true), .ref (E 0)]) := by
    intro ls hl
    refine z_wrV (n := 3) (C := R_M) (rest := []) ⟨hx, hb, hml, hown, hts⟩ hW0 (c_M_goes G E th mp ms mc mn mm gv _ true true true) w_625 w_622 w_624 wp_19 w_4 (by decide +kernel) ⟨rfl, rfl, Nat.le_of_ble_eq_true rfl, Nat.le_of_ble_eq_true rfl⟩ (hE0.recv hK rfl) ⟨rfl, hB⟩ rfl rfl hl.1 (Nat.le_of_ble_eq_true rfl) d_M_unsure_24 ⟨Nat.le_of_ble_eq_true rfl, Nat.le_of_ble_eq_true rfl⟩ hS (fun q h => h.elim Or.inl (fun h => Or.inr (Nat.le_trans hS.1 h))) (fun H1 locs1 hB hz1 hk1 hS => ?_)
    obtain ⟨⟨hE0, hGA⟩, hEi, ⟨hmp, hms, hmn, hmm, hmc⟩⟩ := id hB
    refine z_topi (y := 1) (by rw [hg]; rfl) ?_
    rw [pm_th_ok hg] at hB
    obtain ⟨⟨hE0, hGA⟩, hEi, ⟨hmp, hms, hmn, hmm, hmc⟩⟩ := id hB
    refine lv_if_ne (tgt := 32) hx hb d_M_unsure_27 (by decide) (fun c_1 => ?_) (fun c_1 => ?_)
    · skip
      refine lv_iload_n hx hb d_M_unsure_32 rfl (lv_at hl 1 rfl) ?_
      refine lv_iload_n hx hb d_M_unsure_33 rfl (lv_at hl 2 rfl) ?_
      refine lv_icmp_eq (tgt := 74) hx hb d_M_unsure_34 (by decide) (fun c_2 => ?_) (fun c_2 => ?_)
      · skip
        have c_2 : k = j := (nI_eq (a := k) (b := j) (by omega) (by omega)).mp c_2
        exact absurd c_2 hu1
      · skip
        have c_2 : ¬ (k = j) := fun h => c_2 ((nI_eq (a := k) (b := j) (by omega) (by omega)).mpr h)
        refine lv_aload_n hx hb d_M_unsure_37 rfl (lv_at hl 0 rfl) ?_
        refine va_get (D := (dC, dI)) (ci := 4) (v := .ref (E 8)) (C := R_M) (T := T_M) (N := 23) hx hb hts in_M hown hK hE0.P 0 rfl rfl 10 (by decide) (hts _ w_550) (fun _ h9 => h9) rfl d_M_unsure_38 ?_
        refine lv_iload_n hx hb d_M_unsure_41 rfl (lv_at hl 1 rfl) ?_
        refine z_iald hx hb hAI (show z_A cI _ (E 8) 32 (gv 7) from hGA 7 (by omega)) (by omega) (by decide) d_M_unsure_42 ?_
        refine lv_if_le (tgt := 74) hx hb d_M_unsure_43 (by decide) (fun c_3 => ?_) (fun c_3 => ?_)
        · skip
          have c_3' : ¬ ((0 : Int32) < ((gv 7) k)) := Int32.not_lt.mpr c_3
          exact absurd c_3 (Int32.not_le.mpr hu2)
        · skip
          have c_3' : (0 : Int32) < ((gv 7) k) := Int32.not_le.mp c_3
          refine lv_aload_n hx hb d_M_unsure_46 rfl (lv_at hl 0 rfl) ?_
          refine va_get (D := (dC, dI)) (ci := 4) (v := .ref (E 8)) (C := R_M) (T := T_M) (N := 23) hx hb hts in_M hown hK hE0.P 0 rfl rfl 10 (by decide) (hts _ w_550) (fun _ h9 => h9) rfl d_M_unsure_47 ?_
          refine lv_iload_n hx hb d_M_unsure_50 rfl (lv_at hl 2 rfl) ?_
          refine z_iald hx hb hAI (show z_A cI _ (E 8) 32 (gv 7) from hGA 7 (by omega)) (by omega) (by decide) d_M_unsure_51 ?_
          refine lv_if_le (tgt := 74) hx hb d_M_unsure_52 (by decide) (fun c_4 => ?_) (fun c_4 => ?_)
          · skip
            have c_4' : ¬ ((0 : Int32) < ((gv 7) j)) := Int32.not_lt.mpr c_4
            exact absurd c_4 (Int32.not_le.mpr hu3)
          · skip
            have c_4' : (0 : Int32) < ((gv 7) j) := Int32.not_le.mp c_4
            refine lv_aload_n hx hb d_M_unsure_55 rfl (lv_at hl 0 rfl) ?_
            refine va_get (D := (dC, dI)) (ci := 4) (v := .ref (E 2)) (C := R_M) (T := T_M) (N := 23) hx hb hts in_M hown hK hE0.P 0 rfl rfl 4 (by decide) (hts _ w_544) (fun _ h9 => h9) rfl d_M_unsure_56 ?_
            refine lv_iload_n hx hb d_M_unsure_59 rfl (lv_at hl 1 rfl) ?_
            refine z_iald hx hb hAI (show z_A cI _ (E 2) 32 (gv 1) from hGA 1 (by omega)) (by omega) (by decide) d_M_unsure_60 ?_
            refine lv_aload_n hx hb d_M_unsure_61 rfl (lv_at hl 0 rfl) ?_
            refine va_get (D := (dC, dI)) (ci := 4) (v := .ref (E 2)) (C := R_M) (T := T_M) (N := 23) hx hb hts in_M hown hK hE0.P 0 rfl rfl 4 (by decide) (hts _ w_544) (fun _ h9 => h9) rfl d_M_unsure_62 ?_
            refine lv_iload_n hx hb d_M_unsure_65 rfl (lv_at hl 2 rfl) ?_
            refine z_iald hx hb hAI (show z_A cI _ (E 2) 32 (gv 1) from hGA 1 (by omega)) (by omega) (by decide) d_M_unsure_66 ?_
            refine lv_icmp_ne (tgt := 74) hx hb d_M_unsure_67 (by decide) (fun c_5 => ?_) (fun c_5 => ?_)
            · skip
              exact absurd hu4 c_5
            · skip
              refine lv_iconst (v := 1) hx hb d_M_unsure_70 (by decide) ?_
              refine lv_goto (tgt := 75) hx hb d_M_unsure_71 (by decide) ?_
              refine lv_istore_n (lv' := [(3, .int 1), (0, .ref (E 0)), (1, .int (nI k)), (2, .int (nI j))]) hx hb d_M_unsure_75 rfl hl (by decide) rfl (fun ls hl => ?_)
              refine lv_iload_n hx hb d_M_unsure_76 rfl (lv_at hl 0 rfl) ?_
              refine lv_if_eq (tgt := 104) hx hb d_M_unsure_77 (by decide) (fun c_6 => ?_) (fun c_6 => ?_)
              · skip
                exact absurd c_6 (by decide)
              · skip
                refine lv_aload_n hx hb d_M_unsure_80 rfl (lv_at hl 1 rfl) ?_
                refine lv_iload_n hx hb d_M_unsure_81 rfl (lv_at hl 2 rfl) ?_
                refine z_wrVv (n := 1) (C := R_M) (rest := []) ⟨hx, hb, hml, hown, hts⟩ hW0 (c_M_free G E 0 mp ms mc mn mm gv _ k q1 (by omega) hq1 h81) w_681 w_678 w_680 wp_25 w_4 (by decide +kernel) ⟨rfl, rfl, Nat.le_of_ble_eq_true rfl, Nat.le_of_ble_eq_true rfl⟩ (hE0.recv hK rfl) ⟨rfl, hB⟩ rfl rfl hl.1 (Nat.le_of_ble_eq_true rfl) d_M_unsure_82 ⟨Nat.le_of_ble_eq_true rfl, Nat.le_of_ble_eq_true rfl⟩ hS (fun q h => h.elim Or.inl (fun h => Or.inr (Nat.le_trans hS.1 h))) (fun H1 locs1 hB hz1 hk1 hS => ?_)
                obtain ⟨⟨hE0, hGA⟩, hEi, ⟨hmp, hms, hmn, hmm, hmc⟩⟩ := id hB
                refine lv_aload_n hx hb d_M_unsure_85 rfl (lv_at hl 1 rfl) ?_
                refine lv_iload_n hx hb d_M_unsure_86 rfl (lv_at hl 3 rfl) ?_
                refine z_wrVv (n := 1) (C := R_M) (rest := []) ⟨hx, hb, hml, hown, hts⟩ hW0 (c_M_free G E 0 mp ms mc mn mm (va_up gv 8 (pm_fr (gv 8) k q1)) _ j q2 (by omega) hq2 h82) w_681 w_678 w_680 wp_25 w_4 (by decide +kernel) ⟨rfl, rfl, Nat.le_of_ble_eq_true rfl, Nat.le_of_ble_eq_true rfl⟩ (hE0.recv hK rfl) ⟨rfl, hB⟩ rfl rfl hl.1 (Nat.le_of_ble_eq_true rfl) d_M_unsure_87 ⟨Nat.le_of_ble_eq_true rfl, Nat.le_of_ble_eq_true rfl⟩ hS (fun q h => h.elim Or.inl (fun h => Or.inr (Nat.le_trans hS.1 h))) (fun H1 locs1 hB hz1 hk1 hS => ?_)
                obtain ⟨⟨hE0, hGA⟩, hEi, ⟨hmp, hms, hmn, hmm, hmc⟩⟩ := id hB
                refine lv_aload_n hx hb d_M_unsure_90 rfl (lv_at hl 1 rfl) ?_
                refine va_get (D := (dC, dI)) (ci := 4) (v := .ref (E 9)) (C := R_M) (T := T_M) (N := 23) hx hb hts in_M hown hK hE0.P 0 rfl rfl 12 (by decide) (hts _ w_552) (fun _ h9 => h9) rfl d_M_unsure_91 ?_
                refine lv_iload_n hx hb d_M_unsure_94 rfl (lv_at hl 2 rfl) ?_
                refine lv_iload_n hx hb d_M_unsure_95 rfl (lv_at hl 3 rfl) ?_
                refine z_iast (k := k) hx hb hAI (show z_A cI _ (E 9) 32 (pm_fr (pm_fr (gv 8) k q1) j q2) from hGA 8 (by omega)) hS (Or.inl ⟨9, by omega, rfl⟩) (by omega) (by decide) d_M_unsure_96 (fun H1 locs1 hz1 hA1 ho1 hS => ?_)
                have hB : z_Md (dC, dI) cI H1 E 0 mp ms mc mn mm (va_up (va_up (va_up gv 8 (pm_fr (gv 8) k q1)) 8 (pm_fr (pm_fr (gv 8) k q1) j q2)) 8 (upd (pm_fr (pm_fr (gv 8) k q1) j q2) k (nI j))) := z_Md.store hB (k := 8) (by omega) hA1 ho1
                obtain ⟨⟨hE0, hGA⟩, hEi, ⟨hmp, hms, hmn, hmm, hmc⟩⟩ := id hB
                refine lv_aload_n hx hb d_M_unsure_97 rfl (lv_at hl 1 rfl) ?_
                refine va_get (D := (dC, dI)) (ci := 4) (v := .ref (E 9)) (C := R_M) (T := T_M) (N := 23) hx hb hts in_M hown hK hE0.P 0 rfl rfl 12 (by decide) (hts _ w_552) (fun _ h9 => h9) rfl d_M_unsure_98 ?_
                refine lv_iload_n hx hb d_M_unsure_101 rfl (lv_at hl 3 rfl) ?_
                refine lv_iload_n hx hb d_M_unsure_102 rfl (lv_at hl 2 rfl) ?_
                refine z_iast (k := j) hx hb hAI (show z_A cI _ (E 9) 32 (upd (pm_fr (pm_fr (gv 8) k q1) j q2) k (nI j)) from hGA 8 (by omega)) hS (Or.inl ⟨9, by omega, rfl⟩) (by omega) (by decide) d_M_unsure_103 (fun H1 locs1 hz1 hA1 ho1 hS => ?_)
                have hB : z_Md (dC, dI) cI H1 E 0 mp ms mc mn mm (va_up (va_up (va_up (va_up gv 8 (pm_fr (gv 8) k q1)) 8 (pm_fr (pm_fr (gv 8) k q1) j q2)) 8 (upd (pm_fr (pm_fr (gv 8) k q1) j q2) k (nI j))) 8 (upd (upd (pm_fr (pm_fr (gv 8) k q1) j q2) k (nI j)) j (nI k))) := z_Md.store hB (k := 8) (by omega) hA1 ho1
                obtain ⟨⟨hE0, hGA⟩, hEi, ⟨hmp, hms, hmn, hmm, hmc⟩⟩ := id hB
                refine lv_iload_n hx hb d_M_unsure_104 rfl (lv_at hl 0 rfl) ?_
                exact z_wz (v := true) hx hb hr hlocks (rfl) (⟨rfl, hB⟩) hS d_M_unsure_105
    · skip
      exact absurd c_1 (by decide)
  refine lv_aload_n hx hb d_M_unsure_0 rfl (lv_at hl 0 rfl) ?_
  refine lv_aload_n hx hb d_M_unsure_1 rfl (lv_at hl 0 rfl) ?_
  refine lv_iload_n hx hb d_M_unsure_2 rfl (lv_at hl 1 rfl) ?_
  refine z_rdV (n := 1) (C := R_M) (rest := [.ref (E 0)]) ⟨hx, hb, hml, hown, hts⟩ hW0 (c_M_isShape G E th mp ms mc mn mm gv (nI k)) w_641 w_638 w_640 wp_20 w_4 (by decide +kernel) ⟨rfl, rfl, Nat.le_of_ble_eq_true rfl, Nat.le_of_ble_eq_true rfl⟩ (hE0.recv hK rfl) (hB) rfl rfl hl.1 (Nat.le_of_ble_eq_true rfl) d_M_unsure_3 ⟨Nat.zero_le _, Nat.zero_le _⟩ ?_
  refine z_topi (y := 1) (by rw [hik]; rfl) ?_
  refine lv_if_eq (tgt := 21) hx hb d_M_unsure_6 (by decide) (fun c_7 => ?_) (fun c_7 => ?_)
  · skip
    exact absurd c_7 (by decide)
  · skip
    refine lv_aload_n hx hb d_M_unsure_9 rfl (lv_at hl 0 rfl) ?_
    refine lv_iload_n hx hb d_M_unsure_10 rfl (lv_at hl 2 rfl) ?_
    refine z_rdV (n := 1) (C := R_M) (rest := [.ref (E 0)]) ⟨hx, hb, hml, hown, hts⟩ hW0 (c_M_isShape G E th mp ms mc mn mm gv (nI j)) w_641 w_638 w_640 wp_20 w_4 (by decide +kernel) ⟨rfl, rfl, Nat.le_of_ble_eq_true rfl, Nat.le_of_ble_eq_true rfl⟩ (hE0.recv hK rfl) (hB) rfl rfl hl.1 (Nat.le_of_ble_eq_true rfl) d_M_unsure_11 ⟨Nat.zero_le _, Nat.zero_le _⟩ ?_
    refine z_topi (y := 1) (by rw [hij]; rfl) ?_
    refine lv_if_eq (tgt := 21) hx hb d_M_unsure_14 (by decide) (fun c_8 => ?_) (fun c_8 => ?_)
    · skip
      exact absurd c_8 (by decide)
    · skip
      refine lv_iconst (v := 1) hx hb d_M_unsure_17 (by decide) ?_
      refine lv_goto (tgt := 22) hx hb d_M_unsure_18 (by decide) ?_
      refine lv_iconst (v := 1) hx hb d_M_unsure_22 (by decide) ?_
      refine lv_iconst (v := 1) hx hb d_M_unsure_23 (by decide) ?_
      refine z_g3 (w1 := pi_b true) (w2 := pi_b true) (w3 := pi_b true) (rfl) (rfl) (rfl) ?_
      exact tail ls (lv_sub hl [0, 1, 2] rfl)
end M6
