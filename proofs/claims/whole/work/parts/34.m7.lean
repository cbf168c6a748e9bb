section M7
variable {s0 : State} {dC : Nat → ClassId} {dI : Nat → Nat → Nat} {cI cS : ClassId} {l : Launch}
set_option maxRecDepth 100000 in
set_option maxHeartbeats 4000000 in
theorem c_M_inside_no (G : z_G s0 (dC, dI) cI cS) (E : Nat → Nat) (th : Int32) (mp ms mc mn mm : Nat) (gv : Nat → Nat → Int32) (sz : Nat) (x y d k0 : Int32) (hg : ((decide (0 ≤ k0)) && ((pm_pt x y && pm_day d) && true)) = false) : Met l y_M_inside [Cond.code y_M_inside b_M_inside 8 (some .int)] ({ frames := 1, cells := 0, slots := 0, locals := 23 }) (z_Pc s0 [.ref (E 0), .int x, .int y, .int d, .int k0] (fun H => H.size = sz ∧ z_Md (dC, dI) cI H E th mp ms mc mn mm gv)) (z_Qw (fun r H => r = some (.int 0) ∧ z_Md (dC, dI) cI H E (pm_th (decide (0 ≤ k0)) (pm_pt x y && pm_day d) true) mp ms mc mn mm gv) (z_fr (z_mF E) sz)) 0 0 (z_fr (z_mF E) sz) := by
  refine z_ofW (by decide +kernel) (Nat.le_of_ble_eq_true rfl) ?_
  intro p e s m below meth c hx hb hml hr hown hlocks hnm hW0 hB ls hl
  have hts := z_hts (args := [.ref (E 0), .int x, .int y, .int d, .int k0].toArray) G.1 hW0
  have hN := z_nstW G.2.1 hW0
  have hK := va_K.moved hW0.alike G.2.2.1
  have hAI := arrOfT_moved hW0.alike G.2.2.2.1
  have hl : lv_has ls 8 [(0, .ref (E 0)), (1, .int x), (2, .int y), (3, .int d), (4, .int k0)] := hl
  obtain ⟨rfl, hB⟩ := hB
  have hS : va_S (z_fr (z_mF E) s.heap.size) s.heap s.heap [] := va_S.rf
  obtain ⟨⟨hE0, hGA⟩, hEi, ⟨hmp, hms, hmn, hmm, hmc⟩⟩ := id hB
  have tail : ∀ ls : Array Slot, lv_has ls 8 [(0, .ref (E 0)), (1, .int x), (2, .int y), (3, .int d), (4, .int k0)] → W p l e ({ frames := 1, cells := 0, slots := 0, locals := 23 }) s m [.ref (E 0), .int x, .int y, .int d, .int k0].toArray below meth c s.heap [] 0 0 (MQ below (z_Qw (fun r H => r = some (.int 0) ∧ z_Md (dC, dI) cI H E (pm_th (decide (0 ≤ k0)) (pm_pt x y && pm_day d) true) mp ms mc mn mm gv) (z_fr (z_mF E) s.heap.size)) [.ref (E 0), .int x, .int y, .int d, .int k0].toArray s 0 0 (z_fr (z_mF E) s.heap.size)) (F0 m 32 ls [.int (pi_b true), .int (pi_b (pm_pt x y && pm_day d)), .int (pi_b (decide (0 ≤ k0))), .ref (E 0)]) := by
    intro ls hl
    refine z_wrV (n := 3) (C := R_M) (rest := []) ⟨hx, hb, hml, hown, hts⟩ hW0 (c_M_goes G E th mp ms mc mn mm gv _ (decide (0 ≤ k0)) (pm_pt x y && pm_day d) true) w_625 w_622 w_624 wp_19 w_4 (by decide +kernel) ⟨rfl, rfl, Nat.le_of_ble_eq_true rfl, Nat.le_of_ble_eq_true rfl⟩ (hE0.recv hK rfl) ⟨rfl, hB⟩ rfl rfl hl.1 (Nat.le_of_ble_eq_true rfl) d_M_inside_32 ⟨Nat.le_of_ble_eq_true rfl, Nat.le_of_ble_eq_true rfl⟩ hS (fun q h => h.elim Or.inl (fun h => Or.inr (Nat.le_trans hS.1 h))) (fun H1 locs1 hB hz1 hk1 hS => ?_)
    obtain ⟨⟨hE0, hGA⟩, hEi, ⟨hmp, hms, hmn, hmm, hmc⟩⟩ := id hB
    refine z_topi (y := 0) (by rw [hg]; rfl) ?_
    refine lv_if_ne (tgt := 40) hx hb d_M_inside_35 (by decide) (fun c_1 => ?_) (fun c_1 => ?_)
    · skip
      exact absurd (by decide) c_1
    · skip
      refine lv_iconst (v := 0) hx hb d_M_inside_38 (by decide) ?_
      exact z_wi hx hb hr hlocks (⟨rfl, hB⟩) hS d_M_inside_39
  refine lv_aload_n hx hb d_M_inside_0 rfl (lv_at hl 0 rfl) ?_
  refine lv_iload hx hb d_M_inside_1 (lv_at hl 4 rfl) ?_
  refine lv_if_lt (tgt := 10) hx hb d_M_inside_3 (by decide) (fun c_2 => ?_) (fun c_2 => ?_)
  · skip
    have c_2' : ¬ ((0 : Int32) ≤ k0) := Int32.not_le.mpr c_2
    refine lv_iconst (v := 0) hx hb d_M_inside_10 (by decide) ?_
    refine lv_iload_n hx hb d_M_inside_11 rfl (lv_at hl 1 rfl) ?_
    refine lv_iload_n hx hb d_M_inside_12 rfl (lv_at hl 2 rfl) ?_
    refine z_rdS (n := 2) (rest := [.int 0, .ref (E 0)]) ⟨hx, hb, hml, hown, hts⟩ hW0 (c_M_isPoint G x y) w_644 w_642 w_643 w_4 (by decide +kernel) ⟨rfl, rfl, Nat.le_of_ble_eq_true rfl, Nat.le_of_ble_eq_true rfl⟩ (trivial) rfl rfl hl.1 (Nat.le_of_ble_eq_true rfl) d_M_inside_13 ⟨Nat.zero_le _, Nat.zero_le _⟩ ?_
    refine lv_if_eq (tgt := 30) hx hb d_M_inside_16 (by decide) (fun c_3 => ?_) (fun c_3 => ?_)
    · skip
      have c_3 : (pm_pt x y) = false := pi_b_0.mp c_3
      refine lv_iconst (v := 0) hx hb d_M_inside_30 (by decide) ?_
      refine lv_iconst (v := 1) hx hb d_M_inside_31 (by decide) ?_
      refine z_g3 (w1 := pi_b (decide (0 ≤ k0))) (w2 := pi_b (pm_pt x y && pm_day d)) (w3 := pi_b true) (rfl) (by simp [pi_b, c_2, c_2', c_3]) (by simp [pi_b, c_2, c_2', c_3]) ?_
      exact tail ls (lv_sub hl [0, 1, 2, 3, 4] rfl)
    · skip
      have c_3 : (pm_pt x y) = true := pi_b_1.mp c_3
      refine lv_iload_n hx hb d_M_inside_19 rfl (lv_at hl 3 rfl) ?_
      refine z_rdS (n := 1) (rest := [.int 0, .ref (E 0)]) ⟨hx, hb, hml, hown, hts⟩ hW0 (c_M_isDay G d) w_632 w_630 w_631 w_4 (by decide +kernel) ⟨rfl, rfl, Nat.le_of_ble_eq_true rfl, Nat.le_of_ble_eq_true rfl⟩ (trivial) rfl rfl hl.1 (Nat.le_of_ble_eq_true rfl) d_M_inside_20 ⟨Nat.zero_le _, Nat.zero_le _⟩ ?_
      refine lv_if_eq (tgt := 30) hx hb d_M_inside_23 (by decide) (fun c_4 => ?_) (fun c_4 => ?_)
      · skip
        have c_4 : (pm_day d) = false := pi_b_0.mp c_4
        refine lv_iconst (v := 0) hx hb d_M_inside_30 (by decide) ?_
        refine lv_iconst (v := 1) hx hb d_M_inside_31 (by decide) ?_
        refine z_g3 (w1 := pi_b (decide (0 ≤ k0))) (w2 := pi_b (pm_pt x y && pm_day d)) (w3 := pi_b true) (rfl) (by simp [pi_b, c_2, c_2', c_3, c_4]) (by simp [pi_b, c_2, c_2', c_3, c_4]) ?_
        exact tail ls (lv_sub hl [0, 1, 2, 3, 4] rfl)
      · skip
        have c_4 : (pm_day d) = true := pi_b_1.mp c_4
        refine lv_iconst (v := 1) hx hb d_M_inside_26 (by decide) ?_
        refine lv_goto (tgt := 31) hx hb d_M_inside_27 (by decide) ?_
        refine lv_iconst (v := 1) hx hb d_M_inside_31 (by decide) ?_
        refine z_g3 (w1 := pi_b (decide (0 ≤ k0))) (w2 := pi_b (pm_pt x y && pm_day d)) (w3 := pi_b true) (rfl) (by simp [pi_b, c_2, c_2', c_3, c_4]) (by simp [pi_b, c_2, c_2', c_3, c_4]) ?_
        exact tail ls (lv_sub hl [0, 1, 2, 3, 4] rfl)
  · skip
    have c_2' : (0 : Int32) ≤ k0 := Int32.not_lt.mp c_2
    refine lv_iconst (v := 1) hx hb d_M_inside_6 (by decide) ?_
    refine lv_goto (tgt := 11) hx hb d_M_inside_7 (by decide) ?_
    refine lv_iload_n hx hb d_M_inside_11 rfl (lv_at hl 1 rfl) ?_
    refine lv_iload_n hx hb d_M_inside_12 rfl (lv_at hl 2 rfl) ?_
    refine z_rdS (n := 2) (rest := [.int 1, .ref (E 0)]) ⟨hx, hb, hml, hown, hts⟩ hW0 (c_M_isPoint G x y) w_644 w_642 w_643 w_4 (by decide +kernel) ⟨rfl, rfl, Nat.le_of_ble_eq_true rfl, Nat.le_of_ble_eq_true rfl⟩ (trivial) rfl rfl hl.1 (Nat.le_of_ble_eq_true rfl) d_M_inside_13 ⟨Nat.zero_le _, Nat.zero_le _⟩ ?_
    refine lv_if_eq (tgt := 30) hx hb d_M_inside_16 (by decide) (fun c_5 => ?_) (fun c_5 => ?_)
    · skip
      have c_5 : (pm_pt x y) = false := pi_b_0.mp c_5
      refine lv_iconst (v := 0) hx hb d_M_inside_30 (by decide) ?_
      refine lv_iconst (v := 1) hx hb d_M_inside_31 (by decide) ?_
      refine z_g3 (w1 := pi_b (decide (0 ≤ k0))) (w2 := pi_b (pm_pt x y && pm_day d)) (w3 := pi_b true) (rfl) (by simp [pi_b, c_2, c_2', c_5]) (by simp [pi_b, c_2, c_2', c_5]) ?_
      exact tail ls (lv_sub hl [0, 1, 2, 3, 4] rfl)
    · skip
      have c_5 : (pm_pt x y) = true := pi_b_1.mp c_5
      refine lv_iload_n hx hb d_M_inside_19 rfl (lv_at hl 3 rfl) ?_
      refine z_rdS (n := 1) (rest := [.int 1, .ref (E 0)]) ⟨hx, hb, hml, hown, hts⟩ hW0 (c_M_isDay G d) w_632 w_630 w_631 w_4 (by decide +kernel) ⟨rfl, rfl, Nat.le_of_ble_eq_true rfl, Nat.le_of_ble_eq_true rfl⟩ (trivial) rfl rfl hl.1 (Nat.le_of_ble_eq_true rfl) d_M_inside_20 ⟨Nat.zero_le _, Nat.zero_le _⟩ ?_
      refine lv_if_eq (tgt := 30) hx hb d_M_inside_23 (by decide) (fun c_6 => ?_) (fun c_6 => ?_)
      · skip
        have c_6 : (pm_day d) = false := pi_b_0.mp c_6
        refine lv_iconst (v := 0) hx hb d_M_inside_30 (by decide) ?_
        refine lv_iconst (v := 1) hx hb d_M_inside_31 (by decide) ?_
        refine z_g3 (w1 := pi_b (decide (0 ≤ k0))) (w2 := pi_b (pm_pt x y && pm_day d)) (w3 := pi_b true) (rfl) (by simp [pi_b, c_2, c_2', c_5, c_6]) (by simp [pi_b, c_2, c_2', c_5, c_6]) ?_
        exact tail ls (lv_sub hl [0, 1, 2, 3, 4] rfl)
      · skip
        have c_6 : (pm_day d) = true := pi_b_1.mp c_6
        refine lv_iconst (v := 1) hx hb d_M_inside_26 (by decide) ?_
        refine lv_goto (tgt := 31) hx hb d_M_inside_27 (by decide) ?_
        refine lv_iconst (v := 1) hx hb d_M_inside_31 (by decide) ?_
        refine z_g3 (w1 := pi_b (decide (0 ≤ k0))) (w2 := pi_b (pm_pt x y && pm_day d)) (w3 := pi_b true) (rfl) (by simp [pi_b, c_2, c_2', c_5, c_6]) (by simp [pi_b, c_2, c_2', c_5, c_6]) ?_
        exact tail ls (lv_sub hl [0, 1, 2, 3, 4] rfl)
set_option maxRecDepth 100000 in
set_option maxHeartbeats 4000000 in
theorem c_M_inside_ok (G : z_G s0 (dC, dI) cI cS) (E : Nat → Nat) (th : Int32) (mp ms mc mn mm : Nat) (gv : Nat → Nat → Int32) (sz : Nat) (x y d : Int32) (kk : Nat) (hkk : kk < 2 ^ 31) (cn : Nat → Nat) (hcn : ∀ i, i < ms → gv 4 i = nI (cn i) ∧ cn i ≤ 12 ∧ (0 < gv 7 i → 3 ≤ cn i)) (hg : (true && ((pm_pt x y && pm_day d) && true)) = true) : Met l y_M_inside [Cond.code y_M_inside b_M_inside 8 (some .int)] ({ frames := 3, cells := 0, slots := 0, locals := 78 }) (z_Pc s0 [.ref (E 0), .int x, .int y, .int d, .int (nI kk)] (fun H => H.size = sz ∧ z_Md (dC, dI) cI H E th mp ms mc mn mm gv)) (z_Qw (fun r H => r = some (.int (pm_kth (fun i => pm_inO gv cn x y (pm_f gv ms (nI i) d)) kk mp 0 0)) ∧ z_Md (dC, dI) cI H E 0 mp ms mc mn mm gv) (z_fr (z_mF E) sz)) 0 0 (z_fr (z_mF E) sz) := by
  refine z_ofW (by decide +kernel) (Nat.le_of_ble_eq_true rfl) ?_
  intro p e s m below meth c hx hb hml hr hown hlocks hnm hW0 hB ls hl
  have hts := z_hts (args := [.ref (E 0), .int x, .int y, .int d, .int (nI kk)].toArray) G.1 hW0
  have hN := z_nstW G.2.1 hW0
  have hK := va_K.moved hW0.alike G.2.2.1
  have hAI := arrOfT_moved hW0.alike G.2.2.2.1
  have hl : lv_has ls 8 [(0, .ref (E 0)), (1, .int x), (2, .int y), (3, .int d), (4, .int (nI kk))] := hl
  obtain ⟨rfl, hB⟩ := hB
  have hS : va_S (z_fr (z_mF E) s.heap.size) s.heap s.heap [] := va_S.rf
  obtain ⟨⟨hE0, hGA⟩, hEi, ⟨hmp, hms, hmn, hmm, hmc⟩⟩ := id hB
  have tail : ∀ ls : Array Slot, lv_has ls 8 [(0, .ref (E 0)), (1, .int x), (2, .int y), (3, .int d), (4, .int (nI kk))] → W p l e ({ frames := 3, cells := 0, slots := 0, locals := 78 }) s m [.ref (E 0), .int x, .int y, .int d, .int (nI kk)].toArray below meth c s.heap [] 0 0 (MQ below (z_Qw (fun r H => r = some (.int (pm_kth (fun i => pm_inO gv cn x y (pm_f gv ms (nI i) d)) kk mp 0 0)) ∧ z_Md (dC, dI) cI H E 0 mp ms mc mn mm gv) (z_fr (z_mF E) s.heap.size)) [.ref (E 0), .int x, .int y, .int d, .int (nI kk)].toArray s 0 0 (z_fr (z_mF E) s.heap.size)) (F0 m 32 ls [.int (pi_b true), .int (pi_b (pm_pt x y && pm_day d)), .int (pi_b true), .ref (E 0)]) := by
    intro ls hl
    refine z_wrV (n := 3) (C := R_M) (rest := []) ⟨hx, hb, hml, hown, hts⟩ hW0 (c_M_goes G E th mp ms mc mn mm gv _ true (pm_pt x y && pm_day d) true) w_625 w_622 w_624 wp_19 w_4 (by decide +kernel) ⟨rfl, rfl, Nat.le_of_ble_eq_true rfl, Nat.le_of_ble_eq_true rfl⟩ (hE0.recv hK rfl) ⟨rfl, hB⟩ rfl rfl hl.1 (Nat.le_of_ble_eq_true rfl) d_M_inside_32 ⟨Nat.le_of_ble_eq_true rfl, Nat.le_of_ble_eq_true rfl⟩ hS (fun q h => h.elim Or.inl (fun h => Or.inr (Nat.le_trans hS.1 h))) (fun H1 locs1 hB hz1 hk1 hS => ?_)
    obtain ⟨⟨hE0, hGA⟩, hEi, ⟨hmp, hms, hmn, hmm, hmc⟩⟩ := id hB
    refine z_topi (y := 1) (by rw [hg]; rfl) ?_
    rw [pm_th_ok hg] at hB
    obtain ⟨⟨hE0, hGA⟩, hEi, ⟨hmp, hms, hmn, hmm, hmc⟩⟩ := id hB
    refine lv_if_ne (tgt := 40) hx hb d_M_inside_35 (by decide) (fun c_1 => ?_) (fun c_1 => ?_)
    · skip
      refine lv_iconst (v := 0) hx hb d_M_inside_40 (by decide) ?_
      refine lv_istore (lv' := [(5, .int 0), (0, .ref (E 0)), (1, .int x), (2, .int y), (3, .int d), (4, .int (nI kk))]) hx hb d_M_inside_41 hl (by decide) rfl (fun ls hl => ?_)
      refine lv_iconst (v := 0) hx hb d_M_inside_43 (by decide) ?_
      refine lv_istore (lv' := [(6, .int 0), (5, .int 0), (0, .ref (E 0)), (1, .int x), (2, .int y), (3, .int d), (4, .int (nI kk))]) hx hb d_M_inside_44 hl (by decide) rfl (fun ls hl => ?_)
      have loops : ∀ f : Nat, (∀ (i b : Nat), mp - i < f → (i ≤ mp) → (b ≤ i) → (pm_kth (fun i => pm_inO gv cn x y (pm_f gv ms (nI i) d)) kk (mp - i) i b = pm_kth (fun i => pm_inO gv cn x y (pm_f gv ms (nI i) d)) kk mp 0 0) → ∀ ls : Array Slot, lv_has ls 8 [(0, .ref (E 0)), (1, .int x), (2, .int y), (3, .int d), (4, .int (nI kk)), (5, .int (nI b)), (6, .int (nI i))] → W p l e ({ frames := 3, cells := 0, slots := 0, locals := 78 }) s m [.ref (E 0), .int x, .int y, .int d, .int (nI kk)].toArray below meth c H1 locs1 0 0 (MQ below (z_Qw (fun r H => r = some (.int (pm_kth (fun i => pm_inO gv cn x y (pm_f gv ms (nI i) d)) kk mp 0 0)) ∧ z_Md (dC, dI) cI H E 0 mp ms mc mn mm gv) (z_fr (z_mF E) s.heap.size)) [.ref (E 0), .int x, .int y, .int d, .int (nI kk)].toArray s 0 0 (z_fr (z_mF E) s.heap.size)) (F0 m 46 ls [])) := by
        intro f
        induction f with
        | zero => exact fun _ _ h => absurd h (Nat.not_lt_zero _)
        | succ f ih =>
          intro i b hmu hi hbi hres ls hl
          refine lv_iload hx hb d_M_inside_46 (lv_at hl 6 rfl) ?_
          refine lv_aload_n hx hb d_M_inside_48 rfl (lv_at hl 0 rfl) ?_
          refine va_get (D := (dC, dI)) (ci := 4) (v := .int (nI mp)) (C := R_M) (T := T_M) (N := 23) hx hb hts in_M hown hK hE0.P 0 rfl rfl 1 (by decide) (hts _ w_541) (fun _ h9 => h9) rfl d_M_inside_49 ?_
          refine lv_icmp_ge (tgt := 100) hx hb d_M_inside_52 (by decide) (fun c_2 => ?_) (fun c_2 => ?_)
          · skip
            have c_2 : mp ≤ i := (nI_leI (a := mp) (b := i) (by omega) (by omega)).mp c_2
            refine lv_iconst (v := (-1)) hx hb d_M_inside_100 (by decide) ?_
            exact z_wi hx hb hr hlocks (⟨by rw [show mp - i = 0 by omega] at hres; simp only [pm_kth] at hres; rw [← hres], hB⟩) hS d_M_inside_101
          · skip
            have c_2 : ¬ (mp ≤ i) := fun h => c_2 ((nI_leI (a := mp) (b := i) (by omega) (by omega)).mpr h)
            refine lv_aload_n hx hb d_M_inside_55 rfl (lv_at hl 0 rfl) ?_
            refine lv_iload hx hb d_M_inside_56 (lv_at hl 6 rfl) ?_
            refine lv_iload_n hx hb d_M_inside_58 rfl (lv_at hl 3 rfl) ?_
            refine z_rdV (n := 2) (C := R_M) (rest := []) ⟨hx, hb, hml, hown, hts⟩ hW0 (c_M_forced G E 0 mp ms mc mn mm gv (nI i) d) w_689 w_686 w_688 wp_26 w_4 (by decide +kernel) ⟨rfl, rfl, Nat.le_of_ble_eq_true rfl, Nat.le_of_ble_eq_true rfl⟩ (hE0.recv hK rfl) (hB) rfl rfl hl.1 (Nat.le_of_ble_eq_true rfl) d_M_inside_59 ⟨Nat.zero_le _, Nat.zero_le _⟩ ?_
            obtain ⟨o_59, hq_59⟩ : ∃ o, pm_f gv ms (nI i) d = o := ⟨_, rfl⟩
            rcases o_59 with _ | j_59
            · skip
              refine z_topi (y := -1) (by rw [hq_59]; rfl) ?_
              refine lv_istore (lv' := [(7, .int (-1)), (0, .ref (E 0)), (1, .int x), (2, .int y), (3, .int d), (4, .int (nI kk)), (5, .int (nI b)), (6, .int (nI i))]) hx hb d_M_inside_62 hl (by decide) rfl (fun ls hl => ?_)
              refine lv_iload hx hb d_M_inside_64 (lv_at hl 0 rfl) ?_
              refine lv_iconst (v := (-1)) hx hb d_M_inside_66 (by decide) ?_
              refine lv_icmp_eq (tgt := 94) hx hb d_M_inside_67 (by decide) (fun c_3 => ?_) (fun c_3 => ?_)
              · skip
                refine lv_iinc (v := nI (i + 1)) (lv' := [(6, .int (nI (i + 1))), (7, .int (-1)), (0, .ref (E 0)), (1, .int x), (2, .int y), (3, .int d), (4, .int (nI kk)), (5, .int (nI b))]) hx hb d_M_inside_94 hl (k := 7) rfl (nI_1 i) (by decide) rfl (fun ls hl => ?_)
                refine lv_goto (tgt := 46) hx hb d_M_inside_97 (by decide) ?_
                exact ih (i + 1) b (by omega) (by omega) (by omega) (by have hP : pm_inO gv cn x y (pm_f gv ms (nI i) d) = false := (by simp [pm_inO, hq_59, c_2]); rw [show mp - i = (mp - (i + 1)) + 1 by omega] at hres; simpa [pm_kth, hP, c_2] using hres) ls (lv_sub hl [2, 3, 4, 5, 6, 7, 0] rfl)
              · skip
                exact absurd (by decide) c_3
            · skip
              have hj_59 := pm_f_ok hq_59
              have hc_59 := hcn j_59 hj_59.1
              have h3_59 := hc_59.2.2 hj_59.2
              have hl_59 := hj_59.1
              have hm_59 := hc_59.2.1
              refine z_topi (y := nI j_59) (by rw [hq_59]; rfl) ?_
              refine lv_istore (lv' := [(7, .int (nI j_59)), (0, .ref (E 0)), (1, .int x), (2, .int y), (3, .int d), (4, .int (nI kk)), (5, .int (nI b)), (6, .int (nI i))]) hx hb d_M_inside_62 hl (by decide) rfl (fun ls hl => ?_)
              refine lv_iload hx hb d_M_inside_64 (lv_at hl 0 rfl) ?_
              refine lv_iconst (v := (-1)) hx hb d_M_inside_66 (by decide) ?_
              refine lv_icmp_eq (tgt := 94) hx hb d_M_inside_67 (by decide) (fun c_4 => ?_) (fun c_4 => ?_)
              · skip
                exact absurd c_4 (z_ne1 (by omega))
              · skip
                refine lv_aload_n hx hb d_M_inside_70 rfl (lv_at hl 1 rfl) ?_
                refine lv_iload hx hb d_M_inside_71 (lv_at hl 0 rfl) ?_
                refine lv_iload_n hx hb d_M_inside_73 rfl (lv_at hl 2 rfl) ?_
                refine lv_iload_n hx hb d_M_inside_74 rfl (lv_at hl 3 rfl) ?_
                refine z_rdV (n := 3) (C := R_M) (rest := []) ⟨hx, hb, hml, hown, hts⟩ hW0 (c_M_isIn G E 0 mp ms mc mn mm gv j_59 (cn j_59) x y (by omega) (hcn j_59 (by omega)).1 (by omega) (hcn j_59 (by omega)).2.1) w_697 w_694 w_696 wp_27 w_4 (by decide +kernel) ⟨rfl, rfl, Nat.le_of_ble_eq_true rfl, Nat.le_of_ble_eq_true rfl⟩ (hE0.recv hK rfl) (hB) rfl rfl hl.1 (Nat.le_of_ble_eq_true rfl) d_M_inside_75 ⟨Nat.zero_le _, Nat.zero_le _⟩ ?_
                refine lv_if_eq (tgt := 94) hx hb d_M_inside_78 (by decide) (fun c_5 => ?_) (fun c_5 => ?_)
                · skip
                  have c_5 : (pm_in (gv 5) (gv 6) (cn j_59) j_59 x y) = false := pi_b_0.mp c_5
                  refine lv_iinc (v := nI (i + 1)) (lv' := [(6, .int (nI (i + 1))), (7, .int (nI j_59)), (0, .ref (E 0)), (1, .int x), (2, .int y), (3, .int d), (4, .int (nI kk)), (5, .int (nI b))]) hx hb d_M_inside_94 hl (k := 7) rfl (nI_1 i) (by decide) rfl (fun ls hl => ?_)
                  refine lv_goto (tgt := 46) hx hb d_M_inside_97 (by decide) ?_
                  exact ih (i + 1) b (by omega) (by omega) (by omega) (by have hP : pm_inO gv cn x y (pm_f gv ms (nI i) d) = false := (by simp [pm_inO, hq_59, c_2, c_4, c_5]); rw [show mp - i = (mp - (i + 1)) + 1 by omega] at hres; simpa [pm_kth, hP, c_2, c_4, c_5] using hres) ls (lv_sub hl [2, 3, 4, 5, 6, 7, 0] rfl)
                · skip
                  have c_5 : (pm_in (gv 5) (gv 6) (cn j_59) j_59 x y) = true := pi_b_1.mp c_5
                  refine lv_iload hx hb d_M_inside_81 (lv_at hl 6 rfl) ?_
                  refine lv_iload hx hb d_M_inside_83 (lv_at hl 5 rfl) ?_
                  refine lv_icmp_ne (tgt := 91) hx hb d_M_inside_85 (by decide) (fun c_6 => ?_) (fun c_6 => ?_)
                  · skip
                    have c_6 : ¬ (b = kk) := fun h => c_6 ((nI_eq (a := b) (b := kk) (by omega) (by omega)).mpr h)
                    refine lv_iinc (v := nI (b + 1)) (lv' := [(5, .int (nI (b + 1))), (7, .int (nI j_59)), (0, .ref (E 0)), (1, .int x), (2, .int y), (3, .int d), (4, .int (nI kk)), (6, .int (nI i))]) hx hb d_M_inside_91 hl (k := 6) rfl (nI_1 b) (by decide) rfl (fun ls hl => ?_)
                    refine lv_iinc (v := nI (i + 1)) (lv' := [(6, .int (nI (i + 1))), (5, .int (nI (b + 1))), (7, .int (nI j_59)), (0, .ref (E 0)), (1, .int x), (2, .int y), (3, .int d), (4, .int (nI kk))]) hx hb d_M_inside_94 hl (k := 7) rfl (nI_1 i) (by decide) rfl (fun ls hl => ?_)
                    refine lv_goto (tgt := 46) hx hb d_M_inside_97 (by decide) ?_
                    exact ih (i + 1) (b + 1) (by omega) (by omega) (by omega) (by have hP : pm_inO gv cn x y (pm_f gv ms (nI i) d) = true := (by simp [pm_inO, hq_59, c_2, c_4, c_5, c_6]); rw [show mp - i = (mp - (i + 1)) + 1 by omega] at hres; simpa [pm_kth, hP, c_2, c_4, c_5, c_6] using hres) ls (lv_sub hl [3, 4, 5, 6, 7, 1, 0] rfl)
                  · skip
                    have c_6 : b = kk := (nI_eq (a := b) (b := kk) (by omega) (by omega)).mp c_6
                    refine lv_iload hx hb d_M_inside_88 (lv_at hl 7 rfl) ?_
                    have hP : pm_inO gv cn x y (pm_f gv ms (nI i) d) = true := (by simp [pm_inO, hq_59, c_2, c_4, c_5, c_6])
                    exact z_wi hx hb hr hlocks (⟨by rw [show mp - i = (mp - (i + 1)) + 1 by omega] at hres; simp [pm_kth, hP, c_2, c_4, c_5, c_6] at hres; rw [hres], hB⟩) hS d_M_inside_90
      exact (loops ((mp - 0) + 1)) 0 0 (by omega) (by omega) (by omega) (by rfl) ls (lv_sub hl [2, 3, 4, 5, 6, 1, 0] rfl)
    · skip
      exact absurd c_1 (by decide)
  refine lv_aload_n hx hb d_M_inside_0 rfl (lv_at hl 0 rfl) ?_
  refine lv_iload hx hb d_M_inside_1 (lv_at hl 4 rfl) ?_
  refine lv_if_lt (tgt := 10) hx hb d_M_inside_3 (by decide) (fun c_7 => ?_) (fun c_7 => ?_)
  · skip
    have c_7 : kk < 0 := (nI_ltI (a := kk) (b := 0) (by omega) (by omega)).mp c_7
    exact absurd c_7 (Nat.not_lt_zero _)
  · skip
    have c_7 : ¬ (kk < 0) := fun h => c_7 ((nI_ltI (a := kk) (b := 0) (by omega) (by omega)).mpr h)
    refine lv_iconst (v := 1) hx hb d_M_inside_6 (by decide) ?_
    refine lv_goto (tgt := 11) hx hb d_M_inside_7 (by decide) ?_
    refine lv_iload_n hx hb d_M_inside_11 rfl (lv_at hl 1 rfl) ?_
    refine lv_iload_n hx hb d_M_inside_12 rfl (lv_at hl 2 rfl) ?_
    refine z_rdS (n := 2) (rest := [.int 1, .ref (E 0)]) ⟨hx, hb, hml, hown, hts⟩ hW0 (c_M_isPoint G x y) w_644 w_642 w_643 w_4 (by decide +kernel) ⟨rfl, rfl, Nat.le_of_ble_eq_true rfl, Nat.le_of_ble_eq_true rfl⟩ (trivial) rfl rfl hl.1 (Nat.le_of_ble_eq_true rfl) d_M_inside_13 ⟨Nat.zero_le _, Nat.zero_le _⟩ ?_
    refine lv_if_eq (tgt := 30) hx hb d_M_inside_16 (by decide) (fun c_8 => ?_) (fun c_8 => ?_)
    · skip
      have c_8 : (pm_pt x y) = false := pi_b_0.mp c_8
      refine lv_iconst (v := 0) hx hb d_M_inside_30 (by decide) ?_
      refine lv_iconst (v := 1) hx hb d_M_inside_31 (by decide) ?_
      refine z_g3 (w1 := pi_b true) (w2 := pi_b (pm_pt x y && pm_day d)) (w3 := pi_b true) (rfl) (by simp [pi_b, c_7, c_8]) (rfl) ?_
      exact tail ls (lv_sub hl [0, 1, 2, 3, 4] rfl)
    · skip
      have c_8 : (pm_pt x y) = true := pi_b_1.mp c_8
      refine lv_iload_n hx hb d_M_inside_19 rfl (lv_at hl 3 rfl) ?_
      refine z_rdS (n := 1) (rest := [.int 1, .ref (E 0)]) ⟨hx, hb, hml, hown, hts⟩ hW0 (c_M_isDay G d) w_632 w_630 w_631 w_4 (by decide +kernel) ⟨rfl, rfl, Nat.le_of_ble_eq_true rfl, Nat.le_of_ble_eq_true rfl⟩ (trivial) rfl rfl hl.1 (Nat.le_of_ble_eq_true rfl) d_M_inside_20 ⟨Nat.zero_le _, Nat.zero_le _⟩ ?_
      refine lv_if_eq (tgt := 30) hx hb d_M_inside_23 (by decide) (fun c_9 => ?_) (fun c_9 => ?_)
      · skip
        have c_9 : (pm_day d) = false := pi_b_0.mp c_9
        refine lv_iconst (v := 0) hx hb d_M_inside_30 (by decide) ?_
        refine lv_iconst (v := 1) hx hb d_M_inside_31 (by decide) ?_
        refine z_g3 (w1 := pi_b true) (w2 := pi_b (pm_pt x y && pm_day d)) (w3 := pi_b true) (rfl) (by simp [pi_b, c_7, c_8, c_9]) (rfl) ?_
        exact tail ls (lv_sub hl [0, 1, 2, 3, 4] rfl)
      · skip
        have c_9 : (pm_day d) = true := pi_b_1.mp c_9
        refine lv_iconst (v := 1) hx hb d_M_inside_26 (by decide) ?_
        refine lv_goto (tgt := 31) hx hb d_M_inside_27 (by decide) ?_
        refine lv_iconst (v := 1) hx hb d_M_inside_31 (by decide) ?_
        refine z_g3 (w1 := pi_b true) (w2 := pi_b (pm_pt x y && pm_day d)) (w3 := pi_b true) (rfl) (by simp [pi_b, c_7, c_8, c_9]) (rfl) ?_
        exact tail ls (lv_sub hl [0, 1, 2, 3, 4] rfl)
set_option maxRecDepth 100000 in
set_option maxHeartbeats 4000000 in
theorem c_M_misfit_no (G : z_G s0 (dC, dI) cI cS) (E : Nat → Nat) (th : Int32) (mp ms mc mn mm : Nat) (gv : Nat → Nat → Int32) (sz : Nat) (k0 d : Int32) (hg : ((decide (0 ≤ k0)) && ((pm_day d) && true)) = false) : Met l y_M_misfit [Cond.code y_M_misfit b_M_misfit 5 (some .int)] ({ frames := 1, cells := 0, slots := 0, locals := 23 }) (z_Pc s0 [.ref (E 0), .int k0, .int d] (fun H => H.size = sz ∧ z_Md (dC, dI) cI H E th mp ms mc mn mm gv)) (z_Qw (fun r H => r = some (.int 0) ∧ z_Md (dC, dI) cI H E (pm_th (decide (0 ≤ k0)) (pm_day d) true) mp ms mc mn mm gv) (z_fr (z_mF E) sz)) 0 0 (z_fr (z_mF E) sz) := by
  refine z_ofW (by decide +kernel) (Nat.le_of_ble_eq_true rfl) ?_
  intro p e s m below meth c hx hb hml hr hown hlocks hnm hW0 hB ls hl
  have hts := z_hts (args := [.ref (E 0), .int k0, .int d].toArray) G.1 hW0
  have hN := z_nstW G.2.1 hW0
  have hK := va_K.moved hW0.alike G.2.2.1
  have hAI := arrOfT_moved hW0.alike G.2.2.2.1
  have hl : lv_has ls 5 [(0, .ref (E 0)), (1, .int k0), (2, .int d)] := hl
  obtain ⟨rfl, hB⟩ := hB
  have hS : va_S (z_fr (z_mF E) s.heap.size) s.heap s.heap [] := va_S.rf
  obtain ⟨⟨hE0, hGA⟩, hEi, ⟨hmp, hms, hmn, hmm, hmc⟩⟩ := id hB
  have tail : ∀ ls : Array Slot, lv_has ls 5 [(0, .ref (E 0)), (1, .int k0), (2, .int d)] → W p l e ({ frames := 1, cells := 0, slots := 0, locals := 23 }) s m [.ref (E 0), .int k0, .int d].toArray below meth c s.heap [] 0 0 (MQ below (z_Qw (fun r H => r = some (.int 0) ∧ z_Md (dC, dI) cI H E (pm_th (decide (0 ≤ k0)) (pm_day d) true) mp ms mc mn mm gv) (z_fr (z_mF E) s.heap.size)) [.ref (E 0), .int k0, .int d].toArray s 0 0 (z_fr (z_mF E) s.heap.size)) (F0 m 15 ls [.int (pi_b true), .int (pi_b (pm_day d)), .int (pi_b (decide (0 ≤ k0))), .ref (E 0)]) := by
    intro ls hl
    refine z_wrV (n := 3) (C := R_M) (rest := []) ⟨hx, hb, hml, hown, hts⟩ hW0 (c_M_goes G E th mp ms mc mn mm gv _ (decide (0 ≤ k0)) (pm_day d) true) w_625 w_622 w_624 wp_19 w_4 (by decide +kernel) ⟨rfl, rfl, Nat.le_of_ble_eq_true rfl, Nat.le_of_ble_eq_true rfl⟩ (hE0.recv hK rfl) ⟨rfl, hB⟩ rfl rfl hl.1 (Nat.le_of_ble_eq_true rfl) d_M_misfit_15 ⟨Nat.le_of_ble_eq_true rfl, Nat.le_of_ble_eq_true rfl⟩ hS (fun q h => h.elim Or.inl (fun h => Or.inr (Nat.le_trans hS.1 h))) (fun H1 locs1 hB hz1 hk1 hS => ?_)
    obtain ⟨⟨hE0, hGA⟩, hEi, ⟨hmp, hms, hmn, hmm, hmc⟩⟩ := id hB
    refine z_topi (y := 0) (by rw [hg]; rfl) ?_
    refine lv_if_ne (tgt := 23) hx hb d_M_misfit_18 (by decide) (fun c_1 => ?_) (fun c_1 => ?_)
    · skip
      exact absurd (by decide) c_1
    · skip
      refine lv_iconst (v := 0) hx hb d_M_misfit_21 (by decide) ?_
      exact z_wi hx hb hr hlocks (⟨rfl, hB⟩) hS d_M_misfit_22
  refine lv_aload_n hx hb d_M_misfit_0 rfl (lv_at hl 0 rfl) ?_
  refine lv_iload_n hx hb d_M_misfit_1 rfl (lv_at hl 1 rfl) ?_
  refine lv_if_lt (tgt := 9) hx hb d_M_misfit_2 (by decide) (fun c_2 => ?_) (fun c_2 => ?_)
  · skip
    have c_2' : ¬ ((0 : Int32) ≤ k0) := Int32.not_le.mpr c_2
    refine lv_iconst (v := 0) hx hb d_M_misfit_9 (by decide) ?_
    refine lv_iload_n hx hb d_M_misfit_10 rfl (lv_at hl 2 rfl) ?_
    refine z_rdS (n := 1) (rest := [.int 0, .ref (E 0)]) ⟨hx, hb, hml, hown, hts⟩ hW0 (c_M_isDay G d) w_632 w_630 w_631 w_4 (by decide +kernel) ⟨rfl, rfl, Nat.le_of_ble_eq_true rfl, Nat.le_of_ble_eq_true rfl⟩ (trivial) rfl rfl hl.1 (Nat.le_of_ble_eq_true rfl) d_M_misfit_11 ⟨Nat.zero_le _, Nat.zero_le _⟩ ?_
    refine lv_iconst (v := 1) hx hb d_M_misfit_14 (by decide) ?_
    refine z_g3 (w1 := pi_b (decide (0 ≤ k0))) (w2 := pi_b (pm_day d)) (w3 := pi_b true) (rfl) (rfl) (by simp [pi_b, c_2, c_2']) ?_
    exact tail ls (lv_sub hl [0, 1, 2] rfl)
  · skip
    have c_2' : (0 : Int32) ≤ k0 := Int32.not_lt.mp c_2
    refine lv_iconst (v := 1) hx hb d_M_misfit_5 (by decide) ?_
    refine lv_goto (tgt := 10) hx hb d_M_misfit_6 (by decide) ?_
    refine lv_iload_n hx hb d_M_misfit_10 rfl (lv_at hl 2 rfl) ?_
    refine z_rdS (n := 1) (rest := [.int 1, .ref (E 0)]) ⟨hx, hb, hml, hown, hts⟩ hW0 (c_M_isDay G d) w_632 w_630 w_631 w_4 (by decide +kernel) ⟨rfl, rfl, Nat.le_of_ble_eq_true rfl, Nat.le_of_ble_eq_true rfl⟩ (trivial) rfl rfl hl.1 (Nat.le_of_ble_eq_true rfl) d_M_misfit_11 ⟨Nat.zero_le _, Nat.zero_le _⟩ ?_
    refine lv_iconst (v := 1) hx hb d_M_misfit_14 (by decide) ?_
    refine z_g3 (w1 := pi_b (decide (0 ≤ k0))) (w2 := pi_b (pm_day d)) (w3 := pi_b true) (rfl) (rfl) (by simp [pi_b, c_2, c_2']) ?_
    exact tail ls (lv_sub hl [0, 1, 2] rfl)
set_option maxRecDepth 100000 in
set_option maxHeartbeats 4000000 in
theorem c_M_misfit_ok (G : z_G s0 (dC, dI) cI cS) (E : Nat → Nat) (th : Int32) (mp ms mc mn mm : Nat) (gv : Nat → Nat → Int32) (sz : Nat) (kk : Nat) (d : Int32) (hkk : kk < 2 ^ 31) (cn : Nat → Nat) (hcn : ∀ i, i < ms → gv 4 i = nI (cn i) ∧ cn i ≤ 12 ∧ (0 < gv 7 i → 3 ≤ cn i)) (hg : (true && ((pm_day d) && true)) = true) : Met l y_M_misfit [Cond.code y_M_misfit b_M_misfit 5 (some .int)] ({ frames := 4, cells := 0, slots := 0, locals := 104 }) (z_Pc s0 [.ref (E 0), .int (nI kk), .int d] (fun H => H.size = sz ∧ z_Md (dC, dI) cI H E th mp ms mc mn mm gv)) (z_Qw (fun r H => r = some (.int (pm_kth (fun i => pm_mis gv cn ms d i) kk mp 0 0)) ∧ z_Md (dC, dI) cI H E 0 mp ms mc mn mm gv) (z_fr (z_mF E) sz)) 0 0 (z_fr (z_mF E) sz) := by
  refine z_ofW (by decide +kernel) (Nat.le_of_ble_eq_true rfl) ?_
  intro p e s m below meth c hx hb hml hr hown hlocks hnm hW0 hB ls hl
  have hts := z_hts (args := [.ref (E 0), .int (nI kk), .int d].toArray) G.1 hW0
  have hN := z_nstW G.2.1 hW0
  have hK := va_K.moved hW0.alike G.2.2.1
  have hAI := arrOfT_moved hW0.alike G.2.2.2.1
  have hl : lv_has ls 5 [(0, .ref (E 0)), (1, .int (nI kk)), (2, .int d)] := hl
  obtain ⟨rfl, hB⟩ := hB
  have hS : va_S (z_fr (z_mF E) s.heap.size) s.heap s.heap [] := va_S.rf
  obtain ⟨⟨hE0, hGA⟩, hEi, ⟨hmp, hms, hmn, hmm, hmc⟩⟩ := id hB
  have tail : ∀ ls : Array Slot, lv_has ls 5 [(0, .ref (E 0)), (1, .int (nI kk)), (2, .int d)] → W p l e ({ frames := 4, cells := 0, slots := 0, locals := 104 }) s m [.ref (E 0), .int (nI kk), .int d].toArray below meth c s.heap [] 0 0 (MQ below (z_Qw (fun r H => r = some (.int (pm_kth (fun i => pm_mis gv cn ms d i) kk mp 0 0)) ∧ z_Md (dC, dI) cI H E 0 mp ms mc mn mm gv) (z_fr (z_mF E) s.heap.size)) [.ref (E 0), .int (nI kk), .int d].toArray s 0 0 (z_fr (z_mF E) s.heap.size)) (F0 m 15 ls [.int (pi_b true), .int (pi_b (pm_day d)), .int (pi_b true), .ref (E 0)]) := by
    intro ls hl
    refine z_wrV (n := 3) (C := R_M) (rest := []) ⟨hx, hb, hml, hown, hts⟩ hW0 (c_M_goes G E th mp ms mc mn mm gv _ true (pm_day d) true) w_625 w_622 w_624 wp_19 w_4 (by decide +kernel) ⟨rfl, rfl, Nat.le_of_ble_eq_true rfl, Nat.le_of_ble_eq_true rfl⟩ (hE0.recv hK rfl) ⟨rfl, hB⟩ rfl rfl hl.1 (Nat.le_of_ble_eq_true rfl) d_M_misfit_15 ⟨Nat.le_of_ble_eq_true rfl, Nat.le_of_ble_eq_true rfl⟩ hS (fun q h => h.elim Or.inl (fun h => Or.inr (Nat.le_trans hS.1 h))) (fun H1 locs1 hB hz1 hk1 hS => ?_)
    obtain ⟨⟨hE0, hGA⟩, hEi, ⟨hmp, hms, hmn, hmm, hmc⟩⟩ := id hB
    refine z_topi (y := 1) (by rw [hg]; rfl) ?_
    rw [pm_th_ok hg] at hB
    obtain ⟨⟨hE0, hGA⟩, hEi, ⟨hmp, hms, hmn, hmm, hmc⟩⟩ := id hB
    refine lv_if_ne (tgt := 23) hx hb d_M_misfit_18 (by decide) (fun c_1 => ?_) (fun c_1 => ?_)
    · skip
      refine lv_iconst (v := 0) hx hb d_M_misfit_23 (by decide) ?_
      refine lv_istore_n (lv' := [(3, .int 0), (0, .ref (E 0)), (1, .int (nI kk)), (2, .int d)]) hx hb d_M_misfit_24 rfl hl (by decide) rfl (fun ls hl => ?_)
      refine lv_iconst (v := 0) hx hb d_M_misfit_25 (by decide) ?_
      refine lv_istore (lv' := [(4, .int 0), (3, .int 0), (0, .ref (E 0)), (1, .int (nI kk)), (2, .int d)]) hx hb d_M_misfit_26 hl (by decide) rfl (fun ls hl => ?_)
      have loops : ∀ f : Nat, (∀ (i b : Nat), mp - i < f → (i ≤ mp) → (b ≤ i) → (pm_kth (fun i => pm_mis gv cn ms d i) kk (mp - i) i b = pm_kth (fun i => pm_mis gv cn ms d i) kk mp 0 0) → ∀ ls : Array Slot, lv_has ls 5 [(0, .ref (E 0)), (1, .int (nI kk)), (2, .int d), (3, .int (nI b)), (4, .int (nI i))] → W p l e ({ frames := 4, cells := 0, slots := 0, locals := 104 }) s m [.ref (E 0), .int (nI kk), .int d].toArray below meth c H1 locs1 0 0 (MQ below (z_Qw (fun r H => r = some (.int (pm_kth (fun i => pm_mis gv cn ms d i) kk mp 0 0)) ∧ z_Md (dC, dI) cI H E 0 mp ms mc mn mm gv) (z_fr (z_mF E) s.heap.size)) [.ref (E 0), .int (nI kk), .int d].toArray s 0 0 (z_fr (z_mF E) s.heap.size)) (F0 m 28 ls [])) := by
        intro f
        induction f with
        | zero => exact fun _ _ h => absurd h (Nat.not_lt_zero _)
        | succ f ih =>
          intro i b hmu hi hbi hres ls hl
          refine lv_iload hx hb d_M_misfit_28 (lv_at hl 4 rfl) ?_
          refine lv_aload_n hx hb d_M_misfit_30 rfl (lv_at hl 0 rfl) ?_
          refine va_get (D := (dC, dI)) (ci := 4) (v := .int (nI mp)) (C := R_M) (T := T_M) (N := 23) hx hb hts in_M hown hK hE0.P 0 rfl rfl 1 (by decide) (hts _ w_541) (fun _ h9 => h9) rfl d_M_misfit_31 ?_
          refine lv_icmp_ge (tgt := 64) hx hb d_M_misfit_34 (by decide) (fun c_2 => ?_) (fun c_2 => ?_)
          · skip
            have c_2 : mp ≤ i := (nI_leI (a := mp) (b := i) (by omega) (by omega)).mp c_2
            refine lv_iconst (v := (-1)) hx hb d_M_misfit_64 (by decide) ?_
            exact z_wi hx hb hr hlocks (⟨by rw [show mp - i = 0 by omega] at hres; simp only [pm_kth] at hres; rw [← hres], hB⟩) hS d_M_misfit_65
          · skip
            have c_2 : ¬ (mp ≤ i) := fun h => c_2 ((nI_leI (a := mp) (b := i) (by omega) (by omega)).mpr h)
            refine lv_aload_n hx hb d_M_misfit_37 rfl (lv_at hl 0 rfl) ?_
            refine lv_iload hx hb d_M_misfit_38 (lv_at hl 4 rfl) ?_
            refine lv_iload_n hx hb d_M_misfit_40 rfl (lv_at hl 2 rfl) ?_
            refine z_rdV (n := 2) (C := R_M) (rest := []) ⟨hx, hb, hml, hown, hts⟩ hW0 (c_M_misfits G E 0 mp ms mc mn mm gv cn hcn i d (by omega)) w_713 w_710 w_712 wp_28 w_4 (by decide +kernel) ⟨rfl, rfl, Nat.le_of_ble_eq_true rfl, Nat.le_of_ble_eq_true rfl⟩ (hE0.recv hK rfl) (hB) rfl rfl hl.1 (Nat.le_of_ble_eq_true rfl) d_M_misfit_41 ⟨Nat.zero_le _, Nat.zero_le _⟩ ?_
            refine lv_if_eq (tgt := 58) hx hb d_M_misfit_44 (by decide) (fun c_3 => ?_) (fun c_3 => ?_)
            · skip
              have c_3 : (pm_mis gv cn ms d i) = false := pi_b_0.mp c_3
              refine lv_iinc (v := nI (i + 1)) (lv' := [(4, .int (nI (i + 1))), (0, .ref (E 0)), (1, .int (nI kk)), (2, .int d), (3, .int (nI b))]) hx hb d_M_misfit_58 hl (k := 4) rfl (nI_1 i) (by decide) rfl (fun ls hl => ?_)
              refine lv_goto (tgt := 28) hx hb d_M_misfit_61 (by decide) ?_
              exact ih (i + 1) b (by omega) (by omega) (by omega) (by rw [show mp - i = (mp - (i + 1)) + 1 by omega] at hres; simpa [pm_kth, c_2, c_3] using hres) ls (lv_sub hl [1, 2, 3, 4, 0] rfl)
            · skip
              have c_3 : (pm_mis gv cn ms d i) = true := pi_b_1.mp c_3
              refine lv_iload_n hx hb d_M_misfit_47 rfl (lv_at hl 3 rfl) ?_
              refine lv_iload_n hx hb d_M_misfit_48 rfl (lv_at hl 1 rfl) ?_
              refine lv_icmp_ne (tgt := 55) hx hb d_M_misfit_49 (by decide) (fun c_4 => ?_) (fun c_4 => ?_)
              · skip
                have c_4 : ¬ (b = kk) := fun h => c_4 ((nI_eq (a := b) (b := kk) (by omega) (by omega)).mpr h)
                refine lv_iinc (v := nI (b + 1)) (lv' := [(3, .int (nI (b + 1))), (0, .ref (E 0)), (1, .int (nI kk)), (2, .int d), (4, .int (nI i))]) hx hb d_M_misfit_55 hl (k := 3) rfl (nI_1 b) (by decide) rfl (fun ls hl => ?_)
                refine lv_iinc (v := nI (i + 1)) (lv' := [(4, .int (nI (i + 1))), (3, .int (nI (b + 1))), (0, .ref (E 0)), (1, .int (nI kk)), (2, .int d)]) hx hb d_M_misfit_58 hl (k := 4) rfl (nI_1 i) (by decide) rfl (fun ls hl => ?_)
                refine lv_goto (tgt := 28) hx hb d_M_misfit_61 (by decide) ?_
                exact ih (i + 1) (b + 1) (by omega) (by omega) (by omega) (by rw [show mp - i = (mp - (i + 1)) + 1 by omega] at hres; simpa [pm_kth, c_2, c_3, c_4] using hres) ls (lv_sub hl [2, 3, 4, 1, 0] rfl)
              · skip
                have c_4 : b = kk := (nI_eq (a := b) (b := kk) (by omega) (by omega)).mp c_4
                refine lv_iload hx hb d_M_misfit_52 (lv_at hl 4 rfl) ?_
                exact z_wi hx hb hr hlocks (⟨by rw [show mp - i = (mp - (i + 1)) + 1 by omega] at hres; simp [pm_kth, c_2, c_3, c_4] at hres; rw [hres], hB⟩) hS d_M_misfit_54
      exact (loops ((mp - 0) + 1)) 0 0 (by omega) (by omega) (by omega) (by rfl) ls (lv_sub hl [2, 3, 4, 1, 0] rfl)
    · skip
      exact absurd c_1 (by decide)
  refine lv_aload_n hx hb d_M_misfit_0 rfl (lv_at hl 0 rfl) ?_
  refine lv_iload_n hx hb d_M_misfit_1 rfl (lv_at hl 1 rfl) ?_
  refine lv_if_lt (tgt := 9) hx hb d_M_misfit_2 (by decide) (fun c_5 => ?_) (fun c_5 => ?_)
  · skip
    have c_5 : kk < 0 := (nI_ltI (a := kk) (b := 0) (by omega) (by omega)).mp c_5
    exact absurd c_5 (Nat.not_lt_zero _)
  · skip
    have c_5 : ¬ (kk < 0) := fun h => c_5 ((nI_ltI (a := kk) (b := 0) (by omega) (by omega)).mpr h)
    refine lv_iconst (v := 1) hx hb d_M_misfit_5 (by decide) ?_
    refine lv_goto (tgt := 10) hx hb d_M_misfit_6 (by decide) ?_
    refine lv_iload_n hx hb d_M_misfit_10 rfl (lv_at hl 2 rfl) ?_
    refine z_rdS (n := 1) (rest := [.int 1, .ref (E 0)]) ⟨hx, hb, hml, hown, hts⟩ hW0 (c_M_isDay G d) w_632 w_630 w_631 w_4 (by decide +kernel) ⟨rfl, rfl, Nat.le_of_ble_eq_true rfl, Nat.le_of_ble_eq_true rfl⟩ (trivial) rfl rfl hl.1 (Nat.le_of_ble_eq_true rfl) d_M_misfit_11 ⟨Nat.zero_le _, Nat.zero_le _⟩ ?_
    refine lv_iconst (v := 1) hx hb d_M_misfit_14 (by decide) ?_
    refine z_g3 (w1 := pi_b true) (w2 := pi_b (pm_day d)) (w3 := pi_b true) (rfl) (rfl) (rfl) ?_
    exact tail ls (lv_sub hl [0, 1, 2] rfl)
set_option maxRecDepth 100000 in
set_option maxHeartbeats 4000000 in
theorem c_M_threeWay_no (G : z_G s0 (dC, dI) cI cS) (E : Nat → Nat) (th : Int32) (mp ms mc mn mm : Nat) (gv : Nat → Nat → Int32) (sz : Nat) (x0 x y d : Int32) (hg : ((pm_idx mp x0) && ((pm_pt x y && pm_day d) && true)) = false) : Met l y_M_threeWay [Cond.code y_M_threeWay b_M_threeWay 8 (some .int)] ({ frames := 1, cells := 0, slots := 0, locals := 23 }) (z_Pc s0 [.ref (E 0), .int x0, .int x, .int y, .int d] (fun H => H.size = sz ∧ z_Md (dC, dI) cI H E th mp ms mc mn mm gv)) (z_Qw (fun r H => r = some (.int 0) ∧ z_Md (dC, dI) cI H E (pm_th (pm_idx mp x0) (pm_pt x y && pm_day d) true) mp ms mc mn mm gv) (z_fr (z_mF E) sz)) 0 0 (z_fr (z_mF E) sz) := by
  refine z_ofW (by decide +kernel) (Nat.le_of_ble_eq_true rfl) ?_
  intro p e s m below meth c hx hb hml hr hown hlocks hnm hW0 hB ls hl
  have hts := z_hts (args := [.ref (E 0), .int x0, .int x, .int y, .int d].toArray) G.1 hW0
  have hN := z_nstW G.2.1 hW0
  have hK := va_K.moved hW0.alike G.2.2.1
  have hAI := arrOfT_moved hW0.alike G.2.2.2.1
  have hl : lv_has ls 8 [(0, .ref (E 0)), (1, .int x0), (2, .int x), (3, .int y), (4, .int d)] := hl
  obtain ⟨rfl, hB⟩ := hB
  have hS : va_S (z_fr (z_mF E) s.heap.size) s.heap s.heap [] := va_S.rf
  obtain ⟨⟨hE0, hGA⟩, hEi, ⟨hmp, hms, hmn, hmm, hmc⟩⟩ := id hB
  have tail : ∀ ls : Array Slot, lv_has ls 8 [(0, .ref (E 0)), (1, .int x0), (2, .int x), (3, .int y), (4, .int d)] → W p l e ({ frames := 1, cells := 0, slots := 0, locals := 23 }) s m [.ref (E 0), .int x0, .int x, .int y, .int d].toArray below meth c s.heap [] 0 0 (MQ below (z_Qw (fun r H => r = some (.int 0) ∧ z_Md (dC, dI) cI H E (pm_th (pm_idx mp x0) (pm_pt x y && pm_day d) true) mp ms mc mn mm gv) (z_fr (z_mF E) s.heap.size)) [.ref (E 0), .int x0, .int x, .int y, .int d].toArray s 0 0 (z_fr (z_mF E) s.heap.size)) (F0 m 28 ls [.int (pi_b true), .int (pi_b (pm_pt x y && pm_day d)), .int (pi_b (pm_idx mp x0)), .ref (E 0)]) := by
    intro ls hl
    refine z_wrV (n := 3) (C := R_M) (rest := []) ⟨hx, hb, hml, hown, hts⟩ hW0 (c_M_goes G E th mp ms mc mn mm gv _ (pm_idx mp x0) (pm_pt x y && pm_day d) true) w_625 w_622 w_624 wp_19 w_4 (by decide +kernel) ⟨rfl, rfl, Nat.le_of_ble_eq_true rfl, Nat.le_of_ble_eq_true rfl⟩ (hE0.recv hK rfl) ⟨rfl, hB⟩ rfl rfl hl.1 (Nat.le_of_ble_eq_true rfl) d_M_threeWay_28 ⟨Nat.le_of_ble_eq_true rfl, Nat.le_of_ble_eq_true rfl⟩ hS (fun q h => h.elim Or.inl (fun h => Or.inr (Nat.le_trans hS.1 h))) (fun H1 locs1 hB hz1 hk1 hS => ?_)
    obtain ⟨⟨hE0, hGA⟩, hEi, ⟨hmp, hms, hmn, hmm, hmc⟩⟩ := id hB
    refine z_topi (y := 0) (by rw [hg]; rfl) ?_
    refine lv_if_ne (tgt := 36) hx hb d_M_threeWay_31 (by decide) (fun c_1 => ?_) (fun c_1 => ?_)
    · skip
      exact absurd (by decide) c_1
    · skip
      refine lv_iconst (v := 0) hx hb d_M_threeWay_34 (by decide) ?_
      exact z_wi hx hb hr hlocks (⟨rfl, hB⟩) hS d_M_threeWay_35
  refine lv_aload_n hx hb d_M_threeWay_0 rfl (lv_at hl 0 rfl) ?_
  refine lv_aload_n hx hb d_M_threeWay_1 rfl (lv_at hl 0 rfl) ?_
  refine lv_iload_n hx hb d_M_threeWay_2 rfl (lv_at hl 1 rfl) ?_
  refine z_rdV (n := 1) (C := R_M) (rest := [.ref (E 0)]) ⟨hx, hb, hml, hown, hts⟩ hW0 (c_M_isPlace G E th mp ms mc mn mm gv x0) w_621 w_618 w_620 wp_18 w_4 (by decide +kernel) ⟨rfl, rfl, Nat.le_of_ble_eq_true rfl, Nat.le_of_ble_eq_true rfl⟩ (hE0.recv hK rfl) (hB) rfl rfl hl.1 (Nat.le_of_ble_eq_true rfl) d_M_threeWay_3 ⟨Nat.zero_le _, Nat.zero_le _⟩ ?_
  refine lv_iload_n hx hb d_M_threeWay_6 rfl (lv_at hl 2 rfl) ?_
  refine lv_iload_n hx hb d_M_threeWay_7 rfl (lv_at hl 3 rfl) ?_
  refine z_rdS (n := 2) (rest := [.int (pi_b (pm_idx mp x0)), .ref (E 0)]) ⟨hx, hb, hml, hown, hts⟩ hW0 (c_M_isPoint G x y) w_644 w_642 w_643 w_4 (by decide +kernel) ⟨rfl, rfl, Nat.le_of_ble_eq_true rfl, Nat.le_of_ble_eq_true rfl⟩ (trivial) rfl rfl hl.1 (Nat.le_of_ble_eq_true rfl) d_M_threeWay_8 ⟨Nat.zero_le _, Nat.zero_le _⟩ ?_
  refine lv_if_eq (tgt := 26) hx hb d_M_threeWay_11 (by decide) (fun c_2 => ?_) (fun c_2 => ?_)
  · skip
    have c_2 : (pm_pt x y) = false := pi_b_0.mp c_2
    refine lv_iconst (v := 0) hx hb d_M_threeWay_26 (by decide) ?_
    refine lv_iconst (v := 1) hx hb d_M_threeWay_27 (by decide) ?_
    refine z_g3 (w1 := pi_b (pm_idx mp x0)) (w2 := pi_b (pm_pt x y && pm_day d)) (w3 := pi_b true) (rfl) (by simp [pi_b, c_2]) (rfl) ?_
    exact tail ls (lv_sub hl [0, 1, 2, 3, 4] rfl)
  · skip
    have c_2 : (pm_pt x y) = true := pi_b_1.mp c_2
    refine lv_iload hx hb d_M_threeWay_14 (lv_at hl 4 rfl) ?_
    refine z_rdS (n := 1) (rest := [.int (pi_b (pm_idx mp x0)), .ref (E 0)]) ⟨hx, hb, hml, hown, hts⟩ hW0 (c_M_isDay G d) w_632 w_630 w_631 w_4 (by decide +kernel) ⟨rfl, rfl, Nat.le_of_ble_eq_true rfl, Nat.le_of_ble_eq_true rfl⟩ (trivial) rfl rfl hl.1 (Nat.le_of_ble_eq_true rfl) d_M_threeWay_16 ⟨Nat.zero_le _, Nat.zero_le _⟩ ?_
    refine lv_if_eq (tgt := 26) hx hb d_M_threeWay_19 (by decide) (fun c_3 => ?_) (fun c_3 => ?_)
    · skip
      have c_3 : (pm_day d) = false := pi_b_0.mp c_3
      refine lv_iconst (v := 0) hx hb d_M_threeWay_26 (by decide) ?_
      refine lv_iconst (v := 1) hx hb d_M_threeWay_27 (by decide) ?_
      refine z_g3 (w1 := pi_b (pm_idx mp x0)) (w2 := pi_b (pm_pt x y && pm_day d)) (w3 := pi_b true) (rfl) (by simp [pi_b, c_2, c_3]) (rfl) ?_
      exact tail ls (lv_sub hl [0, 1, 2, 3, 4] rfl)
    · skip
      have c_3 : (pm_day d) = true := pi_b_1.mp c_3
      refine lv_iconst (v := 1) hx hb d_M_threeWay_22 (by decide) ?_
      refine lv_goto (tgt := 27) hx hb d_M_threeWay_23 (by decide) ?_
      refine lv_iconst (v := 1) hx hb d_M_threeWay_27 (by decide) ?_
      refine z_g3 (w1 := pi_b (pm_idx mp x0)) (w2 := pi_b (pm_pt x y && pm_day d)) (w3 := pi_b true) (rfl) (by simp [pi_b, c_2, c_3]) (rfl) ?_
      exact tail ls (lv_sub hl [0, 1, 2, 3, 4] rfl)
set_option maxRecDepth 100000 in
set_option maxHeartbeats 4000000 in
theorem c_M_threeWay_ok (G : z_G s0 (dC, dI) cI cS) (E : Nat → Nat) (th : Int32) (mp ms mc mn mm : Nat) (gv : Nat → Nat → Int32) (sz : Nat) (x0 x y d : Int32) (cn : Nat → Nat) (hcn : ∀ i, i < ms → gv 4 i = nI (cn i) ∧ cn i ≤ 12 ∧ (0 < gv 7 i → 3 ≤ cn i)) (sp : Nat → Option Nat) (hsp : ∀ i, i < ms → gv 8 i = pb_num (sp i) ∧ ∀ q, sp i = some q → q < ms ∧ 0 < cn q) (hg : ((pm_idx mp x0) && ((pm_pt x y && pm_day d) && true)) = true) : Met l y_M_threeWay [Cond.code y_M_threeWay b_M_threeWay 8 (some .int)] ({ frames := 3, cells := 0, slots := 0, locals := 78 }) (z_Pc s0 [.ref (E 0), .int x0, .int x, .int y, .int d] (fun H => H.size = sz ∧ z_Md (dC, dI) cI H E th mp ms mc mn mm gv)) (z_Qw (fun r H => r = some (.int (pm_tw gv cn sp x y (pm_f gv ms x0 d))) ∧ z_Md (dC, dI) cI H E 0 mp ms mc mn mm gv) (z_fr (z_mF E) sz)) 0 0 (z_fr (z_mF E) sz) := by
  refine z_ofW (by decide +kernel) (Nat.le_of_ble_eq_true rfl) ?_
  intro p e s m below meth c hx hb hml hr hown hlocks hnm hW0 hB ls hl
  have hts := z_hts (args := [.ref (E 0), .int x0, .int x, .int y, .int d].toArray) G.1 hW0
  have hN := z_nstW G.2.1 hW0
  have hK := va_K.moved hW0.alike G.2.2.1
  have hAI := arrOfT_moved hW0.alike G.2.2.2.1
  have hl : lv_has ls 8 [(0, .ref (E 0)), (1, .int x0), (2, .int x), (3, .int y), (4, .int d)] := hl
  obtain ⟨rfl, hB⟩ := hB
  have hS : va_S (z_fr (z_mF E) s.heap.size) s.heap s.heap [] := va_S.rf
  obtain ⟨⟨hE0, hGA⟩, hEi, ⟨hmp, hms, hmn, hmm, hmc⟩⟩ := id hB
  have tail : ∀ ls : Array Slot, lv_has ls 8 [(0, .ref (E 0)), (1, .int x0), (2, .int x), (3, .int y), (4, .int d)] → W p l e ({ frames := 3, cells := 0, slots := 0, locals := 78 }) s m [.ref (E 0), .int x0, .int x, .int y, .int d].toArray below meth c s.heap [] 0 0 (MQ below (z_Qw (fun r H => r = some (.int (pm_tw gv cn sp x y (pm_f gv ms x0 d))) ∧ z_Md (dC, dI) cI H E 0 mp ms mc mn mm gv) (z_fr (z_mF E) s.heap.size)) [.ref (E 0), .int x0, .int x, .int y, .int d].toArray s 0 0 (z_fr (z_mF E) s.heap.size)) (F0 m 28 ls [.int (pi_b true), .int (pi_b (pm_pt x y && pm_day d)), .int (pi_b (pm_idx mp x0)), .ref (E 0)]) := by
    intro ls hl
    refine z_wrV (n := 3) (C := R_M) (rest := []) ⟨hx, hb, hml, hown, hts⟩ hW0 (c_M_goes G E th mp ms mc mn mm gv _ (pm_idx mp x0) (pm_pt x y && pm_day d) true) w_625 w_622 w_624 wp_19 w_4 (by decide +kernel) ⟨rfl, rfl, Nat.le_of_ble_eq_true rfl, Nat.le_of_ble_eq_true rfl⟩ (hE0.recv hK rfl) ⟨rfl, hB⟩ rfl rfl hl.1 (Nat.le_of_ble_eq_true rfl) d_M_threeWay_28 ⟨Nat.le_of_ble_eq_true rfl, Nat.le_of_ble_eq_true rfl⟩ hS (fun q h => h.elim Or.inl (fun h => Or.inr (Nat.le_trans hS.1 h))) (fun H1 locs1 hB hz1 hk1 hS => ?_)
    obtain ⟨⟨hE0, hGA⟩, hEi, ⟨hmp, hms, hmn, hmm, hmc⟩⟩ := id hB
    refine z_topi (y := 1) (by rw [hg]; rfl) ?_
    rw [pm_th_ok hg] at hB
    obtain ⟨⟨hE0, hGA⟩, hEi, ⟨hmp, hms, hmn, hmm, hmc⟩⟩ := id hB
    refine lv_if_ne (tgt := 36) hx hb d_M_threeWay_31 (by decide) (fun c_1 => ?_) (fun c_1 => ?_)
    · skip
      refine lv_aload_n hx hb d_M_threeWay_36 rfl (lv_at hl 0 rfl) ?_
      refine lv_iload_n hx hb d_M_threeWay_37 rfl (lv_at hl 1 rfl) ?_
      refine lv_iload hx hb d_M_threeWay_38 (lv_at hl 4 rfl) ?_
      refine z_rdV (n := 2) (C := R_M) (rest := []) ⟨hx, hb, hml, hown, hts⟩ hW0 (c_M_forced G E 0 mp ms mc mn mm gv x0 d) w_689 w_686 w_688 wp_26 w_4 (by decide +kernel) ⟨rfl, rfl, Nat.le_of_ble_eq_true rfl, Nat.le_of_ble_eq_true rfl⟩ (hE0.recv hK rfl) (hB) rfl rfl hl.1 (Nat.le_of_ble_eq_true rfl) d_M_threeWay_40 ⟨Nat.zero_le _, Nat.zero_le _⟩ ?_
      obtain ⟨o_40, hq_40⟩ : ∃ o, pm_f gv ms x0 d = o := ⟨_, rfl⟩
      rcases o_40 with _ | j_40
      · skip
        refine z_topi (y := -1) (by rw [hq_40]; rfl) ?_
        refine lv_istore (lv' := [(5, .int (-1)), (0, .ref (E 0)), (1, .int x0), (2, .int x), (3, .int y), (4, .int d)]) hx hb d_M_threeWay_43 hl (by decide) rfl (fun ls hl => ?_)
        refine lv_iload hx hb d_M_threeWay_45 (lv_at hl 0 rfl) ?_
        refine lv_iconst (v := (-1)) hx hb d_M_threeWay_47 (by decide) ?_
        refine lv_icmp_ne (tgt := 53) hx hb d_M_threeWay_48 (by decide) (fun c_2 => ?_) (fun c_2 => ?_)
        · skip
          exact absurd (by decide) c_2
        · skip
          refine lv_iconst (v := (-1)) hx hb d_M_threeWay_51 (by decide) ?_
          exact z_wi hx hb hr hlocks (⟨by simp [pm_tw, pi_b, hq_40], hB⟩) hS d_M_threeWay_52
      · skip
        have hj_40 := pm_f_ok hq_40
        have hc_40 := hcn j_40 hj_40.1
        have h3_40 := hc_40.2.2 hj_40.2
        have hl_40 := hj_40.1
        have hm_40 := hc_40.2.1
        refine z_topi (y := nI j_40) (by rw [hq_40]; rfl) ?_
        refine lv_istore (lv' := [(5, .int (nI j_40)), (0, .ref (E 0)), (1, .int x0), (2, .int x), (3, .int y), (4, .int d)]) hx hb d_M_threeWay_43 hl (by decide) rfl (fun ls hl => ?_)
        refine lv_iload hx hb d_M_threeWay_45 (lv_at hl 0 rfl) ?_
        refine lv_iconst (v := (-1)) hx hb d_M_threeWay_47 (by decide) ?_
        refine lv_icmp_ne (tgt := 53) hx hb d_M_threeWay_48 (by decide) (fun c_3 => ?_) (fun c_3 => ?_)
        · skip
          refine lv_aload_n hx hb d_M_threeWay_53 rfl (lv_at hl 1 rfl) ?_
          refine lv_iload hx hb d_M_threeWay_54 (lv_at hl 0 rfl) ?_
          refine lv_iload_n hx hb d_M_threeWay_56 rfl (lv_at hl 3 rfl) ?_
          refine lv_iload_n hx hb d_M_threeWay_57 rfl (lv_at hl 4 rfl) ?_
          refine z_rdV (n := 3) (C := R_M) (rest := []) ⟨hx, hb, hml, hown, hts⟩ hW0 (c_M_isIn G E 0 mp ms mc mn mm gv j_40 (cn j_40) x y (by omega) (hcn j_40 (by omega)).1 (by omega) (hcn j_40 (by omega)).2.1) w_697 w_694 w_696 wp_27 w_4 (by decide +kernel) ⟨rfl, rfl, Nat.le_of_ble_eq_true rfl, Nat.le_of_ble_eq_true rfl⟩ (hE0.recv hK rfl) (hB) rfl rfl hl.1 (Nat.le_of_ble_eq_true rfl) d_M_threeWay_58 ⟨Nat.zero_le _, Nat.zero_le _⟩ ?_
          refine lv_if_eq (tgt := 68) hx hb d_M_threeWay_61 (by decide) (fun c_4 => ?_) (fun c_4 => ?_)
          · skip
            have c_4 : (pm_in (gv 5) (gv 6) (cn j_40) j_40 x y) = false := pi_b_0.mp c_4
            refine lv_iconst (v := 0) hx hb d_M_threeWay_68 (by decide) ?_
            refine lv_istore (lv' := [(6, .int 0), (5, .int (nI j_40)), (0, .ref (E 0)), (1, .int x0), (2, .int x), (3, .int y), (4, .int d)]) hx hb d_M_threeWay_69 hl (by decide) rfl (fun ls hl => ?_)
            refine lv_aload_n hx hb d_M_threeWay_71 rfl (lv_at hl 2 rfl) ?_
            refine va_get (D := (dC, dI)) (ci := 4) (v := .ref (E 9)) (C := R_M) (T := T_M) (N := 23) hx hb hts in_M hown hK hE0.P 0 rfl rfl 12 (by decide) (hts _ w_552) (fun _ h9 => h9) rfl d_M_threeWay_72 ?_
            refine lv_iload hx hb d_M_threeWay_75 (lv_at hl 1 rfl) ?_
            refine z_iald hx hb hAI (show z_A cI _ (E 9) 32 (gv 8) from hGA 8 (by omega)) (by omega) (by decide) d_M_threeWay_77 ?_
            obtain ⟨o_p, ho_p⟩ : ∃ o, sp j_40 = o := ⟨_, rfl⟩
            rcases o_p with _ | q_p
            · skip
              refine z_topi (y := (-1)) (by rw [(hsp j_40 (by omega)).1, ho_p]; rfl) ?_
              refine lv_iconst (v := (-1)) hx hb d_M_threeWay_78 (by decide) ?_
              refine lv_icmp_ne (tgt := 87) hx hb d_M_threeWay_79 (by decide) (fun c_5 => ?_) (fun c_5 => ?_)
              · skip
                exact absurd (by decide) c_5
              · skip
                refine lv_iload hx hb d_M_threeWay_82 (lv_at hl 0 rfl) ?_
                refine lv_goto (tgt := 108) hx hb d_M_threeWay_84 (by decide) ?_
                refine lv_istore (lv' := [(7, .int 0), (6, .int 0), (5, .int (nI j_40)), (0, .ref (E 0)), (1, .int x0), (2, .int x), (3, .int y), (4, .int d)]) hx hb d_M_threeWay_108 hl (by decide) rfl (fun ls hl => ?_)
                refine lv_iload hx hb d_M_threeWay_110 (lv_at hl 1 rfl) ?_
                refine lv_iload hx hb d_M_threeWay_112 (lv_at hl 0 rfl) ?_
                refine lv_iadd hx hb d_M_threeWay_114 ?_
                exact z_wi hx hb hr hlocks (⟨by simp [pm_tw, pi_b, hq_40, ho_p, c_3, c_4], hB⟩) hS d_M_threeWay_115
            · skip
              have hl_p := (hsp j_40 (by omega)).2 q_p ho_p
              refine z_topi (y := (nI q_p)) (by rw [(hsp j_40 (by omega)).1, ho_p]; rfl) ?_
              refine lv_iconst (v := (-1)) hx hb d_M_threeWay_78 (by decide) ?_
              refine lv_icmp_ne (tgt := 87) hx hb d_M_threeWay_79 (by decide) (fun c_6 => ?_) (fun c_6 => ?_)
              · skip
                refine lv_aload_n hx hb d_M_threeWay_87 rfl (lv_at hl 2 rfl) ?_
                refine lv_aload_n hx hb d_M_threeWay_88 rfl (lv_at hl 2 rfl) ?_
                refine va_get (D := (dC, dI)) (ci := 4) (v := .ref (E 9)) (C := R_M) (T := T_M) (N := 23) hx hb hts in_M hown hK hE0.P 0 rfl rfl 12 (by decide) (hts _ w_552) (fun _ h9 => h9) rfl d_M_threeWay_89 ?_
                refine lv_iload hx hb d_M_threeWay_92 (lv_at hl 1 rfl) ?_
                refine z_iald hx hb hAI (show z_A cI _ (E 9) 32 (gv 8) from hGA 8 (by omega)) (by omega) (by decide) d_M_threeWay_94 ?_
                refine z_topi (y := (nI q_p)) (by rw [(hsp j_40 (by omega)).1, ho_p]; rfl) ?_
                refine lv_iload_n hx hb d_M_threeWay_95 rfl (lv_at hl 4 rfl) ?_
                refine lv_iload_n hx hb d_M_threeWay_96 rfl (lv_at hl 5 rfl) ?_
                refine z_rdV (n := 3) (C := R_M) (rest := []) ⟨hx, hb, hml, hown, hts⟩ hW0 (c_M_isIn G E 0 mp ms mc mn mm gv q_p (cn q_p) x y (by omega) (hcn q_p (by omega)).1 (by omega) (hcn q_p (by omega)).2.1) w_697 w_694 w_696 wp_27 w_4 (by decide +kernel) ⟨rfl, rfl, Nat.le_of_ble_eq_true rfl, Nat.le_of_ble_eq_true rfl⟩ (hE0.recv hK rfl) (hB) rfl rfl hl.1 (Nat.le_of_ble_eq_true rfl) d_M_threeWay_97 ⟨Nat.zero_le _, Nat.zero_le _⟩ ?_
                refine lv_if_eq (tgt := 107) hx hb d_M_threeWay_100 (by decide) (fun c_7 => ?_) (fun c_7 => ?_)
                · skip
                  have c_7 : (pm_in (gv 5) (gv 6) (cn q_p) q_p x y) = false := pi_b_0.mp c_7
                  refine lv_iconst (v := 0) hx hb d_M_threeWay_107 (by decide) ?_
                  refine lv_istore (lv' := [(7, .int 0), (6, .int 0), (5, .int (nI j_40)), (0, .ref (E 0)), (1, .int x0), (2, .int x), (3, .int y), (4, .int d)]) hx hb d_M_threeWay_108 hl (by decide) rfl (fun ls hl => ?_)
                  refine lv_iload hx hb d_M_threeWay_110 (lv_at hl 1 rfl) ?_
                  refine lv_iload hx hb d_M_threeWay_112 (lv_at hl 0 rfl) ?_
                  refine lv_iadd hx hb d_M_threeWay_114 ?_
                  exact z_wi hx hb hr hlocks (⟨by simp [pm_tw, pi_b, hq_40, ho_p, c_3, c_4, c_6, c_7], hB⟩) hS d_M_threeWay_115
                · skip
                  have c_7 : (pm_in (gv 5) (gv 6) (cn q_p) q_p x y) = true := pi_b_1.mp c_7
                  refine lv_iconst (v := 1) hx hb d_M_threeWay_103 (by decide) ?_
                  refine lv_goto (tgt := 108) hx hb d_M_threeWay_104 (by decide) ?_
                  refine lv_istore (lv' := [(7, .int 1), (6, .int 0), (5, .int (nI j_40)), (0, .ref (E 0)), (1, .int x0), (2, .int x), (3, .int y), (4, .int d)]) hx hb d_M_threeWay_108 hl (by decide) rfl (fun ls hl => ?_)
                  refine lv_iload hx hb d_M_threeWay_110 (lv_at hl 1 rfl) ?_
                  refine lv_iload hx hb d_M_threeWay_112 (lv_at hl 0 rfl) ?_
                  refine lv_iadd hx hb d_M_threeWay_114 ?_
                  exact z_wi hx hb hr hlocks (⟨by simp [pm_tw, pi_b, hq_40, ho_p, c_3, c_4, c_6, c_7], hB⟩) hS d_M_threeWay_115
              · skip
                exact absurd c_6 (z_ne1 (by omega))
          · skip
            have c_4 : (pm_in (gv 5) (gv 6) (cn j_40) j_40 x y) = true := pi_b_1.mp c_4
            refine lv_iconst (v := 1) hx hb d_M_threeWay_64 (by decide) ?_
            refine lv_goto (tgt := 69) hx hb d_M_threeWay_65 (by decide) ?_
            refine lv_istore (lv' := [(6, .int 1), (5, .int (nI j_40)), (0, .ref (E 0)), (1, .int x0), (2, .int x), (3, .int y), (4, .int d)]) hx hb d_M_threeWay_69 hl (by decide) rfl (fun ls hl => ?_)
            refine lv_aload_n hx hb d_M_threeWay_71 rfl (lv_at hl 2 rfl) ?_
            refine va_get (D := (dC, dI)) (ci := 4) (v := .ref (E 9)) (C := R_M) (T := T_M) (N := 23) hx hb hts in_M hown hK hE0.P 0 rfl rfl 12 (by decide) (hts _ w_552) (fun _ h9 => h9) rfl d_M_threeWay_72 ?_
            refine lv_iload hx hb d_M_threeWay_75 (lv_at hl 1 rfl) ?_
            refine z_iald hx hb hAI (show z_A cI _ (E 9) 32 (gv 8) from hGA 8 (by omega)) (by omega) (by decide) d_M_threeWay_77 ?_
            obtain ⟨o_p, ho_p⟩ : ∃ o, sp j_40 = o := ⟨_, rfl⟩
            rcases o_p with _ | q_p
            · skip
              refine z_topi (y := (-1)) (by rw [(hsp j_40 (by omega)).1, ho_p]; rfl) ?_
              refine lv_iconst (v := (-1)) hx hb d_M_threeWay_78 (by decide) ?_
              refine lv_icmp_ne (tgt := 87) hx hb d_M_threeWay_79 (by decide) (fun c_8 => ?_) (fun c_8 => ?_)
              · skip
                exact absurd (by decide) c_8
              · skip
                refine lv_iload hx hb d_M_threeWay_82 (lv_at hl 0 rfl) ?_
                refine lv_goto (tgt := 108) hx hb d_M_threeWay_84 (by decide) ?_
                refine lv_istore (lv' := [(7, .int 1), (6, .int 1), (5, .int (nI j_40)), (0, .ref (E 0)), (1, .int x0), (2, .int x), (3, .int y), (4, .int d)]) hx hb d_M_threeWay_108 hl (by decide) rfl (fun ls hl => ?_)
                refine lv_iload hx hb d_M_threeWay_110 (lv_at hl 1 rfl) ?_
                refine lv_iload hx hb d_M_threeWay_112 (lv_at hl 0 rfl) ?_
                refine lv_iadd hx hb d_M_threeWay_114 ?_
                exact z_wi hx hb hr hlocks (⟨by simp [pm_tw, pi_b, hq_40, ho_p, c_3, c_4], hB⟩) hS d_M_threeWay_115
            · skip
              have hl_p := (hsp j_40 (by omega)).2 q_p ho_p
              refine z_topi (y := (nI q_p)) (by rw [(hsp j_40 (by omega)).1, ho_p]; rfl) ?_
              refine lv_iconst (v := (-1)) hx hb d_M_threeWay_78 (by decide) ?_
              refine lv_icmp_ne (tgt := 87) hx hb d_M_threeWay_79 (by decide) (fun c_9 => ?_) (fun c_9 => ?_)
              · skip
                refine lv_aload_n hx hb d_M_threeWay_87 rfl (lv_at hl 2 rfl) ?_
                refine lv_aload_n hx hb d_M_threeWay_88 rfl (lv_at hl 2 rfl) ?_
                refine va_get (D := (dC, dI)) (ci := 4) (v := .ref (E 9)) (C := R_M) (T := T_M) (N := 23) hx hb hts in_M hown hK hE0.P 0 rfl rfl 12 (by decide) (hts _ w_552) (fun _ h9 => h9) rfl d_M_threeWay_89 ?_
                refine lv_iload hx hb d_M_threeWay_92 (lv_at hl 1 rfl) ?_
                refine z_iald hx hb hAI (show z_A cI _ (E 9) 32 (gv 8) from hGA 8 (by omega)) (by omega) (by decide) d_M_threeWay_94 ?_
                refine z_topi (y := (nI q_p)) (by rw [(hsp j_40 (by omega)).1, ho_p]; rfl) ?_
                refine lv_iload_n hx hb d_M_threeWay_95 rfl (lv_at hl 4 rfl) ?_
                refine lv_iload_n hx hb d_M_threeWay_96 rfl (lv_at hl 5 rfl) ?_
                refine z_rdV (n := 3) (C := R_M) (rest := []) ⟨hx, hb, hml, hown, hts⟩ hW0 (c_M_isIn G E 0 mp ms mc mn mm gv q_p (cn q_p) x y (by omega) (hcn q_p (by omega)).1 (by omega) (hcn q_p (by omega)).2.1) w_697 w_694 w_696 wp_27 w_4 (by decide +kernel) ⟨rfl, rfl, Nat.le_of_ble_eq_true rfl, Nat.le_of_ble_eq_true rfl⟩ (hE0.recv hK rfl) (hB) rfl rfl hl.1 (Nat.le_of_ble_eq_true rfl) d_M_threeWay_97 ⟨Nat.zero_le _, Nat.zero_le _⟩ ?_
                refine lv_if_eq (tgt := 107) hx hb d_M_threeWay_100 (by decide) (fun c_10 => ?_) (fun c_10 => ?_)
                · skip
                  have c_10 : (pm_in (gv 5) (gv 6) (cn q_p) q_p x y) = false := pi_b_0.mp c_10
                  refine lv_iconst (v := 0) hx hb d_M_threeWay_107 (by decide) ?_
                  refine lv_istore (lv' := [(7, .int 0), (6, .int 1), (5, .int (nI j_40)), (0, .ref (E 0)), (1, .int x0), (2, .int x), (3, .int y), (4, .int d)]) hx hb d_M_threeWay_108 hl (by decide) rfl (fun ls hl => ?_)
                  refine lv_iload hx hb d_M_threeWay_110 (lv_at hl 1 rfl) ?_
                  refine lv_iload hx hb d_M_threeWay_112 (lv_at hl 0 rfl) ?_
                  refine lv_iadd hx hb d_M_threeWay_114 ?_
                  exact z_wi hx hb hr hlocks (⟨by simp [pm_tw, pi_b, hq_40, ho_p, c_3, c_4, c_9, c_10], hB⟩) hS d_M_threeWay_115
                · skip
                  have c_10 : (pm_in (gv 5) (gv 6) (cn q_p) q_p x y) = true := pi_b_1.mp c_10
                  refine lv_iconst (v := 1) hx hb d_M_threeWay_103 (by decide) ?_
                  refine lv_goto (tgt := 108) hx hb d_M_threeWay_104 (by decide) ?_
                  refine lv_istore (lv' := [(7, .int 1), (6, .int 1), (5, .int (nI j_40)), (0, .ref (E 0)), (1, .int x0), (2, .int x), (3, .int y), (4, .int d)]) hx hb d_M_threeWay_108 hl (by decide) rfl (fun ls hl => ?_)
                  refine lv_iload hx hb d_M_threeWay_110 (lv_at hl 1 rfl) ?_
                  refine lv_iload hx hb d_M_threeWay_112 (lv_at hl 0 rfl) ?_
                  refine lv_iadd hx hb d_M_threeWay_114 ?_
                  exact z_wi hx hb hr hlocks (⟨by simp [pm_tw, pi_b, hq_40, ho_p, c_3, c_4, c_9, c_10], hB⟩) hS d_M_threeWay_115
              · skip
                exact absurd c_9 (z_ne1 (by omega))
        · skip
          exact absurd c_3 (z_ne1 (by omega))
    · skip
      exact absurd c_1 (by decide)
  refine lv_aload_n hx hb d_M_threeWay_0 rfl (lv_at hl 0 rfl) ?_
  refine lv_aload_n hx hb d_M_threeWay_1 rfl (lv_at hl 0 rfl) ?_
  refine lv_iload_n hx hb d_M_threeWay_2 rfl (lv_at hl 1 rfl) ?_
  refine z_rdV (n := 1) (C := R_M) (rest := [.ref (E 0)]) ⟨hx, hb, hml, hown, hts⟩ hW0 (c_M_isPlace G E th mp ms mc mn mm gv x0) w_621 w_618 w_620 wp_18 w_4 (by decide +kernel) ⟨rfl, rfl, Nat.le_of_ble_eq_true rfl, Nat.le_of_ble_eq_true rfl⟩ (hE0.recv hK rfl) (hB) rfl rfl hl.1 (Nat.le_of_ble_eq_true rfl) d_M_threeWay_3 ⟨Nat.zero_le _, Nat.zero_le _⟩ ?_
  refine lv_iload_n hx hb d_M_threeWay_6 rfl (lv_at hl 2 rfl) ?_
  refine lv_iload_n hx hb d_M_threeWay_7 rfl (lv_at hl 3 rfl) ?_
  refine z_rdS (n := 2) (rest := [.int (pi_b (pm_idx mp x0)), .ref (E 0)]) ⟨hx, hb, hml, hown, hts⟩ hW0 (c_M_isPoint G x y) w_644 w_642 w_643 w_4 (by decide +kernel) ⟨rfl, rfl, Nat.le_of_ble_eq_true rfl, Nat.le_of_ble_eq_true rfl⟩ (trivial) rfl rfl hl.1 (Nat.le_of_ble_eq_true rfl) d_M_threeWay_8 ⟨Nat.zero_le _, Nat.zero_le _⟩ ?_
  refine lv_if_eq (tgt := 26) hx hb d_M_threeWay_11 (by decide) (fun c_11 => ?_) (fun c_11 => ?_)
  · skip
    have c_11 : (pm_pt x y) = false := pi_b_0.mp c_11
    refine lv_iconst (v := 0) hx hb d_M_threeWay_26 (by decide) ?_
    refine lv_iconst (v := 1) hx hb d_M_threeWay_27 (by decide) ?_
    refine z_g3 (w1 := pi_b (pm_idx mp x0)) (w2 := pi_b (pm_pt x y && pm_day d)) (w3 := pi_b true) (rfl) (by simp [pi_b, c_11]) (rfl) ?_
    exact tail ls (lv_sub hl [0, 1, 2, 3, 4] rfl)
  · skip
    have c_11 : (pm_pt x y) = true := pi_b_1.mp c_11
    refine lv_iload hx hb d_M_threeWay_14 (lv_at hl 4 rfl) ?_
    refine z_rdS (n := 1) (rest := [.int (pi_b (pm_idx mp x0)), .ref (E 0)]) ⟨hx, hb, hml, hown, hts⟩ hW0 (c_M_isDay G d) w_632 w_630 w_631 w_4 (by decide +kernel) ⟨rfl, rfl, Nat.le_of_ble_eq_true rfl, Nat.le_of_ble_eq_true rfl⟩ (trivial) rfl rfl hl.1 (Nat.le_of_ble_eq_true rfl) d_M_threeWay_16 ⟨Nat.zero_le _, Nat.zero_le _⟩ ?_
    refine lv_if_eq (tgt := 26) hx hb d_M_threeWay_19 (by decide) (fun c_12 => ?_) (fun c_12 => ?_)
    · skip
      have c_12 : (pm_day d) = false := pi_b_0.mp c_12
      refine lv_iconst (v := 0) hx hb d_M_threeWay_26 (by decide) ?_
      refine lv_iconst (v := 1) hx hb d_M_threeWay_27 (by decide) ?_
      refine z_g3 (w1 := pi_b (pm_idx mp x0)) (w2 := pi_b (pm_pt x y && pm_day d)) (w3 := pi_b true) (rfl) (by simp [pi_b, c_11, c_12]) (rfl) ?_
      exact tail ls (lv_sub hl [0, 1, 2, 3, 4] rfl)
    · skip
      have c_12 : (pm_day d) = true := pi_b_1.mp c_12
      refine lv_iconst (v := 1) hx hb d_M_threeWay_22 (by decide) ?_
      refine lv_goto (tgt := 27) hx hb d_M_threeWay_23 (by decide) ?_
      refine lv_iconst (v := 1) hx hb d_M_threeWay_27 (by decide) ?_
      refine z_g3 (w1 := pi_b (pm_idx mp x0)) (w2 := pi_b (pm_pt x y && pm_day d)) (w3 := pi_b true) (rfl) (by simp [pi_b, c_11, c_12]) (rfl) ?_
      exact tail ls (lv_sub hl [0, 1, 2, 3, 4] rfl)
set_option maxRecDepth 100000 in
set_option maxHeartbeats 4000000 in
theorem c_M_area_no (G : z_G s0 (dC, dI) cI cS) (E : Nat → Nat) (th : Int32) (mp ms mc mn mm : Nat) (gv : Nat → Nat → Int32) (sz : Nat) (x0 d : Int32) (hg : ((pm_idx mp x0) && ((pm_day d) && true)) = false) : Met l y_M_area [Cond.code y_M_area b_M_area 9 (some .int)] ({ frames := 1, cells := 0, slots := 0, locals := 23 }) (z_Pc s0 [.ref (E 0), .int x0, .int d] (fun H => H.size = sz ∧ z_Md (dC, dI) cI H E th mp ms mc mn mm gv)) (z_Qw (fun r H => r = some (.int 0) ∧ z_Md (dC, dI) cI H E (pm_th (pm_idx mp x0) (pm_day d) true) mp ms mc mn mm gv) (z_fr (z_mF E) sz)) 0 0 (z_fr (z_mF E) sz) := by
  refine z_ofW (by decide +kernel) (Nat.le_of_ble_eq_true rfl) ?_
  intro p e s m below meth c hx hb hml hr hown hlocks hnm hW0 hB ls hl
  have hts := z_hts (args := [.ref (E 0), .int x0, .int d].toArray) G.1 hW0
  have hN := z_nstW G.2.1 hW0
  have hK := va_K.moved hW0.alike G.2.2.1
  have hAI := arrOfT_moved hW0.alike G.2.2.2.1
  have hl : lv_has ls 9 [(0, .ref (E 0)), (1, .int x0), (2, .int d)] := hl
  obtain ⟨rfl, hB⟩ := hB
  have hS : va_S (z_fr (z_mF E) s.heap.size) s.heap s.heap [] := va_S.rf
  obtain ⟨⟨hE0, hGA⟩, hEi, ⟨hmp, hms, hmn, hmm, hmc⟩⟩ := id hB
  have tail : ∀ ls : Array Slot, lv_has ls 9 [(0, .ref (E 0)), (1, .int x0), (2, .int d)] → W p l e ({ frames := 1, cells := 0, slots := 0, locals := 23 }) s m [.ref (E 0), .int x0, .int d].toArray below meth c s.heap [] 0 0 (MQ below (z_Qw (fun r H => r = some (.int 0) ∧ z_Md (dC, dI) cI H E (pm_th (pm_idx mp x0) (pm_day d) true) mp ms mc mn mm gv) (z_fr (z_mF E) s.heap.size)) [.ref (E 0), .int x0, .int d].toArray s 0 0 (z_fr (z_mF E) s.heap.size)) (F0 m 11 ls [.int (pi_b true), .int (pi_b (pm_day d)), .int (pi_b (pm_idx mp x0)), .ref (E 0)]) := by
    intro ls hl
    refine z_wrV (n := 3) (C := R_M) (rest := []) ⟨hx, hb, hml, hown, hts⟩ hW0 (c_M_goes G E th mp ms mc mn mm gv _ (pm_idx mp x0) (pm_day d) true) w_625 w_622 w_624 wp_19 w_4 (by decide +kernel) ⟨rfl, rfl, Nat.le_of_ble_eq_true rfl, Nat.le_of_ble_eq_true rfl⟩ (hE0.recv hK rfl) ⟨rfl, hB⟩ rfl rfl hl.1 (Nat.le_of_ble_eq_true rfl) d_M_area_11 ⟨Nat.le_of_ble_eq_true rfl, Nat.le_of_ble_eq_true rfl⟩ hS (fun q h => h.elim Or.inl (fun h => Or.inr (Nat.le_trans hS.1 h))) (fun H1 locs1 hB hz1 hk1 hS => ?_)
    obtain ⟨⟨hE0, hGA⟩, hEi, ⟨hmp, hms, hmn, hmm, hmc⟩⟩ := id hB
    refine z_topi (y := 0) (by rw [hg]; rfl) ?_
    refine lv_if_ne (tgt := 19) hx hb d_M_area_14 (by decide) (fun c_1 => ?_) (fun c_1 => ?_)
    · skip
      exact absurd (by decide) c_1
    · skip
      refine lv_iconst (v := 0) hx hb d_M_area_17 (by decide) ?_
      exact z_wi hx hb hr hlocks (⟨rfl, hB⟩) hS d_M_area_18
  refine lv_aload_n hx hb d_M_area_0 rfl (lv_at hl 0 rfl) ?_
  refine lv_aload_n hx hb d_M_area_1 rfl (lv_at hl 0 rfl) ?_
  refine lv_iload_n hx hb d_M_area_2 rfl (lv_at hl 1 rfl) ?_
  refine z_rdV (n := 1) (C := R_M) (rest := [.ref (E 0)]) ⟨hx, hb, hml, hown, hts⟩ hW0 (c_M_isPlace G E th mp ms mc mn mm gv x0) w_621 w_618 w_620 wp_18 w_4 (by decide +kernel) ⟨rfl, rfl, Nat.le_of_ble_eq_true rfl, Nat.le_of_ble_eq_true rfl⟩ (hE0.recv hK rfl) (hB) rfl rfl hl.1 (Nat.le_of_ble_eq_true rfl) d_M_area_3 ⟨Nat.zero_le _, Nat.zero_le _⟩ ?_
  refine lv_iload_n hx hb d_M_area_6 rfl (lv_at hl 2 rfl) ?_
  refine z_rdS (n := 1) (rest := [.int (pi_b (pm_idx mp x0)), .ref (E 0)]) ⟨hx, hb, hml, hown, hts⟩ hW0 (c_M_isDay G d) w_632 w_630 w_631 w_4 (by decide +kernel) ⟨rfl, rfl, Nat.le_of_ble_eq_true rfl, Nat.le_of_ble_eq_true rfl⟩ (trivial) rfl rfl hl.1 (Nat.le_of_ble_eq_true rfl) d_M_area_7 ⟨Nat.zero_le _, Nat.zero_le _⟩ ?_
  refine lv_iconst (v := 1) hx hb d_M_area_10 (by decide) ?_
  refine z_g3 (w1 := pi_b (pm_idx mp x0)) (w2 := pi_b (pm_day d)) (w3 := pi_b true) (rfl) (rfl) (rfl) ?_
  exact tail ls (lv_sub hl [0, 1, 2] rfl)
set_option maxRecDepth 100000 in
set_option maxHeartbeats 4000000 in
theorem c_M_area_ok (G : z_G s0 (dC, dI) cI cS) (E : Nat → Nat) (th : Int32) (mp ms mc mn mm : Nat) (gv : Nat → Nat → Int32) (sz : Nat) (x0 d : Int32) (cn : Nat → Nat) (hcn : ∀ i, i < ms → gv 4 i = nI (cn i) ∧ cn i ≤ 12 ∧ (0 < gv 7 i → 3 ≤ cn i)) (hg : ((pm_idx mp x0) && ((pm_day d) && true)) = true) : Met l y_M_area [Cond.code y_M_area b_M_area 9 (some .int)] ({ frames := 1, cells := 0, slots := 0, locals := 25 }) (z_Pc s0 [.ref (E 0), .int x0, .int d] (fun H => H.size = sz ∧ z_Md (dC, dI) cI H E th mp ms mc mn mm gv)) (z_Qw (fun r H => r = some (.int (pm_ar gv cn (pm_f gv ms x0 d))) ∧ z_Md (dC, dI) cI H E 0 mp ms mc mn mm gv) (z_fr (z_mF E) sz)) 0 0 (z_fr (z_mF E) sz) := by
  refine z_ofW (by decide +kernel) (Nat.le_of_ble_eq_true rfl) ?_
  intro p e s m below meth c hx hb hml hr hown hlocks hnm hW0 hB ls hl
  have hts := z_hts (args := [.ref (E 0), .int x0, .int d].toArray) G.1 hW0
  have hN := z_nstW G.2.1 hW0
  have hK := va_K.moved hW0.alike G.2.2.1
  have hAI := arrOfT_moved hW0.alike G.2.2.2.1
  have hl : lv_has ls 9 [(0, .ref (E 0)), (1, .int x0), (2, .int d)] := hl
  obtain ⟨rfl, hB⟩ := hB
  have hS : va_S (z_fr (z_mF E) s.heap.size) s.heap s.heap [] := va_S.rf
  obtain ⟨⟨hE0, hGA⟩, hEi, ⟨hmp, hms, hmn, hmm, hmc⟩⟩ := id hB
  have tail : ∀ ls : Array Slot, lv_has ls 9 [(0, .ref (E 0)), (1, .int x0), (2, .int d)] → W p l e ({ frames := 1, cells := 0, slots := 0, locals := 25 }) s m [.ref (E 0), .int x0, .int d].toArray below meth c s.heap [] 0 0 (MQ below (z_Qw (fun r H => r = some (.int (pm_ar gv cn (pm_f gv ms x0 d))) ∧ z_Md (dC, dI) cI H E 0 mp ms mc mn mm gv) (z_fr (z_mF E) s.heap.size)) [.ref (E 0), .int x0, .int d].toArray s 0 0 (z_fr (z_mF E) s.heap.size)) (F0 m 11 ls [.int (pi_b true), .int (pi_b (pm_day d)), .int (pi_b (pm_idx mp x0)), .ref (E 0)]) := by
    intro ls hl
    refine z_wrV (n := 3) (C := R_M) (rest := []) ⟨hx, hb, hml, hown, hts⟩ hW0 (c_M_goes G E th mp ms mc mn mm gv _ (pm_idx mp x0) (pm_day d) true) w_625 w_622 w_624 wp_19 w_4 (by decide +kernel) ⟨rfl, rfl, Nat.le_of_ble_eq_true rfl, Nat.le_of_ble_eq_true rfl⟩ (hE0.recv hK rfl) ⟨rfl, hB⟩ rfl rfl hl.1 (Nat.le_of_ble_eq_true rfl) d_M_area_11 ⟨Nat.le_of_ble_eq_true rfl, Nat.le_of_ble_eq_true rfl⟩ hS (fun q h => h.elim Or.inl (fun h => Or.inr (Nat.le_trans hS.1 h))) (fun H1 locs1 hB hz1 hk1 hS => ?_)
    obtain ⟨⟨hE0, hGA⟩, hEi, ⟨hmp, hms, hmn, hmm, hmc⟩⟩ := id hB
    refine z_topi (y := 1) (by rw [hg]; rfl) ?_
    rw [pm_th_ok hg] at hB
    obtain ⟨⟨hE0, hGA⟩, hEi, ⟨hmp, hms, hmn, hmm, hmc⟩⟩ := id hB
    refine lv_if_ne (tgt := 19) hx hb d_M_area_14 (by decide) (fun c_1 => ?_) (fun c_1 => ?_)
    · skip
      refine lv_aload_n hx hb d_M_area_19 rfl (lv_at hl 0 rfl) ?_
      refine lv_iload_n hx hb d_M_area_20 rfl (lv_at hl 1 rfl) ?_
      refine lv_iload_n hx hb d_M_area_21 rfl (lv_at hl 2 rfl) ?_
      refine z_rdV (n := 2) (C := R_M) (rest := []) ⟨hx, hb, hml, hown, hts⟩ hW0 (c_M_forced G E 0 mp ms mc mn mm gv x0 d) w_689 w_686 w_688 wp_26 w_4 (by decide +kernel) ⟨rfl, rfl, Nat.le_of_ble_eq_true rfl, Nat.le_of_ble_eq_true rfl⟩ (hE0.recv hK rfl) (hB) rfl rfl hl.1 (Nat.le_of_ble_eq_true rfl) d_M_area_22 ⟨Nat.zero_le _, Nat.zero_le _⟩ ?_
      obtain ⟨o_22, hq_22⟩ : ∃ o, pm_f gv ms x0 d = o := ⟨_, rfl⟩
      rcases o_22 with _ | j_22
      · skip
        refine z_topi (y := -1) (by rw [hq_22]; rfl) ?_
        refine lv_istore_n (lv' := [(3, .int (-1)), (0, .ref (E 0)), (1, .int x0), (2, .int d)]) hx hb d_M_area_25 rfl hl (by decide) rfl (fun ls hl => ?_)
        refine lv_iconst (v := 0) hx hb d_M_area_26 (by decide) ?_
        refine lv_istore (lv' := [(4, .int 0), (3, .int (-1)), (0, .ref (E 0)), (1, .int x0), (2, .int d)]) hx hb d_M_area_27 hl (by decide) rfl (fun ls hl => ?_)
        refine lv_iconst (v := 0) hx hb d_M_area_29 (by decide) ?_
        refine lv_istore (lv' := [(5, .int 0), (4, .int 0), (3, .int (-1)), (0, .ref (E 0)), (1, .int x0), (2, .int d)]) hx hb d_M_area_30 hl (by decide) rfl (fun ls hl => ?_)
        refine lv_iload_n hx hb d_M_area_32 rfl (lv_at hl 2 rfl) ?_
        refine lv_iconst (v := (-1)) hx hb d_M_area_33 (by decide) ?_
        refine lv_icmp_eq (tgt := 128) hx hb d_M_area_34 (by decide) (fun c_2 => ?_) (fun c_2 => ?_)
        · skip
          refine lv_iload hx hb d_M_area_128 (lv_at hl 1 rfl) ?_
          refine lv_if_ge (tgt := 140) hx hb d_M_area_130 (by decide) (fun c_3 => ?_) (fun c_3 => ?_)
          · skip
            refine lv_iload hx hb d_M_area_140 (lv_at hl 1 rfl) ?_
            exact z_wi hx hb hr hlocks (⟨by simp [pm_ar, hq_22], hB⟩) hS d_M_area_142
          · skip
            exact absurd (by decide) c_3
        · skip
          exact absurd (by decide) c_2
      · skip
        have hj_22 := pm_f_ok hq_22
        have hc_22 := hcn j_22 hj_22.1
        have h3_22 := hc_22.2.2 hj_22.2
        have hl_22 := hj_22.1
        have hm_22 := hc_22.2.1
        refine z_topi (y := nI j_22) (by rw [hq_22]; rfl) ?_
        refine lv_istore_n (lv' := [(3, .int (nI j_22)), (0, .ref (E 0)), (1, .int x0), (2, .int d)]) hx hb d_M_area_25 rfl hl (by decide) rfl (fun ls hl => ?_)
        refine lv_iconst (v := 0) hx hb d_M_area_26 (by decide) ?_
        refine lv_istore (lv' := [(4, .int 0), (3, .int (nI j_22)), (0, .ref (E 0)), (1, .int x0), (2, .int d)]) hx hb d_M_area_27 hl (by decide) rfl (fun ls hl => ?_)
        refine lv_iconst (v := 0) hx hb d_M_area_29 (by decide) ?_
        refine lv_istore (lv' := [(5, .int 0), (4, .int 0), (3, .int (nI j_22)), (0, .ref (E 0)), (1, .int x0), (2, .int d)]) hx hb d_M_area_30 hl (by decide) rfl (fun ls hl => ?_)
        have loops : ∀ f : Nat, (∀ (k : Nat) (a : Int32), cn j_22 - k < f → (k ≤ cn j_22) → (pm_sum (gv 5) (gv 6) (cn j_22) j_22 (cn j_22 - k) k a = pm_sum (gv 5) (gv 6) (cn j_22) j_22 (cn j_22) 0 0) → ∀ ls : Array Slot, lv_has ls 9 [(0, .ref (E 0)), (3, .int (nI j_22)), (4, .int a), (5, .int (nI k))] → W p l e ({ frames := 1, cells := 0, slots := 0, locals := 25 }) s m [.ref (E 0), .int x0, .int d].toArray below meth c H1 locs1 0 0 (MQ below (z_Qw (fun r H => r = some (.int (pm_ar gv cn (pm_f gv ms x0 d))) ∧ z_Md (dC, dI) cI H E 0 mp ms mc mn mm gv) (z_fr (z_mF E) s.heap.size)) [.ref (E 0), .int x0, .int d].toArray s 0 0 (z_fr (z_mF E) s.heap.size)) (F0 m 32 ls [])) := by
          intro f
          induction f with
          | zero => exact fun _ _ h => absurd h (Nat.not_lt_zero _)
          | succ f ih =>
            intro k a hmu hkc hres ls hl
            have haf := pm_af_lt (k := k) (s := j_22) (n := cn j_22) (by omega) (by omega) (by omega)
            refine lv_iload_n hx hb d_M_area_32 rfl (lv_at hl 1 rfl) ?_
            refine lv_iconst (v := (-1)) hx hb d_M_area_33 (by decide) ?_
            refine lv_icmp_eq (tgt := 128) hx hb d_M_area_34 (by decide) (fun c_4 => ?_) (fun c_4 => ?_)
            · skip
              exact absurd c_4 (z_ne1 (by omega))
            · skip
              refine lv_iload hx hb d_M_area_37 (lv_at hl 3 rfl) ?_
              refine lv_aload_n hx hb d_M_area_39 rfl (lv_at hl 0 rfl) ?_
              refine va_get (D := (dC, dI)) (ci := 4) (v := .ref (E 5)) (C := R_M) (T := T_M) (N := 23) hx hb hts in_M hown hK hE0.P 0 rfl rfl 7 (by decide) (hts _ w_547) (fun _ h9 => h9) rfl d_M_area_40 ?_
              refine lv_iload_n hx hb d_M_area_43 rfl (lv_at hl 1 rfl) ?_
              refine z_iald hx hb hAI (show z_A cI _ (E 5) 32 (gv 4) from hGA 4 (by omega)) (by omega) (by decide) d_M_area_44 ?_
              refine z_topi (y := nI (cn j_22)) (hcn j_22 (by omega)).1 ?_
              refine lv_icmp_ge (tgt := 128) hx hb d_M_area_45 (by decide) (fun c_5 => ?_) (fun c_5 => ?_)
              · skip
                have c_5 : (cn j_22) ≤ k := (nI_leI (a := cn j_22) (b := k) (by omega) (by omega)).mp c_5
                refine lv_iload hx hb d_M_area_128 (lv_at hl 2 rfl) ?_
                refine lv_if_ge (tgt := 140) hx hb d_M_area_130 (by decide) (fun c_6 => ?_) (fun c_6 => ?_)
                · skip
                  have c_6' : ¬ (a < (0 : Int32)) := Int32.not_lt.mpr c_6
                  refine lv_iload hx hb d_M_area_140 (lv_at hl 2 rfl) ?_
                  exact z_wi hx hb hr hlocks (⟨by rw [show cn j_22 - k = 0 by omega] at hres; simp only [pm_sum] at hres; simp only [hq_22, pm_ar, ← hres]; simp [pm_ab, hq_22, c_4, c_5, c_6, c_6'], hB⟩) hS d_M_area_142
                · skip
                  have c_6' : a < (0 : Int32) := Int32.not_le.mp c_6
                  refine lv_iconst (v := 0) hx hb d_M_area_133 (by decide) ?_
                  refine lv_iload hx hb d_M_area_134 (lv_at hl 2 rfl) ?_
                  refine lv_isub hx hb d_M_area_136 ?_
                  refine lv_goto (tgt := 142) hx hb d_M_area_137 (by decide) ?_
                  exact z_wi hx hb hr hlocks (⟨by rw [show cn j_22 - k = 0 by omega] at hres; simp only [pm_sum] at hres; simp only [hq_22, pm_ar, ← hres]; simp [pm_ab, hq_22, c_4, c_5, c_6, c_6'], hB⟩) hS d_M_area_142
              · skip
                have c_5 : ¬ ((cn j_22) ≤ k) := fun h => c_5 ((nI_leI (a := cn j_22) (b := k) (by omega) (by omega)).mpr h)
                refine lv_bipush (v := 12) hx hb d_M_area_48 (by decide) ?_
                refine lv_iload_n hx hb d_M_area_50 rfl (lv_at hl 1 rfl) ?_
                refine lv_imul hx hb d_M_area_51 ?_
                refine z_topi (y := nI (12 * j_22)) (pk_mul 12 j_22) ?_
                refine lv_istore (lv' := [(6, .int (nI (12 * j_22))), (0, .ref (E 0)), (3, .int (nI j_22)), (4, .int a), (5, .int (nI k))]) hx hb d_M_area_52 hl (by decide) rfl (fun ls hl => ?_)
                refine lv_bipush (v := 12) hx hb d_M_area_54 (by decide) ?_
                refine lv_iload_n hx hb d_M_area_56 rfl (lv_at hl 2 rfl) ?_
                refine lv_imul hx hb d_M_area_57 ?_
                refine z_topi (y := nI (12 * j_22)) (pk_mul 12 j_22) ?_
                refine lv_iload hx hb d_M_area_58 (lv_at hl 4 rfl) ?_
                refine lv_iadd hx hb d_M_area_60 ?_
                refine z_topi (y := nI (12 * j_22 + k)) (nI_add (12 * j_22) k) ?_
                refine lv_istore (lv' := [(7, .int (nI (12 * j_22 + k))), (6, .int (nI (12 * j_22))), (0, .ref (E 0)), (3, .int (nI j_22)), (4, .int a), (5, .int (nI k))]) hx hb d_M_area_61 hl (by decide) rfl (fun ls hl => ?_)
                refine lv_aload_n hx hb d_M_area_63 rfl (lv_at hl 2 rfl) ?_
                refine lv_iload_n hx hb d_M_area_64 rfl (lv_at hl 3 rfl) ?_
                refine lv_iload hx hb d_M_area_65 (lv_at hl 5 rfl) ?_
                refine z_rdV (n := 2) (C := R_M) (rest := []) ⟨hx, hb, hml, hown, hts⟩ hW0 (c_M_after G E 0 mp ms mc mn mm gv j_22 k (cn j_22) (by omega) (by omega) (hcn j_22 (by omega)).1 (by omega) (by omega)) w_656 w_653 w_655 wp_22 w_4 (by decide +kernel) ⟨rfl, rfl, Nat.le_of_ble_eq_true rfl, Nat.le_of_ble_eq_true rfl⟩ (hE0.recv hK rfl) (hB) rfl rfl hl.1 (Nat.le_of_ble_eq_true rfl) d_M_area_67 ⟨Nat.zero_le _, Nat.zero_le _⟩ ?_
                refine lv_istore (lv' := [(8, .int (nI (pm_af (cn j_22) j_22 k))), (7, .int (nI (12 * j_22 + k))), (6, .int (nI (12 * j_22))), (0, .ref (E 0)), (3, .int (nI j_22)), (4, .int a), (5, .int (nI k))]) hx hb d_M_area_70 hl (by decide) rfl (fun ls hl => ?_)
                refine lv_iload hx hb d_M_area_72 (lv_at hl 5 rfl) ?_
                refine lv_aload_n hx hb d_M_area_74 rfl (lv_at hl 3 rfl) ?_
                refine va_get (D := (dC, dI)) (ci := 4) (v := .ref (E 6)) (C := R_M) (T := T_M) (N := 23) hx hb hts in_M hown hK hE0.P 0 rfl rfl 8 (by decide) (hts _ w_548) (fun _ h9 => h9) rfl d_M_area_75 ?_
                refine lv_iload hx hb d_M_area_78 (lv_at hl 2 rfl) ?_
                refine z_iald hx hb hAI (show z_A cI _ (E 6) 384 (gv 5) from hGA 5 (by omega)) (by omega) (by decide) d_M_area_80 ?_
                refine lv_aload_n hx hb d_M_area_81 rfl (lv_at hl 3 rfl) ?_
                refine va_get (D := (dC, dI)) (ci := 4) (v := .ref (E 7)) (C := R_M) (T := T_M) (N := 23) hx hb hts in_M hown hK hE0.P 0 rfl rfl 9 (by decide) (hts _ w_549) (fun _ h9 => h9) rfl d_M_area_82 ?_
                refine lv_iload hx hb d_M_area_85 (lv_at hl 2 rfl) ?_
                refine z_iald hx hb hAI (show z_A cI _ (E 7) 384 (gv 6) from hGA 6 (by omega)) (by omega) (by decide) d_M_area_87 ?_
                refine lv_aload_n hx hb d_M_area_88 rfl (lv_at hl 3 rfl) ?_
                refine va_get (D := (dC, dI)) (ci := 4) (v := .ref (E 6)) (C := R_M) (T := T_M) (N := 23) hx hb hts in_M hown hK hE0.P 0 rfl rfl 8 (by decide) (hts _ w_548) (fun _ h9 => h9) rfl d_M_area_89 ?_
                refine lv_iload hx hb d_M_area_92 (lv_at hl 1 rfl) ?_
                refine z_iald hx hb hAI (show z_A cI _ (E 6) 384 (gv 5) from hGA 5 (by omega)) (by omega) (by decide) d_M_area_94 ?_
                refine lv_aload_n hx hb d_M_area_95 rfl (lv_at hl 3 rfl) ?_
                refine va_get (D := (dC, dI)) (ci := 4) (v := .ref (E 7)) (C := R_M) (T := T_M) (N := 23) hx hb hts in_M hown hK hE0.P 0 rfl rfl 9 (by decide) (hts _ w_549) (fun _ h9 => h9) rfl d_M_area_96 ?_
                refine lv_iload hx hb d_M_area_99 (lv_at hl 1 rfl) ?_
                refine z_iald hx hb hAI (show z_A cI _ (E 7) 384 (gv 6) from hGA 6 (by omega)) (by omega) (by decide) d_M_area_101 ?_
                refine lv_aload_n hx hb d_M_area_102 rfl (lv_at hl 3 rfl) ?_
                refine va_get (D := (dC, dI)) (ci := 4) (v := .ref (E 6)) (C := R_M) (T := T_M) (N := 23) hx hb hts in_M hown hK hE0.P 0 rfl rfl 8 (by decide) (hts _ w_548) (fun _ h9 => h9) rfl d_M_area_103 ?_
                refine lv_iload hx hb d_M_area_106 (lv_at hl 0 rfl) ?_
                refine z_iald hx hb hAI (show z_A cI _ (E 6) 384 (gv 5) from hGA 5 (by omega)) (by omega) (by decide) d_M_area_108 ?_
                refine lv_aload_n hx hb d_M_area_109 rfl (lv_at hl 3 rfl) ?_
                refine va_get (D := (dC, dI)) (ci := 4) (v := .ref (E 7)) (C := R_M) (T := T_M) (N := 23) hx hb hts in_M hown hK hE0.P 0 rfl rfl 9 (by decide) (hts _ w_549) (fun _ h9 => h9) rfl d_M_area_110 ?_
                refine lv_iload hx hb d_M_area_113 (lv_at hl 0 rfl) ?_
                refine z_iald hx hb hAI (show z_A cI _ (E 7) 384 (gv 6) from hGA 6 (by omega)) (by omega) (by decide) d_M_area_115 ?_
                refine z_rdS (n := 6) (rest := [.int a]) ⟨hx, hb, hml, hown, hts⟩ hW0 (c_M_side G ((gv 5) (12 * j_22)) ((gv 6) (12 * j_22)) ((gv 5) (12 * j_22 + k)) ((gv 6) (12 * j_22 + k)) ((gv 5) (pm_af (cn j_22) j_22 k)) ((gv 6) (pm_af (cn j_22) j_22 k))) w_663 w_661 w_662 w_4 (by decide +kernel) ⟨rfl, rfl, Nat.le_of_ble_eq_true rfl, Nat.le_of_ble_eq_true rfl⟩ (trivial) rfl rfl hl.1 (Nat.le_of_ble_eq_true rfl) d_M_area_116 ⟨Nat.zero_le _, Nat.zero_le _⟩ ?_
                refine lv_iadd hx hb d_M_area_119 ?_
                refine lv_istore (lv' := [(4, .int (a + (pm_side ((gv 5) (12 * j_22)) ((gv 6) (12 * j_22)) ((gv 5) (12 * j_22 + k)) ((gv 6) (12 * j_22 + k)) ((gv 5) (pm_af (cn j_22) j_22 k)) ((gv 6) (pm_af (cn j_22) j_22 k))))), (8, .int (nI (pm_af (cn j_22) j_22 k))), (7, .int (nI (12 * j_22 + k))), (6, .int (nI (12 * j_22))), (0, .ref (E 0)), (3, .int (nI j_22)), (5, .int (nI k))]) hx hb d_M_area_120 hl (by decide) rfl (fun ls hl => ?_)
                refine lv_iinc (v := nI (k + 1)) (lv' := [(5, .int (nI (k + 1))), (4, .int (a + (pm_side ((gv 5) (12 * j_22)) ((gv 6) (12 * j_22)) ((gv 5) (12 * j_22 + k)) ((gv 6) (12 * j_22 + k)) ((gv 5) (pm_af (cn j_22) j_22 k)) ((gv 6) (pm_af (cn j_22) j_22 k))))), (8, .int (nI (pm_af (cn j_22) j_22 k))), (7, .int (nI (12 * j_22 + k))), (6, .int (nI (12 * j_22))), (0, .ref (E 0)), (3, .int (nI j_22))]) hx hb d_M_area_122 hl (k := 6) rfl (nI_1 k) (by decide) rfl (fun ls hl => ?_)
                refine lv_goto (tgt := 32) hx hb d_M_area_125 (by decide) ?_
                exact ih (k + 1) (a + (pm_side ((gv 5) (12 * j_22)) ((gv 6) (12 * j_22)) ((gv 5) (12 * j_22 + k)) ((gv 6) (12 * j_22 + k)) ((gv 5) (pm_af (cn j_22) j_22 k)) ((gv 6) (pm_af (cn j_22) j_22 k)))) (by omega) (by omega) (by rw [show cn j_22 - k = (cn j_22 - (k + 1)) + 1 by omega] at hres; simpa only [pm_sum] using hres) ls (lv_sub hl [5, 6, 1, 0] rfl)
        exact (loops ((cn j_22 - 0) + 1)) 0 0 (by omega) (by omega) (by rfl) ls (lv_sub hl [3, 2, 1, 0] rfl)
    · skip
      exact absurd c_1 (by decide)
  refine lv_aload_n hx hb d_M_area_0 rfl (lv_at hl 0 rfl) ?_
  refine lv_aload_n hx hb d_M_area_1 rfl (lv_at hl 0 rfl) ?_
  refine lv_iload_n hx hb d_M_area_2 rfl (lv_at hl 1 rfl) ?_
  refine z_rdV (n := 1) (C := R_M) (rest := [.ref (E 0)]) ⟨hx, hb, hml, hown, hts⟩ hW0 (c_M_isPlace G E th mp ms mc mn mm gv x0) w_621 w_618 w_620 wp_18 w_4 (by decide +kernel) ⟨rfl, rfl, Nat.le_of_ble_eq_true rfl, Nat.le_of_ble_eq_true rfl⟩ (hE0.recv hK rfl) (hB) rfl rfl hl.1 (Nat.le_of_ble_eq_true rfl) d_M_area_3 ⟨Nat.zero_le _, Nat.zero_le _⟩ ?_
  refine lv_iload_n hx hb d_M_area_6 rfl (lv_at hl 2 rfl) ?_
  refine z_rdS (n := 1) (rest := [.int (pi_b (pm_idx mp x0)), .ref (E 0)]) ⟨hx, hb, hml, hown, hts⟩ hW0 (c_M_isDay G d) w_632 w_630 w_631 w_4 (by decide +kernel) ⟨rfl, rfl, Nat.le_of_ble_eq_true rfl, Nat.le_of_ble_eq_true rfl⟩ (trivial) rfl rfl hl.1 (Nat.le_of_ble_eq_true rfl) d_M_area_7 ⟨Nat.zero_le _, Nat.zero_le _⟩ ?_
  refine lv_iconst (v := 1) hx hb d_M_area_10 (by decide) ?_
  refine z_g3 (w1 := pi_b (pm_idx mp x0)) (w2 := pi_b (pm_day d)) (w3 := pi_b true) (rfl) (rfl) (rfl) ?_
  exact tail ls (lv_sub hl [0, 1, 2] rfl)
set_option maxRecDepth 100000 in
set_option maxHeartbeats 4000000 in
theorem c_M_distance_no (G : z_G s0 (dC, dI) cI cS) (E : Nat → Nat) (th : Int32) (mp ms mc mn mm : Nat) (gv : Nat → Nat → Int32) (sz : Nat) (x0 x1 d : Int32) (hg : ((pm_idx mp x0 && pm_idx mp x1) && ((pm_day d) && true)) = false) : Met l y_M_distance [Cond.code y_M_distance b_M_distance 12 (some .int)] ({ frames := 1, cells := 0, slots := 0, locals := 23 }) (z_Pc s0 [.ref (E 0), .int x0, .int x1, .int d] (fun H => H.size = sz ∧ z_Md (dC, dI) cI H E th mp ms mc mn mm gv)) (z_Qw (fun r H => r = some (.int 0) ∧ z_Md (dC, dI) cI H E (pm_th (pm_idx mp x0 && pm_idx mp x1) (pm_day d) true) mp ms mc mn mm gv) (z_fr (z_mF E) sz)) 0 0 (z_fr (z_mF E) sz) := by
  refine z_ofW (by decide +kernel) (Nat.le_of_ble_eq_true rfl) ?_
  intro p e s m below meth c hx hb hml hr hown hlocks hnm hW0 hB ls hl
  have hts := z_hts (args := [.ref (E 0), .int x0, .int x1, .int d].toArray) G.1 hW0
  have hN := z_nstW G.2.1 hW0
  have hK := va_K.moved hW0.alike G.2.2.1
  have hAI := arrOfT_moved hW0.alike G.2.2.2.1
  have hl : lv_has ls 12 [(0, .ref (E 0)), (1, .int x0), (2, .int x1), (3, .int d)] := hl
  obtain ⟨rfl, hB⟩ := hB
  have hS : va_S (z_fr (z_mF E) s.heap.size) s.heap s.heap [] := va_S.rf
  obtain ⟨⟨hE0, hGA⟩, hEi, ⟨hmp, hms, hmn, hmm, hmc⟩⟩ := id hB
  have tail : ∀ ls : Array Slot, lv_has ls 12 [(0, .ref (E 0)), (1, .int x0), (2, .int x1), (3, .int d)] → W p l e ({ frames := 1, cells := 0, slots := 0, locals := 23 }) s m [.ref (E 0), .int x0, .int x1, .int d].toArray below meth c s.heap [] 0 0 (MQ below (z_Qw (fun r H => r = some (.int 0) ∧ z_Md (dC, dI) cI H E (pm_th (pm_idx mp x0 && pm_idx mp x1) (pm_day d) true) mp ms mc mn mm gv) (z_fr (z_mF E) s.heap.size)) [.ref (E 0), .int x0, .int x1, .int d].toArray s 0 0 (z_fr (z_mF E) s.heap.size)) (F0 m 27 ls [.int (pi_b true), .int (pi_b (pm_day d)), .int (pi_b (pm_idx mp x0 && pm_idx mp x1)), .ref (E 0)]) := by
    intro ls hl
    refine z_wrV (n := 3) (C := R_M) (rest := []) ⟨hx, hb, hml, hown, hts⟩ hW0 (c_M_goes G E th mp ms mc mn mm gv _ (pm_idx mp x0 && pm_idx mp x1) (pm_day d) true) w_625 w_622 w_624 wp_19 w_4 (by decide +kernel) ⟨rfl, rfl, Nat.le_of_ble_eq_true rfl, Nat.le_of_ble_eq_true rfl⟩ (hE0.recv hK rfl) ⟨rfl, hB⟩ rfl rfl hl.1 (Nat.le_of_ble_eq_true rfl) d_M_distance_27 ⟨Nat.le_of_ble_eq_true rfl, Nat.le_of_ble_eq_true rfl⟩ hS (fun q h => h.elim Or.inl (fun h => Or.inr (Nat.le_trans hS.1 h))) (fun H1 locs1 hB hz1 hk1 hS => ?_)
    obtain ⟨⟨hE0, hGA⟩, hEi, ⟨hmp, hms, hmn, hmm, hmc⟩⟩ := id hB
    refine z_topi (y := 0) (by rw [hg]; rfl) ?_
    refine lv_if_ne (tgt := 35) hx hb d_M_distance_30 (by decide) (fun c_1 => ?_) (fun c_1 => ?_)
    · skip
      exact absurd (by decide) c_1
    · skip
      refine lv_iconst (v := 0) hx hb d_M_distance_33 (by decide) ?_
      exact z_wi hx hb hr hlocks (⟨rfl, hB⟩) hS d_M_distance_34
  refine lv_aload_n hx hb d_M_distance_0 rfl (lv_at hl 0 rfl) ?_
  refine lv_aload_n hx hb d_M_distance_1 rfl (lv_at hl 0 rfl) ?_
  refine lv_iload_n hx hb d_M_distance_2 rfl (lv_at hl 1 rfl) ?_
  refine z_rdV (n := 1) (C := R_M) (rest := [.ref (E 0)]) ⟨hx, hb, hml, hown, hts⟩ hW0 (c_M_isPlace G E th mp ms mc mn mm gv x0) w_621 w_618 w_620 wp_18 w_4 (by decide +kernel) ⟨rfl, rfl, Nat.le_of_ble_eq_true rfl, Nat.le_of_ble_eq_true rfl⟩ (hE0.recv hK rfl) (hB) rfl rfl hl.1 (Nat.le_of_ble_eq_true rfl) d_M_distance_3 ⟨Nat.zero_le _, Nat.zero_le _⟩ ?_
  refine lv_if_eq (tgt := 21) hx hb d_M_distance_6 (by decide) (fun c_2 => ?_) (fun c_2 => ?_)
  · skip
    have c_2 : (pm_idx mp x0) = false := pi_b_0.mp c_2
    refine lv_iconst (v := 0) hx hb d_M_distance_21 (by decide) ?_
    refine lv_iload_n hx hb d_M_distance_22 rfl (lv_at hl 3 rfl) ?_
    refine z_rdS (n := 1) (rest := [.int 0, .ref (E 0)]) ⟨hx, hb, hml, hown, hts⟩ hW0 (c_M_isDay G d) w_632 w_630 w_631 w_4 (by decide +kernel) ⟨rfl, rfl, Nat.le_of_ble_eq_true rfl, Nat.le_of_ble_eq_true rfl⟩ (trivial) rfl rfl hl.1 (Nat.le_of_ble_eq_true rfl) d_M_distance_23 ⟨Nat.zero_le _, Nat.zero_le _⟩ ?_
    refine lv_iconst (v := 1) hx hb d_M_distance_26 (by decide) ?_
    refine z_g3 (w1 := pi_b (pm_idx mp x0 && pm_idx mp x1)) (w2 := pi_b (pm_day d)) (w3 := pi_b true) (rfl) (rfl) (by simp [pi_b, c_2]) ?_
    exact tail ls (lv_sub hl [0, 1, 2, 3] rfl)
  · skip
    have c_2 : (pm_idx mp x0) = true := pi_b_1.mp c_2
    refine lv_aload_n hx hb d_M_distance_9 rfl (lv_at hl 0 rfl) ?_
    refine lv_iload_n hx hb d_M_distance_10 rfl (lv_at hl 2 rfl) ?_
    refine z_rdV (n := 1) (C := R_M) (rest := [.ref (E 0)]) ⟨hx, hb, hml, hown, hts⟩ hW0 (c_M_isPlace G E th mp ms mc mn mm gv x1) w_621 w_618 w_620 wp_18 w_4 (by decide +kernel) ⟨rfl, rfl, Nat.le_of_ble_eq_true rfl, Nat.le_of_ble_eq_true rfl⟩ (hE0.recv hK rfl) (hB) rfl rfl hl.1 (Nat.le_of_ble_eq_true rfl) d_M_distance_11 ⟨Nat.zero_le _, Nat.zero_le _⟩ ?_
    refine lv_if_eq (tgt := 21) hx hb d_M_distance_14 (by decide) (fun c_3 => ?_) (fun c_3 => ?_)
    · skip
      have c_3 : (pm_idx mp x1) = false := pi_b_0.mp c_3
      refine lv_iconst (v := 0) hx hb d_M_distance_21 (by decide) ?_
      refine lv_iload_n hx hb d_M_distance_22 rfl (lv_at hl 3 rfl) ?_
      refine z_rdS (n := 1) (rest := [.int 0, .ref (E 0)]) ⟨hx, hb, hml, hown, hts⟩ hW0 (c_M_isDay G d) w_632 w_630 w_631 w_4 (by decide +kernel) ⟨rfl, rfl, Nat.le_of_ble_eq_true rfl, Nat.le_of_ble_eq_true rfl⟩ (trivial) rfl rfl hl.1 (Nat.le_of_ble_eq_true rfl) d_M_distance_23 ⟨Nat.zero_le _, Nat.zero_le _⟩ ?_
      refine lv_iconst (v := 1) hx hb d_M_distance_26 (by decide) ?_
      refine z_g3 (w1 := pi_b (pm_idx mp x0 && pm_idx mp x1)) (w2 := pi_b (pm_day d)) (w3 := pi_b true) (rfl) (rfl) (by simp [pi_b, c_2, c_3]) ?_
      exact tail ls (lv_sub hl [0, 1, 2, 3] rfl)
    · skip
      have c_3 : (pm_idx mp x1) = true := pi_b_1.mp c_3
      refine lv_iconst (v := 1) hx hb d_M_distance_17 (by decide) ?_
      refine lv_goto (tgt := 22) hx hb d_M_distance_18 (by decide) ?_
      refine lv_iload_n hx hb d_M_distance_22 rfl (lv_at hl 3 rfl) ?_
      refine z_rdS (n := 1) (rest := [.int 1, .ref (E 0)]) ⟨hx, hb, hml, hown, hts⟩ hW0 (c_M_isDay G d) w_632 w_630 w_631 w_4 (by decide +kernel) ⟨rfl, rfl, Nat.le_of_ble_eq_true rfl, Nat.le_of_ble_eq_true rfl⟩ (trivial) rfl rfl hl.1 (Nat.le_of_ble_eq_true rfl) d_M_distance_23 ⟨Nat.zero_le _, Nat.zero_le _⟩ ?_
      refine lv_iconst (v := 1) hx hb d_M_distance_26 (by decide) ?_
      refine z_g3 (w1 := pi_b (pm_idx mp x0 && pm_idx mp x1)) (w2 := pi_b (pm_day d)) (w3 := pi_b true) (rfl) (rfl) (by simp [pi_b, c_2, c_3]) ?_
      exact tail ls (lv_sub hl [0, 1, 2, 3] rfl)
set_option maxRecDepth 100000 in
set_option maxHeartbeats 4000000 in
theorem c_M_distance_ok (G : z_G s0 (dC, dI) cI cS) (E : Nat → Nat) (th : Int32) (mp ms mc mn mm : Nat) (gv : Nat → Nat → Int32) (sz : Nat) (x0 x1 d : Int32) (cn : Nat → Nat) (hcn : ∀ i, i < ms → gv 4 i = nI (cn i) ∧ cn i ≤ 12 ∧ (0 < gv 7 i → 3 ≤ cn i)) (hg : ((pm_idx mp x0 && pm_idx mp x1) && ((pm_day d) && true)) = true) : Met l y_M_distance [Cond.code y_M_distance b_M_distance 12 (some .int)] ({ frames := 1, cells := 0, slots := 0, locals := 25 }) (z_Pc s0 [.ref (E 0), .int x0, .int x1, .int d] (fun H => H.size = sz ∧ z_Md (dC, dI) cI H E th mp ms mc mn mm gv)) (z_Qw (fun r H => r = some (.int (pm_di gv cn (pm_f gv ms x0 d) (pm_f gv ms x1 d))) ∧ z_Md (dC, dI) cI H E 0 mp ms mc mn mm gv) (z_fr (z_mF E) sz)) 0 0 (z_fr (z_mF E) sz) := by
  refine z_ofW (by decide +kernel) (Nat.le_of_ble_eq_true rfl) ?_
  intro p e s m below meth c hx hb hml hr hown hlocks hnm hW0 hB ls hl
  have hts := z_hts (args := [.ref (E 0), .int x0, .int x1, .int d].toArray) G.1 hW0
  have hN := z_nstW G.2.1 hW0
  have hK := va_K.moved hW0.alike G.2.2.1
  have hAI := arrOfT_moved hW0.alike G.2.2.2.1
  have hl : lv_has ls 12 [(0, .ref (E 0)), (1, .int x0), (2, .int x1), (3, .int d)] := hl
  obtain ⟨rfl, hB⟩ := hB
  have hS : va_S (z_fr (z_mF E) s.heap.size) s.heap s.heap [] := va_S.rf
  obtain ⟨⟨hE0, hGA⟩, hEi, ⟨hmp, hms, hmn, hmm, hmc⟩⟩ := id hB
  have tail : ∀ ls : Array Slot, lv_has ls 12 [(0, .ref (E 0)), (1, .int x0), (2, .int x1), (3, .int d)] → W p l e ({ frames := 1, cells := 0, slots := 0, locals := 25 }) s m [.ref (E 0), .int x0, .int x1, .int d].toArray below meth c s.heap [] 0 0 (MQ below (z_Qw (fun r H => r = some (.int (pm_di gv cn (pm_f gv ms x0 d) (pm_f gv ms x1 d))) ∧ z_Md (dC, dI) cI H E 0 mp ms mc mn mm gv) (z_fr (z_mF E) s.heap.size)) [.ref (E 0), .int x0, .int x1, .int d].toArray s 0 0 (z_fr (z_mF E) s.heap.size)) (F0 m 27 ls [.int (pi_b true), .int (pi_b (pm_day d)), .int (pi_b (pm_idx mp x0 && pm_idx mp x1)), .ref (E 0)]) := by
    intro ls hl
    refine z_wrV (n := 3) (C := R_M) (rest := []) ⟨hx, hb, hml, hown, hts⟩ hW0 (c_M_goes G E th mp ms mc mn mm gv _ (pm_idx mp x0 && pm_idx mp x1) (pm_day d) true) w_625 w_622 w_624 wp_19 w_4 (by decide +kernel) ⟨rfl, rfl, Nat.le_of_ble_eq_true rfl, Nat.le_of_ble_eq_true rfl⟩ (hE0.recv hK rfl) ⟨rfl, hB⟩ rfl rfl hl.1 (Nat.le_of_ble_eq_true rfl) d_M_distance_27 ⟨Nat.le_of_ble_eq_true rfl, Nat.le_of_ble_eq_true rfl⟩ hS (fun q h => h.elim Or.inl (fun h => Or.inr (Nat.le_trans hS.1 h))) (fun H1 locs1 hB hz1 hk1 hS => ?_)
    obtain ⟨⟨hE0, hGA⟩, hEi, ⟨hmp, hms, hmn, hmm, hmc⟩⟩ := id hB
    refine z_topi (y := 1) (by rw [hg]; rfl) ?_
    rw [pm_th_ok hg] at hB
    obtain ⟨⟨hE0, hGA⟩, hEi, ⟨hmp, hms, hmn, hmm, hmc⟩⟩ := id hB
    refine lv_if_ne (tgt := 35) hx hb d_M_distance_30 (by decide) (fun c_1 => ?_) (fun c_1 => ?_)
    · skip
      refine lv_aload_n hx hb d_M_distance_35 rfl (lv_at hl 0 rfl) ?_
      refine lv_iload_n hx hb d_M_distance_36 rfl (lv_at hl 1 rfl) ?_
      refine lv_iload_n hx hb d_M_distance_37 rfl (lv_at hl 3 rfl) ?_
      refine z_rdV (n := 2) (C := R_M) (rest := []) ⟨hx, hb, hml, hown, hts⟩ hW0 (c_M_forced G E 0 mp ms mc mn mm gv x0 d) w_689 w_686 w_688 wp_26 w_4 (by decide +kernel) ⟨rfl, rfl, Nat.le_of_ble_eq_true rfl, Nat.le_of_ble_eq_true rfl⟩ (hE0.recv hK rfl) (hB) rfl rfl hl.1 (Nat.le_of_ble_eq_true rfl) d_M_distance_38 ⟨Nat.zero_le _, Nat.zero_le _⟩ ?_
      obtain ⟨o_38, hq_38⟩ : ∃ o, pm_f gv ms x0 d = o := ⟨_, rfl⟩
      rcases o_38 with _ | j_38
      · skip
        refine z_topi (y := -1) (by rw [hq_38]; rfl) ?_
        refine lv_istore (lv' := [(4, .int (-1)), (0, .ref (E 0)), (1, .int x0), (2, .int x1), (3, .int d)]) hx hb d_M_distance_41 hl (by decide) rfl (fun ls hl => ?_)
        refine lv_aload_n hx hb d_M_distance_43 rfl (lv_at hl 1 rfl) ?_
        refine lv_iload_n hx hb d_M_distance_44 rfl (lv_at hl 3 rfl) ?_
        refine lv_iload_n hx hb d_M_distance_45 rfl (lv_at hl 4 rfl) ?_
        refine z_rdV (n := 2) (C := R_M) (rest := []) ⟨hx, hb, hml, hown, hts⟩ hW0 (c_M_forced G E 0 mp ms mc mn mm gv x1 d) w_689 w_686 w_688 wp_26 w_4 (by decide +kernel) ⟨rfl, rfl, Nat.le_of_ble_eq_true rfl, Nat.le_of_ble_eq_true rfl⟩ (hE0.recv hK rfl) (hB) rfl rfl hl.1 (Nat.le_of_ble_eq_true rfl) d_M_distance_46 ⟨Nat.zero_le _, Nat.zero_le _⟩ ?_
        obtain ⟨o_46, hq_46⟩ : ∃ o, pm_f gv ms x1 d = o := ⟨_, rfl⟩
        rcases o_46 with _ | j_46
        · skip
          refine z_topi (y := -1) (by rw [hq_46]; rfl) ?_
          refine lv_istore (lv' := [(5, .int (-1)), (4, .int (-1)), (0, .ref (E 0)), (1, .int x0), (2, .int x1), (3, .int d)]) hx hb d_M_distance_49 hl (by decide) rfl (fun ls hl => ?_)
          refine lv_iconst (v := (-1)) hx hb d_M_distance_51 (by decide) ?_
          refine lv_istore (lv' := [(6, .int (-1)), (5, .int (-1)), (4, .int (-1)), (0, .ref (E 0)), (1, .int x0), (2, .int x1), (3, .int d)]) hx hb d_M_distance_52 hl (by decide) rfl (fun ls hl => ?_)
          refine lv_iconst (v := 0) hx hb d_M_distance_54 (by decide) ?_
          refine lv_istore (lv' := [(7, .int 0), (6, .int (-1)), (5, .int (-1)), (4, .int (-1)), (0, .ref (E 0)), (1, .int x0), (2, .int x1), (3, .int d)]) hx hb d_M_distance_55 hl (by decide) rfl (fun ls hl => ?_)
          refine lv_iload hx hb d_M_distance_57 (lv_at hl 3 rfl) ?_
          refine lv_iconst (v := (-1)) hx hb d_M_distance_59 (by decide) ?_
          refine lv_icmp_eq (tgt := 201) hx hb d_M_distance_60 (by decide) (fun c_2 => ?_) (fun c_2 => ?_)
          · skip
            refine lv_iload hx hb d_M_distance_201 (lv_at hl 1 rfl) ?_
            exact z_wi hx hb hr hlocks (⟨by simp [pm_di, hq_38, hq_46], hB⟩) hS d_M_distance_203
          · skip
            exact absurd (by decide) c_2
        · skip
          have hj_46 := pm_f_ok hq_46
          have hc_46 := hcn j_46 hj_46.1
          have h3_46 := hc_46.2.2 hj_46.2
          have hl_46 := hj_46.1
          have hm_46 := hc_46.2.1
          refine z_topi (y := nI j_46) (by rw [hq_46]; rfl) ?_
          refine lv_istore (lv' := [(5, .int (nI j_46)), (4, .int (-1)), (0, .ref (E 0)), (1, .int x0), (2, .int x1), (3, .int d)]) hx hb d_M_distance_49 hl (by decide) rfl (fun ls hl => ?_)
          refine lv_iconst (v := (-1)) hx hb d_M_distance_51 (by decide) ?_
          refine lv_istore (lv' := [(6, .int (-1)), (5, .int (nI j_46)), (4, .int (-1)), (0, .ref (E 0)), (1, .int x0), (2, .int x1), (3, .int d)]) hx hb d_M_distance_52 hl (by decide) rfl (fun ls hl => ?_)
          refine lv_iconst (v := 0) hx hb d_M_distance_54 (by decide) ?_
          refine lv_istore (lv' := [(7, .int 0), (6, .int (-1)), (5, .int (nI j_46)), (4, .int (-1)), (0, .ref (E 0)), (1, .int x0), (2, .int x1), (3, .int d)]) hx hb d_M_distance_55 hl (by decide) rfl (fun ls hl => ?_)
          refine lv_iload hx hb d_M_distance_57 (lv_at hl 3 rfl) ?_
          refine lv_iconst (v := (-1)) hx hb d_M_distance_59 (by decide) ?_
          refine lv_icmp_eq (tgt := 201) hx hb d_M_distance_60 (by decide) (fun c_3 => ?_) (fun c_3 => ?_)
          · skip
            refine lv_iload hx hb d_M_distance_201 (lv_at hl 1 rfl) ?_
            exact z_wi hx hb hr hlocks (⟨by simp [pm_di, hq_38, hq_46], hB⟩) hS d_M_distance_203
          · skip
            exact absurd (by decide) c_3
      · skip
        have hj_38 := pm_f_ok hq_38
        have hc_38 := hcn j_38 hj_38.1
        have h3_38 := hc_38.2.2 hj_38.2
        have hl_38 := hj_38.1
        have hm_38 := hc_38.2.1
        refine z_topi (y := nI j_38) (by rw [hq_38]; rfl) ?_
        refine lv_istore (lv' := [(4, .int (nI j_38)), (0, .ref (E 0)), (1, .int x0), (2, .int x1), (3, .int d)]) hx hb d_M_distance_41 hl (by decide) rfl (fun ls hl => ?_)
        refine lv_aload_n hx hb d_M_distance_43 rfl (lv_at hl 1 rfl) ?_
        refine lv_iload_n hx hb d_M_distance_44 rfl (lv_at hl 3 rfl) ?_
        refine lv_iload_n hx hb d_M_distance_45 rfl (lv_at hl 4 rfl) ?_
        refine z_rdV (n := 2) (C := R_M) (rest := []) ⟨hx, hb, hml, hown, hts⟩ hW0 (c_M_forced G E 0 mp ms mc mn mm gv x1 d) w_689 w_686 w_688 wp_26 w_4 (by decide +kernel) ⟨rfl, rfl, Nat.le_of_ble_eq_true rfl, Nat.le_of_ble_eq_true rfl⟩ (hE0.recv hK rfl) (hB) rfl rfl hl.1 (Nat.le_of_ble_eq_true rfl) d_M_distance_46 ⟨Nat.zero_le _, Nat.zero_le _⟩ ?_
        obtain ⟨o_46, hq_46⟩ : ∃ o, pm_f gv ms x1 d = o := ⟨_, rfl⟩
        rcases o_46 with _ | j_46
        · skip
          refine z_topi (y := -1) (by rw [hq_46]; rfl) ?_
          refine lv_istore (lv' := [(5, .int (-1)), (4, .int (nI j_38)), (0, .ref (E 0)), (1, .int x0), (2, .int x1), (3, .int d)]) hx hb d_M_distance_49 hl (by decide) rfl (fun ls hl => ?_)
          refine lv_iconst (v := (-1)) hx hb d_M_distance_51 (by decide) ?_
          refine lv_istore (lv' := [(6, .int (-1)), (5, .int (-1)), (4, .int (nI j_38)), (0, .ref (E 0)), (1, .int x0), (2, .int x1), (3, .int d)]) hx hb d_M_distance_52 hl (by decide) rfl (fun ls hl => ?_)
          refine lv_iconst (v := 0) hx hb d_M_distance_54 (by decide) ?_
          refine lv_istore (lv' := [(7, .int 0), (6, .int (-1)), (5, .int (-1)), (4, .int (nI j_38)), (0, .ref (E 0)), (1, .int x0), (2, .int x1), (3, .int d)]) hx hb d_M_distance_55 hl (by decide) rfl (fun ls hl => ?_)
          refine lv_iload hx hb d_M_distance_57 (lv_at hl 3 rfl) ?_
          refine lv_iconst (v := (-1)) hx hb d_M_distance_59 (by decide) ?_
          refine lv_icmp_eq (tgt := 201) hx hb d_M_distance_60 (by decide) (fun c_4 => ?_) (fun c_4 => ?_)
          · skip
            exact absurd c_4 (z_ne1 (by omega))
          · skip
            refine lv_iload hx hb d_M_distance_63 (lv_at hl 2 rfl) ?_
            refine lv_iconst (v := (-1)) hx hb d_M_distance_65 (by decide) ?_
            refine lv_icmp_eq (tgt := 201) hx hb d_M_distance_66 (by decide) (fun c_5 => ?_) (fun c_5 => ?_)
            · skip
              refine lv_iload hx hb d_M_distance_201 (lv_at hl 1 rfl) ?_
              exact z_wi hx hb hr hlocks (⟨by simp [pm_di, hq_38, hq_46, c_4], hB⟩) hS d_M_distance_203
            · skip
              exact absurd (by decide) c_5
        · skip
          have hj_46 := pm_f_ok hq_46
          have hc_46 := hcn j_46 hj_46.1
          have h3_46 := hc_46.2.2 hj_46.2
          have hl_46 := hj_46.1
          have hm_46 := hc_46.2.1
          refine z_topi (y := nI j_46) (by rw [hq_46]; rfl) ?_
          refine lv_istore (lv' := [(5, .int (nI j_46)), (4, .int (nI j_38)), (0, .ref (E 0)), (1, .int x0), (2, .int x1), (3, .int d)]) hx hb d_M_distance_49 hl (by decide) rfl (fun ls hl => ?_)
          refine lv_iconst (v := (-1)) hx hb d_M_distance_51 (by decide) ?_
          refine lv_istore (lv' := [(6, .int (-1)), (5, .int (nI j_46)), (4, .int (nI j_38)), (0, .ref (E 0)), (1, .int x0), (2, .int x1), (3, .int d)]) hx hb d_M_distance_52 hl (by decide) rfl (fun ls hl => ?_)
          refine lv_iconst (v := 0) hx hb d_M_distance_54 (by decide) ?_
          refine lv_istore (lv' := [(7, .int 0), (6, .int (-1)), (5, .int (nI j_46)), (4, .int (nI j_38)), (0, .ref (E 0)), (1, .int x0), (2, .int x1), (3, .int d)]) hx hb d_M_distance_55 hl (by decide) rfl (fun ls hl => ?_)
          have loops : ∀ f : Nat, (∀ (i : Nat) (b : Int32), (cn j_38 - i) * 20 + 19 < f → (i ≤ cn j_38) → (pm_dI (gv 5) (gv 6) j_38 j_46 (cn j_46) (cn j_38 - i) i b = pm_dI (gv 5) (gv 6) j_38 j_46 (cn j_46) (cn j_38) 0 (-1)) → ∀ ls : Array Slot, lv_has ls 12 [(0, .ref (E 0)), (4, .int (nI j_38)), (5, .int (nI j_46)), (6, .int b), (7, .int (nI i))] → W p l e ({ frames := 1, cells := 0, slots := 0, locals := 25 }) s m [.ref (E 0), .int x0, .int x1, .int d].toArray below meth c H1 locs1 0 0 (MQ below (z_Qw (fun r H => r = some (.int (pm_di gv cn (pm_f gv ms x0 d) (pm_f gv ms x1 d))) ∧ z_Md (dC, dI) cI H E 0 mp ms mc mn mm gv) (z_fr (z_mF E) s.heap.size)) [.ref (E 0), .int x0, .int x1, .int d].toArray s 0 0 (z_fr (z_mF E) s.heap.size)) (F0 m 57 ls [])) ∧ (∀ (i j : Nat) (b : Int32), (cn j_38 - i) * 20 + (cn j_46 - j) < f → (i < cn j_38) → (j ≤ cn j_46) → (pm_dI (gv 5) (gv 6) j_38 j_46 (cn j_46) (cn j_38 - (i + 1)) (i + 1) (pm_dj (gv 5) (gv 6) j_38 j_46 i (cn j_46 - j) j b) = pm_dI (gv 5) (gv 6) j_38 j_46 (cn j_46) (cn j_38) 0 (-1)) → ∀ ls : Array Slot, lv_has ls 12 [(0, .ref (E 0)), (4, .int (nI j_38)), (5, .int (nI j_46)), (6, .int b), (7, .int (nI i)), (8, .int (nI j))] → W p l e ({ frames := 1, cells := 0, slots := 0, locals := 25 }) s m [.ref (E 0), .int x0, .int x1, .int d].toArray below meth c H1 locs1 0 0 (MQ below (z_Qw (fun r H => r = some (.int (pm_di gv cn (pm_f gv ms x0 d) (pm_f gv ms x1 d))) ∧ z_Md (dC, dI) cI H E 0 mp ms mc mn mm gv) (z_fr (z_mF E) s.heap.size)) [.ref (E 0), .int x0, .int x1, .int d].toArray s 0 0 (z_fr (z_mF E) s.heap.size)) (F0 m 84 ls [])) := by
            intro f
            induction f with
            | zero => exact ⟨fun _ _ h => absurd h (Nat.not_lt_zero _), fun _ _ _ h => absurd h (Nat.not_lt_zero _)⟩
            | succ f ih =>
              refine ⟨?_, ?_⟩
              · skip
                intro i b hmu hi hres ls hl
                refine lv_iload hx hb d_M_distance_57 (lv_at hl 1 rfl) ?_
                refine lv_iconst (v := (-1)) hx hb d_M_distance_59 (by decide) ?_
                refine lv_icmp_eq (tgt := 201) hx hb d_M_distance_60 (by decide) (fun c_6 => ?_) (fun c_6 => ?_)
                · skip
                  exact absurd c_6 (z_ne1 (by omega))
                · skip
                  refine lv_iload hx hb d_M_distance_63 (lv_at hl 2 rfl) ?_
                  refine lv_iconst (v := (-1)) hx hb d_M_distance_65 (by decide) ?_
                  refine lv_icmp_eq (tgt := 201) hx hb d_M_distance_66 (by decide) (fun c_7 => ?_) (fun c_7 => ?_)
                  · skip
                    exact absurd c_7 (z_ne1 (by omega))
                  · skip
                    refine lv_iload hx hb d_M_distance_69 (lv_at hl 4 rfl) ?_
                    refine lv_aload_n hx hb d_M_distance_71 rfl (lv_at hl 0 rfl) ?_
                    refine va_get (D := (dC, dI)) (ci := 4) (v := .ref (E 5)) (C := R_M) (T := T_M) (N := 23) hx hb hts in_M hown hK hE0.P 0 rfl rfl 7 (by decide) (hts _ w_547) (fun _ h9 => h9) rfl d_M_distance_72 ?_
                    refine lv_iload hx hb d_M_distance_75 (lv_at hl 1 rfl) ?_
                    refine z_iald hx hb hAI (show z_A cI _ (E 5) 32 (gv 4) from hGA 4 (by omega)) (by omega) (by decide) d_M_distance_77 ?_
                    refine z_topi (y := nI (cn j_38)) (hcn j_38 (by omega)).1 ?_
                    refine lv_icmp_ge (tgt := 201) hx hb d_M_distance_78 (by decide) (fun c_8 => ?_) (fun c_8 => ?_)
                    · skip
                      have c_8 : (cn j_38) ≤ i := (nI_leI (a := cn j_38) (b := i) (by omega) (by omega)).mp c_8
                      refine lv_iload hx hb d_M_distance_201 (lv_at hl 3 rfl) ?_
                      exact z_wi hx hb hr hlocks (⟨by rw [show cn j_38 - i = 0 by omega] at hres; simp only [pm_dI] at hres; simp only [hq_38, hq_46, pm_di, ← hres], hB⟩) hS d_M_distance_203
                    · skip
                      have c_8 : ¬ ((cn j_38) ≤ i) := fun h => c_8 ((nI_leI (a := cn j_38) (b := i) (by omega) (by omega)).mpr h)
                      refine lv_iconst (v := 0) hx hb d_M_distance_81 (by decide) ?_
                      refine lv_istore (lv' := [(8, .int 0), (0, .ref (E 0)), (4, .int (nI j_38)), (5, .int (nI j_46)), (6, .int b), (7, .int (nI i))]) hx hb d_M_distance_82 hl (by decide) rfl (fun ls hl => ?_)
                      exact ih.2 i 0 b (by omega) (by omega) (by omega) (by rw [show cn j_38 - i = (cn j_38 - (i + 1)) + 1 by omega] at hres; simpa only [pm_dI, Nat.sub_zero] using hres) ls (lv_sub hl [1, 2, 3, 4, 5, 0] rfl)
              · skip
                intro i j b hmu hi hj hres ls hl
                refine lv_iload hx hb d_M_distance_84 (lv_at hl 5 rfl) ?_
                refine lv_aload_n hx hb d_M_distance_86 rfl (lv_at hl 0 rfl) ?_
                refine va_get (D := (dC, dI)) (ci := 4) (v := .ref (E 5)) (C := R_M) (T := T_M) (N := 23) hx hb hts in_M hown hK hE0.P 0 rfl rfl 7 (by decide) (hts _ w_547) (fun _ h9 => h9) rfl d_M_distance_87 ?_
                refine lv_iload hx hb d_M_distance_90 (lv_at hl 2 rfl) ?_
                refine z_iald hx hb hAI (show z_A cI _ (E 5) 32 (gv 4) from hGA 4 (by omega)) (by omega) (by decide) d_M_distance_92 ?_
                refine z_topi (y := nI (cn j_46)) (hcn j_46 (by omega)).1 ?_
                refine lv_icmp_ge (tgt := 195) hx hb d_M_distance_93 (by decide) (fun c_9 => ?_) (fun c_9 => ?_)
                · skip
                  have c_9 : (cn j_46) ≤ j := (nI_leI (a := cn j_46) (b := j) (by omega) (by omega)).mp c_9
                  refine lv_iinc (v := nI (i + 1)) (lv' := [(7, .int (nI (i + 1))), (0, .ref (E 0)), (4, .int (nI j_38)), (5, .int (nI j_46)), (6, .int b), (8, .int (nI j))]) hx hb d_M_distance_195 hl (k := 4) rfl (nI_1 i) (by decide) rfl (fun ls hl => ?_)
                  refine lv_goto (tgt := 57) hx hb d_M_distance_198 (by decide) ?_
                  exact ih.1 (i + 1) b (by omega) (by omega) (by rw [show cn j_46 - j = 0 by omega] at hres; simpa only [pm_dj] using hres) ls (lv_sub hl [1, 2, 3, 4, 0] rfl)
                · skip
                  have c_9 : ¬ ((cn j_46) ≤ j) := fun h => c_9 ((nI_leI (a := cn j_46) (b := j) (by omega) (by omega)).mpr h)
                  refine lv_aload_n hx hb d_M_distance_96 rfl (lv_at hl 0 rfl) ?_
                  refine va_get (D := (dC, dI)) (ci := 4) (v := .ref (E 6)) (C := R_M) (T := T_M) (N := 23) hx hb hts in_M hown hK hE0.P 0 rfl rfl 8 (by decide) (hts _ w_548) (fun _ h9 => h9) rfl d_M_distance_97 ?_
                  refine lv_bipush (v := 12) hx hb d_M_distance_100 (by decide) ?_
                  refine lv_iload hx hb d_M_distance_102 (lv_at hl 1 rfl) ?_
                  refine lv_imul hx hb d_M_distance_104 ?_
                  refine z_topi (y := nI (12 * j_38)) (pk_mul 12 j_38) ?_
                  refine lv_iload hx hb d_M_distance_105 (lv_at hl 4 rfl) ?_
                  refine lv_iadd hx hb d_M_distance_107 ?_
                  refine z_topi (y := nI (12 * j_38 + i)) (nI_add (12 * j_38) i) ?_
                  refine z_iald hx hb hAI (show z_A cI _ (E 6) 384 (gv 5) from hGA 5 (by omega)) (by omega) (by decide) d_M_distance_108 ?_
                  refine lv_aload_n hx hb d_M_distance_109 rfl (lv_at hl 0 rfl) ?_
                  refine va_get (D := (dC, dI)) (ci := 4) (v := .ref (E 6)) (C := R_M) (T := T_M) (N := 23) hx hb hts in_M hown hK hE0.P 0 rfl rfl 8 (by decide) (hts _ w_548) (fun _ h9 => h9) rfl d_M_distance_110 ?_
                  refine lv_bipush (v := 12) hx hb d_M_distance_113 (by decide) ?_
                  refine lv_iload hx hb d_M_distance_115 (lv_at hl 2 rfl) ?_
                  refine lv_imul hx hb d_M_distance_117 ?_
                  refine z_topi (y := nI (12 * j_46)) (pk_mul 12 j_46) ?_
                  refine lv_iload hx hb d_M_distance_118 (lv_at hl 5 rfl) ?_
                  refine lv_iadd hx hb d_M_distance_120 ?_
                  refine z_topi (y := nI (12 * j_46 + j)) (nI_add (12 * j_46) j) ?_
                  refine z_iald hx hb hAI (show z_A cI _ (E 6) 384 (gv 5) from hGA 5 (by omega)) (by omega) (by decide) d_M_distance_121 ?_
                  refine lv_isub hx hb d_M_distance_122 ?_
                  refine lv_istore (lv' := [(9, .int (((gv 5) (12 * j_38 + i)) - ((gv 5) (12 * j_46 + j)))), (0, .ref (E 0)), (4, .int (nI j_38)), (5, .int (nI j_46)), (6, .int b), (7, .int (nI i)), (8, .int (nI j))]) hx hb d_M_distance_123 hl (by decide) rfl (fun ls hl => ?_)
                  refine lv_aload_n hx hb d_M_distance_125 rfl (lv_at hl 1 rfl) ?_
                  refine va_get (D := (dC, dI)) (ci := 4) (v := .ref (E 7)) (C := R_M) (T := T_M) (N := 23) hx hb hts in_M hown hK hE0.P 0 rfl rfl 9 (by decide) (hts _ w_549) (fun _ h9 => h9) rfl d_M_distance_126 ?_
                  refine lv_bipush (v := 12) hx hb d_M_distance_129 (by decide) ?_
                  refine lv_iload hx hb d_M_distance_131 (lv_at hl 2 rfl) ?_
                  refine lv_imul hx hb d_M_distance_133 ?_
                  refine z_topi (y := nI (12 * j_38)) (pk_mul 12 j_38) ?_
                  refine lv_iload hx hb d_M_distance_134 (lv_at hl 5 rfl) ?_
                  refine lv_iadd hx hb d_M_distance_136 ?_
                  refine z_topi (y := nI (12 * j_38 + i)) (nI_add (12 * j_38) i) ?_
                  refine z_iald hx hb hAI (show z_A cI _ (E 7) 384 (gv 6) from hGA 6 (by omega)) (by omega) (by decide) d_M_distance_137 ?_
                  refine lv_aload_n hx hb d_M_distance_138 rfl (lv_at hl 1 rfl) ?_
                  refine va_get (D := (dC, dI)) (ci := 4) (v := .ref (E 7)) (C := R_M) (T := T_M) (N := 23) hx hb hts in_M hown hK hE0.P 0 rfl rfl 9 (by decide) (hts _ w_549) (fun _ h9 => h9) rfl d_M_distance_139 ?_
                  refine lv_bipush (v := 12) hx hb d_M_distance_142 (by decide) ?_
                  refine lv_iload hx hb d_M_distance_144 (lv_at hl 3 rfl) ?_
                  refine lv_imul hx hb d_M_distance_146 ?_
                  refine z_topi (y := nI (12 * j_46)) (pk_mul 12 j_46) ?_
                  refine lv_iload hx hb d_M_distance_147 (lv_at hl 6 rfl) ?_
                  refine lv_iadd hx hb d_M_distance_149 ?_
                  refine z_topi (y := nI (12 * j_46 + j)) (nI_add (12 * j_46) j) ?_
                  refine z_iald hx hb hAI (show z_A cI _ (E 7) 384 (gv 6) from hGA 6 (by omega)) (by omega) (by decide) d_M_distance_150 ?_
                  refine lv_isub hx hb d_M_distance_151 ?_
                  refine lv_istore (lv' := [(10, .int (((gv 6) (12 * j_38 + i)) - ((gv 6) (12 * j_46 + j)))), (9, .int (((gv 5) (12 * j_38 + i)) - ((gv 5) (12 * j_46 + j)))), (0, .ref (E 0)), (4, .int (nI j_38)), (5, .int (nI j_46)), (6, .int b), (7, .int (nI i)), (8, .int (nI j))]) hx hb d_M_distance_152 hl (by decide) rfl (fun ls hl => ?_)
                  refine lv_iload hx hb d_M_distance_154 (lv_at hl 1 rfl) ?_
                  refine lv_iload hx hb d_M_distance_156 (lv_at hl 1 rfl) ?_
                  refine lv_imul hx hb d_M_distance_158 ?_
                  refine lv_iload hx hb d_M_distance_159 (lv_at hl 0 rfl) ?_
                  refine lv_iload hx hb d_M_distance_161 (lv_at hl 0 rfl) ?_
                  refine lv_imul hx hb d_M_distance_163 ?_
                  refine lv_iadd hx hb d_M_distance_164 ?_
                  refine lv_istore (lv' := [(11, .int (((((gv 5) (12 * j_38 + i)) - ((gv 5) (12 * j_46 + j))) * (((gv 5) (12 * j_38 + i)) - ((gv 5) (12 * j_46 + j)))) + ((((gv 6) (12 * j_38 + i)) - ((gv 6) (12 * j_46 + j))) * (((gv 6) (12 * j_38 + i)) - ((gv 6) (12 * j_46 + j)))))), (10, .int (((gv 6) (12 * j_38 + i)) - ((gv 6) (12 * j_46 + j)))), (9, .int (((gv 5) (12 * j_38 + i)) - ((gv 5) (12 * j_46 + j)))), (0, .ref (E 0)), (4, .int (nI j_38)), (5, .int (nI j_46)), (6, .int b), (7, .int (nI i)), (8, .int (nI j))]) hx hb d_M_distance_165 hl (by decide) rfl (fun ls hl => ?_)
                  refine lv_iload hx hb d_M_distance_167 (lv_at hl 6 rfl) ?_
                  refine lv_iconst (v := (-1)) hx hb d_M_distance_169 (by decide) ?_
                  refine lv_icmp_eq (tgt := 180) hx hb d_M_distance_170 (by decide) (fun c_10 => ?_) (fun c_10 => ?_)
                  · skip
                    refine lv_iload hx hb d_M_distance_180 (lv_at hl 0 rfl) ?_
                    refine lv_goto (tgt := 187) hx hb d_M_distance_182 (by decide) ?_
                    refine lv_istore (lv' := [(6, .int (((((gv 5) (12 * j_38 + i)) - ((gv 5) (12 * j_46 + j))) * (((gv 5) (12 * j_38 + i)) - ((gv 5) (12 * j_46 + j)))) + ((((gv 6) (12 * j_38 + i)) - ((gv 6) (12 * j_46 + j))) * (((gv 6) (12 * j_38 + i)) - ((gv 6) (12 * j_46 + j)))))), (11, .int (((((gv 5) (12 * j_38 + i)) - ((gv 5) (12 * j_46 + j))) * (((gv 5) (12 * j_38 + i)) - ((gv 5) (12 * j_46 + j)))) + ((((gv 6) (12 * j_38 + i)) - ((gv 6) (12 * j_46 + j))) * (((gv 6) (12 * j_38 + i)) - ((gv 6) (12 * j_46 + j)))))), (10, .int (((gv 6) (12 * j_38 + i)) - ((gv 6) (12 * j_46 + j)))), (9, .int (((gv 5) (12 * j_38 + i)) - ((gv 5) (12 * j_46 + j)))), (0, .ref (E 0)), (4, .int (nI j_38)), (5, .int (nI j_46)), (7, .int (nI i)), (8, .int (nI j))]) hx hb d_M_distance_187 hl (by decide) rfl (fun ls hl => ?_)
                    refine lv_iinc (v := nI (j + 1)) (lv' := [(8, .int (nI (j + 1))), (6, .int (((((gv 5) (12 * j_38 + i)) - ((gv 5) (12 * j_46 + j))) * (((gv 5) (12 * j_38 + i)) - ((gv 5) (12 * j_46 + j)))) + ((((gv 6) (12 * j_38 + i)) - ((gv 6) (12 * j_46 + j))) * (((gv 6) (12 * j_38 + i)) - ((gv 6) (12 * j_46 + j)))))), (11, .int (((((gv 5) (12 * j_38 + i)) - ((gv 5) (12 * j_46 + j))) * (((gv 5) (12 * j_38 + i)) - ((gv 5) (12 * j_46 + j)))) + ((((gv 6) (12 * j_38 + i)) - ((gv 6) (12 * j_46 + j))) * (((gv 6) (12 * j_38 + i)) - ((gv 6) (12 * j_46 + j)))))), (10, .int (((gv 6) (12 * j_38 + i)) - ((gv 6) (12 * j_46 + j)))), (9, .int (((gv 5) (12 * j_38 + i)) - ((gv 5) (12 * j_46 + j)))), (0, .ref (E 0)), (4, .int (nI j_38)), (5, .int (nI j_46)), (7, .int (nI i))]) hx hb d_M_distance_189 hl (k := 8) rfl (nI_1 j) (by decide) rfl (fun ls hl => ?_)
                    refine lv_goto (tgt := 84) hx hb d_M_distance_192 (by decide) ?_
                    exact ih.2 i (j + 1) (((((gv 5) (12 * j_38 + i)) - ((gv 5) (12 * j_46 + j))) * (((gv 5) (12 * j_38 + i)) - ((gv 5) (12 * j_46 + j)))) + ((((gv 6) (12 * j_38 + i)) - ((gv 6) (12 * j_46 + j))) * (((gv 6) (12 * j_38 + i)) - ((gv 6) (12 * j_46 + j))))) (by omega) (by omega) (by omega) (by rw [show cn j_46 - j = (cn j_46 - (j + 1)) + 1 by omega] at hres; simpa [pm_dj, pm_ls, pm_sq, c_9, c_10] using hres) ls (lv_sub hl [5, 6, 7, 1, 8, 0] rfl)
                  · skip
                    refine lv_iload hx hb d_M_distance_173 (lv_at hl 0 rfl) ?_
                    refine lv_iload hx hb d_M_distance_175 (lv_at hl 6 rfl) ?_
                    refine lv_icmp_ge (tgt := 185) hx hb d_M_distance_177 (by decide) (fun c_11 => ?_) (fun c_11 => ?_)
                    · skip
                      have c_11' : ¬ ((((((gv 5) (12 * j_38 + i)) - ((gv 5) (12 * j_46 + j))) * (((gv 5) (12 * j_38 + i)) - ((gv 5) (12 * j_46 + j)))) + ((((gv 6) (12 * j_38 + i)) - ((gv 6) (12 * j_46 + j))) * (((gv 6) (12 * j_38 + i)) - ((gv 6) (12 * j_46 + j))))) < b) := Int32.not_lt.mpr c_11
                      refine lv_iload hx hb d_M_distance_185 (lv_at hl 6 rfl) ?_
                      refine lv_istore (lv' := [(6, .int b), (11, .int (((((gv 5) (12 * j_38 + i)) - ((gv 5) (12 * j_46 + j))) * (((gv 5) (12 * j_38 + i)) - ((gv 5) (12 * j_46 + j)))) + ((((gv 6) (12 * j_38 + i)) - ((gv 6) (12 * j_46 + j))) * (((gv 6) (12 * j_38 + i)) - ((gv 6) (12 * j_46 + j)))))), (10, .int (((gv 6) (12 * j_38 + i)) - ((gv 6) (12 * j_46 + j)))), (9, .int (((gv 5) (12 * j_38 + i)) - ((gv 5) (12 * j_46 + j)))), (0, .ref (E 0)), (4, .int (nI j_38)), (5, .int (nI j_46)), (7, .int (nI i)), (8, .int (nI j))]) hx hb d_M_distance_187 hl (by decide) rfl (fun ls hl => ?_)
                      refine lv_iinc (v := nI (j + 1)) (lv' := [(8, .int (nI (j + 1))), (6, .int b), (11, .int (((((gv 5) (12 * j_38 + i)) - ((gv 5) (12 * j_46 + j))) * (((gv 5) (12 * j_38 + i)) - ((gv 5) (12 * j_46 + j)))) + ((((gv 6) (12 * j_38 + i)) - ((gv 6) (12 * j_46 + j))) * (((gv 6) (12 * j_38 + i)) - ((gv 6) (12 * j_46 + j)))))), (10, .int (((gv 6) (12 * j_38 + i)) - ((gv 6) (12 * j_46 + j)))), (9, .int (((gv 5) (12 * j_38 + i)) - ((gv 5) (12 * j_46 + j)))), (0, .ref (E 0)), (4, .int (nI j_38)), (5, .int (nI j_46)), (7, .int (nI i))]) hx hb d_M_distance_189 hl (k := 8) rfl (nI_1 j) (by decide) rfl (fun ls hl => ?_)
                      refine lv_goto (tgt := 84) hx hb d_M_distance_192 (by decide) ?_
                      exact ih.2 i (j + 1) b (by omega) (by omega) (by omega) (by rw [show cn j_46 - j = (cn j_46 - (j + 1)) + 1 by omega] at hres; simpa [pm_dj, pm_ls, pm_sq, c_9, c_10, c_11, c_11'] using hres) ls (lv_sub hl [5, 6, 7, 1, 8, 0] rfl)
                    · skip
                      have c_11' : (((((gv 5) (12 * j_38 + i)) - ((gv 5) (12 * j_46 + j))) * (((gv 5) (12 * j_38 + i)) - ((gv 5) (12 * j_46 + j)))) + ((((gv 6) (12 * j_38 + i)) - ((gv 6) (12 * j_46 + j))) * (((gv 6) (12 * j_38 + i)) - ((gv 6) (12 * j_46 + j))))) < b := Int32.not_le.mp c_11
                      refine lv_iload hx hb d_M_distance_180 (lv_at hl 0 rfl) ?_
                      refine lv_goto (tgt := 187) hx hb d_M_distance_182 (by decide) ?_
                      refine lv_istore (lv' := [(6, .int (((((gv 5) (12 * j_38 + i)) - ((gv 5) (12 * j_46 + j))) * (((gv 5) (12 * j_38 + i)) - ((gv 5) (12 * j_46 + j)))) + ((((gv 6) (12 * j_38 + i)) - ((gv 6) (12 * j_46 + j))) * (((gv 6) (12 * j_38 + i)) - ((gv 6) (12 * j_46 + j)))))), (11, .int (((((gv 5) (12 * j_38 + i)) - ((gv 5) (12 * j_46 + j))) * (((gv 5) (12 * j_38 + i)) - ((gv 5) (12 * j_46 + j)))) + ((((gv 6) (12 * j_38 + i)) - ((gv 6) (12 * j_46 + j))) * (((gv 6) (12 * j_38 + i)) - ((gv 6) (12 * j_46 + j)))))), (10, .int (((gv 6) (12 * j_38 + i)) - ((gv 6) (12 * j_46 + j)))), (9, .int (((gv 5) (12 * j_38 + i)) - ((gv 5) (12 * j_46 + j)))), (0, .ref (E 0)), (4, .int (nI j_38)), (5, .int (nI j_46)), (7, .int (nI i)), (8, .int (nI j))]) hx hb d_M_distance_187 hl (by decide) rfl (fun ls hl => ?_)
                      refine lv_iinc (v := nI (j + 1)) (lv' := [(8, .int (nI (j + 1))), (6, .int (((((gv 5) (12 * j_38 + i)) - ((gv 5) (12 * j_46 + j))) * (((gv 5) (12 * j_38 + i)) - ((gv 5) (12 * j_46 + j)))) + ((((gv 6) (12 * j_38 + i)) - ((gv 6) (12 * j_46 + j))) * (((gv 6) (12 * j_38 + i)) - ((gv 6) (12 * j_46 + j)))))), (11, .int (((((gv 5) (12 * j_38 + i)) - ((gv 5) (12 * j_46 + j))) * (((gv 5) (12 * j_38 + i)) - ((gv 5) (12 * j_46 + j)))) + ((((gv 6) (12 * j_38 + i)) - ((gv 6) (12 * j_46 + j))) * (((gv 6) (12 * j_38 + i)) - ((gv 6) (12 * j_46 + j)))))), (10, .int (((gv 6) (12 * j_38 + i)) - ((gv 6) (12 * j_46 + j)))), (9, .int (((gv 5) (12 * j_38 + i)) - ((gv 5) (12 * j_46 + j)))), (0, .ref (E 0)), (4, .int (nI j_38)), (5, .int (nI j_46)), (7, .int (nI i))]) hx hb d_M_distance_189 hl (k := 8) rfl (nI_1 j) (by decide) rfl (fun ls hl => ?_)
                      refine lv_goto (tgt := 84) hx hb d_M_distance_192 (by decide) ?_
                      exact ih.2 i (j + 1) (((((gv 5) (12 * j_38 + i)) - ((gv 5) (12 * j_46 + j))) * (((gv 5) (12 * j_38 + i)) - ((gv 5) (12 * j_46 + j)))) + ((((gv 6) (12 * j_38 + i)) - ((gv 6) (12 * j_46 + j))) * (((gv 6) (12 * j_38 + i)) - ((gv 6) (12 * j_46 + j))))) (by omega) (by omega) (by omega) (by rw [show cn j_46 - j = (cn j_46 - (j + 1)) + 1 by omega] at hres; simpa [pm_dj, pm_ls, pm_sq, c_9, c_10, c_11, c_11'] using hres) ls (lv_sub hl [5, 6, 7, 1, 8, 0] rfl)
          exact (loops (((cn j_38 - 0) * 20 + 19) + 1)).1 0 (-1) (by omega) (by omega) (by rfl) ls (lv_sub hl [4, 3, 2, 1, 0] rfl)
    · skip
      exact absurd c_1 (by decide)
  refine lv_aload_n hx hb d_M_distance_0 rfl (lv_at hl 0 rfl) ?_
  refine lv_aload_n hx hb d_M_distance_1 rfl (lv_at hl 0 rfl) ?_
  refine lv_iload_n hx hb d_M_distance_2 rfl (lv_at hl 1 rfl) ?_
  refine z_rdV (n := 1) (C := R_M) (rest := [.ref (E 0)]) ⟨hx, hb, hml, hown, hts⟩ hW0 (c_M_isPlace G E th mp ms mc mn mm gv x0) w_621 w_618 w_620 wp_18 w_4 (by decide +kernel) ⟨rfl, rfl, Nat.le_of_ble_eq_true rfl, Nat.le_of_ble_eq_true rfl⟩ (hE0.recv hK rfl) (hB) rfl rfl hl.1 (Nat.le_of_ble_eq_true rfl) d_M_distance_3 ⟨Nat.zero_le _, Nat.zero_le _⟩ ?_
  refine lv_if_eq (tgt := 21) hx hb d_M_distance_6 (by decide) (fun c_12 => ?_) (fun c_12 => ?_)
  · skip
    have c_12 : (pm_idx mp x0) = false := pi_b_0.mp c_12
    refine lv_iconst (v := 0) hx hb d_M_distance_21 (by decide) ?_
    refine lv_iload_n hx hb d_M_distance_22 rfl (lv_at hl 3 rfl) ?_
    refine z_rdS (n := 1) (rest := [.int 0, .ref (E 0)]) ⟨hx, hb, hml, hown, hts⟩ hW0 (c_M_isDay G d) w_632 w_630 w_631 w_4 (by decide +kernel) ⟨rfl, rfl, Nat.le_of_ble_eq_true rfl, Nat.le_of_ble_eq_true rfl⟩ (trivial) rfl rfl hl.1 (Nat.le_of_ble_eq_true rfl) d_M_distance_23 ⟨Nat.zero_le _, Nat.zero_le _⟩ ?_
    refine lv_iconst (v := 1) hx hb d_M_distance_26 (by decide) ?_
    refine z_g3 (w1 := pi_b (pm_idx mp x0 && pm_idx mp x1)) (w2 := pi_b (pm_day d)) (w3 := pi_b true) (rfl) (rfl) (by simp [pi_b, c_12]) ?_
    exact tail ls (lv_sub hl [0, 1, 2, 3] rfl)
  · skip
    have c_12 : (pm_idx mp x0) = true := pi_b_1.mp c_12
    refine lv_aload_n hx hb d_M_distance_9 rfl (lv_at hl 0 rfl) ?_
    refine lv_iload_n hx hb d_M_distance_10 rfl (lv_at hl 2 rfl) ?_
    refine z_rdV (n := 1) (C := R_M) (rest := [.ref (E 0)]) ⟨hx, hb, hml, hown, hts⟩ hW0 (c_M_isPlace G E th mp ms mc mn mm gv x1) w_621 w_618 w_620 wp_18 w_4 (by decide +kernel) ⟨rfl, rfl, Nat.le_of_ble_eq_true rfl, Nat.le_of_ble_eq_true rfl⟩ (hE0.recv hK rfl) (hB) rfl rfl hl.1 (Nat.le_of_ble_eq_true rfl) d_M_distance_11 ⟨Nat.zero_le _, Nat.zero_le _⟩ ?_
    refine lv_if_eq (tgt := 21) hx hb d_M_distance_14 (by decide) (fun c_13 => ?_) (fun c_13 => ?_)
    · skip
      have c_13 : (pm_idx mp x1) = false := pi_b_0.mp c_13
      refine lv_iconst (v := 0) hx hb d_M_distance_21 (by decide) ?_
      refine lv_iload_n hx hb d_M_distance_22 rfl (lv_at hl 3 rfl) ?_
      refine z_rdS (n := 1) (rest := [.int 0, .ref (E 0)]) ⟨hx, hb, hml, hown, hts⟩ hW0 (c_M_isDay G d) w_632 w_630 w_631 w_4 (by decide +kernel) ⟨rfl, rfl, Nat.le_of_ble_eq_true rfl, Nat.le_of_ble_eq_true rfl⟩ (trivial) rfl rfl hl.1 (Nat.le_of_ble_eq_true rfl) d_M_distance_23 ⟨Nat.zero_le _, Nat.zero_le _⟩ ?_
      refine lv_iconst (v := 1) hx hb d_M_distance_26 (by decide) ?_
      refine z_g3 (w1 := pi_b (pm_idx mp x0 && pm_idx mp x1)) (w2 := pi_b (pm_day d)) (w3 := pi_b true) (rfl) (rfl) (by simp [pi_b, c_12, c_13]) ?_
      exact tail ls (lv_sub hl [0, 1, 2, 3] rfl)
    · skip
      have c_13 : (pm_idx mp x1) = true := pi_b_1.mp c_13
      refine lv_iconst (v := 1) hx hb d_M_distance_17 (by decide) ?_
      refine lv_goto (tgt := 22) hx hb d_M_distance_18 (by decide) ?_
      refine lv_iload_n hx hb d_M_distance_22 rfl (lv_at hl 3 rfl) ?_
      refine z_rdS (n := 1) (rest := [.int 1, .ref (E 0)]) ⟨hx, hb, hml, hown, hts⟩ hW0 (c_M_isDay G d) w_632 w_630 w_631 w_4 (by decide +kernel) ⟨rfl, rfl, Nat.le_of_ble_eq_true rfl, Nat.le_of_ble_eq_true rfl⟩ (trivial) rfl rfl hl.1 (Nat.le_of_ble_eq_true rfl) d_M_distance_23 ⟨Nat.zero_le _, Nat.zero_le _⟩ ?_
      refine lv_iconst (v := 1) hx hb d_M_distance_26 (by decide) ?_
      refine z_g3 (w1 := pi_b (pm_idx mp x0 && pm_idx mp x1)) (w2 := pi_b (pm_day d)) (w3 := pi_b true) (rfl) (rfl) (by simp [pi_b, c_12, c_13]) ?_
      exact tail ls (lv_sub hl [0, 1, 2, 3] rfl)
set_option maxRecDepth 100000 in
set_option maxHeartbeats 4000000 in
theorem c_M_nameOn_no (G : z_G s0 (dC, dI) cI cS) (E : Nat → Nat) (th : Int32) (mp ms mc mn mm : Nat) (gv : Nat → Nat → Int32) (sz : Nat) (x0 d : Int32) (hg : ((pm_idx mp x0) && ((pm_day d) && true)) = false) : Met l y_M_nameOn [Cond.code y_M_nameOn b_M_nameOn 5 (some .int)] ({ frames := 1, cells := 0, slots := 0, locals := 23 }) (z_Pc s0 [.ref (E 0), .int x0, .int d] (fun H => H.size = sz ∧ z_Md (dC, dI) cI H E th mp ms mc mn mm gv)) (z_Qw (fun r H => r = some (.int 0) ∧ z_Md (dC, dI) cI H E (pm_th (pm_idx mp x0) (pm_day d) true) mp ms mc mn mm gv) (z_fr (z_mF E) sz)) 0 0 (z_fr (z_mF E) sz) := by
  refine z_ofW (by decide +kernel) (Nat.le_of_ble_eq_true rfl) ?_
  intro p e s m below meth c hx hb hml hr hown hlocks hnm hW0 hB ls hl
  have hts := z_hts (args := [.ref (E 0), .int x0, .int d].toArray) G.1 hW0
  have hN := z_nstW G.2.1 hW0
  have hK := va_K.moved hW0.alike G.2.2.1
  have hAI := arrOfT_moved hW0.alike G.2.2.2.1
  have hl : lv_has ls 5 [(0, .ref (E 0)), (1, .int x0), (2, .int d)] := hl
  obtain ⟨rfl, hB⟩ := hB
  have hS : va_S (z_fr (z_mF E) s.heap.size) s.heap s.heap [] := va_S.rf
  obtain ⟨⟨hE0, hGA⟩, hEi, ⟨hmp, hms, hmn, hmm, hmc⟩⟩ := id hB
  have tail : ∀ ls : Array Slot, lv_has ls 5 [(0, .ref (E 0)), (1, .int x0), (2, .int d)] → W p l e ({ frames := 1, cells := 0, slots := 0, locals := 23 }) s m [.ref (E 0), .int x0, .int d].toArray below meth c s.heap [] 0 0 (MQ below (z_Qw (fun r H => r = some (.int 0) ∧ z_Md (dC, dI) cI H E (pm_th (pm_idx mp x0) (pm_day d) true) mp ms mc mn mm gv) (z_fr (z_mF E) s.heap.size)) [.ref (E 0), .int x0, .int d].toArray s 0 0 (z_fr (z_mF E) s.heap.size)) (F0 m 11 ls [.int (pi_b true), .int (pi_b (pm_day d)), .int (pi_b (pm_idx mp x0)), .ref (E 0)]) := by
    intro ls hl
    refine z_wrV (n := 3) (C := R_M) (rest := []) ⟨hx, hb, hml, hown, hts⟩ hW0 (c_M_goes G E th mp ms mc mn mm gv _ (pm_idx mp x0) (pm_day d) true) w_625 w_622 w_624 wp_19 w_4 (by decide +kernel) ⟨rfl, rfl, Nat.le_of_ble_eq_true rfl, Nat.le_of_ble_eq_true rfl⟩ (hE0.recv hK rfl) ⟨rfl, hB⟩ rfl rfl hl.1 (Nat.le_of_ble_eq_true rfl) d_M_nameOn_11 ⟨Nat.le_of_ble_eq_true rfl, Nat.le_of_ble_eq_true rfl⟩ hS (fun q h => h.elim Or.inl (fun h => Or.inr (Nat.le_trans hS.1 h))) (fun H1 locs1 hB hz1 hk1 hS => ?_)
    obtain ⟨⟨hE0, hGA⟩, hEi, ⟨hmp, hms, hmn, hmm, hmc⟩⟩ := id hB
    refine z_topi (y := 0) (by rw [hg]; rfl) ?_
    refine lv_if_ne (tgt := 19) hx hb d_M_nameOn_14 (by decide) (fun c_1 => ?_) (fun c_1 => ?_)
    · skip
      exact absurd (by decide) c_1
    · skip
      refine lv_iconst (v := 0) hx hb d_M_nameOn_17 (by decide) ?_
      exact z_wi hx hb hr hlocks (⟨rfl, hB⟩) hS d_M_nameOn_18
  refine lv_aload_n hx hb d_M_nameOn_0 rfl (lv_at hl 0 rfl) ?_
  refine lv_aload_n hx hb d_M_nameOn_1 rfl (lv_at hl 0 rfl) ?_
  refine lv_iload_n hx hb d_M_nameOn_2 rfl (lv_at hl 1 rfl) ?_
  refine z_rdV (n := 1) (C := R_M) (rest := [.ref (E 0)]) ⟨hx, hb, hml, hown, hts⟩ hW0 (c_M_isPlace G E th mp ms mc mn mm gv x0) w_621 w_618 w_620 wp_18 w_4 (by decide +kernel) ⟨rfl, rfl, Nat.le_of_ble_eq_true rfl, Nat.le_of_ble_eq_true rfl⟩ (hE0.recv hK rfl) (hB) rfl rfl hl.1 (Nat.le_of_ble_eq_true rfl) d_M_nameOn_3 ⟨Nat.zero_le _, Nat.zero_le _⟩ ?_
  refine lv_iload_n hx hb d_M_nameOn_6 rfl (lv_at hl 2 rfl) ?_
  refine z_rdS (n := 1) (rest := [.int (pi_b (pm_idx mp x0)), .ref (E 0)]) ⟨hx, hb, hml, hown, hts⟩ hW0 (c_M_isDay G d) w_632 w_630 w_631 w_4 (by decide +kernel) ⟨rfl, rfl, Nat.le_of_ble_eq_true rfl, Nat.le_of_ble_eq_true rfl⟩ (trivial) rfl rfl hl.1 (Nat.le_of_ble_eq_true rfl) d_M_nameOn_7 ⟨Nat.zero_le _, Nat.zero_le _⟩ ?_
  refine lv_iconst (v := 1) hx hb d_M_nameOn_10 (by decide) ?_
  refine z_g3 (w1 := pi_b (pm_idx mp x0)) (w2 := pi_b (pm_day d)) (w3 := pi_b true) (rfl) (rfl) (rfl) ?_
  exact tail ls (lv_sub hl [0, 1, 2] rfl)
set_option maxRecDepth 100000 in
set_option maxHeartbeats 4000000 in
theorem c_M_nameOn_ok (G : z_G s0 (dC, dI) cI cS) (E : Nat → Nat) (th : Int32) (mp ms mc mn mm : Nat) (gv : Nat → Nat → Int32) (sz : Nat) (x0 d : Int32) (hg : ((pm_idx mp x0) && ((pm_day d) && true)) = true) : Met l y_M_nameOn [Cond.code y_M_nameOn b_M_nameOn 5 (some .int)] ({ frames := 1, cells := 0, slots := 0, locals := 23 }) (z_Pc s0 [.ref (E 0), .int x0, .int d] (fun H => H.size = sz ∧ z_Md (dC, dI) cI H E th mp ms mc mn mm gv)) (z_Qw (fun r H => r = some (.int (pm_nm gv x0 d mn 0 (-1))) ∧ z_Md (dC, dI) cI H E 0 mp ms mc mn mm gv) (z_fr (z_mF E) sz)) 0 0 (z_fr (z_mF E) sz) := by
  refine z_ofW (by decide +kernel) (Nat.le_of_ble_eq_true rfl) ?_
  intro p e s m below meth c hx hb hml hr hown hlocks hnm hW0 hB ls hl
  have hts := z_hts (args := [.ref (E 0), .int x0, .int d].toArray) G.1 hW0
  have hN := z_nstW G.2.1 hW0
  have hK := va_K.moved hW0.alike G.2.2.1
  have hAI := arrOfT_moved hW0.alike G.2.2.2.1
  have hl : lv_has ls 5 [(0, .ref (E 0)), (1, .int x0), (2, .int d)] := hl
  obtain ⟨rfl, hB⟩ := hB
  have hS : va_S (z_fr (z_mF E) s.heap.size) s.heap s.heap [] := va_S.rf
  obtain ⟨⟨hE0, hGA⟩, hEi, ⟨hmp, hms, hmn, hmm, hmc⟩⟩ := id hB
  have tail : ∀ ls : Array Slot, lv_has ls 5 [(0, .ref (E 0)), (1, .int x0), (2, .int d)] → W p l e ({ frames := 1, cells := 0, slots := 0, locals := 23 }) s m [.ref (E 0), .int x0, .int d].toArray below meth c s.heap [] 0 0 (MQ below (z_Qw (fun r H => r = some (.int (pm_nm gv x0 d mn 0 (-1))) ∧ z_Md (dC, dI) cI H E 0 mp ms mc mn mm gv) (z_fr (z_mF E) s.heap.size)) [.ref (E 0), .int x0, .int d].toArray s 0 0 (z_fr (z_mF E) s.heap.size)) (F0 m 11 ls [.int (pi_b true), .int (pi_b (pm_day d)), .int (pi_b (pm_idx mp x0)), .ref (E 0)]) := by
    intro ls hl
    refine z_wrV (n := 3) (C := R_M) (rest := []) ⟨hx, hb, hml, hown, hts⟩ hW0 (c_M_goes G E th mp ms mc mn mm gv _ (pm_idx mp x0) (pm_day d) true) w_625 w_622 w_624 wp_19 w_4 (by decide +kernel) ⟨rfl, rfl, Nat.le_of_ble_eq_true rfl, Nat.le_of_ble_eq_true rfl⟩ (hE0.recv hK rfl) ⟨rfl, hB⟩ rfl rfl hl.1 (Nat.le_of_ble_eq_true rfl) d_M_nameOn_11 ⟨Nat.le_of_ble_eq_true rfl, Nat.le_of_ble_eq_true rfl⟩ hS (fun q h => h.elim Or.inl (fun h => Or.inr (Nat.le_trans hS.1 h))) (fun H1 locs1 hB hz1 hk1 hS => ?_)
    obtain ⟨⟨hE0, hGA⟩, hEi, ⟨hmp, hms, hmn, hmm, hmc⟩⟩ := id hB
    refine z_topi (y := 1) (by rw [hg]; rfl) ?_
    rw [pm_th_ok hg] at hB
    obtain ⟨⟨hE0, hGA⟩, hEi, ⟨hmp, hms, hmn, hmm, hmc⟩⟩ := id hB
    refine lv_if_ne (tgt := 19) hx hb d_M_nameOn_14 (by decide) (fun c_1 => ?_) (fun c_1 => ?_)
    · skip
      refine lv_iconst (v := (-1)) hx hb d_M_nameOn_19 (by decide) ?_
      refine lv_istore_n (lv' := [(3, .int (-1)), (0, .ref (E 0)), (1, .int x0), (2, .int d)]) hx hb d_M_nameOn_20 rfl hl (by decide) rfl (fun ls hl => ?_)
      refine lv_iconst (v := 0) hx hb d_M_nameOn_21 (by decide) ?_
      refine lv_istore (lv' := [(4, .int 0), (3, .int (-1)), (0, .ref (E 0)), (1, .int x0), (2, .int d)]) hx hb d_M_nameOn_22 hl (by decide) rfl (fun ls hl => ?_)
      have loops : ∀ f : Nat, (∀ (k : Nat) (n : Int32), mn - k < f → (k ≤ mn) → (pm_nm gv x0 d (mn - k) k n = pm_nm gv x0 d mn 0 (-1)) → ∀ ls : Array Slot, lv_has ls 5 [(0, .ref (E 0)), (1, .int x0), (2, .int d), (3, .int n), (4, .int (nI k))] → W p l e ({ frames := 1, cells := 0, slots := 0, locals := 23 }) s m [.ref (E 0), .int x0, .int d].toArray below meth c H1 locs1 0 0 (MQ below (z_Qw (fun r H => r = some (.int (pm_nm gv x0 d mn 0 (-1))) ∧ z_Md (dC, dI) cI H E 0 mp ms mc mn mm gv) (z_fr (z_mF E) s.heap.size)) [.ref (E 0), .int x0, .int d].toArray s 0 0 (z_fr (z_mF E) s.heap.size)) (F0 m 24 ls [])) := by
        intro f
        induction f with
        | zero => exact fun _ _ h => absurd h (Nat.not_lt_zero _)
        | succ f ih =>
          intro k n hmu hk hres ls hl
          refine lv_iload hx hb d_M_nameOn_24 (lv_at hl 4 rfl) ?_
          refine lv_aload_n hx hb d_M_nameOn_26 rfl (lv_at hl 0 rfl) ?_
          refine va_get (D := (dC, dI)) (ci := 4) (v := .int (nI mn)) (C := R_M) (T := T_M) (N := 23) hx hb hts in_M hown hK hE0.P 0 rfl rfl 13 (by decide) (hts _ w_553) (fun _ h9 => h9) rfl d_M_nameOn_27 ?_
          refine lv_icmp_ge (tgt := 84) hx hb d_M_nameOn_30 (by decide) (fun c_2 => ?_) (fun c_2 => ?_)
          · skip
            have c_2 : mn ≤ k := (nI_leI (a := mn) (b := k) (by omega) (by omega)).mp c_2
            refine lv_iload_n hx hb d_M_nameOn_84 rfl (lv_at hl 3 rfl) ?_
            exact z_wi hx hb hr hlocks (⟨by rw [show mn - k = 0 by omega] at hres; simp only [pm_nm] at hres; rw [← hres], hB⟩) hS d_M_nameOn_85
          · skip
            have c_2 : ¬ (mn ≤ k) := fun h => c_2 ((nI_leI (a := mn) (b := k) (by omega) (by omega)).mpr h)
            refine lv_aload_n hx hb d_M_nameOn_33 rfl (lv_at hl 0 rfl) ?_
            refine va_get (D := (dC, dI)) (ci := 4) (v := .ref (E 10)) (C := R_M) (T := T_M) (N := 23) hx hb hts in_M hown hK hE0.P 0 rfl rfl 14 (by decide) (hts _ w_554) (fun _ h9 => h9) rfl d_M_nameOn_34 ?_
            refine lv_iload hx hb d_M_nameOn_37 (lv_at hl 4 rfl) ?_
            refine z_iald hx hb hAI (show z_A cI _ (E 10) 40 (gv 9) from hGA 9 (by omega)) (by omega) (by decide) d_M_nameOn_39 ?_
            refine lv_iload_n hx hb d_M_nameOn_40 rfl (lv_at hl 1 rfl) ?_
            refine lv_icmp_ne (tgt := 76) hx hb d_M_nameOn_41 (by decide) (fun c_3 => ?_) (fun c_3 => ?_)
            · skip
              refine lv_iload_n hx hb d_M_nameOn_76 rfl (lv_at hl 3 rfl) ?_
              refine lv_istore_n (lv' := [(3, .int n), (0, .ref (E 0)), (1, .int x0), (2, .int d), (4, .int (nI k))]) hx hb d_M_nameOn_77 rfl hl (by decide) rfl (fun ls hl => ?_)
              refine lv_iinc (v := nI (k + 1)) (lv' := [(4, .int (nI (k + 1))), (3, .int n), (0, .ref (E 0)), (1, .int x0), (2, .int d)]) hx hb d_M_nameOn_78 hl (k := 4) rfl (nI_1 k) (by decide) rfl (fun ls hl => ?_)
              refine lv_goto (tgt := 24) hx hb d_M_nameOn_81 (by decide) ?_
              exact ih (k + 1) n (by omega) (by omega) (by rw [show mn - k = (mn - (k + 1)) + 1 by omega] at hres; simpa [pm_nm, c_2, c_3] using hres) ls (lv_sub hl [2, 3, 4, 1, 0] rfl)
            · skip
              refine lv_aload_n hx hb d_M_nameOn_44 rfl (lv_at hl 0 rfl) ?_
              refine va_get (D := (dC, dI)) (ci := 4) (v := .ref (E 12)) (C := R_M) (T := T_M) (N := 23) hx hb hts in_M hown hK hE0.P 0 rfl rfl 16 (by decide) (hts _ w_556) (fun _ h9 => h9) rfl d_M_nameOn_45 ?_
              refine lv_iload hx hb d_M_nameOn_48 (lv_at hl 4 rfl) ?_
              refine z_iald hx hb hAI (show z_A cI _ (E 12) 40 (gv 11) from hGA 11 (by omega)) (by omega) (by decide) d_M_nameOn_50 ?_
              refine lv_iload_n hx hb d_M_nameOn_51 rfl (lv_at hl 2 rfl) ?_
              refine lv_icmp_gt (tgt := 76) hx hb d_M_nameOn_52 (by decide) (fun c_4 => ?_) (fun c_4 => ?_)
              · skip
                have c_4' : ¬ (((gv 11) k) ≤ d) := Int32.not_le.mpr c_4
                refine lv_iload_n hx hb d_M_nameOn_76 rfl (lv_at hl 3 rfl) ?_
                refine lv_istore_n (lv' := [(3, .int n), (0, .ref (E 0)), (1, .int x0), (2, .int d), (4, .int (nI k))]) hx hb d_M_nameOn_77 rfl hl (by decide) rfl (fun ls hl => ?_)
                refine lv_iinc (v := nI (k + 1)) (lv' := [(4, .int (nI (k + 1))), (3, .int n), (0, .ref (E 0)), (1, .int x0), (2, .int d)]) hx hb d_M_nameOn_78 hl (k := 4) rfl (nI_1 k) (by decide) rfl (fun ls hl => ?_)
                refine lv_goto (tgt := 24) hx hb d_M_nameOn_81 (by decide) ?_
                exact ih (k + 1) n (by omega) (by omega) (by rw [show mn - k = (mn - (k + 1)) + 1 by omega] at hres; simpa [pm_nm, c_2, c_3, c_4, c_4'] using hres) ls (lv_sub hl [2, 3, 4, 1, 0] rfl)
              · skip
                have c_4' : ((gv 11) k) ≤ d := Int32.not_lt.mp c_4
                refine lv_iload_n hx hb d_M_nameOn_55 rfl (lv_at hl 2 rfl) ?_
                refine lv_aload_n hx hb d_M_nameOn_56 rfl (lv_at hl 0 rfl) ?_
                refine va_get (D := (dC, dI)) (ci := 4) (v := .ref (E 13)) (C := R_M) (T := T_M) (N := 23) hx hb hts in_M hown hK hE0.P 0 rfl rfl 17 (by decide) (hts _ w_557) (fun _ h9 => h9) rfl d_M_nameOn_57 ?_
                refine lv_iload hx hb d_M_nameOn_60 (lv_at hl 4 rfl) ?_
                refine z_iald hx hb hAI (show z_A cI _ (E 13) 40 (gv 12) from hGA 12 (by omega)) (by omega) (by decide) d_M_nameOn_62 ?_
                refine lv_icmp_gt (tgt := 76) hx hb d_M_nameOn_63 (by decide) (fun c_5 => ?_) (fun c_5 => ?_)
                · skip
                  have c_5' : ¬ (d ≤ ((gv 12) k)) := Int32.not_le.mpr c_5
                  refine lv_iload_n hx hb d_M_nameOn_76 rfl (lv_at hl 3 rfl) ?_
                  refine lv_istore_n (lv' := [(3, .int n), (0, .ref (E 0)), (1, .int x0), (2, .int d), (4, .int (nI k))]) hx hb d_M_nameOn_77 rfl hl (by decide) rfl (fun ls hl => ?_)
                  refine lv_iinc (v := nI (k + 1)) (lv' := [(4, .int (nI (k + 1))), (3, .int n), (0, .ref (E 0)), (1, .int x0), (2, .int d)]) hx hb d_M_nameOn_78 hl (k := 4) rfl (nI_1 k) (by decide) rfl (fun ls hl => ?_)
                  refine lv_goto (tgt := 24) hx hb d_M_nameOn_81 (by decide) ?_
                  exact ih (k + 1) n (by omega) (by omega) (by rw [show mn - k = (mn - (k + 1)) + 1 by omega] at hres; simpa [pm_nm, c_2, c_3, c_4, c_4', c_5, c_5'] using hres) ls (lv_sub hl [2, 3, 4, 1, 0] rfl)
                · skip
                  have c_5' : d ≤ ((gv 12) k) := Int32.not_lt.mp c_5
                  refine lv_aload_n hx hb d_M_nameOn_66 rfl (lv_at hl 0 rfl) ?_
                  refine va_get (D := (dC, dI)) (ci := 4) (v := .ref (E 11)) (C := R_M) (T := T_M) (N := 23) hx hb hts in_M hown hK hE0.P 0 rfl rfl 15 (by decide) (hts _ w_555) (fun _ h9 => h9) rfl d_M_nameOn_67 ?_
                  refine lv_iload hx hb d_M_nameOn_70 (lv_at hl 4 rfl) ?_
                  refine z_iald hx hb hAI (show z_A cI _ (E 11) 40 (gv 10) from hGA 10 (by omega)) (by omega) (by decide) d_M_nameOn_72 ?_
                  refine lv_goto (tgt := 77) hx hb d_M_nameOn_73 (by decide) ?_
                  refine lv_istore_n (lv' := [(3, .int ((gv 10) k)), (0, .ref (E 0)), (1, .int x0), (2, .int d), (4, .int (nI k))]) hx hb d_M_nameOn_77 rfl hl (by decide) rfl (fun ls hl => ?_)
                  refine lv_iinc (v := nI (k + 1)) (lv' := [(4, .int (nI (k + 1))), (3, .int ((gv 10) k)), (0, .ref (E 0)), (1, .int x0), (2, .int d)]) hx hb d_M_nameOn_78 hl (k := 4) rfl (nI_1 k) (by decide) rfl (fun ls hl => ?_)
                  refine lv_goto (tgt := 24) hx hb d_M_nameOn_81 (by decide) ?_
                  exact ih (k + 1) ((gv 10) k) (by omega) (by omega) (by rw [show mn - k = (mn - (k + 1)) + 1 by omega] at hres; simpa [pm_nm, c_2, c_3, c_4, c_4', c_5, c_5'] using hres) ls (lv_sub hl [2, 3, 4, 1, 0] rfl)
      exact (loops ((mn - 0) + 1)) 0 (-1) (by omega) (by omega) (by rfl) ls (lv_sub hl [2, 3, 4, 1, 0] rfl)
    · skip
      exact absurd c_1 (by decide)
  refine lv_aload_n hx hb d_M_nameOn_0 rfl (lv_at hl 0 rfl) ?_
  refine lv_aload_n hx hb d_M_nameOn_1 rfl (lv_at hl 0 rfl) ?_
  refine lv_iload_n hx hb d_M_nameOn_2 rfl (lv_at hl 1 rfl) ?_
  refine z_rdV (n := 1) (C := R_M) (rest := [.ref (E 0)]) ⟨hx, hb, hml, hown, hts⟩ hW0 (c_M_isPlace G E th mp ms mc mn mm gv x0) w_621 w_618 w_620 wp_18 w_4 (by decide +kernel) ⟨rfl, rfl, Nat.le_of_ble_eq_true rfl, Nat.le_of_ble_eq_true rfl⟩ (hE0.recv hK rfl) (hB) rfl rfl hl.1 (Nat.le_of_ble_eq_true rfl) d_M_nameOn_3 ⟨Nat.zero_le _, Nat.zero_le _⟩ ?_
  refine lv_iload_n hx hb d_M_nameOn_6 rfl (lv_at hl 2 rfl) ?_
  refine z_rdS (n := 1) (rest := [.int (pi_b (pm_idx mp x0)), .ref (E 0)]) ⟨hx, hb, hml, hown, hts⟩ hW0 (c_M_isDay G d) w_632 w_630 w_631 w_4 (by decide +kernel) ⟨rfl, rfl, Nat.le_of_ble_eq_true rfl, Nat.le_of_ble_eq_true rfl⟩ (trivial) rfl rfl hl.1 (Nat.le_of_ble_eq_true rfl) d_M_nameOn_7 ⟨Nat.zero_le _, Nat.zero_le _⟩ ?_
  refine lv_iconst (v := 1) hx hb d_M_nameOn_10 (by decide) ?_
  refine z_g3 (w1 := pi_b (pm_idx mp x0)) (w2 := pi_b (pm_day d)) (w3 := pi_b true) (rfl) (rfl) (rfl) ?_
  exact tail ls (lv_sub hl [0, 1, 2] rfl)
set_option maxRecDepth 100000 in
set_option maxHeartbeats 4000000 in
theorem c_M_masked_no (G : z_G s0 (dC, dI) cI cS) (E : Nat → Nat) (th : Int32) (mp ms mc mn mm : Nat) (gv : Nat → Nat → Int32) (sz : Nat) (x y z a0 : Int32) (hg : ((decide (a0 = 0) || decide (a0 = 1)) && ((pm_pt x y && (decide (1 ≤ z) && decide (z ≤ 10000))) && true)) = false) : Met l y_M_masked [Cond.code y_M_masked b_M_masked 7 (some .int)] ({ frames := 1, cells := 0, slots := 0, locals := 23 }) (z_Pc s0 [.ref (E 0), .int x, .int y, .int z, .int a0] (fun H => H.size = sz ∧ z_Md (dC, dI) cI H E th mp ms mc mn mm gv)) (z_Qw (fun r H => r = some (.int 0) ∧ z_Md (dC, dI) cI H E (pm_th (decide (a0 = 0) || decide (a0 = 1)) (pm_pt x y && (decide (1 ≤ z) && decide (z ≤ 10000))) true) mp ms mc mn mm gv) (z_fr (z_mF E) sz)) 0 0 (z_fr (z_mF E) sz) := by
  refine z_ofW (by decide +kernel) (Nat.le_of_ble_eq_true rfl) ?_
  intro p e s m below meth c hx hb hml hr hown hlocks hnm hW0 hB ls hl
  have hts := z_hts (args := [.ref (E 0), .int x, .int y, .int z, .int a0].toArray) G.1 hW0
  have hN := z_nstW G.2.1 hW0
  have hK := va_K.moved hW0.alike G.2.2.1
  have hAI := arrOfT_moved hW0.alike G.2.2.2.1
  have hl : lv_has ls 7 [(0, .ref (E 0)), (1, .int x), (2, .int y), (3, .int z), (4, .int a0)] := hl
  obtain ⟨rfl, hB⟩ := hB
  have hS : va_S (z_fr (z_mF E) s.heap.size) s.heap s.heap [] := va_S.rf
  obtain ⟨⟨hE0, hGA⟩, hEi, ⟨hmp, hms, hmn, hmm, hmc⟩⟩ := id hB
  have tail : ∀ ls : Array Slot, lv_has ls 7 [(0, .ref (E 0)), (1, .int x), (2, .int y), (3, .int z), (4, .int a0)] → W p l e ({ frames := 1, cells := 0, slots := 0, locals := 23 }) s m [.ref (E 0), .int x, .int y, .int z, .int a0].toArray below meth c s.heap [] 0 0 (MQ below (z_Qw (fun r H => r = some (.int 0) ∧ z_Md (dC, dI) cI H E (pm_th (decide (a0 = 0) || decide (a0 = 1)) (pm_pt x y && (decide (1 ≤ z) && decide (z ≤ 10000))) true) mp ms mc mn mm gv) (z_fr (z_mF E) s.heap.size)) [.ref (E 0), .int x, .int y, .int z, .int a0].toArray s 0 0 (z_fr (z_mF E) s.heap.size)) (F0 m 43 ls [.int (pi_b true), .int (pi_b (pm_pt x y && (decide (1 ≤ z) && decide (z ≤ 10000)))), .int (pi_b (decide (a0 = 0) || decide (a0 = 1))), .ref (E 0)]) := by
    intro ls hl
    refine z_wrV (n := 3) (C := R_M) (rest := []) ⟨hx, hb, hml, hown, hts⟩ hW0 (c_M_goes G E th mp ms mc mn mm gv _ (decide (a0 = 0) || decide (a0 = 1)) (pm_pt x y && (decide (1 ≤ z) && decide (z ≤ 10000))) true) w_625 w_622 w_624 wp_19 w_4 (by decide +kernel) ⟨rfl, rfl, Nat.le_of_ble_eq_true rfl, Nat.le_of_ble_eq_true rfl⟩ (hE0.recv hK rfl) ⟨rfl, hB⟩ rfl rfl hl.1 (Nat.le_of_ble_eq_true rfl) d_M_masked_43 ⟨Nat.le_of_ble_eq_true rfl, Nat.le_of_ble_eq_true rfl⟩ hS (fun q h => h.elim Or.inl (fun h => Or.inr (Nat.le_trans hS.1 h))) (fun H1 locs1 hB hz1 hk1 hS => ?_)
    obtain ⟨⟨hE0, hGA⟩, hEi, ⟨hmp, hms, hmn, hmm, hmc⟩⟩ := id hB
    refine z_topi (y := 0) (by rw [hg]; rfl) ?_
    refine lv_if_ne (tgt := 51) hx hb d_M_masked_46 (by decide) (fun c_1 => ?_) (fun c_1 => ?_)
    · skip
      exact absurd (by decide) c_1
    · skip
      refine lv_iconst (v := 0) hx hb d_M_masked_49 (by decide) ?_
      exact z_wi hx hb hr hlocks (⟨rfl, hB⟩) hS d_M_masked_50
  refine lv_aload_n hx hb d_M_masked_0 rfl (lv_at hl 0 rfl) ?_
  refine lv_iload hx hb d_M_masked_1 (lv_at hl 4 rfl) ?_
  refine lv_if_eq (tgt := 12) hx hb d_M_masked_3 (by decide) (fun c_2 => ?_) (fun c_2 => ?_)
  · skip
    refine lv_iconst (v := 1) hx hb d_M_masked_12 (by decide) ?_
    refine lv_goto (tgt := 17) hx hb d_M_masked_13 (by decide) ?_
    refine lv_iload_n hx hb d_M_masked_17 rfl (lv_at hl 1 rfl) ?_
    refine lv_iload_n hx hb d_M_masked_18 rfl (lv_at hl 2 rfl) ?_
    refine z_rdS (n := 2) (rest := [.int 1, .ref (E 0)]) ⟨hx, hb, hml, hown, hts⟩ hW0 (c_M_isPoint G x y) w_644 w_642 w_643 w_4 (by decide +kernel) ⟨rfl, rfl, Nat.le_of_ble_eq_true rfl, Nat.le_of_ble_eq_true rfl⟩ (trivial) rfl rfl hl.1 (Nat.le_of_ble_eq_true rfl) d_M_masked_19 ⟨Nat.zero_le _, Nat.zero_le _⟩ ?_
    refine lv_if_eq (tgt := 41) hx hb d_M_masked_22 (by decide) (fun c_3 => ?_) (fun c_3 => ?_)
    · skip
      have c_3 : (pm_pt x y) = false := pi_b_0.mp c_3
      refine lv_iconst (v := 0) hx hb d_M_masked_41 (by decide) ?_
      refine lv_iconst (v := 1) hx hb d_M_masked_42 (by decide) ?_
      refine z_g3 (w1 := pi_b (decide (a0 = 0) || decide (a0 = 1))) (w2 := pi_b (pm_pt x y && (decide (1 ≤ z) && decide (z ≤ 10000)))) (w3 := pi_b true) (rfl) (by simp [pi_b, c_2, c_3]) (by simp [pi_b, c_2, c_3]) ?_
      exact tail ls (lv_sub hl [0, 1, 2, 3, 4] rfl)
    · skip
      have c_3 : (pm_pt x y) = true := pi_b_1.mp c_3
      refine lv_iload_n hx hb d_M_masked_25 rfl (lv_at hl 3 rfl) ?_
      refine lv_iconst (v := 1) hx hb d_M_masked_26 (by decide) ?_
      refine lv_icmp_lt (tgt := 41) hx hb d_M_masked_27 (by decide) (fun c_4 => ?_) (fun c_4 => ?_)
      · skip
        have c_4' : ¬ ((1 : Int32) ≤ z) := Int32.not_le.mpr c_4
        refine lv_iconst (v := 0) hx hb d_M_masked_41 (by decide) ?_
        refine lv_iconst (v := 1) hx hb d_M_masked_42 (by decide) ?_
        refine z_g3 (w1 := pi_b (decide (a0 = 0) || decide (a0 = 1))) (w2 := pi_b (pm_pt x y && (decide (1 ≤ z) && decide (z ≤ 10000)))) (w3 := pi_b true) (rfl) (by simp [pi_b, c_2, c_3, c_4, c_4']) (by simp [pi_b, c_2, c_3, c_4, c_4']) ?_
        exact tail ls (lv_sub hl [0, 1, 2, 3, 4] rfl)
      · skip
        have c_4' : (1 : Int32) ≤ z := Int32.not_lt.mp c_4
        refine lv_iload_n hx hb d_M_masked_30 rfl (lv_at hl 3 rfl) ?_
        refine lv_sipush (v := 10000) hx hb d_M_masked_31 (by decide) ?_
        refine lv_icmp_gt (tgt := 41) hx hb d_M_masked_34 (by decide) (fun c_5 => ?_) (fun c_5 => ?_)
        · skip
          have c_5' : ¬ (z ≤ (10000 : Int32)) := Int32.not_le.mpr c_5
          refine lv_iconst (v := 0) hx hb d_M_masked_41 (by decide) ?_
          refine lv_iconst (v := 1) hx hb d_M_masked_42 (by decide) ?_
          refine z_g3 (w1 := pi_b (decide (a0 = 0) || decide (a0 = 1))) (w2 := pi_b (pm_pt x y && (decide (1 ≤ z) && decide (z ≤ 10000)))) (w3 := pi_b true) (rfl) (by simp [pi_b, c_2, c_3, c_4, c_4', c_5, c_5']) (by simp [pi_b, c_2, c_3, c_4, c_4', c_5, c_5']) ?_
          exact tail ls (lv_sub hl [0, 1, 2, 3, 4] rfl)
        · skip
          have c_5' : z ≤ (10000 : Int32) := Int32.not_lt.mp c_5
          refine lv_iconst (v := 1) hx hb d_M_masked_37 (by decide) ?_
          refine lv_goto (tgt := 42) hx hb d_M_masked_38 (by decide) ?_
          refine lv_iconst (v := 1) hx hb d_M_masked_42 (by decide) ?_
          refine z_g3 (w1 := pi_b (decide (a0 = 0) || decide (a0 = 1))) (w2 := pi_b (pm_pt x y && (decide (1 ≤ z) && decide (z ≤ 10000)))) (w3 := pi_b true) (rfl) (by simp [pi_b, c_2, c_3, c_4, c_4', c_5, c_5']) (by simp [pi_b, c_2, c_3, c_4, c_4', c_5, c_5']) ?_
          exact tail ls (lv_sub hl [0, 1, 2, 3, 4] rfl)
  · skip
    refine lv_iload hx hb d_M_masked_6 (lv_at hl 4 rfl) ?_
    refine lv_iconst (v := 1) hx hb d_M_masked_8 (by decide) ?_
    refine lv_icmp_ne (tgt := 16) hx hb d_M_masked_9 (by decide) (fun c_6 => ?_) (fun c_6 => ?_)
    · skip
      refine lv_iconst (v := 0) hx hb d_M_masked_16 (by decide) ?_
      refine lv_iload_n hx hb d_M_masked_17 rfl (lv_at hl 1 rfl) ?_
      refine lv_iload_n hx hb d_M_masked_18 rfl (lv_at hl 2 rfl) ?_
      refine z_rdS (n := 2) (rest := [.int 0, .ref (E 0)]) ⟨hx, hb, hml, hown, hts⟩ hW0 (c_M_isPoint G x y) w_644 w_642 w_643 w_4 (by decide +kernel) ⟨rfl, rfl, Nat.le_of_ble_eq_true rfl, Nat.le_of_ble_eq_true rfl⟩ (trivial) rfl rfl hl.1 (Nat.le_of_ble_eq_true rfl) d_M_masked_19 ⟨Nat.zero_le _, Nat.zero_le _⟩ ?_
      refine lv_if_eq (tgt := 41) hx hb d_M_masked_22 (by decide) (fun c_7 => ?_) (fun c_7 => ?_)
      · skip
        have c_7 : (pm_pt x y) = false := pi_b_0.mp c_7
        refine lv_iconst (v := 0) hx hb d_M_masked_41 (by decide) ?_
        refine lv_iconst (v := 1) hx hb d_M_masked_42 (by decide) ?_
        refine z_g3 (w1 := pi_b (decide (a0 = 0) || decide (a0 = 1))) (w2 := pi_b (pm_pt x y && (decide (1 ≤ z) && decide (z ≤ 10000)))) (w3 := pi_b true) (rfl) (by simp [pi_b, c_2, c_6, c_7]) (by simp [pi_b, c_2, c_6, c_7]) ?_
        exact tail ls (lv_sub hl [0, 1, 2, 3, 4] rfl)
      · skip
        have c_7 : (pm_pt x y) = true := pi_b_1.mp c_7
        refine lv_iload_n hx hb d_M_masked_25 rfl (lv_at hl 3 rfl) ?_
        refine lv_iconst (v := 1) hx hb d_M_masked_26 (by decide) ?_
        refine lv_icmp_lt (tgt := 41) hx hb d_M_masked_27 (by decide) (fun c_8 => ?_) (fun c_8 => ?_)
        · skip
          have c_8' : ¬ ((1 : Int32) ≤ z) := Int32.not_le.mpr c_8
          refine lv_iconst (v := 0) hx hb d_M_masked_41 (by decide) ?_
          refine lv_iconst (v := 1) hx hb d_M_masked_42 (by decide) ?_
          refine z_g3 (w1 := pi_b (decide (a0 = 0) || decide (a0 = 1))) (w2 := pi_b (pm_pt x y && (decide (1 ≤ z) && decide (z ≤ 10000)))) (w3 := pi_b true) (rfl) (by simp [pi_b, c_2, c_6, c_7, c_8, c_8']) (by simp [pi_b, c_2, c_6, c_7, c_8, c_8']) ?_
          exact tail ls (lv_sub hl [0, 1, 2, 3, 4] rfl)
        · skip
          have c_8' : (1 : Int32) ≤ z := Int32.not_lt.mp c_8
          refine lv_iload_n hx hb d_M_masked_30 rfl (lv_at hl 3 rfl) ?_
          refine lv_sipush (v := 10000) hx hb d_M_masked_31 (by decide) ?_
          refine lv_icmp_gt (tgt := 41) hx hb d_M_masked_34 (by decide) (fun c_9 => ?_) (fun c_9 => ?_)
          · skip
            have c_9' : ¬ (z ≤ (10000 : Int32)) := Int32.not_le.mpr c_9
            refine lv_iconst (v := 0) hx hb d_M_masked_41 (by decide) ?_
            refine lv_iconst (v := 1) hx hb d_M_masked_42 (by decide) ?_
            refine z_g3 (w1 := pi_b (decide (a0 = 0) || decide (a0 = 1))) (w2 := pi_b (pm_pt x y && (decide (1 ≤ z) && decide (z ≤ 10000)))) (w3 := pi_b true) (rfl) (by simp [pi_b, c_2, c_6, c_7, c_8, c_8', c_9, c_9']) (by simp [pi_b, c_2, c_6, c_7, c_8, c_8', c_9, c_9']) ?_
            exact tail ls (lv_sub hl [0, 1, 2, 3, 4] rfl)
          · skip
            have c_9' : z ≤ (10000 : Int32) := Int32.not_lt.mp c_9
            refine lv_iconst (v := 1) hx hb d_M_masked_37 (by decide) ?_
            refine lv_goto (tgt := 42) hx hb d_M_masked_38 (by decide) ?_
            refine lv_iconst (v := 1) hx hb d_M_masked_42 (by decide) ?_
            refine z_g3 (w1 := pi_b (decide (a0 = 0) || decide (a0 = 1))) (w2 := pi_b (pm_pt x y && (decide (1 ≤ z) && decide (z ≤ 10000)))) (w3 := pi_b true) (rfl) (by simp [pi_b, c_2, c_6, c_7, c_8, c_8', c_9, c_9']) (by simp [pi_b, c_2, c_6, c_7, c_8, c_8', c_9, c_9']) ?_
            exact tail ls (lv_sub hl [0, 1, 2, 3, 4] rfl)
    · skip
      refine lv_iconst (v := 1) hx hb d_M_masked_12 (by decide) ?_
      refine lv_goto (tgt := 17) hx hb d_M_masked_13 (by decide) ?_
      refine lv_iload_n hx hb d_M_masked_17 rfl (lv_at hl 1 rfl) ?_
      refine lv_iload_n hx hb d_M_masked_18 rfl (lv_at hl 2 rfl) ?_
      refine z_rdS (n := 2) (rest := [.int 1, .ref (E 0)]) ⟨hx, hb, hml, hown, hts⟩ hW0 (c_M_isPoint G x y) w_644 w_642 w_643 w_4 (by decide +kernel) ⟨rfl, rfl, Nat.le_of_ble_eq_true rfl, Nat.le_of_ble_eq_true rfl⟩ (trivial) rfl rfl hl.1 (Nat.le_of_ble_eq_true rfl) d_M_masked_19 ⟨Nat.zero_le _, Nat.zero_le _⟩ ?_
      refine lv_if_eq (tgt := 41) hx hb d_M_masked_22 (by decide) (fun c_10 => ?_) (fun c_10 => ?_)
      · skip
        have c_10 : (pm_pt x y) = false := pi_b_0.mp c_10
        refine lv_iconst (v := 0) hx hb d_M_masked_41 (by decide) ?_
        refine lv_iconst (v := 1) hx hb d_M_masked_42 (by decide) ?_
        refine z_g3 (w1 := pi_b (decide (a0 = 0) || decide (a0 = 1))) (w2 := pi_b (pm_pt x y && (decide (1 ≤ z) && decide (z ≤ 10000)))) (w3 := pi_b true) (rfl) (by simp [pi_b, c_2, c_6, c_10]) (by simp [pi_b, c_2, c_6, c_10]) ?_
        exact tail ls (lv_sub hl [0, 1, 2, 3, 4] rfl)
      · skip
        have c_10 : (pm_pt x y) = true := pi_b_1.mp c_10
        refine lv_iload_n hx hb d_M_masked_25 rfl (lv_at hl 3 rfl) ?_
        refine lv_iconst (v := 1) hx hb d_M_masked_26 (by decide) ?_
        refine lv_icmp_lt (tgt := 41) hx hb d_M_masked_27 (by decide) (fun c_11 => ?_) (fun c_11 => ?_)
        · skip
          have c_11' : ¬ ((1 : Int32) ≤ z) := Int32.not_le.mpr c_11
          refine lv_iconst (v := 0) hx hb d_M_masked_41 (by decide) ?_
          refine lv_iconst (v := 1) hx hb d_M_masked_42 (by decide) ?_
          refine z_g3 (w1 := pi_b (decide (a0 = 0) || decide (a0 = 1))) (w2 := pi_b (pm_pt x y && (decide (1 ≤ z) && decide (z ≤ 10000)))) (w3 := pi_b true) (rfl) (by simp [pi_b, c_2, c_6, c_10, c_11, c_11']) (by simp [pi_b, c_2, c_6, c_10, c_11, c_11']) ?_
          exact tail ls (lv_sub hl [0, 1, 2, 3, 4] rfl)
        · skip
          have c_11' : (1 : Int32) ≤ z := Int32.not_lt.mp c_11
          refine lv_iload_n hx hb d_M_masked_30 rfl (lv_at hl 3 rfl) ?_
          refine lv_sipush (v := 10000) hx hb d_M_masked_31 (by decide) ?_
          refine lv_icmp_gt (tgt := 41) hx hb d_M_masked_34 (by decide) (fun c_12 => ?_) (fun c_12 => ?_)
          · skip
            have c_12' : ¬ (z ≤ (10000 : Int32)) := Int32.not_le.mpr c_12
            refine lv_iconst (v := 0) hx hb d_M_masked_41 (by decide) ?_
            refine lv_iconst (v := 1) hx hb d_M_masked_42 (by decide) ?_
            refine z_g3 (w1 := pi_b (decide (a0 = 0) || decide (a0 = 1))) (w2 := pi_b (pm_pt x y && (decide (1 ≤ z) && decide (z ≤ 10000)))) (w3 := pi_b true) (rfl) (by simp [pi_b, c_2, c_6, c_10, c_11, c_11', c_12, c_12']) (by simp [pi_b, c_2, c_6, c_10, c_11, c_11', c_12, c_12']) ?_
            exact tail ls (lv_sub hl [0, 1, 2, 3, 4] rfl)
          · skip
            have c_12' : z ≤ (10000 : Int32) := Int32.not_lt.mp c_12
            refine lv_iconst (v := 1) hx hb d_M_masked_37 (by decide) ?_
            refine lv_goto (tgt := 42) hx hb d_M_masked_38 (by decide) ?_
            refine lv_iconst (v := 1) hx hb d_M_masked_42 (by decide) ?_
            refine z_g3 (w1 := pi_b (decide (a0 = 0) || decide (a0 = 1))) (w2 := pi_b (pm_pt x y && (decide (1 ≤ z) && decide (z ≤ 10000)))) (w3 := pi_b true) (rfl) (by simp [pi_b, c_2, c_6, c_10, c_11, c_11', c_12, c_12']) (by simp [pi_b, c_2, c_6, c_10, c_11, c_11', c_12, c_12']) ?_
            exact tail ls (lv_sub hl [0, 1, 2, 3, 4] rfl)
set_option maxRecDepth 100000 in
set_option maxHeartbeats 4000000 in
theorem c_M_masked_ok (G : z_G s0 (dC, dI) cI cS) (E : Nat → Nat) (th : Int32) (mp ms mc mn mm : Nat) (gv : Nat → Nat → Int32) (sz : Nat) (x y z a0 : Int32) (hzz : 1 ≤ z) (hg : ((decide (a0 = 0) || decide (a0 = 1)) && ((pm_pt x y && (decide (1 ≤ z) && decide (z ≤ 10000))) && true)) = true) : Met l y_M_masked [Cond.code y_M_masked b_M_masked 7 (some .int)] ({ frames := 1, cells := 0, slots := 0, locals := 23 }) (z_Pc s0 [.ref (E 0), .int x, .int y, .int z, .int a0] (fun H => H.size = sz ∧ z_Md (dC, dI) cI H E th mp ms mc mn mm gv)) (z_Qw (fun r H => r = some (.int (pm_msk (if a0 = 0 then x else y) z)) ∧ z_Md (dC, dI) cI H E 0 mp ms mc mn mm gv) (z_fr (z_mF E) sz)) 0 0 (z_fr (z_mF E) sz) := by
  refine z_ofW (by decide +kernel) (Nat.le_of_ble_eq_true rfl) ?_
  intro p e s m below meth c hx hb hml hr hown hlocks hnm hW0 hB ls hl
  have hts := z_hts (args := [.ref (E 0), .int x, .int y, .int z, .int a0].toArray) G.1 hW0
  have hN := z_nstW G.2.1 hW0
  have hK := va_K.moved hW0.alike G.2.2.1
  have hAI := arrOfT_moved hW0.alike G.2.2.2.1
  have hl : lv_has ls 7 [(0, .ref (E 0)), (1, .int x), (2, .int y), (3, .int z), (4, .int a0)] := hl
  obtain ⟨rfl, hB⟩ := hB
  have hS : va_S (z_fr (z_mF E) s.heap.size) s.heap s.heap [] := va_S.rf
  obtain ⟨⟨hE0, hGA⟩, hEi, ⟨hmp, hms, hmn, hmm, hmc⟩⟩ := id hB
  have tail : ∀ ls : Array Slot, lv_has ls 7 [(0, .ref (E 0)), (1, .int x), (2, .int y), (3, .int z), (4, .int a0)] → W p l e ({ frames := 1, cells := 0, slots := 0, locals := 23 }) s m [.ref (E 0), .int x, .int y, .int z, .int a0].toArray below meth c s.heap [] 0 0 (MQ below (z_Qw (fun r H => r = some (.int (pm_msk (if a0 = 0 then x else y) z)) ∧ z_Md (dC, dI) cI H E 0 mp ms mc mn mm gv) (z_fr (z_mF E) s.heap.size)) [.ref (E 0), .int x, .int y, .int z, .int a0].toArray s 0 0 (z_fr (z_mF E) s.heap.size)) (F0 m 43 ls [.int (pi_b true), .int (pi_b (pm_pt x y && (decide (1 ≤ z) && decide (z ≤ 10000)))), .int (pi_b (decide (a0 = 0) || decide (a0 = 1))), .ref (E 0)]) := by
    intro ls hl
    refine z_wrV (n := 3) (C := R_M) (rest := []) ⟨hx, hb, hml, hown, hts⟩ hW0 (c_M_goes G E th mp ms mc mn mm gv _ (decide (a0 = 0) || decide (a0 = 1)) (pm_pt x y && (decide (1 ≤ z) && decide (z ≤ 10000))) true) w_625 w_622 w_624 wp_19 w_4 (by decide +kernel) ⟨rfl, rfl, Nat.le_of_ble_eq_true rfl, Nat.le_of_ble_eq_true rfl⟩ (hE0.recv hK rfl) ⟨rfl, hB⟩ rfl rfl hl.1 (Nat.le_of_ble_eq_true rfl) d_M_masked_43 ⟨Nat.le_of_ble_eq_true rfl, Nat.le_of_ble_eq_true rfl⟩ hS (fun q h => h.elim Or.inl (fun h => Or.inr (Nat.le_trans hS.1 h))) (fun H1 locs1 hB hz1 hk1 hS => ?_)
    obtain ⟨⟨hE0, hGA⟩, hEi, ⟨hmp, hms, hmn, hmm, hmc⟩⟩ := id hB
    refine z_topi (y := 1) (by rw [hg]; rfl) ?_
    rw [pm_th_ok hg] at hB
    obtain ⟨⟨hE0, hGA⟩, hEi, ⟨hmp, hms, hmn, hmm, hmc⟩⟩ := id hB
    refine lv_if_ne (tgt := 51) hx hb d_M_masked_46 (by decide) (fun c_1 => ?_) (fun c_1 => ?_)
    · skip
      refine lv_iload hx hb d_M_masked_51 (lv_at hl 4 rfl) ?_
      refine lv_if_ne (tgt := 60) hx hb d_M_masked_53 (by decide) (fun c_2 => ?_) (fun c_2 => ?_)
      · skip
        refine lv_iload_n hx hb d_M_masked_60 rfl (lv_at hl 2 rfl) ?_
        refine lv_istore (lv' := [(5, .int y), (0, .ref (E 0)), (1, .int x), (2, .int y), (3, .int z), (4, .int a0)]) hx hb d_M_masked_61 hl (by decide) rfl (fun ls hl => ?_)
        refine lv_iload hx hb d_M_masked_63 (lv_at hl 0 rfl) ?_
        refine lv_iload_n hx hb d_M_masked_65 rfl (lv_at hl 4 rfl) ?_
        refine lv_irem hx hb d_M_masked_66 (fun h => absurd hzz (by rw [h]; decide)) ?_
        refine lv_istore (lv' := [(6, .int (y - y / z * z)), (5, .int y), (0, .ref (E 0)), (1, .int x), (2, .int y), (3, .int z), (4, .int a0)]) hx hb d_M_masked_67 hl (by decide) rfl (fun ls hl => ?_)
        refine lv_iload hx hb d_M_masked_69 (lv_at hl 0 rfl) ?_
        refine lv_if_ge (tgt := 84) hx hb d_M_masked_71 (by decide) (fun c_3 => ?_) (fun c_3 => ?_)
        · skip
          have c_3' : ¬ ((y - y / z * z) < (0 : Int32)) := Int32.not_lt.mpr c_3
          refine lv_iload hx hb d_M_masked_84 (lv_at hl 1 rfl) ?_
          refine lv_iload hx hb d_M_masked_86 (lv_at hl 0 rfl) ?_
          refine lv_isub hx hb d_M_masked_88 ?_
          exact z_wi hx hb hr hlocks (⟨by simp [pm_msk, c_2, c_3, c_3'], hB⟩) hS d_M_masked_89
        · skip
          have c_3' : (y - y / z * z) < (0 : Int32) := Int32.not_le.mp c_3
          refine lv_iload hx hb d_M_masked_74 (lv_at hl 1 rfl) ?_
          refine lv_iload hx hb d_M_masked_76 (lv_at hl 0 rfl) ?_
          refine lv_isub hx hb d_M_masked_78 ?_
          refine lv_iload_n hx hb d_M_masked_79 rfl (lv_at hl 5 rfl) ?_
          refine lv_isub hx hb d_M_masked_80 ?_
          refine lv_goto (tgt := 89) hx hb d_M_masked_81 (by decide) ?_
          exact z_wi hx hb hr hlocks (⟨by simp [pm_msk, c_2, c_3, c_3'], hB⟩) hS d_M_masked_89
      · skip
        refine lv_iload_n hx hb d_M_masked_56 rfl (lv_at hl 1 rfl) ?_
        refine lv_goto (tgt := 61) hx hb d_M_masked_57 (by decide) ?_
        refine lv_istore (lv' := [(5, .int x), (0, .ref (E 0)), (1, .int x), (2, .int y), (3, .int z), (4, .int a0)]) hx hb d_M_masked_61 hl (by decide) rfl (fun ls hl => ?_)
        refine lv_iload hx hb d_M_masked_63 (lv_at hl 0 rfl) ?_
        refine lv_iload_n hx hb d_M_masked_65 rfl (lv_at hl 4 rfl) ?_
        refine lv_irem hx hb d_M_masked_66 (fun h => absurd hzz (by rw [h]; decide)) ?_
        refine lv_istore (lv' := [(6, .int (x - x / z * z)), (5, .int x), (0, .ref (E 0)), (1, .int x), (2, .int y), (3, .int z), (4, .int a0)]) hx hb d_M_masked_67 hl (by decide) rfl (fun ls hl => ?_)
        refine lv_iload hx hb d_M_masked_69 (lv_at hl 0 rfl) ?_
        refine lv_if_ge (tgt := 84) hx hb d_M_masked_71 (by decide) (fun c_4 => ?_) (fun c_4 => ?_)
        · skip
          have c_4' : ¬ ((x - x / z * z) < (0 : Int32)) := Int32.not_lt.mpr c_4
          refine lv_iload hx hb d_M_masked_84 (lv_at hl 1 rfl) ?_
          refine lv_iload hx hb d_M_masked_86 (lv_at hl 0 rfl) ?_
          refine lv_isub hx hb d_M_masked_88 ?_
          exact z_wi hx hb hr hlocks (⟨by simp [pm_msk, c_2, c_4, c_4'], hB⟩) hS d_M_masked_89
        · skip
          have c_4' : (x - x / z * z) < (0 : Int32) := Int32.not_le.mp c_4
          refine lv_iload hx hb d_M_masked_74 (lv_at hl 1 rfl) ?_
          refine lv_iload hx hb d_M_masked_76 (lv_at hl 0 rfl) ?_
          refine lv_isub hx hb d_M_masked_78 ?_
          refine lv_iload_n hx hb d_M_masked_79 rfl (lv_at hl 5 rfl) ?_
          refine lv_isub hx hb d_M_masked_80 ?_
          refine lv_goto (tgt := 89) hx hb d_M_masked_81 (by decide) ?_
          exact z_wi hx hb hr hlocks (⟨by simp [pm_msk, c_2, c_4, c_4'], hB⟩) hS d_M_masked_89
    · skip
      exact absurd c_1 (by decide)
  refine lv_aload_n hx hb d_M_masked_0 rfl (lv_at hl 0 rfl) ?_
  refine lv_iload hx hb d_M_masked_1 (lv_at hl 4 rfl) ?_
  refine lv_if_eq (tgt := 12) hx hb d_M_masked_3 (by decide) (fun c_5 => ?_) (fun c_5 => ?_)
  · skip
    refine lv_iconst (v := 1) hx hb d_M_masked_12 (by decide) ?_
    refine lv_goto (tgt := 17) hx hb d_M_masked_13 (by decide) ?_
    refine lv_iload_n hx hb d_M_masked_17 rfl (lv_at hl 1 rfl) ?_
    refine lv_iload_n hx hb d_M_masked_18 rfl (lv_at hl 2 rfl) ?_
    refine z_rdS (n := 2) (rest := [.int 1, .ref (E 0)]) ⟨hx, hb, hml, hown, hts⟩ hW0 (c_M_isPoint G x y) w_644 w_642 w_643 w_4 (by decide +kernel) ⟨rfl, rfl, Nat.le_of_ble_eq_true rfl, Nat.le_of_ble_eq_true rfl⟩ (trivial) rfl rfl hl.1 (Nat.le_of_ble_eq_true rfl) d_M_masked_19 ⟨Nat.zero_le _, Nat.zero_le _⟩ ?_
    refine lv_if_eq (tgt := 41) hx hb d_M_masked_22 (by decide) (fun c_6 => ?_) (fun c_6 => ?_)
    · skip
      have c_6 : (pm_pt x y) = false := pi_b_0.mp c_6
      refine lv_iconst (v := 0) hx hb d_M_masked_41 (by decide) ?_
      refine lv_iconst (v := 1) hx hb d_M_masked_42 (by decide) ?_
      refine z_g3 (w1 := pi_b (decide (a0 = 0) || decide (a0 = 1))) (w2 := pi_b (pm_pt x y && (decide (1 ≤ z) && decide (z ≤ 10000)))) (w3 := pi_b true) (rfl) (by simp [pi_b, c_5, c_6]) (by simp [pi_b, c_5, c_6]) ?_
      exact tail ls (lv_sub hl [0, 1, 2, 3, 4] rfl)
    · skip
      have c_6 : (pm_pt x y) = true := pi_b_1.mp c_6
      refine lv_iload_n hx hb d_M_masked_25 rfl (lv_at hl 3 rfl) ?_
      refine lv_iconst (v := 1) hx hb d_M_masked_26 (by decide) ?_
      refine lv_icmp_lt (tgt := 41) hx hb d_M_masked_27 (by decide) (fun c_7 => ?_) (fun c_7 => ?_)
      · skip
        have c_7' : ¬ ((1 : Int32) ≤ z) := Int32.not_le.mpr c_7
        refine lv_iconst (v := 0) hx hb d_M_masked_41 (by decide) ?_
        refine lv_iconst (v := 1) hx hb d_M_masked_42 (by decide) ?_
        refine z_g3 (w1 := pi_b (decide (a0 = 0) || decide (a0 = 1))) (w2 := pi_b (pm_pt x y && (decide (1 ≤ z) && decide (z ≤ 10000)))) (w3 := pi_b true) (rfl) (by simp [pi_b, c_5, c_6, c_7, c_7']) (by simp [pi_b, c_5, c_6, c_7, c_7']) ?_
        exact tail ls (lv_sub hl [0, 1, 2, 3, 4] rfl)
      · skip
        have c_7' : (1 : Int32) ≤ z := Int32.not_lt.mp c_7
        refine lv_iload_n hx hb d_M_masked_30 rfl (lv_at hl 3 rfl) ?_
        refine lv_sipush (v := 10000) hx hb d_M_masked_31 (by decide) ?_
        refine lv_icmp_gt (tgt := 41) hx hb d_M_masked_34 (by decide) (fun c_8 => ?_) (fun c_8 => ?_)
        · skip
          have c_8' : ¬ (z ≤ (10000 : Int32)) := Int32.not_le.mpr c_8
          refine lv_iconst (v := 0) hx hb d_M_masked_41 (by decide) ?_
          refine lv_iconst (v := 1) hx hb d_M_masked_42 (by decide) ?_
          refine z_g3 (w1 := pi_b (decide (a0 = 0) || decide (a0 = 1))) (w2 := pi_b (pm_pt x y && (decide (1 ≤ z) && decide (z ≤ 10000)))) (w3 := pi_b true) (rfl) (by simp [pi_b, c_5, c_6, c_7, c_7', c_8, c_8']) (by simp [pi_b, c_5, c_6, c_7, c_7', c_8, c_8']) ?_
          exact tail ls (lv_sub hl [0, 1, 2, 3, 4] rfl)
        · skip
          have c_8' : z ≤ (10000 : Int32) := Int32.not_lt.mp c_8
          refine lv_iconst (v := 1) hx hb d_M_masked_37 (by decide) ?_
          refine lv_goto (tgt := 42) hx hb d_M_masked_38 (by decide) ?_
          refine lv_iconst (v := 1) hx hb d_M_masked_42 (by decide) ?_
          refine z_g3 (w1 := pi_b (decide (a0 = 0) || decide (a0 = 1))) (w2 := pi_b (pm_pt x y && (decide (1 ≤ z) && decide (z ≤ 10000)))) (w3 := pi_b true) (rfl) (by simp [pi_b, c_5, c_6, c_7, c_7', c_8, c_8']) (by simp [pi_b, c_5, c_6, c_7, c_7', c_8, c_8']) ?_
          exact tail ls (lv_sub hl [0, 1, 2, 3, 4] rfl)
  · skip
    refine lv_iload hx hb d_M_masked_6 (lv_at hl 4 rfl) ?_
    refine lv_iconst (v := 1) hx hb d_M_masked_8 (by decide) ?_
    refine lv_icmp_ne (tgt := 16) hx hb d_M_masked_9 (by decide) (fun c_9 => ?_) (fun c_9 => ?_)
    · skip
      refine lv_iconst (v := 0) hx hb d_M_masked_16 (by decide) ?_
      refine lv_iload_n hx hb d_M_masked_17 rfl (lv_at hl 1 rfl) ?_
      refine lv_iload_n hx hb d_M_masked_18 rfl (lv_at hl 2 rfl) ?_
      refine z_rdS (n := 2) (rest := [.int 0, .ref (E 0)]) ⟨hx, hb, hml, hown, hts⟩ hW0 (c_M_isPoint G x y) w_644 w_642 w_643 w_4 (by decide +kernel) ⟨rfl, rfl, Nat.le_of_ble_eq_true rfl, Nat.le_of_ble_eq_true rfl⟩ (trivial) rfl rfl hl.1 (Nat.le_of_ble_eq_true rfl) d_M_masked_19 ⟨Nat.zero_le _, Nat.zero_le _⟩ ?_
      refine lv_if_eq (tgt := 41) hx hb d_M_masked_22 (by decide) (fun c_10 => ?_) (fun c_10 => ?_)
      · skip
        have c_10 : (pm_pt x y) = false := pi_b_0.mp c_10
        refine lv_iconst (v := 0) hx hb d_M_masked_41 (by decide) ?_
        refine lv_iconst (v := 1) hx hb d_M_masked_42 (by decide) ?_
        refine z_g3 (w1 := pi_b (decide (a0 = 0) || decide (a0 = 1))) (w2 := pi_b (pm_pt x y && (decide (1 ≤ z) && decide (z ≤ 10000)))) (w3 := pi_b true) (rfl) (by simp [pi_b, c_5, c_9, c_10]) (by simp [pi_b, c_5, c_9, c_10]) ?_
        exact tail ls (lv_sub hl [0, 1, 2, 3, 4] rfl)
      · skip
        have c_10 : (pm_pt x y) = true := pi_b_1.mp c_10
        refine lv_iload_n hx hb d_M_masked_25 rfl (lv_at hl 3 rfl) ?_
        refine lv_iconst (v := 1) hx hb d_M_masked_26 (by decide) ?_
        refine lv_icmp_lt (tgt := 41) hx hb d_M_masked_27 (by decide) (fun c_11 => ?_) (fun c_11 => ?_)
        · skip
          have c_11' : ¬ ((1 : Int32) ≤ z) := Int32.not_le.mpr c_11
          refine lv_iconst (v := 0) hx hb d_M_masked_41 (by decide) ?_
          refine lv_iconst (v := 1) hx hb d_M_masked_42 (by decide) ?_
          refine z_g3 (w1 := pi_b (decide (a0 = 0) || decide (a0 = 1))) (w2 := pi_b (pm_pt x y && (decide (1 ≤ z) && decide (z ≤ 10000)))) (w3 := pi_b true) (rfl) (by simp [pi_b, c_5, c_9, c_10, c_11, c_11']) (by simp [pi_b, c_5, c_9, c_10, c_11, c_11']) ?_
          exact tail ls (lv_sub hl [0, 1, 2, 3, 4] rfl)
        · skip
          have c_11' : (1 : Int32) ≤ z := Int32.not_lt.mp c_11
          refine lv_iload_n hx hb d_M_masked_30 rfl (lv_at hl 3 rfl) ?_
          refine lv_sipush (v := 10000) hx hb d_M_masked_31 (by decide) ?_
          refine lv_icmp_gt (tgt := 41) hx hb d_M_masked_34 (by decide) (fun c_12 => ?_) (fun c_12 => ?_)
          · skip
            have c_12' : ¬ (z ≤ (10000 : Int32)) := Int32.not_le.mpr c_12
            refine lv_iconst (v := 0) hx hb d_M_masked_41 (by decide) ?_
            refine lv_iconst (v := 1) hx hb d_M_masked_42 (by decide) ?_
            refine z_g3 (w1 := pi_b (decide (a0 = 0) || decide (a0 = 1))) (w2 := pi_b (pm_pt x y && (decide (1 ≤ z) && decide (z ≤ 10000)))) (w3 := pi_b true) (rfl) (by simp [pi_b, c_5, c_9, c_10, c_11, c_11', c_12, c_12']) (by simp [pi_b, c_5, c_9, c_10, c_11, c_11', c_12, c_12']) ?_
            exact tail ls (lv_sub hl [0, 1, 2, 3, 4] rfl)
          · skip
            have c_12' : z ≤ (10000 : Int32) := Int32.not_lt.mp c_12
            refine lv_iconst (v := 1) hx hb d_M_masked_37 (by decide) ?_
            refine lv_goto (tgt := 42) hx hb d_M_masked_38 (by decide) ?_
            refine lv_iconst (v := 1) hx hb d_M_masked_42 (by decide) ?_
            refine z_g3 (w1 := pi_b (decide (a0 = 0) || decide (a0 = 1))) (w2 := pi_b (pm_pt x y && (decide (1 ≤ z) && decide (z ≤ 10000)))) (w3 := pi_b true) (rfl) (by simp [pi_b, c_5, c_9, c_10, c_11, c_11', c_12, c_12']) (by simp [pi_b, c_5, c_9, c_10, c_11, c_11', c_12, c_12']) ?_
            exact tail ls (lv_sub hl [0, 1, 2, 3, 4] rfl)
    · skip
      refine lv_iconst (v := 1) hx hb d_M_masked_12 (by decide) ?_
      refine lv_goto (tgt := 17) hx hb d_M_masked_13 (by decide) ?_
      refine lv_iload_n hx hb d_M_masked_17 rfl (lv_at hl 1 rfl) ?_
      refine lv_iload_n hx hb d_M_masked_18 rfl (lv_at hl 2 rfl) ?_
      refine z_rdS (n := 2) (rest := [.int 1, .ref (E 0)]) ⟨hx, hb, hml, hown, hts⟩ hW0 (c_M_isPoint G x y) w_644 w_642 w_643 w_4 (by decide +kernel) ⟨rfl, rfl, Nat.le_of_ble_eq_true rfl, Nat.le_of_ble_eq_true rfl⟩ (trivial) rfl rfl hl.1 (Nat.le_of_ble_eq_true rfl) d_M_masked_19 ⟨Nat.zero_le _, Nat.zero_le _⟩ ?_
      refine lv_if_eq (tgt := 41) hx hb d_M_masked_22 (by decide) (fun c_13 => ?_) (fun c_13 => ?_)
      · skip
        have c_13 : (pm_pt x y) = false := pi_b_0.mp c_13
        refine lv_iconst (v := 0) hx hb d_M_masked_41 (by decide) ?_
        refine lv_iconst (v := 1) hx hb d_M_masked_42 (by decide) ?_
        refine z_g3 (w1 := pi_b (decide (a0 = 0) || decide (a0 = 1))) (w2 := pi_b (pm_pt x y && (decide (1 ≤ z) && decide (z ≤ 10000)))) (w3 := pi_b true) (rfl) (by simp [pi_b, c_5, c_9, c_13]) (by simp [pi_b, c_5, c_9, c_13]) ?_
        exact tail ls (lv_sub hl [0, 1, 2, 3, 4] rfl)
      · skip
        have c_13 : (pm_pt x y) = true := pi_b_1.mp c_13
        refine lv_iload_n hx hb d_M_masked_25 rfl (lv_at hl 3 rfl) ?_
        refine lv_iconst (v := 1) hx hb d_M_masked_26 (by decide) ?_
        refine lv_icmp_lt (tgt := 41) hx hb d_M_masked_27 (by decide) (fun c_14 => ?_) (fun c_14 => ?_)
        · skip
          have c_14' : ¬ ((1 : Int32) ≤ z) := Int32.not_le.mpr c_14
          refine lv_iconst (v := 0) hx hb d_M_masked_41 (by decide) ?_
          refine lv_iconst (v := 1) hx hb d_M_masked_42 (by decide) ?_
          refine z_g3 (w1 := pi_b (decide (a0 = 0) || decide (a0 = 1))) (w2 := pi_b (pm_pt x y && (decide (1 ≤ z) && decide (z ≤ 10000)))) (w3 := pi_b true) (rfl) (by simp [pi_b, c_5, c_9, c_13, c_14, c_14']) (by simp [pi_b, c_5, c_9, c_13, c_14, c_14']) ?_
          exact tail ls (lv_sub hl [0, 1, 2, 3, 4] rfl)
        · skip
          have c_14' : (1 : Int32) ≤ z := Int32.not_lt.mp c_14
          refine lv_iload_n hx hb d_M_masked_30 rfl (lv_at hl 3 rfl) ?_
          refine lv_sipush (v := 10000) hx hb d_M_masked_31 (by decide) ?_
          refine lv_icmp_gt (tgt := 41) hx hb d_M_masked_34 (by decide) (fun c_15 => ?_) (fun c_15 => ?_)
          · skip
            have c_15' : ¬ (z ≤ (10000 : Int32)) := Int32.not_le.mpr c_15
            refine lv_iconst (v := 0) hx hb d_M_masked_41 (by decide) ?_
            refine lv_iconst (v := 1) hx hb d_M_masked_42 (by decide) ?_
            refine z_g3 (w1 := pi_b (decide (a0 = 0) || decide (a0 = 1))) (w2 := pi_b (pm_pt x y && (decide (1 ≤ z) && decide (z ≤ 10000)))) (w3 := pi_b true) (rfl) (by simp [pi_b, c_5, c_9, c_13, c_14, c_14', c_15, c_15']) (by simp [pi_b, c_5, c_9, c_13, c_14, c_14', c_15, c_15']) ?_
            exact tail ls (lv_sub hl [0, 1, 2, 3, 4] rfl)
          · skip
            have c_15' : z ≤ (10000 : Int32) := Int32.not_lt.mp c_15
            refine lv_iconst (v := 1) hx hb d_M_masked_37 (by decide) ?_
            refine lv_goto (tgt := 42) hx hb d_M_masked_38 (by decide) ?_
            refine lv_iconst (v := 1) hx hb d_M_masked_42 (by decide) ?_
            refine z_g3 (w1 := pi_b (decide (a0 = 0) || decide (a0 = 1))) (w2 := pi_b (pm_pt x y && (decide (1 ≤ z) && decide (z ≤ 10000)))) (w3 := pi_b true) (rfl) (by simp [pi_b, c_5, c_9, c_13, c_14, c_14', c_15, c_15']) (by simp [pi_b, c_5, c_9, c_13, c_14, c_14', c_15, c_15']) ?_
            exact tail ls (lv_sub hl [0, 1, 2, 3, 4] rfl)
end M7
