section M4
variable {s0 : State} {dC : Nat → ClassId} {dI : Nat → Nat → Nat} {cI cS : ClassId} {l : Launch}
set_option maxRecDepth 100000 in
set_option maxHeartbeats 4000000 in
theorem c_M_goes (G : z_G s0 (dC, dI) cI cS) (E : Nat → Nat) (th : Int32) (mp ms mc mn mm : Nat) (gv : Nat → Nat → Int32) (sz : Nat) (b1 b2 b3 : Bool) : Met l y_M_goes [Cond.code y_M_goes b_M_goes 4 (some .boolean)] ({ frames := 0, cells := 0, slots := 0, locals := 0 }) (z_Pc s0 [.ref (E 0), .int (pi_b b1), .int (pi_b b2), .int (pi_b b3)] (fun H => H.size = sz ∧ z_Md (dC, dI) cI H E th mp ms mc mn mm gv)) (z_Qw (fun r H => r = some (.int (pi_b (b1 && (b2 && b3)))) ∧ z_Md (dC, dI) cI H E (pm_th b1 b2 b3) mp ms mc mn mm gv) (z_fr (z_mF E) sz)) 0 0 (z_fr (z_mF E) sz) := by
  refine z_ofW (by decide +kernel) (Nat.le_of_ble_eq_true rfl) ?_
  intro p e s m below meth c hx hb hml hr hown hlocks hnm hW0 hB ls hl
  have hts := z_hts (args := [.ref (E 0), .int (pi_b b1), .int (pi_b b2), .int (pi_b b3)].toArray) G.1 hW0
  have hN := z_nstW G.2.1 hW0
  have hK := va_K.moved hW0.alike G.2.2.1
  have hAI := arrOfT_moved hW0.alike G.2.2.2.1
  have hl : lv_has ls 4 [(0, .ref (E 0)), (1, .int (pi_b b1)), (2, .int (pi_b b2)), (3, .int (pi_b b3))] := hl
  obtain ⟨rfl, hB⟩ := hB
  have hS : va_S (z_fr (z_mF E) s.heap.size) s.heap s.heap [] := va_S.rf
  obtain ⟨⟨hE0, hGA⟩, hEi, ⟨hmp, hms, hmn, hmm, hmc⟩⟩ := id hB
  refine lv_aload_n hx hb d_M_goes_0 rfl (lv_at hl 0 rfl) ?_
  refine lv_iload_n hx hb d_M_goes_1 rfl (lv_at hl 1 rfl) ?_
  refine lv_if_ne (tgt := 9) hx hb d_M_goes_2 (by decide) (fun c_1 => ?_) (fun c_1 => ?_)
  · skip
    have c_1 : b1 = true := pi_b_1.mp c_1
    refine lv_iload_n hx hb d_M_goes_9 rfl (lv_at hl 2 rfl) ?_
    refine lv_if_ne (tgt := 17) hx hb d_M_goes_10 (by decide) (fun c_2 => ?_) (fun c_2 => ?_)
    · skip
      have c_2 : b2 = true := pi_b_1.mp c_2
      refine lv_iload_n hx hb d_M_goes_17 rfl (lv_at hl 3 rfl) ?_
      refine lv_if_ne (tgt := 25) hx hb d_M_goes_18 (by decide) (fun c_3 => ?_) (fun c_3 => ?_)
      · skip
        have c_3 : b3 = true := pi_b_1.mp c_3
        refine lv_iconst (v := 0) hx hb d_M_goes_25 (by decide) ?_
        refine z_put (D := (dC, dI)) (ci := 4) (v := .int 0) (ty := .int) (C := R_M) (T := T_M) (N := 23) hx hb hts in_M t_M t_M_ok nm_M hown hK hE0 hS (Or.inl ⟨0, by omega, rfl⟩) rfl 0 (by decide) (hts _ w_540) (fun _ h9 => h9) rfl (by decide +kernel) rfl rfl (Nat.le_of_ble_eq_true rfl) d_M_goes_26 (fun H1 locs1 hz1 hO1 ho1 hS => ?_)
        have hB : z_Md (dC, dI) cI H1 E 0 mp ms mc mn mm gv := z_Md.put hB (show z_O (dC, dI) H1 (E 0) 4 (z_mfs E 0 mp ms mc mn mm) from hO1) ho1 ⟨by omega, by omega, by omega, by omega, by omega⟩
        obtain ⟨⟨hE0, hGA⟩, hEi, ⟨hmp, hms, hmn, hmm, hmc⟩⟩ := id hB
        refine lv_aload_n hx hb d_M_goes_29 rfl (lv_at hl 0 rfl) ?_
        refine va_get (D := (dC, dI)) (ci := 4) (v := .int 0) (C := R_M) (T := T_M) (N := 23) hx hb hts in_M hown hK hE0.P 0 rfl rfl 0 (by decide) (hts _ w_540) (fun _ h9 => h9) rfl d_M_goes_30 ?_
        refine lv_if_ne (tgt := 40) hx hb d_M_goes_33 (by decide) (fun c_4 => ?_) (fun c_4 => ?_)
        · skip
          exact absurd (by decide) c_4
        · skip
          refine lv_iconst (v := 1) hx hb d_M_goes_36 (by decide) ?_
          refine lv_goto (tgt := 41) hx hb d_M_goes_37 (by decide) ?_
          have e1 : pm_th b1 b2 b3 = 0 := by simp [pm_th, c_1, c_2, c_3]
          exact z_wz (v := b1 && (b2 && b3)) hx hb hr hlocks (by simp [pi_b, c_1, c_2, c_3]) (⟨rfl, by rw [e1]; exact hB⟩) hS d_M_goes_41
      · skip
        have c_3 : b3 = false := pi_b_0.mp c_3
        refine lv_iconst (v := 3) hx hb d_M_goes_21 (by decide) ?_
        refine lv_goto (tgt := 26) hx hb d_M_goes_22 (by decide) ?_
        refine z_put (D := (dC, dI)) (ci := 4) (v := .int 3) (ty := .int) (C := R_M) (T := T_M) (N := 23) hx hb hts in_M t_M t_M_ok nm_M hown hK hE0 hS (Or.inl ⟨0, by omega, rfl⟩) rfl 0 (by decide) (hts _ w_540) (fun _ h9 => h9) rfl (by decide +kernel) rfl rfl (Nat.le_of_ble_eq_true rfl) d_M_goes_26 (fun H1 locs1 hz1 hO1 ho1 hS => ?_)
        have hB : z_Md (dC, dI) cI H1 E 3 mp ms mc mn mm gv := z_Md.put hB (show z_O (dC, dI) H1 (E 0) 4 (z_mfs E 3 mp ms mc mn mm) from hO1) ho1 ⟨by omega, by omega, by omega, by omega, by omega⟩
        obtain ⟨⟨hE0, hGA⟩, hEi, ⟨hmp, hms, hmn, hmm, hmc⟩⟩ := id hB
        refine lv_aload_n hx hb d_M_goes_29 rfl (lv_at hl 0 rfl) ?_
        refine va_get (D := (dC, dI)) (ci := 4) (v := .int 3) (C := R_M) (T := T_M) (N := 23) hx hb hts in_M hown hK hE0.P 0 rfl rfl 0 (by decide) (hts _ w_540) (fun _ h9 => h9) rfl d_M_goes_30 ?_
        refine lv_if_ne (tgt := 40) hx hb d_M_goes_33 (by decide) (fun c_5 => ?_) (fun c_5 => ?_)
        · skip
          refine lv_iconst (v := 0) hx hb d_M_goes_40 (by decide) ?_
          have e1 : pm_th b1 b2 b3 = 3 := by simp [pm_th, c_1, c_2, c_3]
          exact z_wz (v := b1 && (b2 && b3)) hx hb hr hlocks (by simp [pi_b, c_1, c_2, c_3]) (⟨rfl, by rw [e1]; exact hB⟩) hS d_M_goes_41
        · skip
          exact absurd c_5 (by decide)
    · skip
      have c_2 : b2 = false := pi_b_0.mp c_2
      refine lv_iconst (v := 2) hx hb d_M_goes_13 (by decide) ?_
      refine lv_goto (tgt := 26) hx hb d_M_goes_14 (by decide) ?_
      refine z_put (D := (dC, dI)) (ci := 4) (v := .int 2) (ty := .int) (C := R_M) (T := T_M) (N := 23) hx hb hts in_M t_M t_M_ok nm_M hown hK hE0 hS (Or.inl ⟨0, by omega, rfl⟩) rfl 0 (by decide) (hts _ w_540) (fun _ h9 => h9) rfl (by decide +kernel) rfl rfl (Nat.le_of_ble_eq_true rfl) d_M_goes_26 (fun H1 locs1 hz1 hO1 ho1 hS => ?_)
      have hB : z_Md (dC, dI) cI H1 E 2 mp ms mc mn mm gv := z_Md.put hB (show z_O (dC, dI) H1 (E 0) 4 (z_mfs E 2 mp ms mc mn mm) from hO1) ho1 ⟨by omega, by omega, by omega, by omega, by omega⟩
      obtain ⟨⟨hE0, hGA⟩, hEi, ⟨hmp, hms, hmn, hmm, hmc⟩⟩ := id hB
      refine lv_aload_n hx hb d_M_goes_29 rfl (lv_at hl 0 rfl) ?_
      refine va_get (D := (dC, dI)) (ci := 4) (v := .int 2) (C := R_M) (T := T_M) (N := 23) hx hb hts in_M hown hK hE0.P 0 rfl rfl 0 (by decide) (hts _ w_540) (fun _ h9 => h9) rfl d_M_goes_30 ?_
      refine lv_if_ne (tgt := 40) hx hb d_M_goes_33 (by decide) (fun c_6 => ?_) (fun c_6 => ?_)
      · skip
        refine lv_iconst (v := 0) hx hb d_M_goes_40 (by decide) ?_
        have e1 : pm_th b1 b2 b3 = 2 := by simp [pm_th, c_1, c_2]
        exact z_wz (v := b1 && (b2 && b3)) hx hb hr hlocks (by simp [pi_b, c_1, c_2]) (⟨rfl, by rw [e1]; exact hB⟩) hS d_M_goes_41
      · skip
        exact absurd c_6 (by decide)
  · skip
    have c_1 : b1 = false := pi_b_0.mp c_1
    refine lv_iconst (v := 1) hx hb d_M_goes_5 (by decide) ?_
    refine lv_goto (tgt := 26) hx hb d_M_goes_6 (by decide) ?_
    refine z_put (D := (dC, dI)) (ci := 4) (v := .int 1) (ty := .int) (C := R_M) (T := T_M) (N := 23) hx hb hts in_M t_M t_M_ok nm_M hown hK hE0 hS (Or.inl ⟨0, by omega, rfl⟩) rfl 0 (by decide) (hts _ w_540) (fun _ h9 => h9) rfl (by decide +kernel) rfl rfl (Nat.le_of_ble_eq_true rfl) d_M_goes_26 (fun H1 locs1 hz1 hO1 ho1 hS => ?_)
    have hB : z_Md (dC, dI) cI H1 E 1 mp ms mc mn mm gv := z_Md.put hB (show z_O (dC, dI) H1 (E 0) 4 (z_mfs E 1 mp ms mc mn mm) from hO1) ho1 ⟨by omega, by omega, by omega, by omega, by omega⟩
    obtain ⟨⟨hE0, hGA⟩, hEi, ⟨hmp, hms, hmn, hmm, hmc⟩⟩ := id hB
    refine lv_aload_n hx hb d_M_goes_29 rfl (lv_at hl 0 rfl) ?_
    refine va_get (D := (dC, dI)) (ci := 4) (v := .int 1) (C := R_M) (T := T_M) (N := 23) hx hb hts in_M hown hK hE0.P 0 rfl rfl 0 (by decide) (hts _ w_540) (fun _ h9 => h9) rfl d_M_goes_30 ?_
    refine lv_if_ne (tgt := 40) hx hb d_M_goes_33 (by decide) (fun c_7 => ?_) (fun c_7 => ?_)
    · skip
      refine lv_iconst (v := 0) hx hb d_M_goes_40 (by decide) ?_
      have e1 : pm_th b1 b2 b3 = 1 := by simp [pm_th, c_1]
      exact z_wz (v := b1 && (b2 && b3)) hx hb hr hlocks (by simp [pi_b, c_1]) (⟨rfl, by rw [e1]; exact hB⟩) hS d_M_goes_41
    · skip
      exact absurd c_7 (by decide)
end M4
