section M8
variable {s0 : State} {dC : Nat → ClassId} {dI : Nat → Nat → Nat} {cI cS : ClassId} {l : Launch}
set_option maxRecDepth 100000 in
set_option maxHeartbeats 4000000 in
theorem c_M_placed_non (G : z_G s0 (dC, dI) cI cS) (E : Nat → Nat) (th : Int32) (mp ms mc mn mm : Nat) (gv : Nat → Nat → Int32) (sz : Nat) (x y : Int32) (a0 : Int32) (ha0 : ¬ a0 = 0) (ha1 : ¬ a0 = 1) (fo : Option Nat) (hfo : pm_fnd gv mm x y 1728 0 = fo) (hg : (false && ((pm_pt x y) && fo.isSome)) = false) : Met l y_M_placed [Cond.code y_M_placed b_M_placed 17 (some .int)] ({ frames := 3, cells := 0, slots := 0, locals := 75 }) (z_Pc s0 [.ref (E 0), .int x, .int y, .int a0] (fun H => H.size = sz ∧ z_Md (dC, dI) cI H E th mp ms mc mn mm gv)) (z_Qw (fun r H => r = some (.int 0) ∧ z_Md (dC, dI) cI H E (pm_th false (pm_pt x y) fo.isSome) mp ms mc mn mm gv) (z_fr (z_mF E) sz)) 0 0 (z_fr (z_mF E) sz) := by
  refine z_ofW (by decide +kernel) (Nat.le_of_ble_eq_true rfl) ?_
  intro p e s m below meth c hx hb hml hr hown hlocks hnm hW0 hB ls hl
  have hts := z_hts (args := [.ref (E 0), .int x, .int y, .int a0].toArray) G.1 hW0
  have hN := z_nstW G.2.1 hW0
  have hK := va_K.moved hW0.alike G.2.2.1
  have hAI := arrOfT_moved hW0.alike G.2.2.2.1
  have hl : lv_has ls 17 [(0, .ref (E 0)), (1, .int x), (2, .int y), (3, .int a0)] := hl
  obtain ⟨rfl, hB⟩ := hB
  have hS : va_S (z_fr (z_mF E) s.heap.size) s.heap s.heap [] := va_S.rf
  obtain ⟨⟨hE0, hGA⟩, hEi, ⟨hmp, hms, hmn, hmm, hmc⟩⟩ := id hB
  have tail : ∀ ls : Array Slot, lv_has ls 17 [(0, .ref (E 0)), (1, .int x), (2, .int y), (3, .int a0)] → W p l e ({ frames := 3, cells := 0, slots := 0, locals := 75 }) s m [.ref (E 0), .int x, .int y, .int a0].toArray below meth c s.heap [] 0 0 (MQ below (z_Qw (fun r H => r = some (.int 0) ∧ z_Md (dC, dI) cI H E (pm_th false (pm_pt x y) fo.isSome) mp ms mc mn mm gv) (z_fr (z_mF E) s.heap.size)) [.ref (E 0), .int x, .int y, .int a0].toArray s 0 0 (z_fr (z_mF E) s.heap.size)) (F0 m 152 ls [.int (pi_b fo.isSome), .int (pi_b (pm_pt x y)), .int (pi_b false), .ref (E 0)]) := by
    intro ls hl
    refine z_wrV (n := 3) (C := R_M) (rest := []) ⟨hx, hb, hml, hown, hts⟩ hW0 (c_M_goes G E th mp ms mc mn mm gv _ false (pm_pt x y) fo.isSome) w_625 w_622 w_624 wp_19 w_4 (by decide +kernel) ⟨rfl, rfl, Nat.le_of_ble_eq_true rfl, Nat.le_of_ble_eq_true rfl⟩ (hE0.recv hK rfl) ⟨rfl, hB⟩ rfl rfl hl.1 (Nat.le_of_ble_eq_true rfl) d_M_placed_152 ⟨Nat.le_of_ble_eq_true rfl, Nat.le_of_ble_eq_true rfl⟩ hS (fun q h => h.elim Or.inl (fun h => Or.inr (Nat.le_trans hS.1 h))) (fun H1 locs1 hB hz1 hk1 hS => ?_)
    obtain ⟨⟨hE0, hGA⟩, hEi, ⟨hmp, hms, hmn, hmm, hmc⟩⟩ := id hB
    refine z_topi (y := 0) (by rw [hg]; rfl) ?_
    refine lv_if_ne (tgt := 160) hx hb d_M_placed_155 (by decide) (fun c_1 => ?_) (fun c_1 => ?_)
    · skip
      exact absurd (by decide) c_1
    · skip
      refine lv_iconst (v := 0) hx hb d_M_placed_158 (by decide) ?_
      exact z_wi hx hb hr hlocks (⟨rfl, hB⟩) hS d_M_placed_159
  refine lv_iload_n hx hb d_M_placed_0 rfl (lv_at hl 3 rfl) ?_
  refine lv_if_eq (tgt := 9) hx hb d_M_placed_1 (by decide) (fun c_2 => ?_) (fun c_2 => ?_)
  · skip
    exact absurd c_2 ha0
  · skip
    refine lv_iload_n hx hb d_M_placed_4 rfl (lv_at hl 3 rfl) ?_
    refine lv_iconst (v := 1) hx hb d_M_placed_5 (by decide) ?_
    refine lv_icmp_ne (tgt := 13) hx hb d_M_placed_6 (by decide) (fun c_3 => ?_) (fun c_3 => ?_)
    · skip
      refine lv_iconst (v := 0) hx hb d_M_placed_13 (by decide) ?_
      refine lv_istore (lv' := [(4, .int 0), (0, .ref (E 0)), (1, .int x), (2, .int y), (3, .int a0)]) hx hb d_M_placed_14 hl (by decide) rfl (fun ls hl => ?_)
      refine lv_iconst (v := (-1)) hx hb d_M_placed_16 (by decide) ?_
      refine lv_istore (lv' := [(5, .int (-1)), (4, .int 0), (0, .ref (E 0)), (1, .int x), (2, .int y), (3, .int a0)]) hx hb d_M_placed_17 hl (by decide) rfl (fun ls hl => ?_)
      refine lv_iconst (v := 0) hx hb d_M_placed_19 (by decide) ?_
      refine lv_istore (lv' := [(6, .int 0), (5, .int (-1)), (4, .int 0), (0, .ref (E 0)), (1, .int x), (2, .int y), (3, .int a0)]) hx hb d_M_placed_20 hl (by decide) rfl (fun ls hl => ?_)
      have loops : ∀ f : Nat, (∀ (k : Nat), 1728 - k < f → (k ≤ 1728) → (pm_fnd gv mm x y (1728 - k) k = fo) → ∀ ls : Array Slot, lv_has ls 17 [(0, .ref (E 0)), (1, .int x), (2, .int y), (3, .int a0), (4, .int 0), (5, .int (-1)), (6, .int (nI k))] → W p l e ({ frames := 3, cells := 0, slots := 0, locals := 75 }) s m [.ref (E 0), .int x, .int y, .int a0].toArray below meth c s.heap [] 0 0 (MQ below (z_Qw (fun r H => r = some (.int 0) ∧ z_Md (dC, dI) cI H E (pm_th false (pm_pt x y) fo.isSome) mp ms mc mn mm gv) (z_fr (z_mF E) s.heap.size)) [.ref (E 0), .int x, .int y, .int a0].toArray s 0 0 (z_fr (z_mF E) s.heap.size)) (F0 m 22 ls [])) := by
        intro f
        induction f with
        | zero => exact fun _ h => absurd h (Nat.not_lt_zero _)
        | succ f ih =>
          intro k hmu hk hres ls hl
          have hkk : k < 1728 → k / 144 < 12 := fun h => by omega
          refine lv_iload hx hb d_M_placed_22 (lv_at hl 6 rfl) ?_
          refine lv_sipush (v := 1728) hx hb d_M_placed_24 (by decide) ?_
          refine lv_icmp_ge (tgt := 133) hx hb d_M_placed_27 (by decide) (fun c_4 => ?_) (fun c_4 => ?_)
          · skip
            have c_4 : 1728 ≤ k := (nI_leI (a := 1728) (b := k) (by omega) (by omega)).mp c_4
            refine lv_aload_n hx hb d_M_placed_133 rfl (lv_at hl 0 rfl) ?_
            refine lv_iload hx hb d_M_placed_134 (lv_at hl 4 rfl) ?_
            refine lv_iload_n hx hb d_M_placed_136 rfl (lv_at hl 1 rfl) ?_
            refine lv_iload_n hx hb d_M_placed_137 rfl (lv_at hl 2 rfl) ?_
            refine z_rdS (n := 2) (rest := [.int 0, .ref (E 0)]) ⟨hx, hb, hml, hown, hts⟩ hW0 (c_M_isPoint G x y) w_644 w_642 w_643 w_4 (by decide +kernel) ⟨rfl, rfl, Nat.le_of_ble_eq_true rfl, Nat.le_of_ble_eq_true rfl⟩ (trivial) rfl rfl hl.1 (Nat.le_of_ble_eq_true rfl) d_M_placed_138 ⟨Nat.zero_le _, Nat.zero_le _⟩ ?_
            refine lv_iload hx hb d_M_placed_141 (lv_at hl 5 rfl) ?_
            refine lv_iconst (v := (-1)) hx hb d_M_placed_143 (by decide) ?_
            refine lv_icmp_eq (tgt := 151) hx hb d_M_placed_144 (by decide) (fun c_5 => ?_) (fun c_5 => ?_)
            · skip
              refine lv_iconst (v := 0) hx hb d_M_placed_151 (by decide) ?_
              rw [show 1728 - k = 0 by omega] at hres
              simp only [pm_fnd] at hres
              refine z_g3 (w1 := pi_b false) (w2 := pi_b (pm_pt x y)) (w3 := pi_b fo.isSome) (by rw [← hres]; rfl) (rfl) (rfl) ?_
              exact tail ls (lv_sub hl [0, 1, 2, 3] rfl)
            · skip
              exact absurd (by decide) c_5
          · skip
            have c_4 : ¬ (1728 ≤ k) := fun h => c_4 ((nI_leI (a := 1728) (b := k) (by omega) (by omega)).mpr h)
            refine lv_iload hx hb d_M_placed_30 (lv_at hl 5 rfl) ?_
            refine lv_iconst (v := (-1)) hx hb d_M_placed_32 (by decide) ?_
            refine lv_icmp_ne (tgt := 133) hx hb d_M_placed_33 (by decide) (fun c_6 => ?_) (fun c_6 => ?_)
            · skip
              exact absurd (by decide) c_6
            · skip
              refine lv_iload hx hb d_M_placed_36 (lv_at hl 6 rfl) ?_
              refine lv_sipush (v := 144) hx hb d_M_placed_38 (by decide) ?_
              refine lv_idiv hx hb d_M_placed_41 (nI_ne0 (n := 144) (by omega) (by omega)) ?_
              refine z_topi (y := nI (k / 144)) (pk_div (a := k) (d := 144) (by omega) (by omega) (by omega)) ?_
              refine lv_istore (lv' := [(7, .int (nI (k / 144))), (0, .ref (E 0)), (1, .int x), (2, .int y), (3, .int a0), (4, .int 0), (5, .int (-1)), (6, .int (nI k))]) hx hb d_M_placed_42 hl (by decide) rfl (fun ls hl => ?_)
              refine lv_iload hx hb d_M_placed_44 (lv_at hl 7 rfl) ?_
              refine lv_bipush (v := 12) hx hb d_M_placed_46 (by decide) ?_
              refine lv_idiv hx hb d_M_placed_48 (nI_ne0 (n := 12) (by omega) (by omega)) ?_
              refine z_topi (y := nI (k / 12)) (pk_div (a := k) (d := 12) (by omega) (by omega) (by omega)) ?_
              refine lv_bipush (v := 12) hx hb d_M_placed_49 (by decide) ?_
              refine lv_irem hx hb d_M_placed_51 (nI_ne0 (n := 12) (by omega) (by omega)) ?_
              refine z_topi (y := nI ((k / 12) % 12)) (pk_rem (a := k / 12) (d := 12) (by omega) (by omega) (by omega)) ?_
              refine lv_istore (lv' := [(8, .int (nI ((k / 12) % 12))), (7, .int (nI (k / 144))), (0, .ref (E 0)), (1, .int x), (2, .int y), (3, .int a0), (4, .int 0), (5, .int (-1)), (6, .int (nI k))]) hx hb d_M_placed_52 hl (by decide) rfl (fun ls hl => ?_)
              refine lv_iload hx hb d_M_placed_54 (lv_at hl 8 rfl) ?_
              refine lv_bipush (v := 12) hx hb d_M_placed_56 (by decide) ?_
              refine lv_irem hx hb d_M_placed_58 (nI_ne0 (n := 12) (by omega) (by omega)) ?_
              refine z_topi (y := nI (k % 12)) (pk_rem (a := k) (d := 12) (by omega) (by omega) (by omega)) ?_
              refine lv_istore (lv' := [(9, .int (nI (k % 12))), (8, .int (nI ((k / 12) % 12))), (7, .int (nI (k / 144))), (0, .ref (E 0)), (1, .int x), (2, .int y), (3, .int a0), (4, .int 0), (5, .int (-1)), (6, .int (nI k))]) hx hb d_M_placed_59 hl (by decide) rfl (fun ls hl => ?_)
              refine lv_iload hx hb d_M_placed_61 (lv_at hl 2 rfl) ?_
              refine lv_iload hx hb d_M_placed_63 (lv_at hl 1 rfl) ?_
              refine lv_icmp_ge (tgt := 96) hx hb d_M_placed_65 (by decide) (fun c_7 => ?_) (fun c_7 => ?_)
              · skip
                have c_7 : ((k / 12) % 12) ≤ (k / 144) := (nI_leI (a := (k / 12) % 12) (b := k / 144) (by omega) (by omega)).mp c_7
                refine lv_iconst (v := 0) hx hb d_M_placed_96 (by decide) ?_
                refine lv_istore (lv' := [(10, .int 0), (9, .int (nI (k % 12))), (8, .int (nI ((k / 12) % 12))), (7, .int (nI (k / 144))), (0, .ref (E 0)), (1, .int x), (2, .int y), (3, .int a0), (4, .int 0), (5, .int (-1)), (6, .int (nI k))]) hx hb d_M_placed_97 hl (by decide) rfl (fun ls hl => ?_)
                refine lv_iload hx hb d_M_placed_99 (lv_at hl 0 rfl) ?_
                refine lv_if_eq (tgt := 124) hx hb d_M_placed_101 (by decide) (fun c_8 => ?_) (fun c_8 => ?_)
                · skip
                  refine lv_iconst (v := (-1)) hx hb d_M_placed_124 (by decide) ?_
                  refine lv_istore (lv' := [(5, .int (-1)), (10, .int 0), (9, .int (nI (k % 12))), (8, .int (nI ((k / 12) % 12))), (7, .int (nI (k / 144))), (0, .ref (E 0)), (1, .int x), (2, .int y), (3, .int a0), (4, .int 0), (6, .int (nI k))]) hx hb d_M_placed_125 hl (by decide) rfl (fun ls hl => ?_)
                  refine lv_iinc (v := nI (k + 1)) (lv' := [(6, .int (nI (k + 1))), (5, .int (-1)), (10, .int 0), (9, .int (nI (k % 12))), (8, .int (nI ((k / 12) % 12))), (7, .int (nI (k / 144))), (0, .ref (E 0)), (1, .int x), (2, .int y), (3, .int a0), (4, .int 0)]) hx hb d_M_placed_127 hl (k := 10) rfl (nI_1 k) (by decide) rfl (fun ls hl => ?_)
                  refine lv_goto (tgt := 22) hx hb d_M_placed_130 (by decide) ?_
                  exact ih (k + 1) (by omega) (by omega) (by rw [show 1728 - k = (1728 - (k + 1)) + 1 by omega] at hres; simpa [pm_fnd, pm_is, c_4, (Nat.not_lt.mpr c_7)] using hres) ls (lv_sub hl [6, 7, 8, 9, 10, 1, 0] rfl)
                · skip
                  exact absurd (by decide) c_8
              · skip
                have c_7 : ¬ (((k / 12) % 12) ≤ (k / 144)) := fun h => c_7 ((nI_leI (a := (k / 12) % 12) (b := k / 144) (by omega) (by omega)).mpr h)
                refine lv_iload hx hb d_M_placed_68 (lv_at hl 1 rfl) ?_
                refine lv_iload hx hb d_M_placed_70 (lv_at hl 0 rfl) ?_
                refine lv_icmp_ge (tgt := 96) hx hb d_M_placed_72 (by decide) (fun c_9 => ?_) (fun c_9 => ?_)
                · skip
                  have c_9 : (k % 12) ≤ ((k / 12) % 12) := (nI_leI (a := k % 12) (b := (k / 12) % 12) (by omega) (by omega)).mp c_9
                  refine lv_iconst (v := 0) hx hb d_M_placed_96 (by decide) ?_
                  refine lv_istore (lv' := [(10, .int 0), (9, .int (nI (k % 12))), (8, .int (nI ((k / 12) % 12))), (7, .int (nI (k / 144))), (0, .ref (E 0)), (1, .int x), (2, .int y), (3, .int a0), (4, .int 0), (5, .int (-1)), (6, .int (nI k))]) hx hb d_M_placed_97 hl (by decide) rfl (fun ls hl => ?_)
                  refine lv_iload hx hb d_M_placed_99 (lv_at hl 0 rfl) ?_
                  refine lv_if_eq (tgt := 124) hx hb d_M_placed_101 (by decide) (fun c_10 => ?_) (fun c_10 => ?_)
                  · skip
                    refine lv_iconst (v := (-1)) hx hb d_M_placed_124 (by decide) ?_
                    refine lv_istore (lv' := [(5, .int (-1)), (10, .int 0), (9, .int (nI (k % 12))), (8, .int (nI ((k / 12) % 12))), (7, .int (nI (k / 144))), (0, .ref (E 0)), (1, .int x), (2, .int y), (3, .int a0), (4, .int 0), (6, .int (nI k))]) hx hb d_M_placed_125 hl (by decide) rfl (fun ls hl => ?_)
                    refine lv_iinc (v := nI (k + 1)) (lv' := [(6, .int (nI (k + 1))), (5, .int (-1)), (10, .int 0), (9, .int (nI (k % 12))), (8, .int (nI ((k / 12) % 12))), (7, .int (nI (k / 144))), (0, .ref (E 0)), (1, .int x), (2, .int y), (3, .int a0), (4, .int 0)]) hx hb d_M_placed_127 hl (k := 10) rfl (nI_1 k) (by decide) rfl (fun ls hl => ?_)
                    refine lv_goto (tgt := 22) hx hb d_M_placed_130 (by decide) ?_
                    exact ih (k + 1) (by omega) (by omega) (by rw [show 1728 - k = (1728 - (k + 1)) + 1 by omega] at hres; simpa [pm_fnd, pm_is, c_4, c_7, (Nat.not_lt.mpr c_9)] using hres) ls (lv_sub hl [6, 7, 8, 9, 10, 1, 0] rfl)
                  · skip
                    exact absurd (by decide) c_10
                · skip
                  have c_9 : ¬ ((k % 12) ≤ ((k / 12) % 12)) := fun h => c_9 ((nI_leI (a := k % 12) (b := (k / 12) % 12) (by omega) (by omega)).mpr h)
                  refine lv_iload hx hb d_M_placed_75 (lv_at hl 0 rfl) ?_
                  refine lv_aload_n hx hb d_M_placed_77 rfl (lv_at hl 3 rfl) ?_
                  refine va_get (D := (dC, dI)) (ci := 4) (v := .int (nI mm)) (C := R_M) (T := T_M) (N := 23) hx hb hts in_M hown hK hE0.P 0 rfl rfl 18 (by decide) (hts _ w_558) (fun _ h9 => h9) rfl d_M_placed_78 ?_
                  refine lv_icmp_ge (tgt := 96) hx hb d_M_placed_81 (by decide) (fun c_11 => ?_) (fun c_11 => ?_)
                  · skip
                    have c_11 : mm ≤ (k % 12) := (nI_leI (a := mm) (b := k % 12) (by omega) (by omega)).mp c_11
                    refine lv_iconst (v := 0) hx hb d_M_placed_96 (by decide) ?_
                    refine lv_istore (lv' := [(10, .int 0), (9, .int (nI (k % 12))), (8, .int (nI ((k / 12) % 12))), (7, .int (nI (k / 144))), (0, .ref (E 0)), (1, .int x), (2, .int y), (3, .int a0), (4, .int 0), (5, .int (-1)), (6, .int (nI k))]) hx hb d_M_placed_97 hl (by decide) rfl (fun ls hl => ?_)
                    refine lv_iload hx hb d_M_placed_99 (lv_at hl 0 rfl) ?_
                    refine lv_if_eq (tgt := 124) hx hb d_M_placed_101 (by decide) (fun c_12 => ?_) (fun c_12 => ?_)
                    · skip
                      refine lv_iconst (v := (-1)) hx hb d_M_placed_124 (by decide) ?_
                      refine lv_istore (lv' := [(5, .int (-1)), (10, .int 0), (9, .int (nI (k % 12))), (8, .int (nI ((k / 12) % 12))), (7, .int (nI (k / 144))), (0, .ref (E 0)), (1, .int x), (2, .int y), (3, .int a0), (4, .int 0), (6, .int (nI k))]) hx hb d_M_placed_125 hl (by decide) rfl (fun ls hl => ?_)
                      refine lv_iinc (v := nI (k + 1)) (lv' := [(6, .int (nI (k + 1))), (5, .int (-1)), (10, .int 0), (9, .int (nI (k % 12))), (8, .int (nI ((k / 12) % 12))), (7, .int (nI (k / 144))), (0, .ref (E 0)), (1, .int x), (2, .int y), (3, .int a0), (4, .int 0)]) hx hb d_M_placed_127 hl (k := 10) rfl (nI_1 k) (by decide) rfl (fun ls hl => ?_)
                      refine lv_goto (tgt := 22) hx hb d_M_placed_130 (by decide) ?_
                      exact ih (k + 1) (by omega) (by omega) (by rw [show 1728 - k = (1728 - (k + 1)) + 1 by omega] at hres; simpa [pm_fnd, pm_is, c_4, c_7, c_9, (Nat.not_lt.mpr c_11)] using hres) ls (lv_sub hl [6, 7, 8, 9, 10, 1, 0] rfl)
                    · skip
                      exact absurd (by decide) c_12
                  · skip
                    have c_11 : ¬ (mm ≤ (k % 12)) := fun h => c_11 ((nI_leI (a := mm) (b := k % 12) (by omega) (by omega)).mpr h)
                    refine lv_iload_n hx hb d_M_placed_84 rfl (lv_at hl 4 rfl) ?_
                    refine lv_iload_n hx hb d_M_placed_85 rfl (lv_at hl 5 rfl) ?_
                    refine z_rdS (n := 2) (rest := []) ⟨hx, hb, hml, hown, hts⟩ hW0 (c_M_isPoint G x y) w_644 w_642 w_643 w_4 (by decide +kernel) ⟨rfl, rfl, Nat.le_of_ble_eq_true rfl, Nat.le_of_ble_eq_true rfl⟩ (trivial) rfl rfl hl.1 (Nat.le_of_ble_eq_true rfl) d_M_placed_86 ⟨Nat.zero_le _, Nat.zero_le _⟩ ?_
                    refine lv_if_eq (tgt := 96) hx hb d_M_placed_89 (by decide) (fun c_13 => ?_) (fun c_13 => ?_)
                    · skip
                      have c_13 : (pm_pt x y) = false := pi_b_0.mp c_13
                      refine lv_iconst (v := 0) hx hb d_M_placed_96 (by decide) ?_
                      refine lv_istore (lv' := [(10, .int 0), (9, .int (nI (k % 12))), (8, .int (nI ((k / 12) % 12))), (7, .int (nI (k / 144))), (0, .ref (E 0)), (1, .int x), (2, .int y), (3, .int a0), (4, .int 0), (5, .int (-1)), (6, .int (nI k))]) hx hb d_M_placed_97 hl (by decide) rfl (fun ls hl => ?_)
                      refine lv_iload hx hb d_M_placed_99 (lv_at hl 0 rfl) ?_
                      refine lv_if_eq (tgt := 124) hx hb d_M_placed_101 (by decide) (fun c_14 => ?_) (fun c_14 => ?_)
                      · skip
                        refine lv_iconst (v := (-1)) hx hb d_M_placed_124 (by decide) ?_
                        refine lv_istore (lv' := [(5, .int (-1)), (10, .int 0), (9, .int (nI (k % 12))), (8, .int (nI ((k / 12) % 12))), (7, .int (nI (k / 144))), (0, .ref (E 0)), (1, .int x), (2, .int y), (3, .int a0), (4, .int 0), (6, .int (nI k))]) hx hb d_M_placed_125 hl (by decide) rfl (fun ls hl => ?_)
                        refine lv_iinc (v := nI (k + 1)) (lv' := [(6, .int (nI (k + 1))), (5, .int (-1)), (10, .int 0), (9, .int (nI (k % 12))), (8, .int (nI ((k / 12) % 12))), (7, .int (nI (k / 144))), (0, .ref (E 0)), (1, .int x), (2, .int y), (3, .int a0), (4, .int 0)]) hx hb d_M_placed_127 hl (k := 10) rfl (nI_1 k) (by decide) rfl (fun ls hl => ?_)
                        refine lv_goto (tgt := 22) hx hb d_M_placed_130 (by decide) ?_
                        exact ih (k + 1) (by omega) (by omega) (by rw [show 1728 - k = (1728 - (k + 1)) + 1 by omega] at hres; simpa [pm_fnd, pm_is, c_4, c_7, c_9, c_11, c_13] using hres) ls (lv_sub hl [6, 7, 8, 9, 10, 1, 0] rfl)
                      · skip
                        exact absurd (by decide) c_14
                    · skip
                      have c_13 : (pm_pt x y) = true := pi_b_1.mp c_13
                      refine lv_iconst (v := 1) hx hb d_M_placed_92 (by decide) ?_
                      refine lv_goto (tgt := 97) hx hb d_M_placed_93 (by decide) ?_
                      refine lv_istore (lv' := [(10, .int 1), (9, .int (nI (k % 12))), (8, .int (nI ((k / 12) % 12))), (7, .int (nI (k / 144))), (0, .ref (E 0)), (1, .int x), (2, .int y), (3, .int a0), (4, .int 0), (5, .int (-1)), (6, .int (nI k))]) hx hb d_M_placed_97 hl (by decide) rfl (fun ls hl => ?_)
                      refine lv_iload hx hb d_M_placed_99 (lv_at hl 0 rfl) ?_
                      refine lv_if_eq (tgt := 124) hx hb d_M_placed_101 (by decide) (fun c_15 => ?_) (fun c_15 => ?_)
                      · skip
                        exact absurd c_15 (by decide)
                      · skip
                        refine lv_aload_n hx hb d_M_placed_104 rfl (lv_at hl 4 rfl) ?_
                        refine lv_iload hx hb d_M_placed_105 (lv_at hl 3 rfl) ?_
                        refine lv_iload hx hb d_M_placed_107 (lv_at hl 2 rfl) ?_
                        refine lv_iload hx hb d_M_placed_109 (lv_at hl 1 rfl) ?_
                        refine lv_iload_n hx hb d_M_placed_111 rfl (lv_at hl 5 rfl) ?_
                        refine lv_iload_n hx hb d_M_placed_112 rfl (lv_at hl 6 rfl) ?_
                        refine z_rdV (n := 5) (C := R_M) (rest := []) ⟨hx, hb, hml, hown, hts⟩ hW0 (c_M_holds G E th mp ms mc mn mm gv (k / 144) ((k / 12) % 12) (k % 12) x y (by omega) (by omega) (by omega)) w_737 w_734 w_736 wp_29 w_4 (by decide +kernel) ⟨rfl, rfl, Nat.le_of_ble_eq_true rfl, Nat.le_of_ble_eq_true rfl⟩ (hE0.recv hK rfl) (hB) rfl rfl hl.1 (Nat.le_of_ble_eq_true rfl) d_M_placed_113 ⟨Nat.zero_le _, Nat.zero_le _⟩ ?_
                        refine lv_if_eq (tgt := 124) hx hb d_M_placed_116 (by decide) (fun c_16 => ?_) (fun c_16 => ?_)
                        · skip
                          have c_16 : (pm_hold (gv 13) (gv 14) (k / 144) ((k / 12) % 12) (k % 12) x y) = false := pi_b_0.mp c_16
                          refine lv_iconst (v := (-1)) hx hb d_M_placed_124 (by decide) ?_
                          refine lv_istore (lv' := [(5, .int (-1)), (10, .int 1), (9, .int (nI (k % 12))), (8, .int (nI ((k / 12) % 12))), (7, .int (nI (k / 144))), (0, .ref (E 0)), (1, .int x), (2, .int y), (3, .int a0), (4, .int 0), (6, .int (nI k))]) hx hb d_M_placed_125 hl (by decide) rfl (fun ls hl => ?_)
                          refine lv_iinc (v := nI (k + 1)) (lv' := [(6, .int (nI (k + 1))), (5, .int (-1)), (10, .int 1), (9, .int (nI (k % 12))), (8, .int (nI ((k / 12) % 12))), (7, .int (nI (k / 144))), (0, .ref (E 0)), (1, .int x), (2, .int y), (3, .int a0), (4, .int 0)]) hx hb d_M_placed_127 hl (k := 10) rfl (nI_1 k) (by decide) rfl (fun ls hl => ?_)
                          refine lv_goto (tgt := 22) hx hb d_M_placed_130 (by decide) ?_
                          exact ih (k + 1) (by omega) (by omega) (by rw [show 1728 - k = (1728 - (k + 1)) + 1 by omega] at hres; simpa [pm_fnd, pm_is, c_4, c_7, c_9, c_11, c_13, c_16] using hres) ls (lv_sub hl [6, 7, 8, 9, 10, 1, 0] rfl)
                        · skip
                          have c_16 : (pm_hold (gv 13) (gv 14) (k / 144) ((k / 12) % 12) (k % 12) x y) = true := pi_b_1.mp c_16
                          refine lv_iload hx hb d_M_placed_119 (lv_at hl 10 rfl) ?_
                          refine lv_goto (tgt := 125) hx hb d_M_placed_121 (by decide) ?_
                          refine lv_istore (lv' := [(5, .int (nI k)), (10, .int 1), (9, .int (nI (k % 12))), (8, .int (nI ((k / 12) % 12))), (7, .int (nI (k / 144))), (0, .ref (E 0)), (1, .int x), (2, .int y), (3, .int a0), (4, .int 0), (6, .int (nI k))]) hx hb d_M_placed_125 hl (by decide) rfl (fun ls hl => ?_)
                          refine lv_iinc (v := nI (k + 1)) (lv' := [(6, .int (nI (k + 1))), (5, .int (nI k)), (10, .int 1), (9, .int (nI (k % 12))), (8, .int (nI ((k / 12) % 12))), (7, .int (nI (k / 144))), (0, .ref (E 0)), (1, .int x), (2, .int y), (3, .int a0), (4, .int 0)]) hx hb d_M_placed_127 hl (k := 10) rfl (nI_1 k) (by decide) rfl (fun ls hl => ?_)
                          refine lv_goto (tgt := 22) hx hb d_M_placed_130 (by decide) ?_
                          refine lv_iload hx hb d_M_placed_22 (lv_at hl 0 rfl) ?_
                          refine lv_sipush (v := 1728) hx hb d_M_placed_24 (by decide) ?_
                          refine lv_icmp_ge (tgt := 133) hx hb d_M_placed_27 (by decide) (fun c_17 => ?_) (fun c_17 => ?_)
                          · skip
                            have c_17 : 1728 ≤ (k + 1) := (nI_leI (a := 1728) (b := k + 1) (by omega) (by omega)).mp c_17
                            refine lv_aload_n hx hb d_M_placed_133 rfl (lv_at hl 6 rfl) ?_
                            refine lv_iload hx hb d_M_placed_134 (lv_at hl 10 rfl) ?_
                            refine lv_iload_n hx hb d_M_placed_136 rfl (lv_at hl 7 rfl) ?_
                            refine lv_iload_n hx hb d_M_placed_137 rfl (lv_at hl 8 rfl) ?_
                            refine z_rdS (n := 2) (rest := [.int 0, .ref (E 0)]) ⟨hx, hb, hml, hown, hts⟩ hW0 (c_M_isPoint G x y) w_644 w_642 w_643 w_4 (by decide +kernel) ⟨rfl, rfl, Nat.le_of_ble_eq_true rfl, Nat.le_of_ble_eq_true rfl⟩ (trivial) rfl rfl hl.1 (Nat.le_of_ble_eq_true rfl) d_M_placed_138 ⟨Nat.zero_le _, Nat.zero_le _⟩ ?_
                            refine lv_iload hx hb d_M_placed_141 (lv_at hl 1 rfl) ?_
                            refine lv_iconst (v := (-1)) hx hb d_M_placed_143 (by decide) ?_
                            refine lv_icmp_eq (tgt := 151) hx hb d_M_placed_144 (by decide) (fun c_18 => ?_) (fun c_18 => ?_)
                            · skip
                              exact absurd c_18 (z_ne1 (by omega))
                            · skip
                              refine lv_iconst (v := 1) hx hb d_M_placed_147 (by decide) ?_
                              refine lv_goto (tgt := 152) hx hb d_M_placed_148 (by decide) ?_
                              have his : pm_is gv mm x y k = true := by simp [pm_is, (Nat.not_le.mp c_7), (Nat.not_le.mp c_9), (Nat.not_le.mp c_11), c_13, c_16]
                              rw [show 1728 - k = (1728 - (k + 1)) + 1 by omega] at hres
                              simp only [pm_fnd, his, ↓reduceIte] at hres
                              refine z_g3 (w1 := pi_b false) (w2 := pi_b (pm_pt x y)) (w3 := pi_b fo.isSome) (by rw [← hres]; rfl) (rfl) (rfl) ?_
                              exact tail ls (lv_sub hl [6, 7, 8, 9] rfl)
                          · skip
                            have c_17 : ¬ (1728 ≤ (k + 1)) := fun h => c_17 ((nI_leI (a := 1728) (b := k + 1) (by omega) (by omega)).mpr h)
                            refine lv_iload hx hb d_M_placed_30 (lv_at hl 1 rfl) ?_
                            refine lv_iconst (v := (-1)) hx hb d_M_placed_32 (by decide) ?_
                            refine lv_icmp_ne (tgt := 133) hx hb d_M_placed_33 (by decide) (fun c_19 => ?_) (fun c_19 => ?_)
                            · skip
                              refine lv_aload_n hx hb d_M_placed_133 rfl (lv_at hl 6 rfl) ?_
                              refine lv_iload hx hb d_M_placed_134 (lv_at hl 10 rfl) ?_
                              refine lv_iload_n hx hb d_M_placed_136 rfl (lv_at hl 7 rfl) ?_
                              refine lv_iload_n hx hb d_M_placed_137 rfl (lv_at hl 8 rfl) ?_
                              refine z_rdS (n := 2) (rest := [.int 0, .ref (E 0)]) ⟨hx, hb, hml, hown, hts⟩ hW0 (c_M_isPoint G x y) w_644 w_642 w_643 w_4 (by decide +kernel) ⟨rfl, rfl, Nat.le_of_ble_eq_true rfl, Nat.le_of_ble_eq_true rfl⟩ (trivial) rfl rfl hl.1 (Nat.le_of_ble_eq_true rfl) d_M_placed_138 ⟨Nat.zero_le _, Nat.zero_le _⟩ ?_
                              refine lv_iload hx hb d_M_placed_141 (lv_at hl 1 rfl) ?_
                              refine lv_iconst (v := (-1)) hx hb d_M_placed_143 (by decide) ?_
                              refine lv_icmp_eq (tgt := 151) hx hb d_M_placed_144 (by decide) (fun c_20 => ?_) (fun c_20 => ?_)
                              · skip
                                exact absurd c_20 c_19
                              · skip
                                refine lv_iconst (v := 1) hx hb d_M_placed_147 (by decide) ?_
                                refine lv_goto (tgt := 152) hx hb d_M_placed_148 (by decide) ?_
                                have his : pm_is gv mm x y k = true := by simp [pm_is, (Nat.not_le.mp c_7), (Nat.not_le.mp c_9), (Nat.not_le.mp c_11), c_13, c_16]
                                rw [show 1728 - k = (1728 - (k + 1)) + 1 by omega] at hres
                                simp only [pm_fnd, his, ↓reduceIte] at hres
                                refine z_g3 (w1 := pi_b false) (w2 := pi_b (pm_pt x y)) (w3 := pi_b fo.isSome) (by rw [← hres]; rfl) (rfl) (rfl) ?_
                                exact tail ls (lv_sub hl [6, 7, 8, 9] rfl)
                            · skip
                              exact absurd c_19 (z_ne1 (by omega))
      exact (loops ((1728 - 0) + 1)) 0 (by omega) (by omega) (hfo) ls (lv_sub hl [3, 4, 5, 6, 2, 1, 0] rfl)
    · skip
      exact absurd c_3 ha1
set_option maxRecDepth 100000 in
set_option maxHeartbeats 4000000 in
theorem c_M_placed_no0 (G : z_G s0 (dC, dI) cI cS) (E : Nat → Nat) (th : Int32) (mp ms mc mn mm : Nat) (gv : Nat → Nat → Int32) (sz : Nat) (x y : Int32) (fo : Option Nat) (hfo : pm_fnd gv mm x y 1728 0 = fo) (hg : (true && ((pm_pt x y) && fo.isSome)) = false) : Met l y_M_placed [Cond.code y_M_placed b_M_placed 17 (some .int)] ({ frames := 3, cells := 0, slots := 0, locals := 75 }) (z_Pc s0 [.ref (E 0), .int x, .int y, .int 0] (fun H => H.size = sz ∧ z_Md (dC, dI) cI H E th mp ms mc mn mm gv)) (z_Qw (fun r H => r = some (.int 0) ∧ z_Md (dC, dI) cI H E (pm_th true (pm_pt x y) fo.isSome) mp ms mc mn mm gv) (z_fr (z_mF E) sz)) 0 0 (z_fr (z_mF E) sz) := by
  refine z_ofW (by decide +kernel) (Nat.le_of_ble_eq_true rfl) ?_
  intro p e s m below meth c hx hb hml hr hown hlocks hnm hW0 hB ls hl
  have hts := z_hts (args := [.ref (E 0), .int x, .int y, .int 0].toArray) G.1 hW0
  have hN := z_nstW G.2.1 hW0
  have hK := va_K.moved hW0.alike G.2.2.1
  have hAI := arrOfT_moved hW0.alike G.2.2.2.1
  have hl : lv_has ls 17 [(0, .ref (E 0)), (1, .int x), (2, .int y), (3, .int 0)] := hl
  obtain ⟨rfl, hB⟩ := hB
  have hS : va_S (z_fr (z_mF E) s.heap.size) s.heap s.heap [] := va_S.rf
  obtain ⟨⟨hE0, hGA⟩, hEi, ⟨hmp, hms, hmn, hmm, hmc⟩⟩ := id hB
  have tail : ∀ ls : Array Slot, lv_has ls 17 [(0, .ref (E 0)), (1, .int x), (2, .int y), (3, .int 0)] → W p l e ({ frames := 3, cells := 0, slots := 0, locals := 75 }) s m [.ref (E 0), .int x, .int y, .int 0].toArray below meth c s.heap [] 0 0 (MQ below (z_Qw (fun r H => r = some (.int 0) ∧ z_Md (dC, dI) cI H E (pm_th true (pm_pt x y) fo.isSome) mp ms mc mn mm gv) (z_fr (z_mF E) s.heap.size)) [.ref (E 0), .int x, .int y, .int 0].toArray s 0 0 (z_fr (z_mF E) s.heap.size)) (F0 m 152 ls [.int (pi_b fo.isSome), .int (pi_b (pm_pt x y)), .int (pi_b true), .ref (E 0)]) := by
    intro ls hl
    refine z_wrV (n := 3) (C := R_M) (rest := []) ⟨hx, hb, hml, hown, hts⟩ hW0 (c_M_goes G E th mp ms mc mn mm gv _ true (pm_pt x y) fo.isSome) w_625 w_622 w_624 wp_19 w_4 (by decide +kernel) ⟨rfl, rfl, Nat.le_of_ble_eq_true rfl, Nat.le_of_ble_eq_true rfl⟩ (hE0.recv hK rfl) ⟨rfl, hB⟩ rfl rfl hl.1 (Nat.le_of_ble_eq_true rfl) d_M_placed_152 ⟨Nat.le_of_ble_eq_true rfl, Nat.le_of_ble_eq_true rfl⟩ hS (fun q h => h.elim Or.inl (fun h => Or.inr (Nat.le_trans hS.1 h))) (fun H1 locs1 hB hz1 hk1 hS => ?_)
    obtain ⟨⟨hE0, hGA⟩, hEi, ⟨hmp, hms, hmn, hmm, hmc⟩⟩ := id hB
    refine z_topi (y := 0) (by rw [hg]; rfl) ?_
    refine lv_if_ne (tgt := 160) hx hb d_M_placed_155 (by decide) (fun c_1 => ?_) (fun c_1 => ?_)
    · skip
      exact absurd (by decide) c_1
    · skip
      refine lv_iconst (v := 0) hx hb d_M_placed_158 (by decide) ?_
      exact z_wi hx hb hr hlocks (⟨rfl, hB⟩) hS d_M_placed_159
  refine lv_iload_n hx hb d_M_placed_0 rfl (lv_at hl 3 rfl) ?_
  refine lv_if_eq (tgt := 9) hx hb d_M_placed_1 (by decide) (fun c_2 => ?_) (fun c_2 => ?_)
  · skip
    refine lv_iconst (v := 1) hx hb d_M_placed_9 (by decide) ?_
    refine lv_goto (tgt := 14) hx hb d_M_placed_10 (by decide) ?_
    refine lv_istore (lv' := [(4, .int 1), (0, .ref (E 0)), (1, .int x), (2, .int y), (3, .int 0)]) hx hb d_M_placed_14 hl (by decide) rfl (fun ls hl => ?_)
    refine lv_iconst (v := (-1)) hx hb d_M_placed_16 (by decide) ?_
    refine lv_istore (lv' := [(5, .int (-1)), (4, .int 1), (0, .ref (E 0)), (1, .int x), (2, .int y), (3, .int 0)]) hx hb d_M_placed_17 hl (by decide) rfl (fun ls hl => ?_)
    refine lv_iconst (v := 0) hx hb d_M_placed_19 (by decide) ?_
    refine lv_istore (lv' := [(6, .int 0), (5, .int (-1)), (4, .int 1), (0, .ref (E 0)), (1, .int x), (2, .int y), (3, .int 0)]) hx hb d_M_placed_20 hl (by decide) rfl (fun ls hl => ?_)
    have loops : ∀ f : Nat, (∀ (k : Nat), 1728 - k < f → (k ≤ 1728) → (pm_fnd gv mm x y (1728 - k) k = fo) → ∀ ls : Array Slot, lv_has ls 17 [(0, .ref (E 0)), (1, .int x), (2, .int y), (3, .int 0), (4, .int 1), (5, .int (-1)), (6, .int (nI k))] → W p l e ({ frames := 3, cells := 0, slots := 0, locals := 75 }) s m [.ref (E 0), .int x, .int y, .int 0].toArray below meth c s.heap [] 0 0 (MQ below (z_Qw (fun r H => r = some (.int 0) ∧ z_Md (dC, dI) cI H E (pm_th true (pm_pt x y) fo.isSome) mp ms mc mn mm gv) (z_fr (z_mF E) s.heap.size)) [.ref (E 0), .int x, .int y, .int 0].toArray s 0 0 (z_fr (z_mF E) s.heap.size)) (F0 m 22 ls [])) := by
      intro f
      induction f with
      | zero => exact fun _ h => absurd h (Nat.not_lt_zero _)
      | succ f ih =>
        intro k hmu hk hres ls hl
        have hkk : k < 1728 → k / 144 < 12 := fun h => by omega
        refine lv_iload hx hb d_M_placed_22 (lv_at hl 6 rfl) ?_
        refine lv_sipush (v := 1728) hx hb d_M_placed_24 (by decide) ?_
        refine lv_icmp_ge (tgt := 133) hx hb d_M_placed_27 (by decide) (fun c_3 => ?_) (fun c_3 => ?_)
        · skip
          have c_3 : 1728 ≤ k := (nI_leI (a := 1728) (b := k) (by omega) (by omega)).mp c_3
          refine lv_aload_n hx hb d_M_placed_133 rfl (lv_at hl 0 rfl) ?_
          refine lv_iload hx hb d_M_placed_134 (lv_at hl 4 rfl) ?_
          refine lv_iload_n hx hb d_M_placed_136 rfl (lv_at hl 1 rfl) ?_
          refine lv_iload_n hx hb d_M_placed_137 rfl (lv_at hl 2 rfl) ?_
          refine z_rdS (n := 2) (rest := [.int 1, .ref (E 0)]) ⟨hx, hb, hml, hown, hts⟩ hW0 (c_M_isPoint G x y) w_644 w_642 w_643 w_4 (by decide +kernel) ⟨rfl, rfl, Nat.le_of_ble_eq_true rfl, Nat.le_of_ble_eq_true rfl⟩ (trivial) rfl rfl hl.1 (Nat.le_of_ble_eq_true rfl) d_M_placed_138 ⟨Nat.zero_le _, Nat.zero_le _⟩ ?_
          refine lv_iload hx hb d_M_placed_141 (lv_at hl 5 rfl) ?_
          refine lv_iconst (v := (-1)) hx hb d_M_placed_143 (by decide) ?_
          refine lv_icmp_eq (tgt := 151) hx hb d_M_placed_144 (by decide) (fun c_4 => ?_) (fun c_4 => ?_)
          · skip
            refine lv_iconst (v := 0) hx hb d_M_placed_151 (by decide) ?_
            rw [show 1728 - k = 0 by omega] at hres
            simp only [pm_fnd] at hres
            refine z_g3 (w1 := pi_b true) (w2 := pi_b (pm_pt x y)) (w3 := pi_b fo.isSome) (by rw [← hres]; rfl) (rfl) (rfl) ?_
            exact tail ls (lv_sub hl [0, 1, 2, 3] rfl)
          · skip
            exact absurd (by decide) c_4
        · skip
          have c_3 : ¬ (1728 ≤ k) := fun h => c_3 ((nI_leI (a := 1728) (b := k) (by omega) (by omega)).mpr h)
          refine lv_iload hx hb d_M_placed_30 (lv_at hl 5 rfl) ?_
          refine lv_iconst (v := (-1)) hx hb d_M_placed_32 (by decide) ?_
          refine lv_icmp_ne (tgt := 133) hx hb d_M_placed_33 (by decide) (fun c_5 => ?_) (fun c_5 => ?_)
          · skip
            exact absurd (by decide) c_5
          · skip
            refine lv_iload hx hb d_M_placed_36 (lv_at hl 6 rfl) ?_
            refine lv_sipush (v := 144) hx hb d_M_placed_38 (by decide) ?_
            refine lv_idiv hx hb d_M_placed_41 (nI_ne0 (n := 144) (by omega) (by omega)) ?_
            refine z_topi (y := nI (k / 144)) (pk_div (a := k) (d := 144) (by omega) (by omega) (by omega)) ?_
            refine lv_istore (lv' := [(7, .int (nI (k / 144))), (0, .ref (E 0)), (1, .int x), (2, .int y), (3, .int 0), (4, .int 1), (5, .int (-1)), (6, .int (nI k))]) hx hb d_M_placed_42 hl (by decide) rfl (fun ls hl => ?_)
            refine lv_iload hx hb d_M_placed_44 (lv_at hl 7 rfl) ?_
            refine lv_bipush (v := 12) hx hb d_M_placed_46 (by decide) ?_
            refine lv_idiv hx hb d_M_placed_48 (nI_ne0 (n := 12) (by omega) (by omega)) ?_
            refine z_topi (y := nI (k / 12)) (pk_div (a := k) (d := 12) (by omega) (by omega) (by omega)) ?_
            refine lv_bipush (v := 12) hx hb d_M_placed_49 (by decide) ?_
            refine lv_irem hx hb d_M_placed_51 (nI_ne0 (n := 12) (by omega) (by omega)) ?_
            refine z_topi (y := nI ((k / 12) % 12)) (pk_rem (a := k / 12) (d := 12) (by omega) (by omega) (by omega)) ?_
            refine lv_istore (lv' := [(8, .int (nI ((k / 12) % 12))), (7, .int (nI (k / 144))), (0, .ref (E 0)), (1, .int x), (2, .int y), (3, .int 0), (4, .int 1), (5, .int (-1)), (6, .int (nI k))]) hx hb d_M_placed_52 hl (by decide) rfl (fun ls hl => ?_)
            refine lv_iload hx hb d_M_placed_54 (lv_at hl 8 rfl) ?_
            refine lv_bipush (v := 12) hx hb d_M_placed_56 (by decide) ?_
            refine lv_irem hx hb d_M_placed_58 (nI_ne0 (n := 12) (by omega) (by omega)) ?_
            refine z_topi (y := nI (k % 12)) (pk_rem (a := k) (d := 12) (by omega) (by omega) (by omega)) ?_
            refine lv_istore (lv' := [(9, .int (nI (k % 12))), (8, .int (nI ((k / 12) % 12))), (7, .int (nI (k / 144))), (0, .ref (E 0)), (1, .int x), (2, .int y), (3, .int 0), (4, .int 1), (5, .int (-1)), (6, .int (nI k))]) hx hb d_M_placed_59 hl (by decide) rfl (fun ls hl => ?_)
            refine lv_iload hx hb d_M_placed_61 (lv_at hl 2 rfl) ?_
            refine lv_iload hx hb d_M_placed_63 (lv_at hl 1 rfl) ?_
            refine lv_icmp_ge (tgt := 96) hx hb d_M_placed_65 (by decide) (fun c_6 => ?_) (fun c_6 => ?_)
            · skip
              have c_6 : ((k / 12) % 12) ≤ (k / 144) := (nI_leI (a := (k / 12) % 12) (b := k / 144) (by omega) (by omega)).mp c_6
              refine lv_iconst (v := 0) hx hb d_M_placed_96 (by decide) ?_
              refine lv_istore (lv' := [(10, .int 0), (9, .int (nI (k % 12))), (8, .int (nI ((k / 12) % 12))), (7, .int (nI (k / 144))), (0, .ref (E 0)), (1, .int x), (2, .int y), (3, .int 0), (4, .int 1), (5, .int (-1)), (6, .int (nI k))]) hx hb d_M_placed_97 hl (by decide) rfl (fun ls hl => ?_)
              refine lv_iload hx hb d_M_placed_99 (lv_at hl 0 rfl) ?_
              refine lv_if_eq (tgt := 124) hx hb d_M_placed_101 (by decide) (fun c_7 => ?_) (fun c_7 => ?_)
              · skip
                refine lv_iconst (v := (-1)) hx hb d_M_placed_124 (by decide) ?_
                refine lv_istore (lv' := [(5, .int (-1)), (10, .int 0), (9, .int (nI (k % 12))), (8, .int (nI ((k / 12) % 12))), (7, .int (nI (k / 144))), (0, .ref (E 0)), (1, .int x), (2, .int y), (3, .int 0), (4, .int 1), (6, .int (nI k))]) hx hb d_M_placed_125 hl (by decide) rfl (fun ls hl => ?_)
                refine lv_iinc (v := nI (k + 1)) (lv' := [(6, .int (nI (k + 1))), (5, .int (-1)), (10, .int 0), (9, .int (nI (k % 12))), (8, .int (nI ((k / 12) % 12))), (7, .int (nI (k / 144))), (0, .ref (E 0)), (1, .int x), (2, .int y), (3, .int 0), (4, .int 1)]) hx hb d_M_placed_127 hl (k := 10) rfl (nI_1 k) (by decide) rfl (fun ls hl => ?_)
                refine lv_goto (tgt := 22) hx hb d_M_placed_130 (by decide) ?_
                exact ih (k + 1) (by omega) (by omega) (by rw [show 1728 - k = (1728 - (k + 1)) + 1 by omega] at hres; simpa [pm_fnd, pm_is, c_3, (Nat.not_lt.mpr c_6)] using hres) ls (lv_sub hl [6, 7, 8, 9, 10, 1, 0] rfl)
              · skip
                exact absurd (by decide) c_7
            · skip
              have c_6 : ¬ (((k / 12) % 12) ≤ (k / 144)) := fun h => c_6 ((nI_leI (a := (k / 12) % 12) (b := k / 144) (by omega) (by omega)).mpr h)
              refine lv_iload hx hb d_M_placed_68 (lv_at hl 1 rfl) ?_
              refine lv_iload hx hb d_M_placed_70 (lv_at hl 0 rfl) ?_
              refine lv_icmp_ge (tgt := 96) hx hb d_M_placed_72 (by decide) (fun c_8 => ?_) (fun c_8 => ?_)
              · skip
                have c_8 : (k % 12) ≤ ((k / 12) % 12) := (nI_leI (a := k % 12) (b := (k / 12) % 12) (by omega) (by omega)).mp c_8
                refine lv_iconst (v := 0) hx hb d_M_placed_96 (by decide) ?_
                refine lv_istore (lv' := [(10, .int 0), (9, .int (nI (k % 12))), (8, .int (nI ((k / 12) % 12))), (7, .int (nI (k / 144))), (0, .ref (E 0)), (1, .int x), (2, .int y), (3, .int 0), (4, .int 1), (5, .int (-1)), (6, .int (nI k))]) hx hb d_M_placed_97 hl (by decide) rfl (fun ls hl => ?_)
                refine lv_iload hx hb d_M_placed_99 (lv_at hl 0 rfl) ?_
                refine lv_if_eq (tgt := 124) hx hb d_M_placed_101 (by decide) (fun c_9 => ?_) (fun c_9 => ?_)
                · skip
                  refine lv_iconst (v := (-1)) hx hb d_M_placed_124 (by decide) ?_
                  refine lv_istore (lv' := [(5, .int (-1)), (10, .int 0), (9, .int (nI (k % 12))), (8, .int (nI ((k / 12) % 12))), (7, .int (nI (k / 144))), (0, .ref (E 0)), (1, .int x), (2, .int y), (3, .int 0), (4, .int 1), (6, .int (nI k))]) hx hb d_M_placed_125 hl (by decide) rfl (fun ls hl => ?_)
                  refine lv_iinc (v := nI (k + 1)) (lv' := [(6, .int (nI (k + 1))), (5, .int (-1)), (10, .int 0), (9, .int (nI (k % 12))), (8, .int (nI ((k / 12) % 12))), (7, .int (nI (k / 144))), (0, .ref (E 0)), (1, .int x), (2, .int y), (3, .int 0), (4, .int 1)]) hx hb d_M_placed_127 hl (k := 10) rfl (nI_1 k) (by decide) rfl (fun ls hl => ?_)
                  refine lv_goto (tgt := 22) hx hb d_M_placed_130 (by decide) ?_
                  exact ih (k + 1) (by omega) (by omega) (by rw [show 1728 - k = (1728 - (k + 1)) + 1 by omega] at hres; simpa [pm_fnd, pm_is, c_3, c_6, (Nat.not_lt.mpr c_8)] using hres) ls (lv_sub hl [6, 7, 8, 9, 10, 1, 0] rfl)
                · skip
                  exact absurd (by decide) c_9
              · skip
                have c_8 : ¬ ((k % 12) ≤ ((k / 12) % 12)) := fun h => c_8 ((nI_leI (a := k % 12) (b := (k / 12) % 12) (by omega) (by omega)).mpr h)
                refine lv_iload hx hb d_M_placed_75 (lv_at hl 0 rfl) ?_
                refine lv_aload_n hx hb d_M_placed_77 rfl (lv_at hl 3 rfl) ?_
                refine va_get (D := (dC, dI)) (ci := 4) (v := .int (nI mm)) (C := R_M) (T := T_M) (N := 23) hx hb hts in_M hown hK hE0.P 0 rfl rfl 18 (by decide) (hts _ w_558) (fun _ h9 => h9) rfl d_M_placed_78 ?_
                refine lv_icmp_ge (tgt := 96) hx hb d_M_placed_81 (by decide) (fun c_10 => ?_) (fun c_10 => ?_)
                · skip
                  have c_10 : mm ≤ (k % 12) := (nI_leI (a := mm) (b := k % 12) (by omega) (by omega)).mp c_10
                  refine lv_iconst (v := 0) hx hb d_M_placed_96 (by decide) ?_
                  refine lv_istore (lv' := [(10, .int 0), (9, .int (nI (k % 12))), (8, .int (nI ((k / 12) % 12))), (7, .int (nI (k / 144))), (0, .ref (E 0)), (1, .int x), (2, .int y), (3, .int 0), (4, .int 1), (5, .int (-1)), (6, .int (nI k))]) hx hb d_M_placed_97 hl (by decide) rfl (fun ls hl => ?_)
                  refine lv_iload hx hb d_M_placed_99 (lv_at hl 0 rfl) ?_
                  refine lv_if_eq (tgt := 124) hx hb d_M_placed_101 (by decide) (fun c_11 => ?_) (fun c_11 => ?_)
                  · skip
                    refine lv_iconst (v := (-1)) hx hb d_M_placed_124 (by decide) ?_
                    refine lv_istore (lv' := [(5, .int (-1)), (10, .int 0), (9, .int (nI (k % 12))), (8, .int (nI ((k / 12) % 12))), (7, .int (nI (k / 144))), (0, .ref (E 0)), (1, .int x), (2, .int y), (3, .int 0), (4, .int 1), (6, .int (nI k))]) hx hb d_M_placed_125 hl (by decide) rfl (fun ls hl => ?_)
                    refine lv_iinc (v := nI (k + 1)) (lv' := [(6, .int (nI (k + 1))), (5, .int (-1)), (10, .int 0), (9, .int (nI (k % 12))), (8, .int (nI ((k / 12) % 12))), (7, .int (nI (k / 144))), (0, .ref (E 0)), (1, .int x), (2, .int y), (3, .int 0), (4, .int 1)]) hx hb d_M_placed_127 hl (k := 10) rfl (nI_1 k) (by decide) rfl (fun ls hl => ?_)
                    refine lv_goto (tgt := 22) hx hb d_M_placed_130 (by decide) ?_
                    exact ih (k + 1) (by omega) (by omega) (by rw [show 1728 - k = (1728 - (k + 1)) + 1 by omega] at hres; simpa [pm_fnd, pm_is, c_3, c_6, c_8, (Nat.not_lt.mpr c_10)] using hres) ls (lv_sub hl [6, 7, 8, 9, 10, 1, 0] rfl)
                  · skip
                    exact absurd (by decide) c_11
                · skip
                  have c_10 : ¬ (mm ≤ (k % 12)) := fun h => c_10 ((nI_leI (a := mm) (b := k % 12) (by omega) (by omega)).mpr h)
                  refine lv_iload_n hx hb d_M_placed_84 rfl (lv_at hl 4 rfl) ?_
                  refine lv_iload_n hx hb d_M_placed_85 rfl (lv_at hl 5 rfl) ?_
                  refine z_rdS (n := 2) (rest := []) ⟨hx, hb, hml, hown, hts⟩ hW0 (c_M_isPoint G x y) w_644 w_642 w_643 w_4 (by decide +kernel) ⟨rfl, rfl, Nat.le_of_ble_eq_true rfl, Nat.le_of_ble_eq_true rfl⟩ (trivial) rfl rfl hl.1 (Nat.le_of_ble_eq_true rfl) d_M_placed_86 ⟨Nat.zero_le _, Nat.zero_le _⟩ ?_
                  refine lv_if_eq (tgt := 96) hx hb d_M_placed_89 (by decide) (fun c_12 => ?_) (fun c_12 => ?_)
                  · skip
                    have c_12 : (pm_pt x y) = false := pi_b_0.mp c_12
                    refine lv_iconst (v := 0) hx hb d_M_placed_96 (by decide) ?_
                    refine lv_istore (lv' := [(10, .int 0), (9, .int (nI (k % 12))), (8, .int (nI ((k / 12) % 12))), (7, .int (nI (k / 144))), (0, .ref (E 0)), (1, .int x), (2, .int y), (3, .int 0), (4, .int 1), (5, .int (-1)), (6, .int (nI k))]) hx hb d_M_placed_97 hl (by decide) rfl (fun ls hl => ?_)
                    refine lv_iload hx hb d_M_placed_99 (lv_at hl 0 rfl) ?_
                    refine lv_if_eq (tgt := 124) hx hb d_M_placed_101 (by decide) (fun c_13 => ?_) (fun c_13 => ?_)
                    · skip
                      refine lv_iconst (v := (-1)) hx hb d_M_placed_124 (by decide) ?_
                      refine lv_istore (lv' := [(5, .int (-1)), (10, .int 0), (9, .int (nI (k % 12))), (8, .int (nI ((k / 12) % 12))), (7, .int (nI (k / 144))), (0, .ref (E 0)), (1, .int x), (2, .int y), (3, .int 0), (4, .int 1), (6, .int (nI k))]) hx hb d_M_placed_125 hl (by decide) rfl (fun ls hl => ?_)
                      refine lv_iinc (v := nI (k + 1)) (lv' := [(6, .int (nI (k + 1))), (5, .int (-1)), (10, .int 0), (9, .int (nI (k % 12))), (8, .int (nI ((k / 12) % 12))), (7, .int (nI (k / 144))), (0, .ref (E 0)), (1, .int x), (2, .int y), (3, .int 0), (4, .int 1)]) hx hb d_M_placed_127 hl (k := 10) rfl (nI_1 k) (by decide) rfl (fun ls hl => ?_)
                      refine lv_goto (tgt := 22) hx hb d_M_placed_130 (by decide) ?_
                      exact ih (k + 1) (by omega) (by omega) (by rw [show 1728 - k = (1728 - (k + 1)) + 1 by omega] at hres; simpa [pm_fnd, pm_is, c_3, c_6, c_8, c_10, c_12] using hres) ls (lv_sub hl [6, 7, 8, 9, 10, 1, 0] rfl)
                    · skip
                      exact absurd (by decide) c_13
                  · skip
                    have c_12 : (pm_pt x y) = true := pi_b_1.mp c_12
                    refine lv_iconst (v := 1) hx hb d_M_placed_92 (by decide) ?_
                    refine lv_goto (tgt := 97) hx hb d_M_placed_93 (by decide) ?_
                    refine lv_istore (lv' := [(10, .int 1), (9, .int (nI (k % 12))), (8, .int (nI ((k / 12) % 12))), (7, .int (nI (k / 144))), (0, .ref (E 0)), (1, .int x), (2, .int y), (3, .int 0), (4, .int 1), (5, .int (-1)), (6, .int (nI k))]) hx hb d_M_placed_97 hl (by decide) rfl (fun ls hl => ?_)
                    refine lv_iload hx hb d_M_placed_99 (lv_at hl 0 rfl) ?_
                    refine lv_if_eq (tgt := 124) hx hb d_M_placed_101 (by decide) (fun c_14 => ?_) (fun c_14 => ?_)
                    · skip
                      exact absurd c_14 (by decide)
                    · skip
                      refine lv_aload_n hx hb d_M_placed_104 rfl (lv_at hl 4 rfl) ?_
                      refine lv_iload hx hb d_M_placed_105 (lv_at hl 3 rfl) ?_
                      refine lv_iload hx hb d_M_placed_107 (lv_at hl 2 rfl) ?_
                      refine lv_iload hx hb d_M_placed_109 (lv_at hl 1 rfl) ?_
                      refine lv_iload_n hx hb d_M_placed_111 rfl (lv_at hl 5 rfl) ?_
                      refine lv_iload_n hx hb d_M_placed_112 rfl (lv_at hl 6 rfl) ?_
                      refine z_rdV (n := 5) (C := R_M) (rest := []) ⟨hx, hb, hml, hown, hts⟩ hW0 (c_M_holds G E th mp ms mc mn mm gv (k / 144) ((k / 12) % 12) (k % 12) x y (by omega) (by omega) (by omega)) w_737 w_734 w_736 wp_29 w_4 (by decide +kernel) ⟨rfl, rfl, Nat.le_of_ble_eq_true rfl, Nat.le_of_ble_eq_true rfl⟩ (hE0.recv hK rfl) (hB) rfl rfl hl.1 (Nat.le_of_ble_eq_true rfl) d_M_placed_113 ⟨Nat.zero_le _, Nat.zero_le _⟩ ?_
                      refine lv_if_eq (tgt := 124) hx hb d_M_placed_116 (by decide) (fun c_15 => ?_) (fun c_15 => ?_)
                      · skip
                        have c_15 : (pm_hold (gv 13) (gv 14) (k / 144) ((k / 12) % 12) (k % 12) x y) = false := pi_b_0.mp c_15
                        refine lv_iconst (v := (-1)) hx hb d_M_placed_124 (by decide) ?_
                        refine lv_istore (lv' := [(5, .int (-1)), (10, .int 1), (9, .int (nI (k % 12))), (8, .int (nI ((k / 12) % 12))), (7, .int (nI (k / 144))), (0, .ref (E 0)), (1, .int x), (2, .int y), (3, .int 0), (4, .int 1), (6, .int (nI k))]) hx hb d_M_placed_125 hl (by decide) rfl (fun ls hl => ?_)
                        refine lv_iinc (v := nI (k + 1)) (lv' := [(6, .int (nI (k + 1))), (5, .int (-1)), (10, .int 1), (9, .int (nI (k % 12))), (8, .int (nI ((k / 12) % 12))), (7, .int (nI (k / 144))), (0, .ref (E 0)), (1, .int x), (2, .int y), (3, .int 0), (4, .int 1)]) hx hb d_M_placed_127 hl (k := 10) rfl (nI_1 k) (by decide) rfl (fun ls hl => ?_)
                        refine lv_goto (tgt := 22) hx hb d_M_placed_130 (by decide) ?_
                        exact ih (k + 1) (by omega) (by omega) (by rw [show 1728 - k = (1728 - (k + 1)) + 1 by omega] at hres; simpa [pm_fnd, pm_is, c_3, c_6, c_8, c_10, c_12, c_15] using hres) ls (lv_sub hl [6, 7, 8, 9, 10, 1, 0] rfl)
                      · skip
                        have c_15 : (pm_hold (gv 13) (gv 14) (k / 144) ((k / 12) % 12) (k % 12) x y) = true := pi_b_1.mp c_15
                        refine lv_iload hx hb d_M_placed_119 (lv_at hl 10 rfl) ?_
                        refine lv_goto (tgt := 125) hx hb d_M_placed_121 (by decide) ?_
                        refine lv_istore (lv' := [(5, .int (nI k)), (10, .int 1), (9, .int (nI (k % 12))), (8, .int (nI ((k / 12) % 12))), (7, .int (nI (k / 144))), (0, .ref (E 0)), (1, .int x), (2, .int y), (3, .int 0), (4, .int 1), (6, .int (nI k))]) hx hb d_M_placed_125 hl (by decide) rfl (fun ls hl => ?_)
                        refine lv_iinc (v := nI (k + 1)) (lv' := [(6, .int (nI (k + 1))), (5, .int (nI k)), (10, .int 1), (9, .int (nI (k % 12))), (8, .int (nI ((k / 12) % 12))), (7, .int (nI (k / 144))), (0, .ref (E 0)), (1, .int x), (2, .int y), (3, .int 0), (4, .int 1)]) hx hb d_M_placed_127 hl (k := 10) rfl (nI_1 k) (by decide) rfl (fun ls hl => ?_)
                        refine lv_goto (tgt := 22) hx hb d_M_placed_130 (by decide) ?_
                        refine lv_iload hx hb d_M_placed_22 (lv_at hl 0 rfl) ?_
                        refine lv_sipush (v := 1728) hx hb d_M_placed_24 (by decide) ?_
                        refine lv_icmp_ge (tgt := 133) hx hb d_M_placed_27 (by decide) (fun c_16 => ?_) (fun c_16 => ?_)
                        · skip
                          have c_16 : 1728 ≤ (k + 1) := (nI_leI (a := 1728) (b := k + 1) (by omega) (by omega)).mp c_16
                          refine lv_aload_n hx hb d_M_placed_133 rfl (lv_at hl 6 rfl) ?_
                          refine lv_iload hx hb d_M_placed_134 (lv_at hl 10 rfl) ?_
                          refine lv_iload_n hx hb d_M_placed_136 rfl (lv_at hl 7 rfl) ?_
                          refine lv_iload_n hx hb d_M_placed_137 rfl (lv_at hl 8 rfl) ?_
                          refine z_rdS (n := 2) (rest := [.int 1, .ref (E 0)]) ⟨hx, hb, hml, hown, hts⟩ hW0 (c_M_isPoint G x y) w_644 w_642 w_643 w_4 (by decide +kernel) ⟨rfl, rfl, Nat.le_of_ble_eq_true rfl, Nat.le_of_ble_eq_true rfl⟩ (trivial) rfl rfl hl.1 (Nat.le_of_ble_eq_true rfl) d_M_placed_138 ⟨Nat.zero_le _, Nat.zero_le _⟩ ?_
                          refine lv_iload hx hb d_M_placed_141 (lv_at hl 1 rfl) ?_
                          refine lv_iconst (v := (-1)) hx hb d_M_placed_143 (by decide) ?_
                          refine lv_icmp_eq (tgt := 151) hx hb d_M_placed_144 (by decide) (fun c_17 => ?_) (fun c_17 => ?_)
                          · skip
                            exact absurd c_17 (z_ne1 (by omega))
                          · skip
                            refine lv_iconst (v := 1) hx hb d_M_placed_147 (by decide) ?_
                            refine lv_goto (tgt := 152) hx hb d_M_placed_148 (by decide) ?_
                            have his : pm_is gv mm x y k = true := by simp [pm_is, (Nat.not_le.mp c_6), (Nat.not_le.mp c_8), (Nat.not_le.mp c_10), c_12, c_15]
                            rw [show 1728 - k = (1728 - (k + 1)) + 1 by omega] at hres
                            simp only [pm_fnd, his, ↓reduceIte] at hres
                            refine z_g3 (w1 := pi_b true) (w2 := pi_b (pm_pt x y)) (w3 := pi_b fo.isSome) (by rw [← hres]; rfl) (rfl) (rfl) ?_
                            exact tail ls (lv_sub hl [6, 7, 8, 9] rfl)
                        · skip
                          have c_16 : ¬ (1728 ≤ (k + 1)) := fun h => c_16 ((nI_leI (a := 1728) (b := k + 1) (by omega) (by omega)).mpr h)
                          refine lv_iload hx hb d_M_placed_30 (lv_at hl 1 rfl) ?_
                          refine lv_iconst (v := (-1)) hx hb d_M_placed_32 (by decide) ?_
                          refine lv_icmp_ne (tgt := 133) hx hb d_M_placed_33 (by decide) (fun c_18 => ?_) (fun c_18 => ?_)
                          · skip
                            refine lv_aload_n hx hb d_M_placed_133 rfl (lv_at hl 6 rfl) ?_
                            refine lv_iload hx hb d_M_placed_134 (lv_at hl 10 rfl) ?_
                            refine lv_iload_n hx hb d_M_placed_136 rfl (lv_at hl 7 rfl) ?_
                            refine lv_iload_n hx hb d_M_placed_137 rfl (lv_at hl 8 rfl) ?_
                            refine z_rdS (n := 2) (rest := [.int 1, .ref (E 0)]) ⟨hx, hb, hml, hown, hts⟩ hW0 (c_M_isPoint G x y) w_644 w_642 w_643 w_4 (by decide +kernel) ⟨rfl, rfl, Nat.le_of_ble_eq_true rfl, Nat.le_of_ble_eq_true rfl⟩ (trivial) rfl rfl hl.1 (Nat.le_of_ble_eq_true rfl) d_M_placed_138 ⟨Nat.zero_le _, Nat.zero_le _⟩ ?_
                            refine lv_iload hx hb d_M_placed_141 (lv_at hl 1 rfl) ?_
                            refine lv_iconst (v := (-1)) hx hb d_M_placed_143 (by decide) ?_
                            refine lv_icmp_eq (tgt := 151) hx hb d_M_placed_144 (by decide) (fun c_19 => ?_) (fun c_19 => ?_)
                            · skip
                              exact absurd c_19 c_18
                            · skip
                              refine lv_iconst (v := 1) hx hb d_M_placed_147 (by decide) ?_
                              refine lv_goto (tgt := 152) hx hb d_M_placed_148 (by decide) ?_
                              have his : pm_is gv mm x y k = true := by simp [pm_is, (Nat.not_le.mp c_6), (Nat.not_le.mp c_8), (Nat.not_le.mp c_10), c_12, c_15]
                              rw [show 1728 - k = (1728 - (k + 1)) + 1 by omega] at hres
                              simp only [pm_fnd, his, ↓reduceIte] at hres
                              refine z_g3 (w1 := pi_b true) (w2 := pi_b (pm_pt x y)) (w3 := pi_b fo.isSome) (by rw [← hres]; rfl) (rfl) (rfl) ?_
                              exact tail ls (lv_sub hl [6, 7, 8, 9] rfl)
                          · skip
                            exact absurd c_18 (z_ne1 (by omega))
    exact (loops ((1728 - 0) + 1)) 0 (by omega) (by omega) (hfo) ls (lv_sub hl [3, 4, 5, 6, 2, 1, 0] rfl)
  · skip
    exact absurd (by decide) c_2
set_option maxRecDepth 100000 in
set_option maxHeartbeats 4000000 in
theorem c_M_placed_ok0 (G : z_G s0 (dC, dI) cI cS) (E : Nat → Nat) (th : Int32) (mp ms mc mn mm : Nat) (gv : Nat → Nat → Int32) (sz : Nat) (x y : Int32) (kk : Nat) (hfo : pm_fnd gv mm x y 1728 0 = some kk) (hg : (true && ((pm_pt x y) && true)) = true) : Met l y_M_placed [Cond.code y_M_placed b_M_placed 17 (some .int)] ({ frames := 3, cells := 0, slots := 0, locals := 75 }) (z_Pc s0 [.ref (E 0), .int x, .int y, .int 0] (fun H => H.size = sz ∧ z_Md (dC, dI) cI H E th mp ms mc mn mm gv)) (z_Qw (fun r H => r = some (.int (pm_val gv (gv 15) (kk / 144) (kk / 12 % 12) (kk % 12) x y)) ∧ z_Md (dC, dI) cI H E 0 mp ms mc mn mm gv) (z_fr (z_mF E) sz)) 0 0 (z_fr (z_mF E) sz) := by
  refine z_ofW (by decide +kernel) (Nat.le_of_ble_eq_true rfl) ?_
  intro p e s m below meth c hx hb hml hr hown hlocks hnm hW0 hB ls hl
  have hts := z_hts (args := [.ref (E 0), .int x, .int y, .int 0].toArray) G.1 hW0
  have hN := z_nstW G.2.1 hW0
  have hK := va_K.moved hW0.alike G.2.2.1
  have hAI := arrOfT_moved hW0.alike G.2.2.2.1
  have hl : lv_has ls 17 [(0, .ref (E 0)), (1, .int x), (2, .int y), (3, .int 0)] := hl
  obtain ⟨rfl, hB⟩ := hB
  have hS : va_S (z_fr (z_mF E) s.heap.size) s.heap s.heap [] := va_S.rf
  obtain ⟨⟨hE0, hGA⟩, hEi, ⟨hmp, hms, hmn, hmm, hmc⟩⟩ := id hB
  have hkk := pm_fnd_ok 1728 0 kk hfo
  have hki := pm_is_ok hkk.2
  have hkl := hkk.1
  have hk1 := hki.1
  have hk2 := hki.2.1
  have hk3 := hki.2.2.1
  have hne := pm_hold_ne hki.2.2.2.2
  have tail : ∀ ls : Array Slot, lv_has ls 17 [(0, .ref (E 0)), (1, .int x), (2, .int y), (3, .int 0), (5, .int (nI kk))] → W p l e ({ frames := 3, cells := 0, slots := 0, locals := 75 }) s m [.ref (E 0), .int x, .int y, .int 0].toArray below meth c s.heap [] 0 0 (MQ below (z_Qw (fun r H => r = some (.int (pm_val gv (gv 15) (kk / 144) (kk / 12 % 12) (kk % 12) x y)) ∧ z_Md (dC, dI) cI H E 0 mp ms mc mn mm gv) (z_fr (z_mF E) s.heap.size)) [.ref (E 0), .int x, .int y, .int 0].toArray s 0 0 (z_fr (z_mF E) s.heap.size)) (F0 m 152 ls [.int (pi_b true), .int (pi_b (pm_pt x y)), .int (pi_b true), .ref (E 0)]) := by
    intro ls hl
    refine z_wrV (n := 3) (C := R_M) (rest := []) ⟨hx, hb, hml, hown, hts⟩ hW0 (c_M_goes G E th mp ms mc mn mm gv _ true (pm_pt x y) true) w_625 w_622 w_624 wp_19 w_4 (by decide +kernel) ⟨rfl, rfl, Nat.le_of_ble_eq_true rfl, Nat.le_of_ble_eq_true rfl⟩ (hE0.recv hK rfl) ⟨rfl, hB⟩ rfl rfl hl.1 (Nat.le_of_ble_eq_true rfl) d_M_placed_152 ⟨Nat.le_of_ble_eq_true rfl, Nat.le_of_ble_eq_true rfl⟩ hS (fun q h => h.elim Or.inl (fun h => Or.inr (Nat.le_trans hS.1 h))) (fun H1 locs1 hB hz1 hk1 hS => ?_)
    obtain ⟨⟨hE0, hGA⟩, hEi, ⟨hmp, hms, hmn, hmm, hmc⟩⟩ := id hB
    refine z_topi (y := 1) (by rw [hg]; rfl) ?_
    rw [pm_th_ok hg] at hB
    obtain ⟨⟨hE0, hGA⟩, hEi, ⟨hmp, hms, hmn, hmm, hmc⟩⟩ := id hB
    refine lv_if_ne (tgt := 160) hx hb d_M_placed_155 (by decide) (fun c_1 => ?_) (fun c_1 => ?_)
    · skip
      refine lv_iload hx hb d_M_placed_160 (lv_at hl 4 rfl) ?_
      refine lv_sipush (v := 144) hx hb d_M_placed_162 (by decide) ?_
      refine lv_idiv hx hb d_M_placed_165 (nI_ne0 (n := 144) (by omega) (by omega)) ?_
      refine z_topi (y := nI (kk / 144)) (pk_div (a := kk) (d := 144) (by omega) (by omega) (by omega)) ?_
      refine lv_istore (lv' := [(6, .int (nI (kk / 144))), (0, .ref (E 0)), (1, .int x), (2, .int y), (3, .int 0), (5, .int (nI kk))]) hx hb d_M_placed_166 hl (by decide) rfl (fun ls hl => ?_)
      refine lv_iload hx hb d_M_placed_168 (lv_at hl 5 rfl) ?_
      refine lv_bipush (v := 12) hx hb d_M_placed_170 (by decide) ?_
      refine lv_idiv hx hb d_M_placed_172 (nI_ne0 (n := 12) (by omega) (by omega)) ?_
      refine z_topi (y := nI (kk / 12)) (pk_div (a := kk) (d := 12) (by omega) (by omega) (by omega)) ?_
      refine lv_bipush (v := 12) hx hb d_M_placed_173 (by decide) ?_
      refine lv_irem hx hb d_M_placed_175 (nI_ne0 (n := 12) (by omega) (by omega)) ?_
      refine z_topi (y := nI ((kk / 12) % 12)) (pk_rem (a := kk / 12) (d := 12) (by omega) (by omega) (by omega)) ?_
      refine lv_istore (lv' := [(7, .int (nI ((kk / 12) % 12))), (6, .int (nI (kk / 144))), (0, .ref (E 0)), (1, .int x), (2, .int y), (3, .int 0), (5, .int (nI kk))]) hx hb d_M_placed_176 hl (by decide) rfl (fun ls hl => ?_)
      refine lv_iload hx hb d_M_placed_178 (lv_at hl 6 rfl) ?_
      refine lv_bipush (v := 12) hx hb d_M_placed_180 (by decide) ?_
      refine lv_irem hx hb d_M_placed_182 (nI_ne0 (n := 12) (by omega) (by omega)) ?_
      refine z_topi (y := nI (kk % 12)) (pk_rem (a := kk) (d := 12) (by omega) (by omega) (by omega)) ?_
      refine lv_istore (lv' := [(8, .int (nI (kk % 12))), (7, .int (nI ((kk / 12) % 12))), (6, .int (nI (kk / 144))), (0, .ref (E 0)), (1, .int x), (2, .int y), (3, .int 0), (5, .int (nI kk))]) hx hb d_M_placed_183 hl (by decide) rfl (fun ls hl => ?_)
      refine lv_aload_n hx hb d_M_placed_185 rfl (lv_at hl 3 rfl) ?_
      refine lv_iload hx hb d_M_placed_186 (lv_at hl 2 rfl) ?_
      refine lv_iload hx hb d_M_placed_188 (lv_at hl 1 rfl) ?_
      refine lv_aload_n hx hb d_M_placed_190 rfl (lv_at hl 3 rfl) ?_
      refine va_get (D := (dC, dI)) (ci := 4) (v := .ref (E 14)) (C := R_M) (T := T_M) (N := 23) hx hb hts in_M hown hK hE0.P 0 rfl rfl 19 (by decide) (hts _ w_559) (fun _ h9 => h9) rfl d_M_placed_191 ?_
      refine lv_iload hx hb d_M_placed_194 (lv_at hl 0 rfl) ?_
      refine z_iald hx hb hAI (show z_A cI _ (E 14) 12 (gv 13) from hGA 13 (by omega)) (by omega) (by decide) d_M_placed_196 ?_
      refine lv_aload_n hx hb d_M_placed_197 rfl (lv_at hl 3 rfl) ?_
      refine va_get (D := (dC, dI)) (ci := 4) (v := .ref (E 15)) (C := R_M) (T := T_M) (N := 23) hx hb hts in_M hown hK hE0.P 0 rfl rfl 20 (by decide) (hts _ w_560) (fun _ h9 => h9) rfl d_M_placed_198 ?_
      refine lv_iload hx hb d_M_placed_201 (lv_at hl 0 rfl) ?_
      refine z_iald hx hb hAI (show z_A cI _ (E 15) 12 (gv 14) from hGA 14 (by omega)) (by omega) (by decide) d_M_placed_203 ?_
      refine z_rdV (n := 4) (C := R_M) (rest := []) ⟨hx, hb, hml, hown, hts⟩ hW0 (c_M_part G E 0 mp ms mc mn mm gv (kk / 144) ((kk / 12) % 12) ((gv 13) (kk % 12)) ((gv 14) (kk % 12)) (by omega) (by omega)) w_741 w_738 w_740 wp_30 w_4 (by decide +kernel) ⟨rfl, rfl, Nat.le_of_ble_eq_true rfl, Nat.le_of_ble_eq_true rfl⟩ (hE0.recv hK rfl) (hB) rfl rfl hl.1 (Nat.le_of_ble_eq_true rfl) d_M_placed_204 ⟨Nat.zero_le _, Nat.zero_le _⟩ ?_
      refine lv_i2l hx hb d_M_placed_207 rfl ?_
      refine lv_lstore (lv' := [(9, .long ((pm_side (gv 13 (kk / 144)) (gv 14 (kk / 144)) (gv 13 ((kk / 12) % 12)) (gv 14 ((kk / 12) % 12)) ((gv 13) (kk % 12)) ((gv 14) (kk % 12))).toInt64)), (8, .int (nI (kk % 12))), (7, .int (nI ((kk / 12) % 12))), (6, .int (nI (kk / 144))), (0, .ref (E 0)), (1, .int x), (2, .int y), (3, .int 0), (5, .int (nI kk))]) hx hb d_M_placed_208 hl (by decide) rfl (fun ls hl => ?_)
      refine lv_aload_n hx hb d_M_placed_210 rfl (lv_at hl 4 rfl) ?_
      refine lv_iload hx hb d_M_placed_211 (lv_at hl 2 rfl) ?_
      refine lv_iload hx hb d_M_placed_213 (lv_at hl 1 rfl) ?_
      refine lv_iload_n hx hb d_M_placed_215 rfl (lv_at hl 5 rfl) ?_
      refine lv_iload_n hx hb d_M_placed_216 rfl (lv_at hl 6 rfl) ?_
      refine z_rdV (n := 4) (C := R_M) (rest := []) ⟨hx, hb, hml, hown, hts⟩ hW0 (c_M_part G E 0 mp ms mc mn mm gv ((kk / 12) % 12) (kk % 12) x y (by omega) (by omega)) w_741 w_738 w_740 wp_30 w_4 (by decide +kernel) ⟨rfl, rfl, Nat.le_of_ble_eq_true rfl, Nat.le_of_ble_eq_true rfl⟩ (hE0.recv hK rfl) (hB) rfl rfl hl.1 (Nat.le_of_ble_eq_true rfl) d_M_placed_217 ⟨Nat.zero_le _, Nat.zero_le _⟩ ?_
      refine lv_i2l hx hb d_M_placed_220 rfl ?_
      refine lv_lstore (lv' := [(11, .long ((pm_side (gv 13 ((kk / 12) % 12)) (gv 14 ((kk / 12) % 12)) (gv 13 (kk % 12)) (gv 14 (kk % 12)) x y).toInt64)), (9, .long ((pm_side (gv 13 (kk / 144)) (gv 14 (kk / 144)) (gv 13 ((kk / 12) % 12)) (gv 14 ((kk / 12) % 12)) ((gv 13) (kk % 12)) ((gv 14) (kk % 12))).toInt64)), (8, .int (nI (kk % 12))), (7, .int (nI ((kk / 12) % 12))), (6, .int (nI (kk / 144))), (0, .ref (E 0)), (1, .int x), (2, .int y), (3, .int 0), (5, .int (nI kk))]) hx hb d_M_placed_221 hl (by decide) rfl (fun ls hl => ?_)
      refine lv_aload_n hx hb d_M_placed_223 rfl (lv_at hl 5 rfl) ?_
      refine lv_iload hx hb d_M_placed_224 (lv_at hl 2 rfl) ?_
      refine lv_iload hx hb d_M_placed_226 (lv_at hl 4 rfl) ?_
      refine lv_iload_n hx hb d_M_placed_228 rfl (lv_at hl 6 rfl) ?_
      refine lv_iload_n hx hb d_M_placed_229 rfl (lv_at hl 7 rfl) ?_
      refine z_rdV (n := 4) (C := R_M) (rest := []) ⟨hx, hb, hml, hown, hts⟩ hW0 (c_M_part G E 0 mp ms mc mn mm gv (kk % 12) (kk / 144) x y (by omega) (by omega)) w_741 w_738 w_740 wp_30 w_4 (by decide +kernel) ⟨rfl, rfl, Nat.le_of_ble_eq_true rfl, Nat.le_of_ble_eq_true rfl⟩ (hE0.recv hK rfl) (hB) rfl rfl hl.1 (Nat.le_of_ble_eq_true rfl) d_M_placed_230 ⟨Nat.zero_le _, Nat.zero_le _⟩ ?_
      refine lv_i2l hx hb d_M_placed_233 rfl ?_
      refine lv_lstore (lv' := [(13, .long ((pm_side (gv 13 (kk % 12)) (gv 14 (kk % 12)) (gv 13 (kk / 144)) (gv 14 (kk / 144)) x y).toInt64)), (11, .long ((pm_side (gv 13 ((kk / 12) % 12)) (gv 14 ((kk / 12) % 12)) (gv 13 (kk % 12)) (gv 14 (kk % 12)) x y).toInt64)), (9, .long ((pm_side (gv 13 (kk / 144)) (gv 14 (kk / 144)) (gv 13 ((kk / 12) % 12)) (gv 14 ((kk / 12) % 12)) ((gv 13) (kk % 12)) ((gv 14) (kk % 12))).toInt64)), (8, .int (nI (kk % 12))), (7, .int (nI ((kk / 12) % 12))), (6, .int (nI (kk / 144))), (0, .ref (E 0)), (1, .int x), (2, .int y), (3, .int 0), (5, .int (nI kk))]) hx hb d_M_placed_234 hl (by decide) rfl (fun ls hl => ?_)
      refine lv_aload_n hx hb d_M_placed_236 rfl (lv_at hl 6 rfl) ?_
      refine lv_iload hx hb d_M_placed_237 (lv_at hl 5 rfl) ?_
      refine lv_iload hx hb d_M_placed_239 (lv_at hl 4 rfl) ?_
      refine lv_iload_n hx hb d_M_placed_241 rfl (lv_at hl 7 rfl) ?_
      refine lv_iload_n hx hb d_M_placed_242 rfl (lv_at hl 8 rfl) ?_
      refine z_rdV (n := 4) (C := R_M) (rest := []) ⟨hx, hb, hml, hown, hts⟩ hW0 (c_M_part G E 0 mp ms mc mn mm gv (kk / 144) ((kk / 12) % 12) x y (by omega) (by omega)) w_741 w_738 w_740 wp_30 w_4 (by decide +kernel) ⟨rfl, rfl, Nat.le_of_ble_eq_true rfl, Nat.le_of_ble_eq_true rfl⟩ (hE0.recv hK rfl) (hB) rfl rfl hl.1 (Nat.le_of_ble_eq_true rfl) d_M_placed_243 ⟨Nat.zero_le _, Nat.zero_le _⟩ ?_
      refine lv_i2l hx hb d_M_placed_246 rfl ?_
      refine lv_lstore (lv' := [(15, .long ((pm_side (gv 13 (kk / 144)) (gv 14 (kk / 144)) (gv 13 ((kk / 12) % 12)) (gv 14 ((kk / 12) % 12)) x y).toInt64)), (13, .long ((pm_side (gv 13 (kk % 12)) (gv 14 (kk % 12)) (gv 13 (kk / 144)) (gv 14 (kk / 144)) x y).toInt64)), (11, .long ((pm_side (gv 13 ((kk / 12) % 12)) (gv 14 ((kk / 12) % 12)) (gv 13 (kk % 12)) (gv 14 (kk % 12)) x y).toInt64)), (9, .long ((pm_side (gv 13 (kk / 144)) (gv 14 (kk / 144)) (gv 13 ((kk / 12) % 12)) (gv 14 ((kk / 12) % 12)) ((gv 13) (kk % 12)) ((gv 14) (kk % 12))).toInt64)), (8, .int (nI (kk % 12))), (7, .int (nI ((kk / 12) % 12))), (6, .int (nI (kk / 144))), (0, .ref (E 0)), (1, .int x), (2, .int y), (3, .int 0), (5, .int (nI kk))]) hx hb d_M_placed_247 hl (by decide) rfl (fun ls hl => ?_)
      refine lv_iload_n hx hb d_M_placed_249 rfl (lv_at hl 10 rfl) ?_
      refine lv_if_ne (tgt := 296) hx hb d_M_placed_250 (by decide) (fun c_2 => ?_) (fun c_2 => ?_)
      · skip
        exact absurd (by decide) c_2
      · skip
        refine lv_lload hx hb d_M_placed_253 (lv_at hl 2 rfl) ?_
        refine lv_aload_n hx hb d_M_placed_255 rfl (lv_at hl 7 rfl) ?_
        refine va_get (D := (dC, dI)) (ci := 4) (v := .ref (E 16)) (C := R_M) (T := T_M) (N := 23) hx hb hts in_M hown hK hE0.P 0 rfl rfl 21 (by decide) (hts _ w_561) (fun _ h9 => h9) rfl d_M_placed_256 ?_
        refine lv_iload hx hb d_M_placed_259 (lv_at hl 6 rfl) ?_
        refine z_iald hx hb hAI (show z_A cI _ (E 16) 12 (gv 15) from hGA 15 (by omega)) (by omega) (by decide) d_M_placed_261 ?_
        refine lv_i2l hx hb d_M_placed_262 rfl ?_
        refine lv_lmul hx hb d_M_placed_263 ?_
        refine lv_lload hx hb d_M_placed_264 (lv_at hl 1 rfl) ?_
        refine lv_aload_n hx hb d_M_placed_266 rfl (lv_at hl 7 rfl) ?_
        refine va_get (D := (dC, dI)) (ci := 4) (v := .ref (E 16)) (C := R_M) (T := T_M) (N := 23) hx hb hts in_M hown hK hE0.P 0 rfl rfl 21 (by decide) (hts _ w_561) (fun _ h9 => h9) rfl d_M_placed_267 ?_
        refine lv_iload hx hb d_M_placed_270 (lv_at hl 5 rfl) ?_
        refine z_iald hx hb hAI (show z_A cI _ (E 16) 12 (gv 15) from hGA 15 (by omega)) (by omega) (by decide) d_M_placed_272 ?_
        refine lv_i2l hx hb d_M_placed_273 rfl ?_
        refine lv_lmul hx hb d_M_placed_274 ?_
        refine lv_ladd hx hb d_M_placed_275 ?_
        refine lv_lload hx hb d_M_placed_276 (lv_at hl 0 rfl) ?_
        refine lv_aload_n hx hb d_M_placed_278 rfl (lv_at hl 7 rfl) ?_
        refine va_get (D := (dC, dI)) (ci := 4) (v := .ref (E 16)) (C := R_M) (T := T_M) (N := 23) hx hb hts in_M hown hK hE0.P 0 rfl rfl 21 (by decide) (hts _ w_561) (fun _ h9 => h9) rfl d_M_placed_279 ?_
        refine lv_iload hx hb d_M_placed_282 (lv_at hl 4 rfl) ?_
        refine z_iald hx hb hAI (show z_A cI _ (E 16) 12 (gv 15) from hGA 15 (by omega)) (by omega) (by decide) d_M_placed_284 ?_
        refine lv_i2l hx hb d_M_placed_285 rfl ?_
        refine lv_lmul hx hb d_M_placed_286 ?_
        refine lv_ladd hx hb d_M_placed_287 ?_
        refine lv_lload hx hb d_M_placed_288 (lv_at hl 3 rfl) ?_
        refine z_rdS (n := 2) (rest := []) ⟨hx, hb, hml, hown, hts⟩ hW0 (c_M_nearest G (((((pm_side (gv 13 ((kk / 12) % 12)) (gv 14 ((kk / 12) % 12)) (gv 13 (kk % 12)) (gv 14 (kk % 12)) x y).toInt64) * (((gv 15) (kk / 144)).toInt64)) + (((pm_side (gv 13 (kk % 12)) (gv 14 (kk % 12)) (gv 13 (kk / 144)) (gv 14 (kk / 144)) x y).toInt64) * (((gv 15) ((kk / 12) % 12)).toInt64))) + (((pm_side (gv 13 (kk / 144)) (gv 14 (kk / 144)) (gv 13 ((kk / 12) % 12)) (gv 14 ((kk / 12) % 12)) x y).toInt64) * (((gv 15) (kk % 12)).toInt64))) ((pm_side (gv 13 (kk / 144)) (gv 14 (kk / 144)) (gv 13 ((kk / 12) % 12)) (gv 14 ((kk / 12) % 12)) ((gv 13) (kk % 12)) ((gv 14) (kk % 12))).toInt64) (z_by0 hne)) w_744 w_742 w_743 w_4 (by decide +kernel) ⟨rfl, rfl, Nat.le_of_ble_eq_true rfl, Nat.le_of_ble_eq_true rfl⟩ (trivial) rfl rfl hl.1 (Nat.le_of_ble_eq_true rfl) d_M_placed_290 ⟨Nat.zero_le _, Nat.zero_le _⟩ ?_
        refine lv_goto (tgt := 336) hx hb d_M_placed_293 (by decide) ?_
        exact z_wi hx hb hr hlocks (⟨rfl, hB⟩) hS d_M_placed_336
    · skip
      exact absurd c_1 (by decide)
  refine lv_iload_n hx hb d_M_placed_0 rfl (lv_at hl 3 rfl) ?_
  refine lv_if_eq (tgt := 9) hx hb d_M_placed_1 (by decide) (fun c_3 => ?_) (fun c_3 => ?_)
  · skip
    refine lv_iconst (v := 1) hx hb d_M_placed_9 (by decide) ?_
    refine lv_goto (tgt := 14) hx hb d_M_placed_10 (by decide) ?_
    refine lv_istore (lv' := [(4, .int 1), (0, .ref (E 0)), (1, .int x), (2, .int y), (3, .int 0)]) hx hb d_M_placed_14 hl (by decide) rfl (fun ls hl => ?_)
    refine lv_iconst (v := (-1)) hx hb d_M_placed_16 (by decide) ?_
    refine lv_istore (lv' := [(5, .int (-1)), (4, .int 1), (0, .ref (E 0)), (1, .int x), (2, .int y), (3, .int 0)]) hx hb d_M_placed_17 hl (by decide) rfl (fun ls hl => ?_)
    refine lv_iconst (v := 0) hx hb d_M_placed_19 (by decide) ?_
    refine lv_istore (lv' := [(6, .int 0), (5, .int (-1)), (4, .int 1), (0, .ref (E 0)), (1, .int x), (2, .int y), (3, .int 0)]) hx hb d_M_placed_20 hl (by decide) rfl (fun ls hl => ?_)
    have loops : ∀ f : Nat, (∀ (k : Nat), 1728 - k < f → (k ≤ 1728) → (pm_fnd gv mm x y (1728 - k) k = some kk) → ∀ ls : Array Slot, lv_has ls 17 [(0, .ref (E 0)), (1, .int x), (2, .int y), (3, .int 0), (4, .int 1), (5, .int (-1)), (6, .int (nI k))] → W p l e ({ frames := 3, cells := 0, slots := 0, locals := 75 }) s m [.ref (E 0), .int x, .int y, .int 0].toArray below meth c s.heap [] 0 0 (MQ below (z_Qw (fun r H => r = some (.int (pm_val gv (gv 15) (kk / 144) (kk / 12 % 12) (kk % 12) x y)) ∧ z_Md (dC, dI) cI H E 0 mp ms mc mn mm gv) (z_fr (z_mF E) s.heap.size)) [.ref (E 0), .int x, .int y, .int 0].toArray s 0 0 (z_fr (z_mF E) s.heap.size)) (F0 m 22 ls [])) := by
      intro f
      induction f with
      | zero => exact fun _ h => absurd h (Nat.not_lt_zero _)
      | succ f ih =>
        intro k hmu hk hres ls hl
        have hkk : k < 1728 → k / 144 < 12 := fun h => by omega
        refine lv_iload hx hb d_M_placed_22 (lv_at hl 6 rfl) ?_
        refine lv_sipush (v := 1728) hx hb d_M_placed_24 (by decide) ?_
        refine lv_icmp_ge (tgt := 133) hx hb d_M_placed_27 (by decide) (fun c_4 => ?_) (fun c_4 => ?_)
        · skip
          have c_4 : 1728 ≤ k := (nI_leI (a := 1728) (b := k) (by omega) (by omega)).mp c_4
          refine lv_aload_n hx hb d_M_placed_133 rfl (lv_at hl 0 rfl) ?_
          refine lv_iload hx hb d_M_placed_134 (lv_at hl 4 rfl) ?_
          refine lv_iload_n hx hb d_M_placed_136 rfl (lv_at hl 1 rfl) ?_
          refine lv_iload_n hx hb d_M_placed_137 rfl (lv_at hl 2 rfl) ?_
          refine z_rdS (n := 2) (rest := [.int 1, .ref (E 0)]) ⟨hx, hb, hml, hown, hts⟩ hW0 (c_M_isPoint G x y) w_644 w_642 w_643 w_4 (by decide +kernel) ⟨rfl, rfl, Nat.le_of_ble_eq_true rfl, Nat.le_of_ble_eq_true rfl⟩ (trivial) rfl rfl hl.1 (Nat.le_of_ble_eq_true rfl) d_M_placed_138 ⟨Nat.zero_le _, Nat.zero_le _⟩ ?_
          refine lv_iload hx hb d_M_placed_141 (lv_at hl 5 rfl) ?_
          refine lv_iconst (v := (-1)) hx hb d_M_placed_143 (by decide) ?_
          refine lv_icmp_eq (tgt := 151) hx hb d_M_placed_144 (by decide) (fun c_5 => ?_) (fun c_5 => ?_)
          · skip
            refine lv_iconst (v := 0) hx hb d_M_placed_151 (by decide) ?_
            rw [show 1728 - k = 0 by omega] at hres
            simp only [pm_fnd] at hres
            exact absurd hres (by simp)
          · skip
            exact absurd (by decide) c_5
        · skip
          have c_4 : ¬ (1728 ≤ k) := fun h => c_4 ((nI_leI (a := 1728) (b := k) (by omega) (by omega)).mpr h)
          refine lv_iload hx hb d_M_placed_30 (lv_at hl 5 rfl) ?_
          refine lv_iconst (v := (-1)) hx hb d_M_placed_32 (by decide) ?_
          refine lv_icmp_ne (tgt := 133) hx hb d_M_placed_33 (by decide) (fun c_6 => ?_) (fun c_6 => ?_)
          · skip
            exact absurd (by decide) c_6
          · skip
            refine lv_iload hx hb d_M_placed_36 (lv_at hl 6 rfl) ?_
            refine lv_sipush (v := 144) hx hb d_M_placed_38 (by decide) ?_
            refine lv_idiv hx hb d_M_placed_41 (nI_ne0 (n := 144) (by omega) (by omega)) ?_
            refine z_topi (y := nI (k / 144)) (pk_div (a := k) (d := 144) (by omega) (by omega) (by omega)) ?_
            refine lv_istore (lv' := [(7, .int (nI (k / 144))), (0, .ref (E 0)), (1, .int x), (2, .int y), (3, .int 0), (4, .int 1), (5, .int (-1)), (6, .int (nI k))]) hx hb d_M_placed_42 hl (by decide) rfl (fun ls hl => ?_)
            refine lv_iload hx hb d_M_placed_44 (lv_at hl 7 rfl) ?_
            refine lv_bipush (v := 12) hx hb d_M_placed_46 (by decide) ?_
            refine lv_idiv hx hb d_M_placed_48 (nI_ne0 (n := 12) (by omega) (by omega)) ?_
            refine z_topi (y := nI (k / 12)) (pk_div (a := k) (d := 12) (by omega) (by omega) (by omega)) ?_
            refine lv_bipush (v := 12) hx hb d_M_placed_49 (by decide) ?_
            refine lv_irem hx hb d_M_placed_51 (nI_ne0 (n := 12) (by omega) (by omega)) ?_
            refine z_topi (y := nI ((k / 12) % 12)) (pk_rem (a := k / 12) (d := 12) (by omega) (by omega) (by omega)) ?_
            refine lv_istore (lv' := [(8, .int (nI ((k / 12) % 12))), (7, .int (nI (k / 144))), (0, .ref (E 0)), (1, .int x), (2, .int y), (3, .int 0), (4, .int 1), (5, .int (-1)), (6, .int (nI k))]) hx hb d_M_placed_52 hl (by decide) rfl (fun ls hl => ?_)
            refine lv_iload hx hb d_M_placed_54 (lv_at hl 8 rfl) ?_
            refine lv_bipush (v := 12) hx hb d_M_placed_56 (by decide) ?_
            refine lv_irem hx hb d_M_placed_58 (nI_ne0 (n := 12) (by omega) (by omega)) ?_
            refine z_topi (y := nI (k % 12)) (pk_rem (a := k) (d := 12) (by omega) (by omega) (by omega)) ?_
            refine lv_istore (lv' := [(9, .int (nI (k % 12))), (8, .int (nI ((k / 12) % 12))), (7, .int (nI (k / 144))), (0, .ref (E 0)), (1, .int x), (2, .int y), (3, .int 0), (4, .int 1), (5, .int (-1)), (6, .int (nI k))]) hx hb d_M_placed_59 hl (by decide) rfl (fun ls hl => ?_)
            refine lv_iload hx hb d_M_placed_61 (lv_at hl 2 rfl) ?_
            refine lv_iload hx hb d_M_placed_63 (lv_at hl 1 rfl) ?_
            refine lv_icmp_ge (tgt := 96) hx hb d_M_placed_65 (by decide) (fun c_7 => ?_) (fun c_7 => ?_)
            · skip
              have c_7 : ((k / 12) % 12) ≤ (k / 144) := (nI_leI (a := (k / 12) % 12) (b := k / 144) (by omega) (by omega)).mp c_7
              refine lv_iconst (v := 0) hx hb d_M_placed_96 (by decide) ?_
              refine lv_istore (lv' := [(10, .int 0), (9, .int (nI (k % 12))), (8, .int (nI ((k / 12) % 12))), (7, .int (nI (k / 144))), (0, .ref (E 0)), (1, .int x), (2, .int y), (3, .int 0), (4, .int 1), (5, .int (-1)), (6, .int (nI k))]) hx hb d_M_placed_97 hl (by decide) rfl (fun ls hl => ?_)
              refine lv_iload hx hb d_M_placed_99 (lv_at hl 0 rfl) ?_
              refine lv_if_eq (tgt := 124) hx hb d_M_placed_101 (by decide) (fun c_8 => ?_) (fun c_8 => ?_)
              · skip
                refine lv_iconst (v := (-1)) hx hb d_M_placed_124 (by decide) ?_
                refine lv_istore (lv' := [(5, .int (-1)), (10, .int 0), (9, .int (nI (k % 12))), (8, .int (nI ((k / 12) % 12))), (7, .int (nI (k / 144))), (0, .ref (E 0)), (1, .int x), (2, .int y), (3, .int 0), (4, .int 1), (6, .int (nI k))]) hx hb d_M_placed_125 hl (by decide) rfl (fun ls hl => ?_)
                refine lv_iinc (v := nI (k + 1)) (lv' := [(6, .int (nI (k + 1))), (5, .int (-1)), (10, .int 0), (9, .int (nI (k % 12))), (8, .int (nI ((k / 12) % 12))), (7, .int (nI (k / 144))), (0, .ref (E 0)), (1, .int x), (2, .int y), (3, .int 0), (4, .int 1)]) hx hb d_M_placed_127 hl (k := 10) rfl (nI_1 k) (by decide) rfl (fun ls hl => ?_)
                refine lv_goto (tgt := 22) hx hb d_M_placed_130 (by decide) ?_
                exact ih (k + 1) (by omega) (by omega) (by rw [show 1728 - k = (1728 - (k + 1)) + 1 by omega] at hres; simpa [pm_fnd, pm_is, c_4, (Nat.not_lt.mpr c_7)] using hres) ls (lv_sub hl [6, 7, 8, 9, 10, 1, 0] rfl)
              · skip
                exact absurd (by decide) c_8
            · skip
              have c_7 : ¬ (((k / 12) % 12) ≤ (k / 144)) := fun h => c_7 ((nI_leI (a := (k / 12) % 12) (b := k / 144) (by omega) (by omega)).mpr h)
              refine lv_iload hx hb d_M_placed_68 (lv_at hl 1 rfl) ?_
              refine lv_iload hx hb d_M_placed_70 (lv_at hl 0 rfl) ?_
              refine lv_icmp_ge (tgt := 96) hx hb d_M_placed_72 (by decide) (fun c_9 => ?_) (fun c_9 => ?_)
              · skip
                have c_9 : (k % 12) ≤ ((k / 12) % 12) := (nI_leI (a := k % 12) (b := (k / 12) % 12) (by omega) (by omega)).mp c_9
                refine lv_iconst (v := 0) hx hb d_M_placed_96 (by decide) ?_
                refine lv_istore (lv' := [(10, .int 0), (9, .int (nI (k % 12))), (8, .int (nI ((k / 12) % 12))), (7, .int (nI (k / 144))), (0, .ref (E 0)), (1, .int x), (2, .int y), (3, .int 0), (4, .int 1), (5, .int (-1)), (6, .int (nI k))]) hx hb d_M_placed_97 hl (by decide) rfl (fun ls hl => ?_)
                refine lv_iload hx hb d_M_placed_99 (lv_at hl 0 rfl) ?_
                refine lv_if_eq (tgt := 124) hx hb d_M_placed_101 (by decide) (fun c_10 => ?_) (fun c_10 => ?_)
                · skip
                  refine lv_iconst (v := (-1)) hx hb d_M_placed_124 (by decide) ?_
                  refine lv_istore (lv' := [(5, .int (-1)), (10, .int 0), (9, .int (nI (k % 12))), (8, .int (nI ((k / 12) % 12))), (7, .int (nI (k / 144))), (0, .ref (E 0)), (1, .int x), (2, .int y), (3, .int 0), (4, .int 1), (6, .int (nI k))]) hx hb d_M_placed_125 hl (by decide) rfl (fun ls hl => ?_)
                  refine lv_iinc (v := nI (k + 1)) (lv' := [(6, .int (nI (k + 1))), (5, .int (-1)), (10, .int 0), (9, .int (nI (k % 12))), (8, .int (nI ((k / 12) % 12))), (7, .int (nI (k / 144))), (0, .ref (E 0)), (1, .int x), (2, .int y), (3, .int 0), (4, .int 1)]) hx hb d_M_placed_127 hl (k := 10) rfl (nI_1 k) (by decide) rfl (fun ls hl => ?_)
                  refine lv_goto (tgt := 22) hx hb d_M_placed_130 (by decide) ?_
                  exact ih (k + 1) (by omega) (by omega) (by rw [show 1728 - k = (1728 - (k + 1)) + 1 by omega] at hres; simpa [pm_fnd, pm_is, c_4, c_7, (Nat.not_lt.mpr c_9)] using hres) ls (lv_sub hl [6, 7, 8, 9, 10, 1, 0] rfl)
                · skip
                  exact absurd (by decide) c_10
              · skip
                have c_9 : ¬ ((k % 12) ≤ ((k / 12) % 12)) := fun h => c_9 ((nI_leI (a := k % 12) (b := (k / 12) % 12) (by omega) (by omega)).mpr h)
                refine lv_iload hx hb d_M_placed_75 (lv_at hl 0 rfl) ?_
                refine lv_aload_n hx hb d_M_placed_77 rfl (lv_at hl 3 rfl) ?_
                refine va_get (D := (dC, dI)) (ci := 4) (v := .int (nI mm)) (C := R_M) (T := T_M) (N := 23) hx hb hts in_M hown hK hE0.P 0 rfl rfl 18 (by decide) (hts _ w_558) (fun _ h9 => h9) rfl d_M_placed_78 ?_
                refine lv_icmp_ge (tgt := 96) hx hb d_M_placed_81 (by decide) (fun c_11 => ?_) (fun c_11 => ?_)
                · skip
                  have c_11 : mm ≤ (k % 12) := (nI_leI (a := mm) (b := k % 12) (by omega) (by omega)).mp c_11
                  refine lv_iconst (v := 0) hx hb d_M_placed_96 (by decide) ?_
                  refine lv_istore (lv' := [(10, .int 0), (9, .int (nI (k % 12))), (8, .int (nI ((k / 12) % 12))), (7, .int (nI (k / 144))), (0, .ref (E 0)), (1, .int x), (2, .int y), (3, .int 0), (4, .int 1), (5, .int (-1)), (6, .int (nI k))]) hx hb d_M_placed_97 hl (by decide) rfl (fun ls hl => ?_)
                  refine lv_iload hx hb d_M_placed_99 (lv_at hl 0 rfl) ?_
                  refine lv_if_eq (tgt := 124) hx hb d_M_placed_101 (by decide) (fun c_12 => ?_) (fun c_12 => ?_)
                  · skip
                    refine lv_iconst (v := (-1)) hx hb d_M_placed_124 (by decide) ?_
                    refine lv_istore (lv' := [(5, .int (-1)), (10, .int 0), (9, .int (nI (k % 12))), (8, .int (nI ((k / 12) % 12))), (7, .int (nI (k / 144))), (0, .ref (E 0)), (1, .int x), (2, .int y), (3, .int 0), (4, .int 1), (6, .int (nI k))]) hx hb d_M_placed_125 hl (by decide) rfl (fun ls hl => ?_)
                    refine lv_iinc (v := nI (k + 1)) (lv' := [(6, .int (nI (k + 1))), (5, .int (-1)), (10, .int 0), (9, .int (nI (k % 12))), (8, .int (nI ((k / 12) % 12))), (7, .int (nI (k / 144))), (0, .ref (E 0)), (1, .int x), (2, .int y), (3, .int 0), (4, .int 1)]) hx hb d_M_placed_127 hl (k := 10) rfl (nI_1 k) (by decide) rfl (fun ls hl => ?_)
                    refine lv_goto (tgt := 22) hx hb d_M_placed_130 (by decide) ?_
                    exact ih (k + 1) (by omega) (by omega) (by rw [show 1728 - k = (1728 - (k + 1)) + 1 by omega] at hres; simpa [pm_fnd, pm_is, c_4, c_7, c_9, (Nat.not_lt.mpr c_11)] using hres) ls (lv_sub hl [6, 7, 8, 9, 10, 1, 0] rfl)
                  · skip
                    exact absurd (by decide) c_12
                · skip
                  have c_11 : ¬ (mm ≤ (k % 12)) := fun h => c_11 ((nI_leI (a := mm) (b := k % 12) (by omega) (by omega)).mpr h)
                  refine lv_iload_n hx hb d_M_placed_84 rfl (lv_at hl 4 rfl) ?_
                  refine lv_iload_n hx hb d_M_placed_85 rfl (lv_at hl 5 rfl) ?_
                  refine z_rdS (n := 2) (rest := []) ⟨hx, hb, hml, hown, hts⟩ hW0 (c_M_isPoint G x y) w_644 w_642 w_643 w_4 (by decide +kernel) ⟨rfl, rfl, Nat.le_of_ble_eq_true rfl, Nat.le_of_ble_eq_true rfl⟩ (trivial) rfl rfl hl.1 (Nat.le_of_ble_eq_true rfl) d_M_placed_86 ⟨Nat.zero_le _, Nat.zero_le _⟩ ?_
                  refine lv_if_eq (tgt := 96) hx hb d_M_placed_89 (by decide) (fun c_13 => ?_) (fun c_13 => ?_)
                  · skip
                    have c_13 : (pm_pt x y) = false := pi_b_0.mp c_13
                    refine lv_iconst (v := 0) hx hb d_M_placed_96 (by decide) ?_
                    refine lv_istore (lv' := [(10, .int 0), (9, .int (nI (k % 12))), (8, .int (nI ((k / 12) % 12))), (7, .int (nI (k / 144))), (0, .ref (E 0)), (1, .int x), (2, .int y), (3, .int 0), (4, .int 1), (5, .int (-1)), (6, .int (nI k))]) hx hb d_M_placed_97 hl (by decide) rfl (fun ls hl => ?_)
                    refine lv_iload hx hb d_M_placed_99 (lv_at hl 0 rfl) ?_
                    refine lv_if_eq (tgt := 124) hx hb d_M_placed_101 (by decide) (fun c_14 => ?_) (fun c_14 => ?_)
                    · skip
                      refine lv_iconst (v := (-1)) hx hb d_M_placed_124 (by decide) ?_
                      refine lv_istore (lv' := [(5, .int (-1)), (10, .int 0), (9, .int (nI (k % 12))), (8, .int (nI ((k / 12) % 12))), (7, .int (nI (k / 144))), (0, .ref (E 0)), (1, .int x), (2, .int y), (3, .int 0), (4, .int 1), (6, .int (nI k))]) hx hb d_M_placed_125 hl (by decide) rfl (fun ls hl => ?_)
                      refine lv_iinc (v := nI (k + 1)) (lv' := [(6, .int (nI (k + 1))), (5, .int (-1)), (10, .int 0), (9, .int (nI (k % 12))), (8, .int (nI ((k / 12) % 12))), (7, .int (nI (k / 144))), (0, .ref (E 0)), (1, .int x), (2, .int y), (3, .int 0), (4, .int 1)]) hx hb d_M_placed_127 hl (k := 10) rfl (nI_1 k) (by decide) rfl (fun ls hl => ?_)
                      refine lv_goto (tgt := 22) hx hb d_M_placed_130 (by decide) ?_
                      exact ih (k + 1) (by omega) (by omega) (by rw [show 1728 - k = (1728 - (k + 1)) + 1 by omega] at hres; simpa [pm_fnd, pm_is, c_4, c_7, c_9, c_11, c_13] using hres) ls (lv_sub hl [6, 7, 8, 9, 10, 1, 0] rfl)
                    · skip
                      exact absurd (by decide) c_14
                  · skip
                    have c_13 : (pm_pt x y) = true := pi_b_1.mp c_13
                    refine lv_iconst (v := 1) hx hb d_M_placed_92 (by decide) ?_
                    refine lv_goto (tgt := 97) hx hb d_M_placed_93 (by decide) ?_
                    refine lv_istore (lv' := [(10, .int 1), (9, .int (nI (k % 12))), (8, .int (nI ((k / 12) % 12))), (7, .int (nI (k / 144))), (0, .ref (E 0)), (1, .int x), (2, .int y), (3, .int 0), (4, .int 1), (5, .int (-1)), (6, .int (nI k))]) hx hb d_M_placed_97 hl (by decide) rfl (fun ls hl => ?_)
                    refine lv_iload hx hb d_M_placed_99 (lv_at hl 0 rfl) ?_
                    refine lv_if_eq (tgt := 124) hx hb d_M_placed_101 (by decide) (fun c_15 => ?_) (fun c_15 => ?_)
                    · skip
                      exact absurd c_15 (by decide)
                    · skip
                      refine lv_aload_n hx hb d_M_placed_104 rfl (lv_at hl 4 rfl) ?_
                      refine lv_iload hx hb d_M_placed_105 (lv_at hl 3 rfl) ?_
                      refine lv_iload hx hb d_M_placed_107 (lv_at hl 2 rfl) ?_
                      refine lv_iload hx hb d_M_placed_109 (lv_at hl 1 rfl) ?_
                      refine lv_iload_n hx hb d_M_placed_111 rfl (lv_at hl 5 rfl) ?_
                      refine lv_iload_n hx hb d_M_placed_112 rfl (lv_at hl 6 rfl) ?_
                      refine z_rdV (n := 5) (C := R_M) (rest := []) ⟨hx, hb, hml, hown, hts⟩ hW0 (c_M_holds G E th mp ms mc mn mm gv (k / 144) ((k / 12) % 12) (k % 12) x y (by omega) (by omega) (by omega)) w_737 w_734 w_736 wp_29 w_4 (by decide +kernel) ⟨rfl, rfl, Nat.le_of_ble_eq_true rfl, Nat.le_of_ble_eq_true rfl⟩ (hE0.recv hK rfl) (hB) rfl rfl hl.1 (Nat.le_of_ble_eq_true rfl) d_M_placed_113 ⟨Nat.zero_le _, Nat.zero_le _⟩ ?_
                      refine lv_if_eq (tgt := 124) hx hb d_M_placed_116 (by decide) (fun c_16 => ?_) (fun c_16 => ?_)
                      · skip
                        have c_16 : (pm_hold (gv 13) (gv 14) (k / 144) ((k / 12) % 12) (k % 12) x y) = false := pi_b_0.mp c_16
                        refine lv_iconst (v := (-1)) hx hb d_M_placed_124 (by decide) ?_
                        refine lv_istore (lv' := [(5, .int (-1)), (10, .int 1), (9, .int (nI (k % 12))), (8, .int (nI ((k / 12) % 12))), (7, .int (nI (k / 144))), (0, .ref (E 0)), (1, .int x), (2, .int y), (3, .int 0), (4, .int 1), (6, .int (nI k))]) hx hb d_M_placed_125 hl (by decide) rfl (fun ls hl => ?_)
                        refine lv_iinc (v := nI (k + 1)) (lv' := [(6, .int (nI (k + 1))), (5, .int (-1)), (10, .int 1), (9, .int (nI (k % 12))), (8, .int (nI ((k / 12) % 12))), (7, .int (nI (k / 144))), (0, .ref (E 0)), (1, .int x), (2, .int y), (3, .int 0), (4, .int 1)]) hx hb d_M_placed_127 hl (k := 10) rfl (nI_1 k) (by decide) rfl (fun ls hl => ?_)
                        refine lv_goto (tgt := 22) hx hb d_M_placed_130 (by decide) ?_
                        exact ih (k + 1) (by omega) (by omega) (by rw [show 1728 - k = (1728 - (k + 1)) + 1 by omega] at hres; simpa [pm_fnd, pm_is, c_4, c_7, c_9, c_11, c_13, c_16] using hres) ls (lv_sub hl [6, 7, 8, 9, 10, 1, 0] rfl)
                      · skip
                        have c_16 : (pm_hold (gv 13) (gv 14) (k / 144) ((k / 12) % 12) (k % 12) x y) = true := pi_b_1.mp c_16
                        refine lv_iload hx hb d_M_placed_119 (lv_at hl 10 rfl) ?_
                        refine lv_goto (tgt := 125) hx hb d_M_placed_121 (by decide) ?_
                        refine lv_istore (lv' := [(5, .int (nI k)), (10, .int 1), (9, .int (nI (k % 12))), (8, .int (nI ((k / 12) % 12))), (7, .int (nI (k / 144))), (0, .ref (E 0)), (1, .int x), (2, .int y), (3, .int 0), (4, .int 1), (6, .int (nI k))]) hx hb d_M_placed_125 hl (by decide) rfl (fun ls hl => ?_)
                        refine lv_iinc (v := nI (k + 1)) (lv' := [(6, .int (nI (k + 1))), (5, .int (nI k)), (10, .int 1), (9, .int (nI (k % 12))), (8, .int (nI ((k / 12) % 12))), (7, .int (nI (k / 144))), (0, .ref (E 0)), (1, .int x), (2, .int y), (3, .int 0), (4, .int 1)]) hx hb d_M_placed_127 hl (k := 10) rfl (nI_1 k) (by decide) rfl (fun ls hl => ?_)
                        refine lv_goto (tgt := 22) hx hb d_M_placed_130 (by decide) ?_
                        refine lv_iload hx hb d_M_placed_22 (lv_at hl 0 rfl) ?_
                        refine lv_sipush (v := 1728) hx hb d_M_placed_24 (by decide) ?_
                        refine lv_icmp_ge (tgt := 133) hx hb d_M_placed_27 (by decide) (fun c_17 => ?_) (fun c_17 => ?_)
                        · skip
                          have c_17 : 1728 ≤ (k + 1) := (nI_leI (a := 1728) (b := k + 1) (by omega) (by omega)).mp c_17
                          refine lv_aload_n hx hb d_M_placed_133 rfl (lv_at hl 6 rfl) ?_
                          refine lv_iload hx hb d_M_placed_134 (lv_at hl 10 rfl) ?_
                          refine lv_iload_n hx hb d_M_placed_136 rfl (lv_at hl 7 rfl) ?_
                          refine lv_iload_n hx hb d_M_placed_137 rfl (lv_at hl 8 rfl) ?_
                          refine z_rdS (n := 2) (rest := [.int 1, .ref (E 0)]) ⟨hx, hb, hml, hown, hts⟩ hW0 (c_M_isPoint G x y) w_644 w_642 w_643 w_4 (by decide +kernel) ⟨rfl, rfl, Nat.le_of_ble_eq_true rfl, Nat.le_of_ble_eq_true rfl⟩ (trivial) rfl rfl hl.1 (Nat.le_of_ble_eq_true rfl) d_M_placed_138 ⟨Nat.zero_le _, Nat.zero_le _⟩ ?_
                          refine lv_iload hx hb d_M_placed_141 (lv_at hl 1 rfl) ?_
                          refine lv_iconst (v := (-1)) hx hb d_M_placed_143 (by decide) ?_
                          refine lv_icmp_eq (tgt := 151) hx hb d_M_placed_144 (by decide) (fun c_18 => ?_) (fun c_18 => ?_)
                          · skip
                            exact absurd c_18 (z_ne1 (by omega))
                          · skip
                            refine lv_iconst (v := 1) hx hb d_M_placed_147 (by decide) ?_
                            refine lv_goto (tgt := 152) hx hb d_M_placed_148 (by decide) ?_
                            have his : pm_is gv mm x y k = true := by simp [pm_is, (Nat.not_le.mp c_7), (Nat.not_le.mp c_9), (Nat.not_le.mp c_11), c_13, c_16]
                            rw [show 1728 - k = (1728 - (k + 1)) + 1 by omega] at hres
                            simp only [pm_fnd, his, ↓reduceIte] at hres
                            obtain rfl : kk = k := (Option.some.inj hres).symm
                            refine z_g3 (w1 := pi_b true) (w2 := pi_b (pm_pt x y)) (w3 := pi_b true) (rfl) (rfl) (rfl) ?_
                            exact tail ls (lv_sub hl [6, 7, 8, 9, 1] rfl)
                        · skip
                          have c_17 : ¬ (1728 ≤ (k + 1)) := fun h => c_17 ((nI_leI (a := 1728) (b := k + 1) (by omega) (by omega)).mpr h)
                          refine lv_iload hx hb d_M_placed_30 (lv_at hl 1 rfl) ?_
                          refine lv_iconst (v := (-1)) hx hb d_M_placed_32 (by decide) ?_
                          refine lv_icmp_ne (tgt := 133) hx hb d_M_placed_33 (by decide) (fun c_19 => ?_) (fun c_19 => ?_)
                          · skip
                            refine lv_aload_n hx hb d_M_placed_133 rfl (lv_at hl 6 rfl) ?_
                            refine lv_iload hx hb d_M_placed_134 (lv_at hl 10 rfl) ?_
                            refine lv_iload_n hx hb d_M_placed_136 rfl (lv_at hl 7 rfl) ?_
                            refine lv_iload_n hx hb d_M_placed_137 rfl (lv_at hl 8 rfl) ?_
                            refine z_rdS (n := 2) (rest := [.int 1, .ref (E 0)]) ⟨hx, hb, hml, hown, hts⟩ hW0 (c_M_isPoint G x y) w_644 w_642 w_643 w_4 (by decide +kernel) ⟨rfl, rfl, Nat.le_of_ble_eq_true rfl, Nat.le_of_ble_eq_true rfl⟩ (trivial) rfl rfl hl.1 (Nat.le_of_ble_eq_true rfl) d_M_placed_138 ⟨Nat.zero_le _, Nat.zero_le _⟩ ?_
                            refine lv_iload hx hb d_M_placed_141 (lv_at hl 1 rfl) ?_
                            refine lv_iconst (v := (-1)) hx hb d_M_placed_143 (by decide) ?_
                            refine lv_icmp_eq (tgt := 151) hx hb d_M_placed_144 (by decide) (fun c_20 => ?_) (fun c_20 => ?_)
                            · skip
                              exact absurd c_20 c_19
                            · skip
                              refine lv_iconst (v := 1) hx hb d_M_placed_147 (by decide) ?_
                              refine lv_goto (tgt := 152) hx hb d_M_placed_148 (by decide) ?_
                              have his : pm_is gv mm x y k = true := by simp [pm_is, (Nat.not_le.mp c_7), (Nat.not_le.mp c_9), (Nat.not_le.mp c_11), c_13, c_16]
                              rw [show 1728 - k = (1728 - (k + 1)) + 1 by omega] at hres
                              simp only [pm_fnd, his, ↓reduceIte] at hres
                              obtain rfl : kk = k := (Option.some.inj hres).symm
                              refine z_g3 (w1 := pi_b true) (w2 := pi_b (pm_pt x y)) (w3 := pi_b true) (rfl) (rfl) (rfl) ?_
                              exact tail ls (lv_sub hl [6, 7, 8, 9, 1] rfl)
                          · skip
                            exact absurd c_19 (z_ne1 (by omega))
    exact (loops ((1728 - 0) + 1)) 0 (by omega) (by omega) (hfo) ls (lv_sub hl [3, 4, 5, 6, 2, 1, 0] rfl)
  · skip
    exact absurd (by decide) c_3
set_option maxRecDepth 100000 in
set_option maxHeartbeats 4000000 in
theorem c_M_placed_no1 (G : z_G s0 (dC, dI) cI cS) (E : Nat → Nat) (th : Int32) (mp ms mc mn mm : Nat) (gv : Nat → Nat → Int32) (sz : Nat) (x y : Int32) (fo : Option Nat) (hfo : pm_fnd gv mm x y 1728 0 = fo) (hg : (true && ((pm_pt x y) && fo.isSome)) = false) : Met l y_M_placed [Cond.code y_M_placed b_M_placed 17 (some .int)] ({ frames := 3, cells := 0, slots := 0, locals := 75 }) (z_Pc s0 [.ref (E 0), .int x, .int y, .int 1] (fun H => H.size = sz ∧ z_Md (dC, dI) cI H E th mp ms mc mn mm gv)) (z_Qw (fun r H => r = some (.int 0) ∧ z_Md (dC, dI) cI H E (pm_th true (pm_pt x y) fo.isSome) mp ms mc mn mm gv) (z_fr (z_mF E) sz)) 0 0 (z_fr (z_mF E) sz) := by
  refine z_ofW (by decide +kernel) (Nat.le_of_ble_eq_true rfl) ?_
  intro p e s m below meth c hx hb hml hr hown hlocks hnm hW0 hB ls hl
  have hts := z_hts (args := [.ref (E 0), .int x, .int y, .int 1].toArray) G.1 hW0
  have hN := z_nstW G.2.1 hW0
  have hK := va_K.moved hW0.alike G.2.2.1
  have hAI := arrOfT_moved hW0.alike G.2.2.2.1
  have hl : lv_has ls 17 [(0, .ref (E 0)), (1, .int x), (2, .int y), (3, .int 1)] := hl
  obtain ⟨rfl, hB⟩ := hB
  have hS : va_S (z_fr (z_mF E) s.heap.size) s.heap s.heap [] := va_S.rf
  obtain ⟨⟨hE0, hGA⟩, hEi, ⟨hmp, hms, hmn, hmm, hmc⟩⟩ := id hB
  have tail : ∀ ls : Array Slot, lv_has ls 17 [(0, .ref (E 0)), (1, .int x), (2, .int y), (3, .int 1)] → W p l e ({ frames := 3, cells := 0, slots := 0, locals := 75 }) s m [.ref (E 0), .int x, .int y, .int 1].toArray below meth c s.heap [] 0 0 (MQ below (z_Qw (fun r H => r = some (.int 0) ∧ z_Md (dC, dI) cI H E (pm_th true (pm_pt x y) fo.isSome) mp ms mc mn mm gv) (z_fr (z_mF E) s.heap.size)) [.ref (E 0), .int x, .int y, .int 1].toArray s 0 0 (z_fr (z_mF E) s.heap.size)) (F0 m 152 ls [.int (pi_b fo.isSome), .int (pi_b (pm_pt x y)), .int (pi_b true), .ref (E 0)]) := by
    intro ls hl
    refine z_wrV (n := 3) (C := R_M) (rest := []) ⟨hx, hb, hml, hown, hts⟩ hW0 (c_M_goes G E th mp ms mc mn mm gv _ true (pm_pt x y) fo.isSome) w_625 w_622 w_624 wp_19 w_4 (by decide +kernel) ⟨rfl, rfl, Nat.le_of_ble_eq_true rfl, Nat.le_of_ble_eq_true rfl⟩ (hE0.recv hK rfl) ⟨rfl, hB⟩ rfl rfl hl.1 (Nat.le_of_ble_eq_true rfl) d_M_placed_152 ⟨Nat.le_of_ble_eq_true rfl, Nat.le_of_ble_eq_true rfl⟩ hS (fun q h => h.elim Or.inl (fun h => Or.inr (Nat.le_trans hS.1 h))) (fun H1 locs1 hB hz1 hk1 hS => ?_)
    obtain ⟨⟨hE0, hGA⟩, hEi, ⟨hmp, hms, hmn, hmm, hmc⟩⟩ := id hB
    refine z_topi (y := 0) (by rw [hg]; rfl) ?_
    refine lv_if_ne (tgt := 160) hx hb d_M_placed_155 (by decide) (fun c_1 => ?_) (fun c_1 => ?_)
    · skip
      exact absurd (by decide) c_1
    · skip
      refine lv_iconst (v := 0) hx hb d_M_placed_158 (by decide) ?_
      exact z_wi hx hb hr hlocks (⟨rfl, hB⟩) hS d_M_placed_159
  refine lv_iload_n hx hb d_M_placed_0 rfl (lv_at hl 3 rfl) ?_
  refine lv_if_eq (tgt := 9) hx hb d_M_placed_1 (by decide) (fun c_2 => ?_) (fun c_2 => ?_)
  · skip
    exact absurd c_2 (by decide)
  · skip
    refine lv_iload_n hx hb d_M_placed_4 rfl (lv_at hl 3 rfl) ?_
    refine lv_iconst (v := 1) hx hb d_M_placed_5 (by decide) ?_
    refine lv_icmp_ne (tgt := 13) hx hb d_M_placed_6 (by decide) (fun c_3 => ?_) (fun c_3 => ?_)
    · skip
      exact absurd (by decide) c_3
    · skip
      refine lv_iconst (v := 1) hx hb d_M_placed_9 (by decide) ?_
      refine lv_goto (tgt := 14) hx hb d_M_placed_10 (by decide) ?_
      refine lv_istore (lv' := [(4, .int 1), (0, .ref (E 0)), (1, .int x), (2, .int y), (3, .int 1)]) hx hb d_M_placed_14 hl (by decide) rfl (fun ls hl => ?_)
      refine lv_iconst (v := (-1)) hx hb d_M_placed_16 (by decide) ?_
      refine lv_istore (lv' := [(5, .int (-1)), (4, .int 1), (0, .ref (E 0)), (1, .int x), (2, .int y), (3, .int 1)]) hx hb d_M_placed_17 hl (by decide) rfl (fun ls hl => ?_)
      refine lv_iconst (v := 0) hx hb d_M_placed_19 (by decide) ?_
      refine lv_istore (lv' := [(6, .int 0), (5, .int (-1)), (4, .int 1), (0, .ref (E 0)), (1, .int x), (2, .int y), (3, .int 1)]) hx hb d_M_placed_20 hl (by decide) rfl (fun ls hl => ?_)
      have loops : ∀ f : Nat, (∀ (k : Nat), 1728 - k < f → (k ≤ 1728) → (pm_fnd gv mm x y (1728 - k) k = fo) → ∀ ls : Array Slot, lv_has ls 17 [(0, .ref (E 0)), (1, .int x), (2, .int y), (3, .int 1), (4, .int 1), (5, .int (-1)), (6, .int (nI k))] → W p l e ({ frames := 3, cells := 0, slots := 0, locals := 75 }) s m [.ref (E 0), .int x, .int y, .int 1].toArray below meth c s.heap [] 0 0 (MQ below (z_Qw (fun r H => r = some (.int 0) ∧ z_Md (dC, dI) cI H E (pm_th true (pm_pt x y) fo.isSome) mp ms mc mn mm gv) (z_fr (z_mF E) s.heap.size)) [.ref (E 0), .int x, .int y, .int 1].toArray s 0 0 (z_fr (z_mF E) s.heap.size)) (F0 m 22 ls [])) := by
        intro f
        induction f with
        | zero => exact fun _ h => absurd h (Nat.not_lt_zero _)
        | succ f ih =>
          intro k hmu hk hres ls hl
          have hkk : k < 1728 → k / 144 < 12 := fun h => by omega
          refine lv_iload hx hb d_M_placed_22 (lv_at hl 6 rfl) ?_
          refine lv_sipush (v := 1728) hx hb d_M_placed_24 (by decide) ?_
          refine lv_icmp_ge (tgt := 133) hx hb d_M_placed_27 (by decide) (fun c_4 => ?_) (fun c_4 => ?_)
          · skip
            have c_4 : 1728 ≤ k := (nI_leI (a := 1728) (b := k) (by omega) (by omega)).mp c_4
            refine lv_aload_n hx hb d_M_placed_133 rfl (lv_at hl 0 rfl) ?_
            refine lv_iload hx hb d_M_placed_134 (lv_at hl 4 rfl) ?_
            refine lv_iload_n hx hb d_M_placed_136 rfl (lv_at hl 1 rfl) ?_
            refine lv_iload_n hx hb d_M_placed_137 rfl (lv_at hl 2 rfl) ?_
            refine z_rdS (n := 2) (rest := [.int 1, .ref (E 0)]) ⟨hx, hb, hml, hown, hts⟩ hW0 (c_M_isPoint G x y) w_644 w_642 w_643 w_4 (by decide +kernel) ⟨rfl, rfl, Nat.le_of_ble_eq_true rfl, Nat.le_of_ble_eq_true rfl⟩ (trivial) rfl rfl hl.1 (Nat.le_of_ble_eq_true rfl) d_M_placed_138 ⟨Nat.zero_le _, Nat.zero_le _⟩ ?_
            refine lv_iload hx hb d_M_placed_141 (lv_at hl 5 rfl) ?_
            refine lv_iconst (v := (-1)) hx hb d_M_placed_143 (by decide) ?_
            refine lv_icmp_eq (tgt := 151) hx hb d_M_placed_144 (by decide) (fun c_5 => ?_) (fun c_5 => ?_)
            · skip
              refine lv_iconst (v := 0) hx hb d_M_placed_151 (by decide) ?_
              rw [show 1728 - k = 0 by omega] at hres
              simp only [pm_fnd] at hres
              refine z_g3 (w1 := pi_b true) (w2 := pi_b (pm_pt x y)) (w3 := pi_b fo.isSome) (by rw [← hres]; rfl) (rfl) (rfl) ?_
              exact tail ls (lv_sub hl [0, 1, 2, 3] rfl)
            · skip
              exact absurd (by decide) c_5
          · skip
            have c_4 : ¬ (1728 ≤ k) := fun h => c_4 ((nI_leI (a := 1728) (b := k) (by omega) (by omega)).mpr h)
            refine lv_iload hx hb d_M_placed_30 (lv_at hl 5 rfl) ?_
            refine lv_iconst (v := (-1)) hx hb d_M_placed_32 (by decide) ?_
            refine lv_icmp_ne (tgt := 133) hx hb d_M_placed_33 (by decide) (fun c_6 => ?_) (fun c_6 => ?_)
            · skip
              exact absurd (by decide) c_6
            · skip
              refine lv_iload hx hb d_M_placed_36 (lv_at hl 6 rfl) ?_
              refine lv_sipush (v := 144) hx hb d_M_placed_38 (by decide) ?_
              refine lv_idiv hx hb d_M_placed_41 (nI_ne0 (n := 144) (by omega) (by omega)) ?_
              refine z_topi (y := nI (k / 144)) (pk_div (a := k) (d := 144) (by omega) (by omega) (by omega)) ?_
              refine lv_istore (lv' := [(7, .int (nI (k / 144))), (0, .ref (E 0)), (1, .int x), (2, .int y), (3, .int 1), (4, .int 1), (5, .int (-1)), (6, .int (nI k))]) hx hb d_M_placed_42 hl (by decide) rfl (fun ls hl => ?_)
              refine lv_iload hx hb d_M_placed_44 (lv_at hl 7 rfl) ?_
              refine lv_bipush (v := 12) hx hb d_M_placed_46 (by decide) ?_
              refine lv_idiv hx hb d_M_placed_48 (nI_ne0 (n := 12) (by omega) (by omega)) ?_
              refine z_topi (y := nI (k / 12)) (pk_div (a := k) (d := 12) (by omega) (by omega) (by omega)) ?_
              refine lv_bipush (v := 12) hx hb d_M_placed_49 (by decide) ?_
              refine lv_irem hx hb d_M_placed_51 (nI_ne0 (n := 12) (by omega) (by omega)) ?_
              refine z_topi (y := nI ((k / 12) % 12)) (pk_rem (a := k / 12) (d := 12) (by omega) (by omega) (by omega)) ?_
              refine lv_istore (lv' := [(8, .int (nI ((k / 12) % 12))), (7, .int (nI (k / 144))), (0, .ref (E 0)), (1, .int x), (2, .int y), (3, .int 1), (4, .int 1), (5, .int (-1)), (6, .int (nI k))]) hx hb d_M_placed_52 hl (by decide) rfl (fun ls hl => ?_)
              refine lv_iload hx hb d_M_placed_54 (lv_at hl 8 rfl) ?_
              refine lv_bipush (v := 12) hx hb d_M_placed_56 (by decide) ?_
              refine lv_irem hx hb d_M_placed_58 (nI_ne0 (n := 12) (by omega) (by omega)) ?_
              refine z_topi (y := nI (k % 12)) (pk_rem (a := k) (d := 12) (by omega) (by omega) (by omega)) ?_
              refine lv_istore (lv' := [(9, .int (nI (k % 12))), (8, .int (nI ((k / 12) % 12))), (7, .int (nI (k / 144))), (0, .ref (E 0)), (1, .int x), (2, .int y), (3, .int 1), (4, .int 1), (5, .int (-1)), (6, .int (nI k))]) hx hb d_M_placed_59 hl (by decide) rfl (fun ls hl => ?_)
              refine lv_iload hx hb d_M_placed_61 (lv_at hl 2 rfl) ?_
              refine lv_iload hx hb d_M_placed_63 (lv_at hl 1 rfl) ?_
              refine lv_icmp_ge (tgt := 96) hx hb d_M_placed_65 (by decide) (fun c_7 => ?_) (fun c_7 => ?_)
              · skip
                have c_7 : ((k / 12) % 12) ≤ (k / 144) := (nI_leI (a := (k / 12) % 12) (b := k / 144) (by omega) (by omega)).mp c_7
                refine lv_iconst (v := 0) hx hb d_M_placed_96 (by decide) ?_
                refine lv_istore (lv' := [(10, .int 0), (9, .int (nI (k % 12))), (8, .int (nI ((k / 12) % 12))), (7, .int (nI (k / 144))), (0, .ref (E 0)), (1, .int x), (2, .int y), (3, .int 1), (4, .int 1), (5, .int (-1)), (6, .int (nI k))]) hx hb d_M_placed_97 hl (by decide) rfl (fun ls hl => ?_)
                refine lv_iload hx hb d_M_placed_99 (lv_at hl 0 rfl) ?_
                refine lv_if_eq (tgt := 124) hx hb d_M_placed_101 (by decide) (fun c_8 => ?_) (fun c_8 => ?_)
                · skip
                  refine lv_iconst (v := (-1)) hx hb d_M_placed_124 (by decide) ?_
                  refine lv_istore (lv' := [(5, .int (-1)), (10, .int 0), (9, .int (nI (k % 12))), (8, .int (nI ((k / 12) % 12))), (7, .int (nI (k / 144))), (0, .ref (E 0)), (1, .int x), (2, .int y), (3, .int 1), (4, .int 1), (6, .int (nI k))]) hx hb d_M_placed_125 hl (by decide) rfl (fun ls hl => ?_)
                  refine lv_iinc (v := nI (k + 1)) (lv' := [(6, .int (nI (k + 1))), (5, .int (-1)), (10, .int 0), (9, .int (nI (k % 12))), (8, .int (nI ((k / 12) % 12))), (7, .int (nI (k / 144))), (0, .ref (E 0)), (1, .int x), (2, .int y), (3, .int 1), (4, .int 1)]) hx hb d_M_placed_127 hl (k := 10) rfl (nI_1 k) (by decide) rfl (fun ls hl => ?_)
                  refine lv_goto (tgt := 22) hx hb d_M_placed_130 (by decide) ?_
                  exact ih (k + 1) (by omega) (by omega) (by rw [show 1728 - k = (1728 - (k + 1)) + 1 by omega] at hres; simpa [pm_fnd, pm_is, c_4, (Nat.not_lt.mpr c_7)] using hres) ls (lv_sub hl [6, 7, 8, 9, 10, 1, 0] rfl)
                · skip
                  exact absurd (by decide) c_8
              · skip
                have c_7 : ¬ (((k / 12) % 12) ≤ (k / 144)) := fun h => c_7 ((nI_leI (a := (k / 12) % 12) (b := k / 144) (by omega) (by omega)).mpr h)
                refine lv_iload hx hb d_M_placed_68 (lv_at hl 1 rfl) ?_
                refine lv_iload hx hb d_M_placed_70 (lv_at hl 0 rfl) ?_
                refine lv_icmp_ge (tgt := 96) hx hb d_M_placed_72 (by decide) (fun c_9 => ?_) (fun c_9 => ?_)
                · skip
                  have c_9 : (k % 12) ≤ ((k / 12) % 12) := (nI_leI (a := k % 12) (b := (k / 12) % 12) (by omega) (by omega)).mp c_9
                  refine lv_iconst (v := 0) hx hb d_M_placed_96 (by decide) ?_
                  refine lv_istore (lv' := [(10, .int 0), (9, .int (nI (k % 12))), (8, .int (nI ((k / 12) % 12))), (7, .int (nI (k / 144))), (0, .ref (E 0)), (1, .int x), (2, .int y), (3, .int 1), (4, .int 1), (5, .int (-1)), (6, .int (nI k))]) hx hb d_M_placed_97 hl (by decide) rfl (fun ls hl => ?_)
                  refine lv_iload hx hb d_M_placed_99 (lv_at hl 0 rfl) ?_
                  refine lv_if_eq (tgt := 124) hx hb d_M_placed_101 (by decide) (fun c_10 => ?_) (fun c_10 => ?_)
                  · skip
                    refine lv_iconst (v := (-1)) hx hb d_M_placed_124 (by decide) ?_
                    refine lv_istore (lv' := [(5, .int (-1)), (10, .int 0), (9, .int (nI (k % 12))), (8, .int (nI ((k / 12) % 12))), (7, .int (nI (k / 144))), (0, .ref (E 0)), (1, .int x), (2, .int y), (3, .int 1), (4, .int 1), (6, .int (nI k))]) hx hb d_M_placed_125 hl (by decide) rfl (fun ls hl => ?_)
                    refine lv_iinc (v := nI (k + 1)) (lv' := [(6, .int (nI (k + 1))), (5, .int (-1)), (10, .int 0), (9, .int (nI (k % 12))), (8, .int (nI ((k / 12) % 12))), (7, .int (nI (k / 144))), (0, .ref (E 0)), (1, .int x), (2, .int y), (3, .int 1), (4, .int 1)]) hx hb d_M_placed_127 hl (k := 10) rfl (nI_1 k) (by decide) rfl (fun ls hl => ?_)
                    refine lv_goto (tgt := 22) hx hb d_M_placed_130 (by decide) ?_
                    exact ih (k + 1) (by omega) (by omega) (by rw [show 1728 - k = (1728 - (k + 1)) + 1 by omega] at hres; simpa [pm_fnd, pm_is, c_4, c_7, (Nat.not_lt.mpr c_9)] using hres) ls (lv_sub hl [6, 7, 8, 9, 10, 1, 0] rfl)
                  · skip
                    exact absurd (by decide) c_10
                · skip
                  have c_9 : ¬ ((k % 12) ≤ ((k / 12) % 12)) := fun h => c_9 ((nI_leI (a := k % 12) (b := (k / 12) % 12) (by omega) (by omega)).mpr h)
                  refine lv_iload hx hb d_M_placed_75 (lv_at hl 0 rfl) ?_
                  refine lv_aload_n hx hb d_M_placed_77 rfl (lv_at hl 3 rfl) ?_
                  refine va_get (D := (dC, dI)) (ci := 4) (v := .int (nI mm)) (C := R_M) (T := T_M) (N := 23) hx hb hts in_M hown hK hE0.P 0 rfl rfl 18 (by decide) (hts _ w_558) (fun _ h9 => h9) rfl d_M_placed_78 ?_
                  refine lv_icmp_ge (tgt := 96) hx hb d_M_placed_81 (by decide) (fun c_11 => ?_) (fun c_11 => ?_)
                  · skip
                    have c_11 : mm ≤ (k % 12) := (nI_leI (a := mm) (b := k % 12) (by omega) (by omega)).mp c_11
                    refine lv_iconst (v := 0) hx hb d_M_placed_96 (by decide) ?_
                    refine lv_istore (lv' := [(10, .int 0), (9, .int (nI (k % 12))), (8, .int (nI ((k / 12) % 12))), (7, .int (nI (k / 144))), (0, .ref (E 0)), (1, .int x), (2, .int y), (3, .int 1), (4, .int 1), (5, .int (-1)), (6, .int (nI k))]) hx hb d_M_placed_97 hl (by decide) rfl (fun ls hl => ?_)
                    refine lv_iload hx hb d_M_placed_99 (lv_at hl 0 rfl) ?_
                    refine lv_if_eq (tgt := 124) hx hb d_M_placed_101 (by decide) (fun c_12 => ?_) (fun c_12 => ?_)
                    · skip
                      refine lv_iconst (v := (-1)) hx hb d_M_placed_124 (by decide) ?_
                      refine lv_istore (lv' := [(5, .int (-1)), (10, .int 0), (9, .int (nI (k % 12))), (8, .int (nI ((k / 12) % 12))), (7, .int (nI (k / 144))), (0, .ref (E 0)), (1, .int x), (2, .int y), (3, .int 1), (4, .int 1), (6, .int (nI k))]) hx hb d_M_placed_125 hl (by decide) rfl (fun ls hl => ?_)
                      refine lv_iinc (v := nI (k + 1)) (lv' := [(6, .int (nI (k + 1))), (5, .int (-1)), (10, .int 0), (9, .int (nI (k % 12))), (8, .int (nI ((k / 12) % 12))), (7, .int (nI (k / 144))), (0, .ref (E 0)), (1, .int x), (2, .int y), (3, .int 1), (4, .int 1)]) hx hb d_M_placed_127 hl (k := 10) rfl (nI_1 k) (by decide) rfl (fun ls hl => ?_)
                      refine lv_goto (tgt := 22) hx hb d_M_placed_130 (by decide) ?_
                      exact ih (k + 1) (by omega) (by omega) (by rw [show 1728 - k = (1728 - (k + 1)) + 1 by omega] at hres; simpa [pm_fnd, pm_is, c_4, c_7, c_9, (Nat.not_lt.mpr c_11)] using hres) ls (lv_sub hl [6, 7, 8, 9, 10, 1, 0] rfl)
                    · skip
                      exact absurd (by decide) c_12
                  · skip
                    have c_11 : ¬ (mm ≤ (k % 12)) := fun h => c_11 ((nI_leI (a := mm) (b := k % 12) (by omega) (by omega)).mpr h)
                    refine lv_iload_n hx hb d_M_placed_84 rfl (lv_at hl 4 rfl) ?_
                    refine lv_iload_n hx hb d_M_placed_85 rfl (lv_at hl 5 rfl) ?_
                    refine z_rdS (n := 2) (rest := []) ⟨hx, hb, hml, hown, hts⟩ hW0 (c_M_isPoint G x y) w_644 w_642 w_643 w_4 (by decide +kernel) ⟨rfl, rfl, Nat.le_of_ble_eq_true rfl, Nat.le_of_ble_eq_true rfl⟩ (trivial) rfl rfl hl.1 (Nat.le_of_ble_eq_true rfl) d_M_placed_86 ⟨Nat.zero_le _, Nat.zero_le _⟩ ?_
                    refine lv_if_eq (tgt := 96) hx hb d_M_placed_89 (by decide) (fun c_13 => ?_) (fun c_13 => ?_)
                    · skip
                      have c_13 : (pm_pt x y) = false := pi_b_0.mp c_13
                      refine lv_iconst (v := 0) hx hb d_M_placed_96 (by decide) ?_
                      refine lv_istore (lv' := [(10, .int 0), (9, .int (nI (k % 12))), (8, .int (nI ((k / 12) % 12))), (7, .int (nI (k / 144))), (0, .ref (E 0)), (1, .int x), (2, .int y), (3, .int 1), (4, .int 1), (5, .int (-1)), (6, .int (nI k))]) hx hb d_M_placed_97 hl (by decide) rfl (fun ls hl => ?_)
                      refine lv_iload hx hb d_M_placed_99 (lv_at hl 0 rfl) ?_
                      refine lv_if_eq (tgt := 124) hx hb d_M_placed_101 (by decide) (fun c_14 => ?_) (fun c_14 => ?_)
                      · skip
                        refine lv_iconst (v := (-1)) hx hb d_M_placed_124 (by decide) ?_
                        refine lv_istore (lv' := [(5, .int (-1)), (10, .int 0), (9, .int (nI (k % 12))), (8, .int (nI ((k / 12) % 12))), (7, .int (nI (k / 144))), (0, .ref (E 0)), (1, .int x), (2, .int y), (3, .int 1), (4, .int 1), (6, .int (nI k))]) hx hb d_M_placed_125 hl (by decide) rfl (fun ls hl => ?_)
                        refine lv_iinc (v := nI (k + 1)) (lv' := [(6, .int (nI (k + 1))), (5, .int (-1)), (10, .int 0), (9, .int (nI (k % 12))), (8, .int (nI ((k / 12) % 12))), (7, .int (nI (k / 144))), (0, .ref (E 0)), (1, .int x), (2, .int y), (3, .int 1), (4, .int 1)]) hx hb d_M_placed_127 hl (k := 10) rfl (nI_1 k) (by decide) rfl (fun ls hl => ?_)
                        refine lv_goto (tgt := 22) hx hb d_M_placed_130 (by decide) ?_
                        exact ih (k + 1) (by omega) (by omega) (by rw [show 1728 - k = (1728 - (k + 1)) + 1 by omega] at hres; simpa [pm_fnd, pm_is, c_4, c_7, c_9, c_11, c_13] using hres) ls (lv_sub hl [6, 7, 8, 9, 10, 1, 0] rfl)
                      · skip
                        exact absurd (by decide) c_14
                    · skip
                      have c_13 : (pm_pt x y) = true := pi_b_1.mp c_13
                      refine lv_iconst (v := 1) hx hb d_M_placed_92 (by decide) ?_
                      refine lv_goto (tgt := 97) hx hb d_M_placed_93 (by decide) ?_
                      refine lv_istore (lv' := [(10, .int 1), (9, .int (nI (k % 12))), (8, .int (nI ((k / 12) % 12))), (7, .int (nI (k / 144))), (0, .ref (E 0)), (1, .int x), (2, .int y), (3, .int 1), (4, .int 1), (5, .int (-1)), (6, .int (nI k))]) hx hb d_M_placed_97 hl (by decide) rfl (fun ls hl => ?_)
                      refine lv_iload hx hb d_M_placed_99 (lv_at hl 0 rfl) ?_
                      refine lv_if_eq (tgt := 124) hx hb d_M_placed_101 (by decide) (fun c_15 => ?_) (fun c_15 => ?_)
                      · skip
                        exact absurd c_15 (by decide)
                      · skip
                        refine lv_aload_n hx hb d_M_placed_104 rfl (lv_at hl 4 rfl) ?_
                        refine lv_iload hx hb d_M_placed_105 (lv_at hl 3 rfl) ?_
                        refine lv_iload hx hb d_M_placed_107 (lv_at hl 2 rfl) ?_
                        refine lv_iload hx hb d_M_placed_109 (lv_at hl 1 rfl) ?_
                        refine lv_iload_n hx hb d_M_placed_111 rfl (lv_at hl 5 rfl) ?_
                        refine lv_iload_n hx hb d_M_placed_112 rfl (lv_at hl 6 rfl) ?_
                        refine z_rdV (n := 5) (C := R_M) (rest := []) ⟨hx, hb, hml, hown, hts⟩ hW0 (c_M_holds G E th mp ms mc mn mm gv (k / 144) ((k / 12) % 12) (k % 12) x y (by omega) (by omega) (by omega)) w_737 w_734 w_736 wp_29 w_4 (by decide +kernel) ⟨rfl, rfl, Nat.le_of_ble_eq_true rfl, Nat.le_of_ble_eq_true rfl⟩ (hE0.recv hK rfl) (hB) rfl rfl hl.1 (Nat.le_of_ble_eq_true rfl) d_M_placed_113 ⟨Nat.zero_le _, Nat.zero_le _⟩ ?_
                        refine lv_if_eq (tgt := 124) hx hb d_M_placed_116 (by decide) (fun c_16 => ?_) (fun c_16 => ?_)
                        · skip
                          have c_16 : (pm_hold (gv 13) (gv 14) (k / 144) ((k / 12) % 12) (k % 12) x y) = false := pi_b_0.mp c_16
                          refine lv_iconst (v := (-1)) hx hb d_M_placed_124 (by decide) ?_
                          refine lv_istore (lv' := [(5, .int (-1)), (10, .int 1), (9, .int (nI (k % 12))), (8, .int (nI ((k / 12) % 12))), (7, .int (nI (k / 144))), (0, .ref (E 0)), (1, .int x), (2, .int y), (3, .int 1), (4, .int 1), (6, .int (nI k))]) hx hb d_M_placed_125 hl (by decide) rfl (fun ls hl => ?_)
                          refine lv_iinc (v := nI (k + 1)) (lv' := [(6, .int (nI (k + 1))), (5, .int (-1)), (10, .int 1), (9, .int (nI (k % 12))), (8, .int (nI ((k / 12) % 12))), (7, .int (nI (k / 144))), (0, .ref (E 0)), (1, .int x), (2, .int y), (3, .int 1), (4, .int 1)]) hx hb d_M_placed_127 hl (k := 10) rfl (nI_1 k) (by decide) rfl (fun ls hl => ?_)
                          refine lv_goto (tgt := 22) hx hb d_M_placed_130 (by decide) ?_
                          exact ih (k + 1) (by omega) (by omega) (by rw [show 1728 - k = (1728 - (k + 1)) + 1 by omega] at hres; simpa [pm_fnd, pm_is, c_4, c_7, c_9, c_11, c_13, c_16] using hres) ls (lv_sub hl [6, 7, 8, 9, 10, 1, 0] rfl)
                        · skip
                          have c_16 : (pm_hold (gv 13) (gv 14) (k / 144) ((k / 12) % 12) (k % 12) x y) = true := pi_b_1.mp c_16
                          refine lv_iload hx hb d_M_placed_119 (lv_at hl 10 rfl) ?_
                          refine lv_goto (tgt := 125) hx hb d_M_placed_121 (by decide) ?_
                          refine lv_istore (lv' := [(5, .int (nI k)), (10, .int 1), (9, .int (nI (k % 12))), (8, .int (nI ((k / 12) % 12))), (7, .int (nI (k / 144))), (0, .ref (E 0)), (1, .int x), (2, .int y), (3, .int 1), (4, .int 1), (6, .int (nI k))]) hx hb d_M_placed_125 hl (by decide) rfl (fun ls hl => ?_)
                          refine lv_iinc (v := nI (k + 1)) (lv' := [(6, .int (nI (k + 1))), (5, .int (nI k)), (10, .int 1), (9, .int (nI (k % 12))), (8, .int (nI ((k / 12) % 12))), (7, .int (nI (k / 144))), (0, .ref (E 0)), (1, .int x), (2, .int y), (3, .int 1), (4, .int 1)]) hx hb d_M_placed_127 hl (k := 10) rfl (nI_1 k) (by decide) rfl (fun ls hl => ?_)
                          refine lv_goto (tgt := 22) hx hb d_M_placed_130 (by decide) ?_
                          refine lv_iload hx hb d_M_placed_22 (lv_at hl 0 rfl) ?_
                          refine lv_sipush (v := 1728) hx hb d_M_placed_24 (by decide) ?_
                          refine lv_icmp_ge (tgt := 133) hx hb d_M_placed_27 (by decide) (fun c_17 => ?_) (fun c_17 => ?_)
                          · skip
                            have c_17 : 1728 ≤ (k + 1) := (nI_leI (a := 1728) (b := k + 1) (by omega) (by omega)).mp c_17
                            refine lv_aload_n hx hb d_M_placed_133 rfl (lv_at hl 6 rfl) ?_
                            refine lv_iload hx hb d_M_placed_134 (lv_at hl 10 rfl) ?_
                            refine lv_iload_n hx hb d_M_placed_136 rfl (lv_at hl 7 rfl) ?_
                            refine lv_iload_n hx hb d_M_placed_137 rfl (lv_at hl 8 rfl) ?_
                            refine z_rdS (n := 2) (rest := [.int 1, .ref (E 0)]) ⟨hx, hb, hml, hown, hts⟩ hW0 (c_M_isPoint G x y) w_644 w_642 w_643 w_4 (by decide +kernel) ⟨rfl, rfl, Nat.le_of_ble_eq_true rfl, Nat.le_of_ble_eq_true rfl⟩ (trivial) rfl rfl hl.1 (Nat.le_of_ble_eq_true rfl) d_M_placed_138 ⟨Nat.zero_le _, Nat.zero_le _⟩ ?_
                            refine lv_iload hx hb d_M_placed_141 (lv_at hl 1 rfl) ?_
                            refine lv_iconst (v := (-1)) hx hb d_M_placed_143 (by decide) ?_
                            refine lv_icmp_eq (tgt := 151) hx hb d_M_placed_144 (by decide) (fun c_18 => ?_) (fun c_18 => ?_)
                            · skip
                              exact absurd c_18 (z_ne1 (by omega))
                            · skip
                              refine lv_iconst (v := 1) hx hb d_M_placed_147 (by decide) ?_
                              refine lv_goto (tgt := 152) hx hb d_M_placed_148 (by decide) ?_
                              have his : pm_is gv mm x y k = true := by simp [pm_is, (Nat.not_le.mp c_7), (Nat.not_le.mp c_9), (Nat.not_le.mp c_11), c_13, c_16]
                              rw [show 1728 - k = (1728 - (k + 1)) + 1 by omega] at hres
                              simp only [pm_fnd, his, ↓reduceIte] at hres
                              refine z_g3 (w1 := pi_b true) (w2 := pi_b (pm_pt x y)) (w3 := pi_b fo.isSome) (by rw [← hres]; rfl) (rfl) (rfl) ?_
                              exact tail ls (lv_sub hl [6, 7, 8, 9] rfl)
                          · skip
                            have c_17 : ¬ (1728 ≤ (k + 1)) := fun h => c_17 ((nI_leI (a := 1728) (b := k + 1) (by omega) (by omega)).mpr h)
                            refine lv_iload hx hb d_M_placed_30 (lv_at hl 1 rfl) ?_
                            refine lv_iconst (v := (-1)) hx hb d_M_placed_32 (by decide) ?_
                            refine lv_icmp_ne (tgt := 133) hx hb d_M_placed_33 (by decide) (fun c_19 => ?_) (fun c_19 => ?_)
                            · skip
                              refine lv_aload_n hx hb d_M_placed_133 rfl (lv_at hl 6 rfl) ?_
                              refine lv_iload hx hb d_M_placed_134 (lv_at hl 10 rfl) ?_
                              refine lv_iload_n hx hb d_M_placed_136 rfl (lv_at hl 7 rfl) ?_
                              refine lv_iload_n hx hb d_M_placed_137 rfl (lv_at hl 8 rfl) ?_
                              refine z_rdS (n := 2) (rest := [.int 1, .ref (E 0)]) ⟨hx, hb, hml, hown, hts⟩ hW0 (c_M_isPoint G x y) w_644 w_642 w_643 w_4 (by decide +kernel) ⟨rfl, rfl, Nat.le_of_ble_eq_true rfl, Nat.le_of_ble_eq_true rfl⟩ (trivial) rfl rfl hl.1 (Nat.le_of_ble_eq_true rfl) d_M_placed_138 ⟨Nat.zero_le _, Nat.zero_le _⟩ ?_
                              refine lv_iload hx hb d_M_placed_141 (lv_at hl 1 rfl) ?_
                              refine lv_iconst (v := (-1)) hx hb d_M_placed_143 (by decide) ?_
                              refine lv_icmp_eq (tgt := 151) hx hb d_M_placed_144 (by decide) (fun c_20 => ?_) (fun c_20 => ?_)
                              · skip
                                exact absurd c_20 c_19
                              · skip
                                refine lv_iconst (v := 1) hx hb d_M_placed_147 (by decide) ?_
                                refine lv_goto (tgt := 152) hx hb d_M_placed_148 (by decide) ?_
                                have his : pm_is gv mm x y k = true := by simp [pm_is, (Nat.not_le.mp c_7), (Nat.not_le.mp c_9), (Nat.not_le.mp c_11), c_13, c_16]
                                rw [show 1728 - k = (1728 - (k + 1)) + 1 by omega] at hres
                                simp only [pm_fnd, his, ↓reduceIte] at hres
                                refine z_g3 (w1 := pi_b true) (w2 := pi_b (pm_pt x y)) (w3 := pi_b fo.isSome) (by rw [← hres]; rfl) (rfl) (rfl) ?_
                                exact tail ls (lv_sub hl [6, 7, 8, 9] rfl)
                            · skip
                              exact absurd c_19 (z_ne1 (by omega))
      exact (loops ((1728 - 0) + 1)) 0 (by omega) (by omega) (hfo) ls (lv_sub hl [3, 4, 5, 6, 2, 1, 0] rfl)
set_option maxRecDepth 100000 in
set_option maxHeartbeats 4000000 in
theorem c_M_placed_ok1 (G : z_G s0 (dC, dI) cI cS) (E : Nat → Nat) (th : Int32) (mp ms mc mn mm : Nat) (gv : Nat → Nat → Int32) (sz : Nat) (x y : Int32) (kk : Nat) (hfo : pm_fnd gv mm x y 1728 0 = some kk) (hg : (true && ((pm_pt x y) && true)) = true) : Met l y_M_placed [Cond.code y_M_placed b_M_placed 17 (some .int)] ({ frames := 3, cells := 0, slots := 0, locals := 75 }) (z_Pc s0 [.ref (E 0), .int x, .int y, .int 1] (fun H => H.size = sz ∧ z_Md (dC, dI) cI H E th mp ms mc mn mm gv)) (z_Qw (fun r H => r = some (.int (pm_val gv (gv 16) (kk / 144) (kk / 12 % 12) (kk % 12) x y)) ∧ z_Md (dC, dI) cI H E 0 mp ms mc mn mm gv) (z_fr (z_mF E) sz)) 0 0 (z_fr (z_mF E) sz) := by
  refine z_ofW (by decide +kernel) (Nat.le_of_ble_eq_true rfl) ?_
  intro p e s m below meth c hx hb hml hr hown hlocks hnm hW0 hB ls hl
  have hts := z_hts (args := [.ref (E 0), .int x, .int y, .int 1].toArray) G.1 hW0
  have hN := z_nstW G.2.1 hW0
  have hK := va_K.moved hW0.alike G.2.2.1
  have hAI := arrOfT_moved hW0.alike G.2.2.2.1
  have hl : lv_has ls 17 [(0, .ref (E 0)), (1, .int x), (2, .int y), (3, .int 1)] := hl
  obtain ⟨rfl, hB⟩ := hB
  have hS : va_S (z_fr (z_mF E) s.heap.size) s.heap s.heap [] := va_S.rf
  obtain ⟨⟨hE0, hGA⟩, hEi, ⟨hmp, hms, hmn, hmm, hmc⟩⟩ := id hB
  have hkk := pm_fnd_ok 1728 0 kk hfo
  have hki := pm_is_ok hkk.2
  have hkl := hkk.1
  have hk1 := hki.1
  have hk2 := hki.2.1
  have hk3 := hki.2.2.1
  have hne := pm_hold_ne hki.2.2.2.2
  have tail : ∀ ls : Array Slot, lv_has ls 17 [(0, .ref (E 0)), (1, .int x), (2, .int y), (3, .int 1), (5, .int (nI kk))] → W p l e ({ frames := 3, cells := 0, slots := 0, locals := 75 }) s m [.ref (E 0), .int x, .int y, .int 1].toArray below meth c s.heap [] 0 0 (MQ below (z_Qw (fun r H => r = some (.int (pm_val gv (gv 16) (kk / 144) (kk / 12 % 12) (kk % 12) x y)) ∧ z_Md (dC, dI) cI H E 0 mp ms mc mn mm gv) (z_fr (z_mF E) s.heap.size)) [.ref (E 0), .int x, .int y, .int 1].toArray s 0 0 (z_fr (z_mF E) s.heap.size)) (F0 m 152 ls [.int (pi_b true), .int (pi_b (pm_pt x y)), .int (pi_b true), .ref (E 0)]) := by
    intro ls hl
    refine z_wrV (n := 3) (C := R_M) (rest := []) ⟨hx, hb, hml, hown, hts⟩ hW0 (c_M_goes G E th mp ms mc mn mm gv _ true (pm_pt x y) true) w_625 w_622 w_624 wp_19 w_4 (by decide +kernel) ⟨rfl, rfl, Nat.le_of_ble_eq_true rfl, Nat.le_of_ble_eq_true rfl⟩ (hE0.recv hK rfl) ⟨rfl, hB⟩ rfl rfl hl.1 (Nat.le_of_ble_eq_true rfl) d_M_placed_152 ⟨Nat.le_of_ble_eq_true rfl, Nat.le_of_ble_eq_true rfl⟩ hS (fun q h => h.elim Or.inl (fun h => Or.inr (Nat.le_trans hS.1 h))) (fun H1 locs1 hB hz1 hk1 hS => ?_)
    obtain ⟨⟨hE0, hGA⟩, hEi, ⟨hmp, hms, hmn, hmm, hmc⟩⟩ := id hB
    refine z_topi (y := 1) (by rw [hg]; rfl) ?_
    rw [pm_th_ok hg] at hB
    obtain ⟨⟨hE0, hGA⟩, hEi, ⟨hmp, hms, hmn, hmm, hmc⟩⟩ := id hB
    refine lv_if_ne (tgt := 160) hx hb d_M_placed_155 (by decide) (fun c_1 => ?_) (fun c_1 => ?_)
    · skip
      refine lv_iload hx hb d_M_placed_160 (lv_at hl 4 rfl) ?_
      refine lv_sipush (v := 144) hx hb d_M_placed_162 (by decide) ?_
      refine lv_idiv hx hb d_M_placed_165 (nI_ne0 (n := 144) (by omega) (by omega)) ?_
      refine z_topi (y := nI (kk / 144)) (pk_div (a := kk) (d := 144) (by omega) (by omega) (by omega)) ?_
      refine lv_istore (lv' := [(6, .int (nI (kk / 144))), (0, .ref (E 0)), (1, .int x), (2, .int y), (3, .int 1), (5, .int (nI kk))]) hx hb d_M_placed_166 hl (by decide) rfl (fun ls hl => ?_)
      refine lv_iload hx hb d_M_placed_168 (lv_at hl 5 rfl) ?_
      refine lv_bipush (v := 12) hx hb d_M_placed_170 (by decide) ?_
      refine lv_idiv hx hb d_M_placed_172 (nI_ne0 (n := 12) (by omega) (by omega)) ?_
      refine z_topi (y := nI (kk / 12)) (pk_div (a := kk) (d := 12) (by omega) (by omega) (by omega)) ?_
      refine lv_bipush (v := 12) hx hb d_M_placed_173 (by decide) ?_
      refine lv_irem hx hb d_M_placed_175 (nI_ne0 (n := 12) (by omega) (by omega)) ?_
      refine z_topi (y := nI ((kk / 12) % 12)) (pk_rem (a := kk / 12) (d := 12) (by omega) (by omega) (by omega)) ?_
      refine lv_istore (lv' := [(7, .int (nI ((kk / 12) % 12))), (6, .int (nI (kk / 144))), (0, .ref (E 0)), (1, .int x), (2, .int y), (3, .int 1), (5, .int (nI kk))]) hx hb d_M_placed_176 hl (by decide) rfl (fun ls hl => ?_)
      refine lv_iload hx hb d_M_placed_178 (lv_at hl 6 rfl) ?_
      refine lv_bipush (v := 12) hx hb d_M_placed_180 (by decide) ?_
      refine lv_irem hx hb d_M_placed_182 (nI_ne0 (n := 12) (by omega) (by omega)) ?_
      refine z_topi (y := nI (kk % 12)) (pk_rem (a := kk) (d := 12) (by omega) (by omega) (by omega)) ?_
      refine lv_istore (lv' := [(8, .int (nI (kk % 12))), (7, .int (nI ((kk / 12) % 12))), (6, .int (nI (kk / 144))), (0, .ref (E 0)), (1, .int x), (2, .int y), (3, .int 1), (5, .int (nI kk))]) hx hb d_M_placed_183 hl (by decide) rfl (fun ls hl => ?_)
      refine lv_aload_n hx hb d_M_placed_185 rfl (lv_at hl 3 rfl) ?_
      refine lv_iload hx hb d_M_placed_186 (lv_at hl 2 rfl) ?_
      refine lv_iload hx hb d_M_placed_188 (lv_at hl 1 rfl) ?_
      refine lv_aload_n hx hb d_M_placed_190 rfl (lv_at hl 3 rfl) ?_
      refine va_get (D := (dC, dI)) (ci := 4) (v := .ref (E 14)) (C := R_M) (T := T_M) (N := 23) hx hb hts in_M hown hK hE0.P 0 rfl rfl 19 (by decide) (hts _ w_559) (fun _ h9 => h9) rfl d_M_placed_191 ?_
      refine lv_iload hx hb d_M_placed_194 (lv_at hl 0 rfl) ?_
      refine z_iald hx hb hAI (show z_A cI _ (E 14) 12 (gv 13) from hGA 13 (by omega)) (by omega) (by decide) d_M_placed_196 ?_
      refine lv_aload_n hx hb d_M_placed_197 rfl (lv_at hl 3 rfl) ?_
      refine va_get (D := (dC, dI)) (ci := 4) (v := .ref (E 15)) (C := R_M) (T := T_M) (N := 23) hx hb hts in_M hown hK hE0.P 0 rfl rfl 20 (by decide) (hts _ w_560) (fun _ h9 => h9) rfl d_M_placed_198 ?_
      refine lv_iload hx hb d_M_placed_201 (lv_at hl 0 rfl) ?_
      refine z_iald hx hb hAI (show z_A cI _ (E 15) 12 (gv 14) from hGA 14 (by omega)) (by omega) (by decide) d_M_placed_203 ?_
      refine z_rdV (n := 4) (C := R_M) (rest := []) ⟨hx, hb, hml, hown, hts⟩ hW0 (c_M_part G E 0 mp ms mc mn mm gv (kk / 144) ((kk / 12) % 12) ((gv 13) (kk % 12)) ((gv 14) (kk % 12)) (by omega) (by omega)) w_741 w_738 w_740 wp_30 w_4 (by decide +kernel) ⟨rfl, rfl, Nat.le_of_ble_eq_true rfl, Nat.le_of_ble_eq_true rfl⟩ (hE0.recv hK rfl) (hB) rfl rfl hl.1 (Nat.le_of_ble_eq_true rfl) d_M_placed_204 ⟨Nat.zero_le _, Nat.zero_le _⟩ ?_
      refine lv_i2l hx hb d_M_placed_207 rfl ?_
      refine lv_lstore (lv' := [(9, .long ((pm_side (gv 13 (kk / 144)) (gv 14 (kk / 144)) (gv 13 ((kk / 12) % 12)) (gv 14 ((kk / 12) % 12)) ((gv 13) (kk % 12)) ((gv 14) (kk % 12))).toInt64)), (8, .int (nI (kk % 12))), (7, .int (nI ((kk / 12) % 12))), (6, .int (nI (kk / 144))), (0, .ref (E 0)), (1, .int x), (2, .int y), (3, .int 1), (5, .int (nI kk))]) hx hb d_M_placed_208 hl (by decide) rfl (fun ls hl => ?_)
      refine lv_aload_n hx hb d_M_placed_210 rfl (lv_at hl 4 rfl) ?_
      refine lv_iload hx hb d_M_placed_211 (lv_at hl 2 rfl) ?_
      refine lv_iload hx hb d_M_placed_213 (lv_at hl 1 rfl) ?_
      refine lv_iload_n hx hb d_M_placed_215 rfl (lv_at hl 5 rfl) ?_
      refine lv_iload_n hx hb d_M_placed_216 rfl (lv_at hl 6 rfl) ?_
      refine z_rdV (n := 4) (C := R_M) (rest := []) ⟨hx, hb, hml, hown, hts⟩ hW0 (c_M_part G E 0 mp ms mc mn mm gv ((kk / 12) % 12) (kk % 12) x y (by omega) (by omega)) w_741 w_738 w_740 wp_30 w_4 (by decide +kernel) ⟨rfl, rfl, Nat.le_of_ble_eq_true rfl, Nat.le_of_ble_eq_true rfl⟩ (hE0.recv hK rfl) (hB) rfl rfl hl.1 (Nat.le_of_ble_eq_true rfl) d_M_placed_217 ⟨Nat.zero_le _, Nat.zero_le _⟩ ?_
      refine lv_i2l hx hb d_M_placed_220 rfl ?_
      refine lv_lstore (lv' := [(11, .long ((pm_side (gv 13 ((kk / 12) % 12)) (gv 14 ((kk / 12) % 12)) (gv 13 (kk % 12)) (gv 14 (kk % 12)) x y).toInt64)), (9, .long ((pm_side (gv 13 (kk / 144)) (gv 14 (kk / 144)) (gv 13 ((kk / 12) % 12)) (gv 14 ((kk / 12) % 12)) ((gv 13) (kk % 12)) ((gv 14) (kk % 12))).toInt64)), (8, .int (nI (kk % 12))), (7, .int (nI ((kk / 12) % 12))), (6, .int (nI (kk / 144))), (0, .ref (E 0)), (1, .int x), (2, .int y), (3, .int 1), (5, .int (nI kk))]) hx hb d_M_placed_221 hl (by decide) rfl (fun ls hl => ?_)
      refine lv_aload_n hx hb d_M_placed_223 rfl (lv_at hl 5 rfl) ?_
      refine lv_iload hx hb d_M_placed_224 (lv_at hl 2 rfl) ?_
      refine lv_iload hx hb d_M_placed_226 (lv_at hl 4 rfl) ?_
      refine lv_iload_n hx hb d_M_placed_228 rfl (lv_at hl 6 rfl) ?_
      refine lv_iload_n hx hb d_M_placed_229 rfl (lv_at hl 7 rfl) ?_
      refine z_rdV (n := 4) (C := R_M) (rest := []) ⟨hx, hb, hml, hown, hts⟩ hW0 (c_M_part G E 0 mp ms mc mn mm gv (kk % 12) (kk / 144) x y (by omega) (by omega)) w_741 w_738 w_740 wp_30 w_4 (by decide +kernel) ⟨rfl, rfl, Nat.le_of_ble_eq_true rfl, Nat.le_of_ble_eq_true rfl⟩ (hE0.recv hK rfl) (hB) rfl rfl hl.1 (Nat.le_of_ble_eq_true rfl) d_M_placed_230 ⟨Nat.zero_le _, Nat.zero_le _⟩ ?_
      refine lv_i2l hx hb d_M_placed_233 rfl ?_
      refine lv_lstore (lv' := [(13, .long ((pm_side (gv 13 (kk % 12)) (gv 14 (kk % 12)) (gv 13 (kk / 144)) (gv 14 (kk / 144)) x y).toInt64)), (11, .long ((pm_side (gv 13 ((kk / 12) % 12)) (gv 14 ((kk / 12) % 12)) (gv 13 (kk % 12)) (gv 14 (kk % 12)) x y).toInt64)), (9, .long ((pm_side (gv 13 (kk / 144)) (gv 14 (kk / 144)) (gv 13 ((kk / 12) % 12)) (gv 14 ((kk / 12) % 12)) ((gv 13) (kk % 12)) ((gv 14) (kk % 12))).toInt64)), (8, .int (nI (kk % 12))), (7, .int (nI ((kk / 12) % 12))), (6, .int (nI (kk / 144))), (0, .ref (E 0)), (1, .int x), (2, .int y), (3, .int 1), (5, .int (nI kk))]) hx hb d_M_placed_234 hl (by decide) rfl (fun ls hl => ?_)
      refine lv_aload_n hx hb d_M_placed_236 rfl (lv_at hl 6 rfl) ?_
      refine lv_iload hx hb d_M_placed_237 (lv_at hl 5 rfl) ?_
      refine lv_iload hx hb d_M_placed_239 (lv_at hl 4 rfl) ?_
      refine lv_iload_n hx hb d_M_placed_241 rfl (lv_at hl 7 rfl) ?_
      refine lv_iload_n hx hb d_M_placed_242 rfl (lv_at hl 8 rfl) ?_
      refine z_rdV (n := 4) (C := R_M) (rest := []) ⟨hx, hb, hml, hown, hts⟩ hW0 (c_M_part G E 0 mp ms mc mn mm gv (kk / 144) ((kk / 12) % 12) x y (by omega) (by omega)) w_741 w_738 w_740 wp_30 w_4 (by decide +kernel) ⟨rfl, rfl, Nat.le_of_ble_eq_true rfl, Nat.le_of_ble_eq_true rfl⟩ (hE0.recv hK rfl) (hB) rfl rfl hl.1 (Nat.le_of_ble_eq_true rfl) d_M_placed_243 ⟨Nat.zero_le _, Nat.zero_le _⟩ ?_
      refine lv_i2l hx hb d_M_placed_246 rfl ?_
      refine lv_lstore (lv' := [(15, .long ((pm_side (gv 13 (kk / 144)) (gv 14 (kk / 144)) (gv 13 ((kk / 12) % 12)) (gv 14 ((kk / 12) % 12)) x y).toInt64)), (13, .long ((pm_side (gv 13 (kk % 12)) (gv 14 (kk % 12)) (gv 13 (kk / 144)) (gv 14 (kk / 144)) x y).toInt64)), (11, .long ((pm_side (gv 13 ((kk / 12) % 12)) (gv 14 ((kk / 12) % 12)) (gv 13 (kk % 12)) (gv 14 (kk % 12)) x y).toInt64)), (9, .long ((pm_side (gv 13 (kk / 144)) (gv 14 (kk / 144)) (gv 13 ((kk / 12) % 12)) (gv 14 ((kk / 12) % 12)) ((gv 13) (kk % 12)) ((gv 14) (kk % 12))).toInt64)), (8, .int (nI (kk % 12))), (7, .int (nI ((kk / 12) % 12))), (6, .int (nI (kk / 144))), (0, .ref (E 0)), (1, .int x), (2, .int y), (3, .int 1), (5, .int (nI kk))]) hx hb d_M_placed_247 hl (by decide) rfl (fun ls hl => ?_)
      refine lv_iload_n hx hb d_M_placed_249 rfl (lv_at hl 10 rfl) ?_
      refine lv_if_ne (tgt := 296) hx hb d_M_placed_250 (by decide) (fun c_2 => ?_) (fun c_2 => ?_)
      · skip
        refine lv_lload hx hb d_M_placed_296 (lv_at hl 2 rfl) ?_
        refine lv_aload_n hx hb d_M_placed_298 rfl (lv_at hl 7 rfl) ?_
        refine va_get (D := (dC, dI)) (ci := 4) (v := .ref (E 17)) (C := R_M) (T := T_M) (N := 23) hx hb hts in_M hown hK hE0.P 0 rfl rfl 22 (by decide) (hts _ w_562) (fun _ h9 => h9) rfl d_M_placed_299 ?_
        refine lv_iload hx hb d_M_placed_302 (lv_at hl 6 rfl) ?_
        refine z_iald hx hb hAI (show z_A cI _ (E 17) 12 (gv 16) from hGA 16 (by omega)) (by omega) (by decide) d_M_placed_304 ?_
        refine lv_i2l hx hb d_M_placed_305 rfl ?_
        refine lv_lmul hx hb d_M_placed_306 ?_
        refine lv_lload hx hb d_M_placed_307 (lv_at hl 1 rfl) ?_
        refine lv_aload_n hx hb d_M_placed_309 rfl (lv_at hl 7 rfl) ?_
        refine va_get (D := (dC, dI)) (ci := 4) (v := .ref (E 17)) (C := R_M) (T := T_M) (N := 23) hx hb hts in_M hown hK hE0.P 0 rfl rfl 22 (by decide) (hts _ w_562) (fun _ h9 => h9) rfl d_M_placed_310 ?_
        refine lv_iload hx hb d_M_placed_313 (lv_at hl 5 rfl) ?_
        refine z_iald hx hb hAI (show z_A cI _ (E 17) 12 (gv 16) from hGA 16 (by omega)) (by omega) (by decide) d_M_placed_315 ?_
        refine lv_i2l hx hb d_M_placed_316 rfl ?_
        refine lv_lmul hx hb d_M_placed_317 ?_
        refine lv_ladd hx hb d_M_placed_318 ?_
        refine lv_lload hx hb d_M_placed_319 (lv_at hl 0 rfl) ?_
        refine lv_aload_n hx hb d_M_placed_321 rfl (lv_at hl 7 rfl) ?_
        refine va_get (D := (dC, dI)) (ci := 4) (v := .ref (E 17)) (C := R_M) (T := T_M) (N := 23) hx hb hts in_M hown hK hE0.P 0 rfl rfl 22 (by decide) (hts _ w_562) (fun _ h9 => h9) rfl d_M_placed_322 ?_
        refine lv_iload hx hb d_M_placed_325 (lv_at hl 4 rfl) ?_
        refine z_iald hx hb hAI (show z_A cI _ (E 17) 12 (gv 16) from hGA 16 (by omega)) (by omega) (by decide) d_M_placed_327 ?_
        refine lv_i2l hx hb d_M_placed_328 rfl ?_
        refine lv_lmul hx hb d_M_placed_329 ?_
        refine lv_ladd hx hb d_M_placed_330 ?_
        refine lv_lload hx hb d_M_placed_331 (lv_at hl 3 rfl) ?_
        refine z_rdS (n := 2) (rest := []) ⟨hx, hb, hml, hown, hts⟩ hW0 (c_M_nearest G (((((pm_side (gv 13 ((kk / 12) % 12)) (gv 14 ((kk / 12) % 12)) (gv 13 (kk % 12)) (gv 14 (kk % 12)) x y).toInt64) * (((gv 16) (kk / 144)).toInt64)) + (((pm_side (gv 13 (kk % 12)) (gv 14 (kk % 12)) (gv 13 (kk / 144)) (gv 14 (kk / 144)) x y).toInt64) * (((gv 16) ((kk / 12) % 12)).toInt64))) + (((pm_side (gv 13 (kk / 144)) (gv 14 (kk / 144)) (gv 13 ((kk / 12) % 12)) (gv 14 ((kk / 12) % 12)) x y).toInt64) * (((gv 16) (kk % 12)).toInt64))) ((pm_side (gv 13 (kk / 144)) (gv 14 (kk / 144)) (gv 13 ((kk / 12) % 12)) (gv 14 ((kk / 12) % 12)) ((gv 13) (kk % 12)) ((gv 14) (kk % 12))).toInt64) (z_by0 hne)) w_744 w_742 w_743 w_4 (by decide +kernel) ⟨rfl, rfl, Nat.le_of_ble_eq_true rfl, Nat.le_of_ble_eq_true rfl⟩ (trivial) rfl rfl hl.1 (Nat.le_of_ble_eq_true rfl) d_M_placed_333 ⟨Nat.zero_le _, Nat.zero_le _⟩ ?_
        exact z_wi hx hb hr hlocks (⟨rfl, hB⟩) hS d_M_placed_336
      · skip
        exact absurd c_2 (by decide)
    · skip
      exact absurd c_1 (by decide)
  refine lv_iload_n hx hb d_M_placed_0 rfl (lv_at hl 3 rfl) ?_
  refine lv_if_eq (tgt := 9) hx hb d_M_placed_1 (by decide) (fun c_3 => ?_) (fun c_3 => ?_)
  · skip
    exact absurd c_3 (by decide)
  · skip
    refine lv_iload_n hx hb d_M_placed_4 rfl (lv_at hl 3 rfl) ?_
    refine lv_iconst (v := 1) hx hb d_M_placed_5 (by decide) ?_
    refine lv_icmp_ne (tgt := 13) hx hb d_M_placed_6 (by decide) (fun c_4 => ?_) (fun c_4 => ?_)
    · skip
      exact absurd (by decide) c_4
    · skip
      refine lv_iconst (v := 1) hx hb d_M_placed_9 (by decide) ?_
      refine lv_goto (tgt := 14) hx hb d_M_placed_10 (by decide) ?_
      refine lv_istore (lv' := [(4, .int 1), (0, .ref (E 0)), (1, .int x), (2, .int y), (3, .int 1)]) hx hb d_M_placed_14 hl (by decide) rfl (fun ls hl => ?_)
      refine lv_iconst (v := (-1)) hx hb d_M_placed_16 (by decide) ?_
      refine lv_istore (lv' := [(5, .int (-1)), (4, .int 1), (0, .ref (E 0)), (1, .int x), (2, .int y), (3, .int 1)]) hx hb d_M_placed_17 hl (by decide) rfl (fun ls hl => ?_)
      refine lv_iconst (v := 0) hx hb d_M_placed_19 (by decide) ?_
      refine lv_istore (lv' := [(6, .int 0), (5, .int (-1)), (4, .int 1), (0, .ref (E 0)), (1, .int x), (2, .int y), (3, .int 1)]) hx hb d_M_placed_20 hl (by decide) rfl (fun ls hl => ?_)
      have loops : ∀ f : Nat, (∀ (k : Nat), 1728 - k < f → (k ≤ 1728) → (pm_fnd gv mm x y (1728 - k) k = some kk) → ∀ ls : Array Slot, lv_has ls 17 [(0, .ref (E 0)), (1, .int x), (2, .int y), (3, .int 1), (4, .int 1), (5, .int (-1)), (6, .int (nI k))] → W p l e ({ frames := 3, cells := 0, slots := 0, locals := 75 }) s m [.ref (E 0), .int x, .int y, .int 1].toArray below meth c s.heap [] 0 0 (MQ below (z_Qw (fun r H => r = some (.int (pm_val gv (gv 16) (kk / 144) (kk / 12 % 12) (kk % 12) x y)) ∧ z_Md (dC, dI) cI H E 0 mp ms mc mn mm gv) (z_fr (z_mF E) s.heap.size)) [.ref (E 0), .int x, .int y, .int 1].toArray s 0 0 (z_fr (z_mF E) s.heap.size)) (F0 m 22 ls [])) := by
        intro f
        induction f with
        | zero => exact fun _ h => absurd h (Nat.not_lt_zero _)
        | succ f ih =>
          intro k hmu hk hres ls hl
          have hkk : k < 1728 → k / 144 < 12 := fun h => by omega
          refine lv_iload hx hb d_M_placed_22 (lv_at hl 6 rfl) ?_
          refine lv_sipush (v := 1728) hx hb d_M_placed_24 (by decide) ?_
          refine lv_icmp_ge (tgt := 133) hx hb d_M_placed_27 (by decide) (fun c_5 => ?_) (fun c_5 => ?_)
          · skip
            have c_5 : 1728 ≤ k := (nI_leI (a := 1728) (b := k) (by omega) (by omega)).mp c_5
            refine lv_aload_n hx hb d_M_placed_133 rfl (lv_at hl 0 rfl) ?_
            refine lv_iload hx hb d_M_placed_134 (lv_at hl 4 rfl) ?_
            refine lv_iload_n hx hb d_M_placed_136 rfl (lv_at hl 1 rfl) ?_
            refine lv_iload_n hx hb d_M_placed_137 rfl (lv_at hl 2 rfl) ?_
            refine z_rdS (n := 2) (rest := [.int 1, .ref (E 0)]) ⟨hx, hb, hml, hown, hts⟩ hW0 (c_M_isPoint G x y) w_644 w_642 w_643 w_4 (by decide +kernel) ⟨rfl, rfl, Nat.le_of_ble_eq_true rfl, Nat.le_of_ble_eq_true rfl⟩ (trivial) rfl rfl hl.1 (Nat.le_of_ble_eq_true rfl) d_M_placed_138 ⟨Nat.zero_le _, Nat.zero_le _⟩ ?_
            refine lv_iload hx hb d_M_placed_141 (lv_at hl 5 rfl) ?_
            refine lv_iconst (v := (-1)) hx hb d_M_placed_143 (by decide) ?_
            refine lv_icmp_eq (tgt := 151) hx hb d_M_placed_144 (by decide) (fun c_6 => ?_) (fun c_6 => ?_)
            · skip
              refine lv_iconst (v := 0) hx hb d_M_placed_151 (by decide) ?_
              rw [show 1728 - k = 0 by omega] at hres
              simp only [pm_fnd] at hres
              exact absurd hres (by simp)
            · skip
              exact absurd (by decide) c_6
          · skip
            have c_5 : ¬ (1728 ≤ k) := fun h => c_5 ((nI_leI (a := 1728) (b := k) (by omega) (by omega)).mpr h)
            refine lv_iload hx hb d_M_placed_30 (lv_at hl 5 rfl) ?_
            refine lv_iconst (v := (-1)) hx hb d_M_placed_32 (by decide) ?_
            refine lv_icmp_ne (tgt := 133) hx hb d_M_placed_33 (by decide) (fun c_7 => ?_) (fun c_7 => ?_)
            · skip
              exact absurd (by decide) c_7
            · skip
              refine lv_iload hx hb d_M_placed_36 (lv_at hl 6 rfl) ?_
              refine lv_sipush (v := 144) hx hb d_M_placed_38 (by decide) ?_
              refine lv_idiv hx hb d_M_placed_41 (nI_ne0 (n := 144) (by omega) (by omega)) ?_
              refine z_topi (y := nI (k / 144)) (pk_div (a := k) (d := 144) (by omega) (by omega) (by omega)) ?_
              refine lv_istore (lv' := [(7, .int (nI (k / 144))), (0, .ref (E 0)), (1, .int x), (2, .int y), (3, .int 1), (4, .int 1), (5, .int (-1)), (6, .int (nI k))]) hx hb d_M_placed_42 hl (by decide) rfl (fun ls hl => ?_)
              refine lv_iload hx hb d_M_placed_44 (lv_at hl 7 rfl) ?_
              refine lv_bipush (v := 12) hx hb d_M_placed_46 (by decide) ?_
              refine lv_idiv hx hb d_M_placed_48 (nI_ne0 (n := 12) (by omega) (by omega)) ?_
              refine z_topi (y := nI (k / 12)) (pk_div (a := k) (d := 12) (by omega) (by omega) (by omega)) ?_
              refine lv_bipush (v := 12) hx hb d_M_placed_49 (by decide) ?_
              refine lv_irem hx hb d_M_placed_51 (nI_ne0 (n := 12) (by omega) (by omega)) ?_
              refine z_topi (y := nI ((k / 12) % 12)) (pk_rem (a := k / 12) (d := 12) (by omega) (by omega) (by omega)) ?_
              refine lv_istore (lv' := [(8, .int (nI ((k / 12) % 12))), (7, .int (nI (k / 144))), (0, .ref (E 0)), (1, .int x), (2, .int y), (3, .int 1), (4, .int 1), (5, .int (-1)), (6, .int (nI k))]) hx hb d_M_placed_52 hl (by decide) rfl (fun ls hl => ?_)
              refine lv_iload hx hb d_M_placed_54 (lv_at hl 8 rfl) ?_
              refine lv_bipush (v := 12) hx hb d_M_placed_56 (by decide) ?_
              refine lv_irem hx hb d_M_placed_58 (nI_ne0 (n := 12) (by omega) (by omega)) ?_
              refine z_topi (y := nI (k % 12)) (pk_rem (a := k) (d := 12) (by omega) (by omega) (by omega)) ?_
              refine lv_istore (lv' := [(9, .int (nI (k % 12))), (8, .int (nI ((k / 12) % 12))), (7, .int (nI (k / 144))), (0, .ref (E 0)), (1, .int x), (2, .int y), (3, .int 1), (4, .int 1), (5, .int (-1)), (6, .int (nI k))]) hx hb d_M_placed_59 hl (by decide) rfl (fun ls hl => ?_)
              refine lv_iload hx hb d_M_placed_61 (lv_at hl 2 rfl) ?_
              refine lv_iload hx hb d_M_placed_63 (lv_at hl 1 rfl) ?_
              refine lv_icmp_ge (tgt := 96) hx hb d_M_placed_65 (by decide) (fun c_8 => ?_) (fun c_8 => ?_)
              · skip
                have c_8 : ((k / 12) % 12) ≤ (k / 144) := (nI_leI (a := (k / 12) % 12) (b := k / 144) (by omega) (by omega)).mp c_8
                refine lv_iconst (v := 0) hx hb d_M_placed_96 (by decide) ?_
                refine lv_istore (lv' := [(10, .int 0), (9, .int (nI (k % 12))), (8, .int (nI ((k / 12) % 12))), (7, .int (nI (k / 144))), (0, .ref (E 0)), (1, .int x), (2, .int y), (3, .int 1), (4, .int 1), (5, .int (-1)), (6, .int (nI k))]) hx hb d_M_placed_97 hl (by decide) rfl (fun ls hl => ?_)
                refine lv_iload hx hb d_M_placed_99 (lv_at hl 0 rfl) ?_
                refine lv_if_eq (tgt := 124) hx hb d_M_placed_101 (by decide) (fun c_9 => ?_) (fun c_9 => ?_)
                · skip
                  refine lv_iconst (v := (-1)) hx hb d_M_placed_124 (by decide) ?_
                  refine lv_istore (lv' := [(5, .int (-1)), (10, .int 0), (9, .int (nI (k % 12))), (8, .int (nI ((k / 12) % 12))), (7, .int (nI (k / 144))), (0, .ref (E 0)), (1, .int x), (2, .int y), (3, .int 1), (4, .int 1), (6, .int (nI k))]) hx hb d_M_placed_125 hl (by decide) rfl (fun ls hl => ?_)
                  refine lv_iinc (v := nI (k + 1)) (lv' := [(6, .int (nI (k + 1))), (5, .int (-1)), (10, .int 0), (9, .int (nI (k % 12))), (8, .int (nI ((k / 12) % 12))), (7, .int (nI (k / 144))), (0, .ref (E 0)), (1, .int x), (2, .int y), (3, .int 1), (4, .int 1)]) hx hb d_M_placed_127 hl (k := 10) rfl (nI_1 k) (by decide) rfl (fun ls hl => ?_)
                  refine lv_goto (tgt := 22) hx hb d_M_placed_130 (by decide) ?_
                  exact ih (k + 1) (by omega) (by omega) (by rw [show 1728 - k = (1728 - (k + 1)) + 1 by omega] at hres; simpa [pm_fnd, pm_is, c_5, (Nat.not_lt.mpr c_8)] using hres) ls (lv_sub hl [6, 7, 8, 9, 10, 1, 0] rfl)
                · skip
                  exact absurd (by decide) c_9
              · skip
                have c_8 : ¬ (((k / 12) % 12) ≤ (k / 144)) := fun h => c_8 ((nI_leI (a := (k / 12) % 12) (b := k / 144) (by omega) (by omega)).mpr h)
                refine lv_iload hx hb d_M_placed_68 (lv_at hl 1 rfl) ?_
                refine lv_iload hx hb d_M_placed_70 (lv_at hl 0 rfl) ?_
                refine lv_icmp_ge (tgt := 96) hx hb d_M_placed_72 (by decide) (fun c_10 => ?_) (fun c_10 => ?_)
                · skip
                  have c_10 : (k % 12) ≤ ((k / 12) % 12) := (nI_leI (a := k % 12) (b := (k / 12) % 12) (by omega) (by omega)).mp c_10
                  refine lv_iconst (v := 0) hx hb d_M_placed_96 (by decide) ?_
                  refine lv_istore (lv' := [(10, .int 0), (9, .int (nI (k % 12))), (8, .int (nI ((k / 12) % 12))), (7, .int (nI (k / 144))), (0, .ref (E 0)), (1, .int x), (2, .int y), (3, .int 1), (4, .int 1), (5, .int (-1)), (6, .int (nI k))]) hx hb d_M_placed_97 hl (by decide) rfl (fun ls hl => ?_)
                  refine lv_iload hx hb d_M_placed_99 (lv_at hl 0 rfl) ?_
                  refine lv_if_eq (tgt := 124) hx hb d_M_placed_101 (by decide) (fun c_11 => ?_) (fun c_11 => ?_)
                  · skip
                    refine lv_iconst (v := (-1)) hx hb d_M_placed_124 (by decide) ?_
                    refine lv_istore (lv' := [(5, .int (-1)), (10, .int 0), (9, .int (nI (k % 12))), (8, .int (nI ((k / 12) % 12))), (7, .int (nI (k / 144))), (0, .ref (E 0)), (1, .int x), (2, .int y), (3, .int 1), (4, .int 1), (6, .int (nI k))]) hx hb d_M_placed_125 hl (by decide) rfl (fun ls hl => ?_)
                    refine lv_iinc (v := nI (k + 1)) (lv' := [(6, .int (nI (k + 1))), (5, .int (-1)), (10, .int 0), (9, .int (nI (k % 12))), (8, .int (nI ((k / 12) % 12))), (7, .int (nI (k / 144))), (0, .ref (E 0)), (1, .int x), (2, .int y), (3, .int 1), (4, .int 1)]) hx hb d_M_placed_127 hl (k := 10) rfl (nI_1 k) (by decide) rfl (fun ls hl => ?_)
                    refine lv_goto (tgt := 22) hx hb d_M_placed_130 (by decide) ?_
                    exact ih (k + 1) (by omega) (by omega) (by rw [show 1728 - k = (1728 - (k + 1)) + 1 by omega] at hres; simpa [pm_fnd, pm_is, c_5, c_8, (Nat.not_lt.mpr c_10)] using hres) ls (lv_sub hl [6, 7, 8, 9, 10, 1, 0] rfl)
                  · skip
                    exact absurd (by decide) c_11
                · skip
                  have c_10 : ¬ ((k % 12) ≤ ((k / 12) % 12)) := fun h => c_10 ((nI_leI (a := k % 12) (b := (k / 12) % 12) (by omega) (by omega)).mpr h)
                  refine lv_iload hx hb d_M_placed_75 (lv_at hl 0 rfl) ?_
                  refine lv_aload_n hx hb d_M_placed_77 rfl (lv_at hl 3 rfl) ?_
                  refine va_get (D := (dC, dI)) (ci := 4) (v := .int (nI mm)) (C := R_M) (T := T_M) (N := 23) hx hb hts in_M hown hK hE0.P 0 rfl rfl 18 (by decide) (hts _ w_558) (fun _ h9 => h9) rfl d_M_placed_78 ?_
                  refine lv_icmp_ge (tgt := 96) hx hb d_M_placed_81 (by decide) (fun c_12 => ?_) (fun c_12 => ?_)
                  · skip
                    have c_12 : mm ≤ (k % 12) := (nI_leI (a := mm) (b := k % 12) (by omega) (by omega)).mp c_12
                    refine lv_iconst (v := 0) hx hb d_M_placed_96 (by decide) ?_
                    refine lv_istore (lv' := [(10, .int 0), (9, .int (nI (k % 12))), (8, .int (nI ((k / 12) % 12))), (7, .int (nI (k / 144))), (0, .ref (E 0)), (1, .int x), (2, .int y), (3, .int 1), (4, .int 1), (5, .int (-1)), (6, .int (nI k))]) hx hb d_M_placed_97 hl (by decide) rfl (fun ls hl => ?_)
                    refine lv_iload hx hb d_M_placed_99 (lv_at hl 0 rfl) ?_
                    refine lv_if_eq (tgt := 124) hx hb d_M_placed_101 (by decide) (fun c_13 => ?_) (fun c_13 => ?_)
                    · skip
                      refine lv_iconst (v := (-1)) hx hb d_M_placed_124 (by decide) ?_
                      refine lv_istore (lv' := [(5, .int (-1)), (10, .int 0), (9, .int (nI (k % 12))), (8, .int (nI ((k / 12) % 12))), (7, .int (nI (k / 144))), (0, .ref (E 0)), (1, .int x), (2, .int y), (3, .int 1), (4, .int 1), (6, .int (nI k))]) hx hb d_M_placed_125 hl (by decide) rfl (fun ls hl => ?_)
                      refine lv_iinc (v := nI (k + 1)) (lv' := [(6, .int (nI (k + 1))), (5, .int (-1)), (10, .int 0), (9, .int (nI (k % 12))), (8, .int (nI ((k / 12) % 12))), (7, .int (nI (k / 144))), (0, .ref (E 0)), (1, .int x), (2, .int y), (3, .int 1), (4, .int 1)]) hx hb d_M_placed_127 hl (k := 10) rfl (nI_1 k) (by decide) rfl (fun ls hl => ?_)
                      refine lv_goto (tgt := 22) hx hb d_M_placed_130 (by decide) ?_
                      exact ih (k + 1) (by omega) (by omega) (by rw [show 1728 - k = (1728 - (k + 1)) + 1 by omega] at hres; simpa [pm_fnd, pm_is, c_5, c_8, c_10, (Nat.not_lt.mpr c_12)] using hres) ls (lv_sub hl [6, 7, 8, 9, 10, 1, 0] rfl)
                    · skip
                      exact absurd (by decide) c_13
                  · skip
                    have c_12 : ¬ (mm ≤ (k % 12)) := fun h => c_12 ((nI_leI (a := mm) (b := k % 12) (by omega) (by omega)).mpr h)
                    refine lv_iload_n hx hb d_M_placed_84 rfl (lv_at hl 4 rfl) ?_
                    refine lv_iload_n hx hb d_M_placed_85 rfl (lv_at hl 5 rfl) ?_
                    refine z_rdS (n := 2) (rest := []) ⟨hx, hb, hml, hown, hts⟩ hW0 (c_M_isPoint G x y) w_644 w_642 w_643 w_4 (by decide +kernel) ⟨rfl, rfl, Nat.le_of_ble_eq_true rfl, Nat.le_of_ble_eq_true rfl⟩ (trivial) rfl rfl hl.1 (Nat.le_of_ble_eq_true rfl) d_M_placed_86 ⟨Nat.zero_le _, Nat.zero_le _⟩ ?_
                    refine lv_if_eq (tgt := 96) hx hb d_M_placed_89 (by decide) (fun c_14 => ?_) (fun c_14 => ?_)
                    · skip
                      have c_14 : (pm_pt x y) = false := pi_b_0.mp c_14
                      refine lv_iconst (v := 0) hx hb d_M_placed_96 (by decide) ?_
                      refine lv_istore (lv' := [(10, .int 0), (9, .int (nI (k % 12))), (8, .int (nI ((k / 12) % 12))), (7, .int (nI (k / 144))), (0, .ref (E 0)), (1, .int x), (2, .int y), (3, .int 1), (4, .int 1), (5, .int (-1)), (6, .int (nI k))]) hx hb d_M_placed_97 hl (by decide) rfl (fun ls hl => ?_)
                      refine lv_iload hx hb d_M_placed_99 (lv_at hl 0 rfl) ?_
                      refine lv_if_eq (tgt := 124) hx hb d_M_placed_101 (by decide) (fun c_15 => ?_) (fun c_15 => ?_)
                      · skip
                        refine lv_iconst (v := (-1)) hx hb d_M_placed_124 (by decide) ?_
                        refine lv_istore (lv' := [(5, .int (-1)), (10, .int 0), (9, .int (nI (k % 12))), (8, .int (nI ((k / 12) % 12))), (7, .int (nI (k / 144))), (0, .ref (E 0)), (1, .int x), (2, .int y), (3, .int 1), (4, .int 1), (6, .int (nI k))]) hx hb d_M_placed_125 hl (by decide) rfl (fun ls hl => ?_)
                        refine lv_iinc (v := nI (k + 1)) (lv' := [(6, .int (nI (k + 1))), (5, .int (-1)), (10, .int 0), (9, .int (nI (k % 12))), (8, .int (nI ((k / 12) % 12))), (7, .int (nI (k / 144))), (0, .ref (E 0)), (1, .int x), (2, .int y), (3, .int 1), (4, .int 1)]) hx hb d_M_placed_127 hl (k := 10) rfl (nI_1 k) (by decide) rfl (fun ls hl => ?_)
                        refine lv_goto (tgt := 22) hx hb d_M_placed_130 (by decide) ?_
                        exact ih (k + 1) (by omega) (by omega) (by rw [show 1728 - k = (1728 - (k + 1)) + 1 by omega] at hres; simpa [pm_fnd, pm_is, c_5, c_8, c_10, c_12, c_14] using hres) ls (lv_sub hl [6, 7, 8, 9, 10, 1, 0] rfl)
                      · skip
                        exact absurd (by decide) c_15
                    · skip
                      have c_14 : (pm_pt x y) = true := pi_b_1.mp c_14
                      refine lv_iconst (v := 1) hx hb d_M_placed_92 (by decide) ?_
                      refine lv_goto (tgt := 97) hx hb d_M_placed_93 (by decide) ?_
                      refine lv_istore (lv' := [(10, .int 1), (9, .int (nI (k % 12))), (8, .int (nI ((k / 12) % 12))), (7, .int (nI (k / 144))), (0, .ref (E 0)), (1, .int x), (2, .int y), (3, .int 1), (4, .int 1), (5, .int (-1)), (6, .int (nI k))]) hx hb d_M_placed_97 hl (by decide) rfl (fun ls hl => ?_)
                      refine lv_iload hx hb d_M_placed_99 (lv_at hl 0 rfl) ?_
                      refine lv_if_eq (tgt := 124) hx hb d_M_placed_101 (by decide) (fun c_16 => ?_) (fun c_16 => ?_)
                      · skip
                        exact absurd c_16 (by decide)
                      · skip
                        refine lv_aload_n hx hb d_M_placed_104 rfl (lv_at hl 4 rfl) ?_
                        refine lv_iload hx hb d_M_placed_105 (lv_at hl 3 rfl) ?_
                        refine lv_iload hx hb d_M_placed_107 (lv_at hl 2 rfl) ?_
                        refine lv_iload hx hb d_M_placed_109 (lv_at hl 1 rfl) ?_
                        refine lv_iload_n hx hb d_M_placed_111 rfl (lv_at hl 5 rfl) ?_
                        refine lv_iload_n hx hb d_M_placed_112 rfl (lv_at hl 6 rfl) ?_
                        refine z_rdV (n := 5) (C := R_M) (rest := []) ⟨hx, hb, hml, hown, hts⟩ hW0 (c_M_holds G E th mp ms mc mn mm gv (k / 144) ((k / 12) % 12) (k % 12) x y (by omega) (by omega) (by omega)) w_737 w_734 w_736 wp_29 w_4 (by decide +kernel) ⟨rfl, rfl, Nat.le_of_ble_eq_true rfl, Nat.le_of_ble_eq_true rfl⟩ (hE0.recv hK rfl) (hB) rfl rfl hl.1 (Nat.le_of_ble_eq_true rfl) d_M_placed_113 ⟨Nat.zero_le _, Nat.zero_le _⟩ ?_
                        refine lv_if_eq (tgt := 124) hx hb d_M_placed_116 (by decide) (fun c_17 => ?_) (fun c_17 => ?_)
                        · skip
                          have c_17 : (pm_hold (gv 13) (gv 14) (k / 144) ((k / 12) % 12) (k % 12) x y) = false := pi_b_0.mp c_17
                          refine lv_iconst (v := (-1)) hx hb d_M_placed_124 (by decide) ?_
                          refine lv_istore (lv' := [(5, .int (-1)), (10, .int 1), (9, .int (nI (k % 12))), (8, .int (nI ((k / 12) % 12))), (7, .int (nI (k / 144))), (0, .ref (E 0)), (1, .int x), (2, .int y), (3, .int 1), (4, .int 1), (6, .int (nI k))]) hx hb d_M_placed_125 hl (by decide) rfl (fun ls hl => ?_)
                          refine lv_iinc (v := nI (k + 1)) (lv' := [(6, .int (nI (k + 1))), (5, .int (-1)), (10, .int 1), (9, .int (nI (k % 12))), (8, .int (nI ((k / 12) % 12))), (7, .int (nI (k / 144))), (0, .ref (E 0)), (1, .int x), (2, .int y), (3, .int 1), (4, .int 1)]) hx hb d_M_placed_127 hl (k := 10) rfl (nI_1 k) (by decide) rfl (fun ls hl => ?_)
                          refine lv_goto (tgt := 22) hx hb d_M_placed_130 (by decide) ?_
                          exact ih (k + 1) (by omega) (by omega) (by rw [show 1728 - k = (1728 - (k + 1)) + 1 by omega] at hres; simpa [pm_fnd, pm_is, c_5, c_8, c_10, c_12, c_14, c_17] using hres) ls (lv_sub hl [6, 7, 8, 9, 10, 1, 0] rfl)
                        · skip
                          have c_17 : (pm_hold (gv 13) (gv 14) (k / 144) ((k / 12) % 12) (k % 12) x y) = true := pi_b_1.mp c_17
                          refine lv_iload hx hb d_M_placed_119 (lv_at hl 10 rfl) ?_
                          refine lv_goto (tgt := 125) hx hb d_M_placed_121 (by decide) ?_
                          refine lv_istore (lv' := [(5, .int (nI k)), (10, .int 1), (9, .int (nI (k % 12))), (8, .int (nI ((k / 12) % 12))), (7, .int (nI (k / 144))), (0, .ref (E 0)), (1, .int x), (2, .int y), (3, .int 1), (4, .int 1), (6, .int (nI k))]) hx hb d_M_placed_125 hl (by decide) rfl (fun ls hl => ?_)
                          refine lv_iinc (v := nI (k + 1)) (lv' := [(6, .int (nI (k + 1))), (5, .int (nI k)), (10, .int 1), (9, .int (nI (k % 12))), (8, .int (nI ((k / 12) % 12))), (7, .int (nI (k / 144))), (0, .ref (E 0)), (1, .int x), (2, .int y), (3, .int 1), (4, .int 1)]) hx hb d_M_placed_127 hl (k := 10) rfl (nI_1 k) (by decide) rfl (fun ls hl => ?_)
                          refine lv_goto (tgt := 22) hx hb d_M_placed_130 (by decide) ?_
                          refine lv_iload hx hb d_M_placed_22 (lv_at hl 0 rfl) ?_
                          refine lv_sipush (v := 1728) hx hb d_M_placed_24 (by decide) ?_
                          refine lv_icmp_ge (tgt := 133) hx hb d_M_placed_27 (by decide) (fun c_18 => ?_) (fun c_18 => ?_)
                          · skip
                            have c_18 : 1728 ≤ (k + 1) := (nI_leI (a := 1728) (b := k + 1) (by omega) (by omega)).mp c_18
                            refine lv_aload_n hx hb d_M_placed_133 rfl (lv_at hl 6 rfl) ?_
                            refine lv_iload hx hb d_M_placed_134 (lv_at hl 10 rfl) ?_
                            refine lv_iload_n hx hb d_M_placed_136 rfl (lv_at hl 7 rfl) ?_
                            refine lv_iload_n hx hb d_M_placed_137 rfl (lv_at hl 8 rfl) ?_
                            refine z_rdS (n := 2) (rest := [.int 1, .ref (E 0)]) ⟨hx, hb, hml, hown, hts⟩ hW0 (c_M_isPoint G x y) w_644 w_642 w_643 w_4 (by decide +kernel) ⟨rfl, rfl, Nat.le_of_ble_eq_true rfl, Nat.le_of_ble_eq_true rfl⟩ (trivial) rfl rfl hl.1 (Nat.le_of_ble_eq_true rfl) d_M_placed_138 ⟨Nat.zero_le _, Nat.zero_le _⟩ ?_
                            refine lv_iload hx hb d_M_placed_141 (lv_at hl 1 rfl) ?_
                            refine lv_iconst (v := (-1)) hx hb d_M_placed_143 (by decide) ?_
                            refine lv_icmp_eq (tgt := 151) hx hb d_M_placed_144 (by decide) (fun c_19 => ?_) (fun c_19 => ?_)
                            · skip
                              exact absurd c_19 (z_ne1 (by omega))
                            · skip
                              refine lv_iconst (v := 1) hx hb d_M_placed_147 (by decide) ?_
                              refine lv_goto (tgt := 152) hx hb d_M_placed_148 (by decide) ?_
                              have his : pm_is gv mm x y k = true := by simp [pm_is, (Nat.not_le.mp c_8), (Nat.not_le.mp c_10), (Nat.not_le.mp c_12), c_14, c_17]
                              rw [show 1728 - k = (1728 - (k + 1)) + 1 by omega] at hres
                              simp only [pm_fnd, his, ↓reduceIte] at hres
                              obtain rfl : kk = k := (Option.some.inj hres).symm
                              refine z_g3 (w1 := pi_b true) (w2 := pi_b (pm_pt x y)) (w3 := pi_b true) (rfl) (rfl) (rfl) ?_
                              exact tail ls (lv_sub hl [6, 7, 8, 9, 1] rfl)
                          · skip
                            have c_18 : ¬ (1728 ≤ (k + 1)) := fun h => c_18 ((nI_leI (a := 1728) (b := k + 1) (by omega) (by omega)).mpr h)
                            refine lv_iload hx hb d_M_placed_30 (lv_at hl 1 rfl) ?_
                            refine lv_iconst (v := (-1)) hx hb d_M_placed_32 (by decide) ?_
                            refine lv_icmp_ne (tgt := 133) hx hb d_M_placed_33 (by decide) (fun c_20 => ?_) (fun c_20 => ?_)
                            · skip
                              refine lv_aload_n hx hb d_M_placed_133 rfl (lv_at hl 6 rfl) ?_
                              refine lv_iload hx hb d_M_placed_134 (lv_at hl 10 rfl) ?_
                              refine lv_iload_n hx hb d_M_placed_136 rfl (lv_at hl 7 rfl) ?_
                              refine lv_iload_n hx hb d_M_placed_137 rfl (lv_at hl 8 rfl) ?_
                              refine z_rdS (n := 2) (rest := [.int 1, .ref (E 0)]) ⟨hx, hb, hml, hown, hts⟩ hW0 (c_M_isPoint G x y) w_644 w_642 w_643 w_4 (by decide +kernel) ⟨rfl, rfl, Nat.le_of_ble_eq_true rfl, Nat.le_of_ble_eq_true rfl⟩ (trivial) rfl rfl hl.1 (Nat.le_of_ble_eq_true rfl) d_M_placed_138 ⟨Nat.zero_le _, Nat.zero_le _⟩ ?_
                              refine lv_iload hx hb d_M_placed_141 (lv_at hl 1 rfl) ?_
                              refine lv_iconst (v := (-1)) hx hb d_M_placed_143 (by decide) ?_
                              refine lv_icmp_eq (tgt := 151) hx hb d_M_placed_144 (by decide) (fun c_21 => ?_) (fun c_21 => ?_)
                              · skip
                                exact absurd c_21 c_20
                              · skip
                                refine lv_iconst (v := 1) hx hb d_M_placed_147 (by decide) ?_
                                refine lv_goto (tgt := 152) hx hb d_M_placed_148 (by decide) ?_
                                have his : pm_is gv mm x y k = true := by simp [pm_is, (Nat.not_le.mp c_8), (Nat.not_le.mp c_10), (Nat.not_le.mp c_12), c_14, c_17]
                                rw [show 1728 - k = (1728 - (k + 1)) + 1 by omega] at hres
                                simp only [pm_fnd, his, ↓reduceIte] at hres
                                obtain rfl : kk = k := (Option.some.inj hres).symm
                                refine z_g3 (w1 := pi_b true) (w2 := pi_b (pm_pt x y)) (w3 := pi_b true) (rfl) (rfl) (rfl) ?_
                                exact tail ls (lv_sub hl [6, 7, 8, 9, 1] rfl)
                            · skip
                              exact absurd c_20 (z_ne1 (by omega))
      exact (loops ((1728 - 0) + 1)) 0 (by omega) (by omega) (hfo) ls (lv_sub hl [3, 4, 5, 6, 2, 1, 0] rfl)
end M8
