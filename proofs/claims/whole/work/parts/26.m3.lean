section M3
variable {s0 : State} {dC : Nat → ClassId} {dI : Nat → Nat → Nat} {cI cS : ClassId} {l : Launch}
set_option maxRecDepth 100000 in
set_option maxHeartbeats 4000000 in
theorem c_M_canClose (G : z_G s0 (dC, dI) cI cS) (E : Nat → Nat) (th : Int32) (mp ms mc mn mm : Nat) (gv : Nat → Nat → Int32) (q n : Nat) (hq : q < 32) (hm : gv 4 q = nI n) (hn : n ≤ 12) : Met l y_M_canClose [Cond.code y_M_canClose b_M_canClose 10 (some .boolean)] ({ frames := 3, cells := 0, slots := 0, locals := 75 }) (z_Pc s0 [.ref (E 0), .int (nI q)] (fun H => z_Md (dC, dI) cI H E th mp ms mc mn mm gv)) (z_Qr (some (.int (pi_b (pm_can (gv 5) (gv 6) n q))))) 0 0 z_no := by
  refine z_ofW (by decide +kernel) (Nat.le_of_ble_eq_true rfl) ?_
  intro p e s m below meth c hx hb hml hr hown hlocks hnm hW0 hB ls hl
  have hts := z_hts (args := [.ref (E 0), .int (nI q)].toArray) G.1 hW0
  have hN := z_nstW G.2.1 hW0
  have hK := va_K.moved hW0.alike G.2.2.1
  have hAI := arrOfT_moved hW0.alike G.2.2.2.1
  have hl : lv_has ls 10 [(0, .ref (E 0)), (1, .int (nI q))] := hl
  obtain ⟨⟨hE0, hGA⟩, hEi, ⟨hmp, hms, hmn, hmm, hmc⟩⟩ := id hB
  have loops : ∀ f : Nat, (∀ (i : Nat) (g : Bool), 2000 + (n - i) * 20 + 19 < f → (i ≤ n) → (pm_ci (gv 5) (gv 6) n q n 0 (pm_si (gv 5) (gv 6) q (n - i) i g) = pm_can (gv 5) (gv 6) n q) → ∀ ls : Array Slot, lv_has ls 10 [(0, .ref (E 0)), (1, .int (nI q)), (2, .int (nI n)), (3, .int (pi_b g)), (4, .int (nI i))] → W p l e ({ frames := 3, cells := 0, slots := 0, locals := 75 }) s m [.ref (E 0), .int (nI q)].toArray below meth c s.heap [] 0 0 (MQ below (z_Qr (some (.int (pi_b (pm_can (gv 5) (gv 6) n q))))) [.ref (E 0), .int (nI q)].toArray s 0 0 z_no) (F0 m 21 ls [])) ∧ (∀ (i j : Nat) (g : Bool), 2000 + (n - i) * 20 + (i - j) < f → (i < n) → (j ≤ i) → (pm_ci (gv 5) (gv 6) n q n 0 (pm_si (gv 5) (gv 6) q (n - (i + 1)) (i + 1) (pm_sj (gv 5) (gv 6) q i (i - j) j g)) = pm_can (gv 5) (gv 6) n q) → ∀ ls : Array Slot, lv_has ls 10 [(0, .ref (E 0)), (1, .int (nI q)), (2, .int (nI n)), (3, .int (pi_b g)), (4, .int (nI i)), (5, .int (nI j))] → W p l e ({ frames := 3, cells := 0, slots := 0, locals := 75 }) s m [.ref (E 0), .int (nI q)].toArray below meth c s.heap [] 0 0 (MQ below (z_Qr (some (.int (pi_b (pm_can (gv 5) (gv 6) n q))))) [.ref (E 0), .int (nI q)].toArray s 0 0 z_no) (F0 m 30 ls [])) ∧ (∀ (i : Nat) (g : Bool), (n - i) * 20 + 19 < f → (i ≤ n) → (pm_ci (gv 5) (gv 6) n q (n - i) i g = pm_can (gv 5) (gv 6) n q) → ∀ ls : Array Slot, lv_has ls 10 [(0, .ref (E 0)), (1, .int (nI q)), (2, .int (nI n)), (3, .int (pi_b g)), (4, .int (nI i))] → W p l e ({ frames := 3, cells := 0, slots := 0, locals := 75 }) s m [.ref (E 0), .int (nI q)].toArray below meth c s.heap [] 0 0 (MQ below (z_Qr (some (.int (pi_b (pm_can (gv 5) (gv 6) n q))))) [.ref (E 0), .int (nI q)].toArray s 0 0 z_no) (F0 m 116 ls [])) ∧ (∀ (i j : Nat) (g : Bool), (n - i) * 20 + (n - j) < f → (i < n) → (j ≤ n) → (pm_ci (gv 5) (gv 6) n q (n - (i + 1)) (i + 1) (pm_cj (gv 5) (gv 6) n q i (n - j) j g) = pm_can (gv 5) (gv 6) n q) → ∀ ls : Array Slot, lv_has ls 10 [(0, .ref (E 0)), (1, .int (nI q)), (2, .int (nI n)), (3, .int (pi_b g)), (4, .int (nI i)), (5, .int (nI (12 * q + i))), (6, .int (nI (pm_af n q i))), (8, .int (nI j))] → W p l e ({ frames := 3, cells := 0, slots := 0, locals := 75 }) s m [.ref (E 0), .int (nI q)].toArray below meth c s.heap [] 0 0 (MQ below (z_Qr (some (.int (pi_b (pm_can (gv 5) (gv 6) n q))))) [.ref (E 0), .int (nI q)].toArray s 0 0 z_no) (F0 m 214 ls [])) := by
    intro f
    induction f with
    | zero => exact ⟨fun _ _ h => absurd h (Nat.not_lt_zero _), fun _ _ _ h => absurd h (Nat.not_lt_zero _), fun _ _ h => absurd h (Nat.not_lt_zero _), fun _ _ _ h => absurd h (Nat.not_lt_zero _)⟩
    | succ f ih =>
      refine ⟨?_, ?_, ?_, ?_⟩
      · skip
        intro i g hmu hi hres ls hl
        refine lv_iload hx hb d_M_canClose_21 (lv_at hl 4 rfl) ?_
        refine lv_iload_n hx hb d_M_canClose_23 rfl (lv_at hl 2 rfl) ?_
        refine lv_icmp_ge (tgt := 113) hx hb d_M_canClose_24 (by decide) (fun c_101 => ?_) (fun c_101 => ?_)
        · skip
          have c_101 : n ≤ i := (nI_leI (a := n) (b := i) (by omega) (by omega)).mp c_101
          refine lv_iconst (v := 0) hx hb d_M_canClose_113 (by decide) ?_
          refine lv_istore (lv' := [(4, .int 0), (0, .ref (E 0)), (1, .int (nI q)), (2, .int (nI n)), (3, .int (pi_b g))]) hx hb d_M_canClose_114 hl (by decide) rfl (fun ls hl => ?_)
          exact ih.2.2.1 0 g (by omega) (by omega) (by rw [show n - i = 0 by omega] at hres; simpa only [pm_si, Nat.sub_zero] using hres) ls (lv_sub hl [1, 2, 3, 4, 0] rfl)
        · skip
          have c_101 : ¬ (n ≤ i) := fun h => c_101 ((nI_leI (a := n) (b := i) (by omega) (by omega)).mpr h)
          refine lv_iconst (v := 0) hx hb d_M_canClose_27 (by decide) ?_
          refine lv_istore (lv' := [(5, .int 0), (0, .ref (E 0)), (1, .int (nI q)), (2, .int (nI n)), (3, .int (pi_b g)), (4, .int (nI i))]) hx hb d_M_canClose_28 hl (by decide) rfl (fun ls hl => ?_)
          exact ih.2.1 i 0 g (by omega) (by omega) (by omega) (by rw [show n - i = (n - (i + 1)) + 1 by omega] at hres; simpa only [pm_si, Nat.sub_zero] using hres) ls (lv_sub hl [1, 2, 3, 4, 5, 0] rfl)
      · skip
        intro i j g hmu hi hj hres ls hl
        refine lv_iload hx hb d_M_canClose_30 (lv_at hl 5 rfl) ?_
        refine lv_iload hx hb d_M_canClose_32 (lv_at hl 4 rfl) ?_
        refine lv_icmp_ge (tgt := 107) hx hb d_M_canClose_34 (by decide) (fun c_201 => ?_) (fun c_201 => ?_)
        · skip
          have c_201 : i ≤ j := (nI_leI (a := i) (b := j) (by omega) (by omega)).mp c_201
          refine lv_iinc (v := nI (i + 1)) (lv' := [(4, .int (nI (i + 1))), (0, .ref (E 0)), (1, .int (nI q)), (2, .int (nI n)), (3, .int (pi_b g)), (5, .int (nI j))]) hx hb d_M_canClose_107 hl (k := 4) rfl (nI_1 i) (by decide) rfl (fun ls hl => ?_)
          refine lv_goto (tgt := 21) hx hb d_M_canClose_110 (by decide) ?_
          exact ih.1 (i + 1) g (by omega) (by omega) (by rw [show i - j = 0 by omega] at hres; simpa only [pm_sj] using hres) ls (lv_sub hl [1, 2, 3, 4, 0] rfl)
        · skip
          have c_201 : ¬ (i ≤ j) := fun h => c_201 ((nI_leI (a := i) (b := j) (by omega) (by omega)).mpr h)
          refine lv_iload_n hx hb d_M_canClose_37 rfl (lv_at hl 3 rfl) ?_
          refine lv_if_eq (tgt := 99) hx hb d_M_canClose_38 (by decide) (fun c_202 => ?_) (fun c_202 => ?_)
          · skip
            have c_202 : g = false := pi_b_0.mp c_202
            refine lv_iconst (v := 0) hx hb d_M_canClose_99 (by decide) ?_
            refine lv_istore_n (lv' := [(3, .int 0), (0, .ref (E 0)), (1, .int (nI q)), (2, .int (nI n)), (4, .int (nI i)), (5, .int (nI j))]) hx hb d_M_canClose_100 rfl hl (by decide) rfl (fun ls hl => ?_)
            refine lv_iinc (v := nI (j + 1)) (lv' := [(5, .int (nI (j + 1))), (3, .int 0), (0, .ref (E 0)), (1, .int (nI q)), (2, .int (nI n)), (4, .int (nI i))]) hx hb d_M_canClose_101 hl (k := 5) rfl (nI_1 j) (by decide) rfl (fun ls hl => ?_)
            refine lv_goto (tgt := 30) hx hb d_M_canClose_104 (by decide) ?_
            exact ih.2.1 i (j + 1) false (by omega) (by omega) (by omega) (by rw [show i - j = (i - (j + 1)) + 1 by omega] at hres; simpa [pm_sj, c_201, c_202] using hres) ls (lv_sub hl [2, 3, 4, 1, 5, 0] rfl)
          · skip
            have c_202 : g = true := pi_b_1.mp c_202
            refine lv_aload_n hx hb d_M_canClose_41 rfl (lv_at hl 0 rfl) ?_
            refine va_get (D := (dC, dI)) (ci := 4) (v := .ref (E 6)) (C := R_M) (T := T_M) (N := 23) hx hb hts in_M hown hK hE0.P 0 rfl rfl 8 (by decide) (hts _ w_548) (fun _ h9 => h9) rfl d_M_canClose_42 ?_
            refine lv_bipush (v := 12) hx hb d_M_canClose_45 (by decide) ?_
            refine lv_iload_n hx hb d_M_canClose_47 rfl (lv_at hl 1 rfl) ?_
            refine lv_imul hx hb d_M_canClose_48 ?_
            refine z_topi (y := nI (12 * q)) (pk_mul 12 q) ?_
            refine lv_iload hx hb d_M_canClose_49 (lv_at hl 4 rfl) ?_
            refine lv_iadd hx hb d_M_canClose_51 ?_
            refine z_topi (y := nI (12 * q + i)) (nI_add (12 * q) i) ?_
            refine z_iald hx hb hAI (show z_A cI _ (E 6) 384 (gv 5) from hGA 5 (by omega)) (by omega) (by decide) d_M_canClose_52 ?_
            refine lv_aload_n hx hb d_M_canClose_53 rfl (lv_at hl 0 rfl) ?_
            refine va_get (D := (dC, dI)) (ci := 4) (v := .ref (E 6)) (C := R_M) (T := T_M) (N := 23) hx hb hts in_M hown hK hE0.P 0 rfl rfl 8 (by decide) (hts _ w_548) (fun _ h9 => h9) rfl d_M_canClose_54 ?_
            refine lv_bipush (v := 12) hx hb d_M_canClose_57 (by decide) ?_
            refine lv_iload_n hx hb d_M_canClose_59 rfl (lv_at hl 1 rfl) ?_
            refine lv_imul hx hb d_M_canClose_60 ?_
            refine z_topi (y := nI (12 * q)) (pk_mul 12 q) ?_
            refine lv_iload hx hb d_M_canClose_61 (lv_at hl 5 rfl) ?_
            refine lv_iadd hx hb d_M_canClose_63 ?_
            refine z_topi (y := nI (12 * q + j)) (nI_add (12 * q) j) ?_
            refine z_iald hx hb hAI (show z_A cI _ (E 6) 384 (gv 5) from hGA 5 (by omega)) (by omega) (by decide) d_M_canClose_64 ?_
            refine lv_icmp_ne (tgt := 95) hx hb d_M_canClose_65 (by decide) (fun c_203 => ?_) (fun c_203 => ?_)
            · skip
              refine lv_iconst (v := 1) hx hb d_M_canClose_95 (by decide) ?_
              refine lv_goto (tgt := 100) hx hb d_M_canClose_96 (by decide) ?_
              refine lv_istore_n (lv' := [(3, .int 1), (0, .ref (E 0)), (1, .int (nI q)), (2, .int (nI n)), (4, .int (nI i)), (5, .int (nI j))]) hx hb d_M_canClose_100 rfl hl (by decide) rfl (fun ls hl => ?_)
              refine lv_iinc (v := nI (j + 1)) (lv' := [(5, .int (nI (j + 1))), (3, .int 1), (0, .ref (E 0)), (1, .int (nI q)), (2, .int (nI n)), (4, .int (nI i))]) hx hb d_M_canClose_101 hl (k := 5) rfl (nI_1 j) (by decide) rfl (fun ls hl => ?_)
              refine lv_goto (tgt := 30) hx hb d_M_canClose_104 (by decide) ?_
              exact ih.2.1 i (j + 1) true (by omega) (by omega) (by omega) (by rw [show i - j = (i - (j + 1)) + 1 by omega] at hres; simpa [pm_sj, c_201, c_202, c_203] using hres) ls (lv_sub hl [2, 3, 4, 1, 5, 0] rfl)
            · skip
              refine lv_aload_n hx hb d_M_canClose_68 rfl (lv_at hl 0 rfl) ?_
              refine va_get (D := (dC, dI)) (ci := 4) (v := .ref (E 7)) (C := R_M) (T := T_M) (N := 23) hx hb hts in_M hown hK hE0.P 0 rfl rfl 9 (by decide) (hts _ w_549) (fun _ h9 => h9) rfl d_M_canClose_69 ?_
              refine lv_bipush (v := 12) hx hb d_M_canClose_72 (by decide) ?_
              refine lv_iload_n hx hb d_M_canClose_74 rfl (lv_at hl 1 rfl) ?_
              refine lv_imul hx hb d_M_canClose_75 ?_
              refine z_topi (y := nI (12 * q)) (pk_mul 12 q) ?_
              refine lv_iload hx hb d_M_canClose_76 (lv_at hl 4 rfl) ?_
              refine lv_iadd hx hb d_M_canClose_78 ?_
              refine z_topi (y := nI (12 * q + i)) (nI_add (12 * q) i) ?_
              refine z_iald hx hb hAI (show z_A cI _ (E 7) 384 (gv 6) from hGA 6 (by omega)) (by omega) (by decide) d_M_canClose_79 ?_
              refine lv_aload_n hx hb d_M_canClose_80 rfl (lv_at hl 0 rfl) ?_
              refine va_get (D := (dC, dI)) (ci := 4) (v := .ref (E 7)) (C := R_M) (T := T_M) (N := 23) hx hb hts in_M hown hK hE0.P 0 rfl rfl 9 (by decide) (hts _ w_549) (fun _ h9 => h9) rfl d_M_canClose_81 ?_
              refine lv_bipush (v := 12) hx hb d_M_canClose_84 (by decide) ?_
              refine lv_iload_n hx hb d_M_canClose_86 rfl (lv_at hl 1 rfl) ?_
              refine lv_imul hx hb d_M_canClose_87 ?_
              refine z_topi (y := nI (12 * q)) (pk_mul 12 q) ?_
              refine lv_iload hx hb d_M_canClose_88 (lv_at hl 5 rfl) ?_
              refine lv_iadd hx hb d_M_canClose_90 ?_
              refine z_topi (y := nI (12 * q + j)) (nI_add (12 * q) j) ?_
              refine z_iald hx hb hAI (show z_A cI _ (E 7) 384 (gv 6) from hGA 6 (by omega)) (by omega) (by decide) d_M_canClose_91 ?_
              refine lv_icmp_eq (tgt := 99) hx hb d_M_canClose_92 (by decide) (fun c_204 => ?_) (fun c_204 => ?_)
              · skip
                refine lv_iconst (v := 0) hx hb d_M_canClose_99 (by decide) ?_
                refine lv_istore_n (lv' := [(3, .int 0), (0, .ref (E 0)), (1, .int (nI q)), (2, .int (nI n)), (4, .int (nI i)), (5, .int (nI j))]) hx hb d_M_canClose_100 rfl hl (by decide) rfl (fun ls hl => ?_)
                refine lv_iinc (v := nI (j + 1)) (lv' := [(5, .int (nI (j + 1))), (3, .int 0), (0, .ref (E 0)), (1, .int (nI q)), (2, .int (nI n)), (4, .int (nI i))]) hx hb d_M_canClose_101 hl (k := 5) rfl (nI_1 j) (by decide) rfl (fun ls hl => ?_)
                refine lv_goto (tgt := 30) hx hb d_M_canClose_104 (by decide) ?_
                exact ih.2.1 i (j + 1) false (by omega) (by omega) (by omega) (by rw [show i - j = (i - (j + 1)) + 1 by omega] at hres; simpa [pm_sj, c_201, c_202, c_203, c_204] using hres) ls (lv_sub hl [2, 3, 4, 1, 5, 0] rfl)
              · skip
                refine lv_iconst (v := 1) hx hb d_M_canClose_95 (by decide) ?_
                refine lv_goto (tgt := 100) hx hb d_M_canClose_96 (by decide) ?_
                refine lv_istore_n (lv' := [(3, .int 1), (0, .ref (E 0)), (1, .int (nI q)), (2, .int (nI n)), (4, .int (nI i)), (5, .int (nI j))]) hx hb d_M_canClose_100 rfl hl (by decide) rfl (fun ls hl => ?_)
                refine lv_iinc (v := nI (j + 1)) (lv' := [(5, .int (nI (j + 1))), (3, .int 1), (0, .ref (E 0)), (1, .int (nI q)), (2, .int (nI n)), (4, .int (nI i))]) hx hb d_M_canClose_101 hl (k := 5) rfl (nI_1 j) (by decide) rfl (fun ls hl => ?_)
                refine lv_goto (tgt := 30) hx hb d_M_canClose_104 (by decide) ?_
                exact ih.2.1 i (j + 1) true (by omega) (by omega) (by omega) (by rw [show i - j = (i - (j + 1)) + 1 by omega] at hres; simpa [pm_sj, c_201, c_202, c_203, c_204] using hres) ls (lv_sub hl [2, 3, 4, 1, 5, 0] rfl)
      · skip
        intro i g hmu hi hres ls hl
        have haf1 : i < n → pm_af n q i < 384 := fun h => pm_af_lt hq (by omega) hn
        have haf2 : i < n → pm_af n q (i + 1) < 384 := fun h => pm_af_lt hq (by omega) hn
        refine lv_iload hx hb d_M_canClose_116 (lv_at hl 4 rfl) ?_
        refine lv_iload_n hx hb d_M_canClose_118 rfl (lv_at hl 2 rfl) ?_
        refine lv_icmp_ge (tgt := 308) hx hb d_M_canClose_119 (by decide) (fun c_301 => ?_) (fun c_301 => ?_)
        · skip
          have c_301 : n ≤ i := (nI_leI (a := n) (b := i) (by omega) (by omega)).mp c_301
          refine lv_iload_n hx hb d_M_canClose_308 rfl (lv_at hl 3 rfl) ?_
          exact z_zret hx hb hr hlocks (by rw [show n - i = 0 by omega] at hres; simp only [pm_ci] at hres; rw [hres]) d_M_canClose_309
        · skip
          have c_301 : ¬ (n ≤ i) := fun h => c_301 ((nI_leI (a := n) (b := i) (by omega) (by omega)).mpr h)
          refine lv_iload_n hx hb d_M_canClose_122 rfl (lv_at hl 3 rfl) ?_
          refine lv_if_eq (tgt := 308) hx hb d_M_canClose_123 (by decide) (fun c_302 => ?_) (fun c_302 => ?_)
          · skip
            have c_302 : g = false := pi_b_0.mp c_302
            refine lv_iload_n hx hb d_M_canClose_308 rfl (lv_at hl 3 rfl) ?_
            exact z_zret hx hb hr hlocks (by rw [c_302] at hres ⊢; rw [pm_ci_f] at hres; rw [← hres]) d_M_canClose_309
          · skip
            have c_302 : g = true := pi_b_1.mp c_302
            refine lv_bipush (v := 12) hx hb d_M_canClose_126 (by decide) ?_
            refine lv_iload_n hx hb d_M_canClose_128 rfl (lv_at hl 1 rfl) ?_
            refine lv_imul hx hb d_M_canClose_129 ?_
            refine z_topi (y := nI (12 * q)) (pk_mul 12 q) ?_
            refine lv_iload hx hb d_M_canClose_130 (lv_at hl 4 rfl) ?_
            refine lv_iadd hx hb d_M_canClose_132 ?_
            refine z_topi (y := nI (12 * q + i)) (nI_add (12 * q) i) ?_
            refine lv_istore (lv' := [(5, .int (nI (12 * q + i))), (0, .ref (E 0)), (1, .int (nI q)), (2, .int (nI n)), (3, .int (pi_b g)), (4, .int (nI i))]) hx hb d_M_canClose_133 hl (by decide) rfl (fun ls hl => ?_)
            refine lv_aload_n hx hb d_M_canClose_135 rfl (lv_at hl 1 rfl) ?_
            refine lv_iload_n hx hb d_M_canClose_136 rfl (lv_at hl 2 rfl) ?_
            refine lv_iload hx hb d_M_canClose_137 (lv_at hl 5 rfl) ?_
            refine z_rdV (n := 2) (C := R_M) (rest := []) ⟨hx, hb, hml, hown, hts⟩ hW0 (c_M_after G E th mp ms mc mn mm gv q i n (by omega) (by omega) hm (by omega) hn) w_656 w_653 w_655 wp_22 w_4 (by decide +kernel) ⟨rfl, rfl, Nat.le_of_ble_eq_true rfl, Nat.le_of_ble_eq_true rfl⟩ (hE0.recv hK rfl) (hB) rfl rfl hl.1 (Nat.le_of_ble_eq_true rfl) d_M_canClose_139 ⟨Nat.zero_le _, Nat.zero_le _⟩ ?_
            refine lv_istore (lv' := [(6, .int (nI (pm_af n q i))), (5, .int (nI (12 * q + i))), (0, .ref (E 0)), (1, .int (nI q)), (2, .int (nI n)), (3, .int (pi_b g)), (4, .int (nI i))]) hx hb d_M_canClose_142 hl (by decide) rfl (fun ls hl => ?_)
            refine lv_aload_n hx hb d_M_canClose_144 rfl (lv_at hl 2 rfl) ?_
            refine lv_iload_n hx hb d_M_canClose_145 rfl (lv_at hl 3 rfl) ?_
            refine lv_iload hx hb d_M_canClose_146 (lv_at hl 6 rfl) ?_
            refine lv_iconst (v := 1) hx hb d_M_canClose_148 (by decide) ?_
            refine lv_iadd hx hb d_M_canClose_149 ?_
            refine z_topi (y := nI (i + 1)) (nI_add i 1) ?_
            refine z_rdV (n := 2) (C := R_M) (rest := []) ⟨hx, hb, hml, hown, hts⟩ hW0 (c_M_after G E th mp ms mc mn mm gv q (i + 1) n (by omega) (by omega) hm (by omega) hn) w_656 w_653 w_655 wp_22 w_4 (by decide +kernel) ⟨rfl, rfl, Nat.le_of_ble_eq_true rfl, Nat.le_of_ble_eq_true rfl⟩ (hE0.recv hK rfl) (hB) rfl rfl hl.1 (Nat.le_of_ble_eq_true rfl) d_M_canClose_150 ⟨Nat.zero_le _, Nat.zero_le _⟩ ?_
            refine lv_istore (lv' := [(7, .int (nI (pm_af n q (i + 1)))), (6, .int (nI (pm_af n q i))), (5, .int (nI (12 * q + i))), (0, .ref (E 0)), (1, .int (nI q)), (2, .int (nI n)), (3, .int (pi_b g)), (4, .int (nI i))]) hx hb d_M_canClose_153 hl (by decide) rfl (fun ls hl => ?_)
            refine lv_aload_n hx hb d_M_canClose_155 rfl (lv_at hl 3 rfl) ?_
            refine lv_iload hx hb d_M_canClose_156 (lv_at hl 2 rfl) ?_
            refine lv_iload hx hb d_M_canClose_158 (lv_at hl 1 rfl) ?_
            refine lv_aload_n hx hb d_M_canClose_160 rfl (lv_at hl 3 rfl) ?_
            refine va_get (D := (dC, dI)) (ci := 4) (v := .ref (E 6)) (C := R_M) (T := T_M) (N := 23) hx hb hts in_M hown hK hE0.P 0 rfl rfl 8 (by decide) (hts _ w_548) (fun _ h9 => h9) rfl d_M_canClose_161 ?_
            refine lv_iload hx hb d_M_canClose_164 (lv_at hl 0 rfl) ?_
            refine z_iald hx hb hAI (show z_A cI _ (E 6) 384 (gv 5) from hGA 5 (by omega)) (by omega) (by decide) d_M_canClose_166 ?_
            refine lv_aload_n hx hb d_M_canClose_167 rfl (lv_at hl 3 rfl) ?_
            refine va_get (D := (dC, dI)) (ci := 4) (v := .ref (E 7)) (C := R_M) (T := T_M) (N := 23) hx hb hts in_M hown hK hE0.P 0 rfl rfl 9 (by decide) (hts _ w_549) (fun _ h9 => h9) rfl d_M_canClose_168 ?_
            refine lv_iload hx hb d_M_canClose_171 (lv_at hl 0 rfl) ?_
            refine z_iald hx hb hAI (show z_A cI _ (E 7) 384 (gv 6) from hGA 6 (by omega)) (by omega) (by decide) d_M_canClose_173 ?_
            refine z_rdV (n := 4) (C := R_M) (rest := []) ⟨hx, hb, hml, hown, hts⟩ hW0 (c_M_isOn G E th mp ms mc mn mm gv (12 * q + i) (pm_af n q i) ((gv 5) (pm_af n q (i + 1))) ((gv 6) (pm_af n q (i + 1))) (by omega) (by omega)) w_660 w_657 w_659 wp_23 w_4 (by decide +kernel) ⟨rfl, rfl, Nat.le_of_ble_eq_true rfl, Nat.le_of_ble_eq_true rfl⟩ (hE0.recv hK rfl) (hB) rfl rfl hl.1 (Nat.le_of_ble_eq_true rfl) d_M_canClose_174 ⟨Nat.zero_le _, Nat.zero_le _⟩ ?_
            refine lv_if_ne (tgt := 209) hx hb d_M_canClose_177 (by decide) (fun c_303 => ?_) (fun c_303 => ?_)
            · skip
              have c_303 : (pm_on (gv 5) (gv 6) (12 * q + i) (pm_af n q i) ((gv 5) (pm_af n q (i + 1))) ((gv 6) (pm_af n q (i + 1)))) = true := pi_b_1.mp c_303
              refine lv_iconst (v := 0) hx hb d_M_canClose_209 (by decide) ?_
              refine lv_istore_n (lv' := [(3, .int 0), (7, .int (nI (pm_af n q (i + 1)))), (6, .int (nI (pm_af n q i))), (5, .int (nI (12 * q + i))), (0, .ref (E 0)), (1, .int (nI q)), (2, .int (nI n)), (4, .int (nI i))]) hx hb d_M_canClose_210 rfl hl (by decide) rfl (fun ls hl => ?_)
              refine lv_iconst (v := 0) hx hb d_M_canClose_211 (by decide) ?_
              refine lv_istore (lv' := [(8, .int 0), (3, .int 0), (7, .int (nI (pm_af n q (i + 1)))), (6, .int (nI (pm_af n q i))), (5, .int (nI (12 * q + i))), (0, .ref (E 0)), (1, .int (nI q)), (2, .int (nI n)), (4, .int (nI i))]) hx hb d_M_canClose_212 hl (by decide) rfl (fun ls hl => ?_)
              exact ih.2.2.2 i 0 false (by omega) (by omega) (by omega) (by rw [show n - i = (n - (i + 1)) + 1 by omega] at hres; simpa [pm_ci, c_301, c_302, c_303] using hres) ls (lv_sub hl [5, 6, 7, 1, 8, 4, 3, 0] rfl)
            · skip
              have c_303 : (pm_on (gv 5) (gv 6) (12 * q + i) (pm_af n q i) ((gv 5) (pm_af n q (i + 1))) ((gv 6) (pm_af n q (i + 1)))) = false := pi_b_0.mp c_303
              refine lv_aload_n hx hb d_M_canClose_180 rfl (lv_at hl 3 rfl) ?_
              refine lv_iload hx hb d_M_canClose_181 (lv_at hl 1 rfl) ?_
              refine lv_iload hx hb d_M_canClose_183 (lv_at hl 0 rfl) ?_
              refine lv_aload_n hx hb d_M_canClose_185 rfl (lv_at hl 3 rfl) ?_
              refine va_get (D := (dC, dI)) (ci := 4) (v := .ref (E 6)) (C := R_M) (T := T_M) (N := 23) hx hb hts in_M hown hK hE0.P 0 rfl rfl 8 (by decide) (hts _ w_548) (fun _ h9 => h9) rfl d_M_canClose_186 ?_
              refine lv_iload hx hb d_M_canClose_189 (lv_at hl 2 rfl) ?_
              refine z_iald hx hb hAI (show z_A cI _ (E 6) 384 (gv 5) from hGA 5 (by omega)) (by omega) (by decide) d_M_canClose_191 ?_
              refine lv_aload_n hx hb d_M_canClose_192 rfl (lv_at hl 3 rfl) ?_
              refine va_get (D := (dC, dI)) (ci := 4) (v := .ref (E 7)) (C := R_M) (T := T_M) (N := 23) hx hb hts in_M hown hK hE0.P 0 rfl rfl 9 (by decide) (hts _ w_549) (fun _ h9 => h9) rfl d_M_canClose_193 ?_
              refine lv_iload hx hb d_M_canClose_196 (lv_at hl 2 rfl) ?_
              refine z_iald hx hb hAI (show z_A cI _ (E 7) 384 (gv 6) from hGA 6 (by omega)) (by omega) (by decide) d_M_canClose_198 ?_
              refine z_rdV (n := 4) (C := R_M) (rest := []) ⟨hx, hb, hml, hown, hts⟩ hW0 (c_M_isOn G E th mp ms mc mn mm gv (pm_af n q i) (pm_af n q (i + 1)) ((gv 5) (12 * q + i)) ((gv 6) (12 * q + i)) (by omega) (by omega)) w_660 w_657 w_659 wp_23 w_4 (by decide +kernel) ⟨rfl, rfl, Nat.le_of_ble_eq_true rfl, Nat.le_of_ble_eq_true rfl⟩ (hE0.recv hK rfl) (hB) rfl rfl hl.1 (Nat.le_of_ble_eq_true rfl) d_M_canClose_199 ⟨Nat.zero_le _, Nat.zero_le _⟩ ?_
              refine lv_if_ne (tgt := 209) hx hb d_M_canClose_202 (by decide) (fun c_304 => ?_) (fun c_304 => ?_)
              · skip
                have c_304 : (pm_on (gv 5) (gv 6) (pm_af n q i) (pm_af n q (i + 1)) ((gv 5) (12 * q + i)) ((gv 6) (12 * q + i))) = true := pi_b_1.mp c_304
                refine lv_iconst (v := 0) hx hb d_M_canClose_209 (by decide) ?_
                refine lv_istore_n (lv' := [(3, .int 0), (7, .int (nI (pm_af n q (i + 1)))), (6, .int (nI (pm_af n q i))), (5, .int (nI (12 * q + i))), (0, .ref (E 0)), (1, .int (nI q)), (2, .int (nI n)), (4, .int (nI i))]) hx hb d_M_canClose_210 rfl hl (by decide) rfl (fun ls hl => ?_)
                refine lv_iconst (v := 0) hx hb d_M_canClose_211 (by decide) ?_
                refine lv_istore (lv' := [(8, .int 0), (3, .int 0), (7, .int (nI (pm_af n q (i + 1)))), (6, .int (nI (pm_af n q i))), (5, .int (nI (12 * q + i))), (0, .ref (E 0)), (1, .int (nI q)), (2, .int (nI n)), (4, .int (nI i))]) hx hb d_M_canClose_212 hl (by decide) rfl (fun ls hl => ?_)
                exact ih.2.2.2 i 0 false (by omega) (by omega) (by omega) (by rw [show n - i = (n - (i + 1)) + 1 by omega] at hres; simpa [pm_ci, c_301, c_302, c_303, c_304] using hres) ls (lv_sub hl [5, 6, 7, 1, 8, 4, 3, 0] rfl)
              · skip
                have c_304 : (pm_on (gv 5) (gv 6) (pm_af n q i) (pm_af n q (i + 1)) ((gv 5) (12 * q + i)) ((gv 6) (12 * q + i))) = false := pi_b_0.mp c_304
                refine lv_iconst (v := 1) hx hb d_M_canClose_205 (by decide) ?_
                refine lv_goto (tgt := 210) hx hb d_M_canClose_206 (by decide) ?_
                refine lv_istore_n (lv' := [(3, .int 1), (7, .int (nI (pm_af n q (i + 1)))), (6, .int (nI (pm_af n q i))), (5, .int (nI (12 * q + i))), (0, .ref (E 0)), (1, .int (nI q)), (2, .int (nI n)), (4, .int (nI i))]) hx hb d_M_canClose_210 rfl hl (by decide) rfl (fun ls hl => ?_)
                refine lv_iconst (v := 0) hx hb d_M_canClose_211 (by decide) ?_
                refine lv_istore (lv' := [(8, .int 0), (3, .int 1), (7, .int (nI (pm_af n q (i + 1)))), (6, .int (nI (pm_af n q i))), (5, .int (nI (12 * q + i))), (0, .ref (E 0)), (1, .int (nI q)), (2, .int (nI n)), (4, .int (nI i))]) hx hb d_M_canClose_212 hl (by decide) rfl (fun ls hl => ?_)
                exact ih.2.2.2 i 0 true (by omega) (by omega) (by omega) (by rw [show n - i = (n - (i + 1)) + 1 by omega] at hres; simpa [pm_ci, c_301, c_302, c_303, c_304] using hres) ls (lv_sub hl [5, 6, 7, 1, 8, 4, 3, 0] rfl)
      · skip
        intro i j g hmu hi hj hres ls hl
        have haf1 : i < n → pm_af n q i < 384 := fun h => pm_af_lt hq (by omega) hn
        have haf2 : i < n → pm_af n q (i + 1) < 384 := fun h => pm_af_lt hq (by omega) hn
        have hmj : i < n → (j + 1) % n < n := fun h => Nat.mod_lt _ (by omega)
        have hmi : i < n → (i + 1) % n < n := fun h => Nat.mod_lt _ (by omega)
        have haf3 : i < n → pm_af n q j < 384 := fun h => pm_af_lt hq (by omega) hn
        refine lv_iload hx hb d_M_canClose_214 (lv_at hl 7 rfl) ?_
        refine lv_iload_n hx hb d_M_canClose_216 rfl (lv_at hl 2 rfl) ?_
        refine lv_icmp_ge (tgt := 302) hx hb d_M_canClose_217 (by decide) (fun c_401 => ?_) (fun c_401 => ?_)
        · skip
          have c_401 : n ≤ j := (nI_leI (a := n) (b := j) (by omega) (by omega)).mp c_401
          refine lv_iinc (v := nI (i + 1)) (lv' := [(4, .int (nI (i + 1))), (0, .ref (E 0)), (1, .int (nI q)), (2, .int (nI n)), (3, .int (pi_b g)), (5, .int (nI (12 * q + i))), (6, .int (nI (pm_af n q i))), (8, .int (nI j))]) hx hb d_M_canClose_302 hl (k := 4) rfl (nI_1 i) (by decide) rfl (fun ls hl => ?_)
          refine lv_goto (tgt := 116) hx hb d_M_canClose_305 (by decide) ?_
          exact ih.2.2.1 (i + 1) g (by omega) (by omega) (by rw [show n - j = 0 by omega] at hres; simpa only [pm_cj] using hres) ls (lv_sub hl [1, 2, 3, 4, 0] rfl)
        · skip
          have c_401 : ¬ (n ≤ j) := fun h => c_401 ((nI_leI (a := n) (b := j) (by omega) (by omega)).mpr h)
          refine lv_iload_n hx hb d_M_canClose_220 rfl (lv_at hl 3 rfl) ?_
          refine lv_if_eq (tgt := 302) hx hb d_M_canClose_221 (by decide) (fun c_402 => ?_) (fun c_402 => ?_)
          · skip
            have c_402 : g = false := pi_b_0.mp c_402
            refine lv_iinc (v := nI (i + 1)) (lv' := [(4, .int (nI (i + 1))), (0, .ref (E 0)), (1, .int (nI q)), (2, .int (nI n)), (3, .int (pi_b g)), (5, .int (nI (12 * q + i))), (6, .int (nI (pm_af n q i))), (8, .int (nI j))]) hx hb d_M_canClose_302 hl (k := 4) rfl (nI_1 i) (by decide) rfl (fun ls hl => ?_)
            refine lv_goto (tgt := 116) hx hb d_M_canClose_305 (by decide) ?_
            exact ih.2.2.1 (i + 1) g (by omega) (by omega) (by rw [c_402] at hres ⊢; rw [pm_cj_f] at hres; exact hres) ls (lv_sub hl [1, 2, 3, 4, 0] rfl)
          · skip
            have c_402 : g = true := pi_b_1.mp c_402
            refine lv_iload hx hb d_M_canClose_224 (lv_at hl 7 rfl) ?_
            refine lv_iload hx hb d_M_canClose_226 (lv_at hl 4 rfl) ?_
            refine lv_icmp_eq (tgt := 257) hx hb d_M_canClose_228 (by decide) (fun c_403 => ?_) (fun c_403 => ?_)
            · skip
              have c_403 : j = i := (nI_eq (a := j) (b := i) (by omega) (by omega)).mp c_403
              refine lv_iconst (v := 0) hx hb d_M_canClose_257 (by decide) ?_
              refine lv_istore (lv' := [(9, .int 0), (0, .ref (E 0)), (1, .int (nI q)), (2, .int (nI n)), (3, .int (pi_b g)), (4, .int (nI i)), (5, .int (nI (12 * q + i))), (6, .int (nI (pm_af n q i))), (8, .int (nI j))]) hx hb d_M_canClose_258 hl (by decide) rfl (fun ls hl => ?_)
              refine lv_iload hx hb d_M_canClose_260 (lv_at hl 0 rfl) ?_
              refine lv_if_eq (tgt := 290) hx hb d_M_canClose_262 (by decide) (fun c_404 => ?_) (fun c_404 => ?_)
              · skip
                refine lv_iconst (v := 1) hx hb d_M_canClose_290 (by decide) ?_
                refine lv_goto (tgt := 295) hx hb d_M_canClose_291 (by decide) ?_
                refine lv_istore_n (lv' := [(3, .int 1), (9, .int 0), (0, .ref (E 0)), (1, .int (nI q)), (2, .int (nI n)), (4, .int (nI i)), (5, .int (nI (12 * q + i))), (6, .int (nI (pm_af n q i))), (8, .int (nI j))]) hx hb d_M_canClose_295 rfl hl (by decide) rfl (fun ls hl => ?_)
                refine lv_iinc (v := nI (j + 1)) (lv' := [(8, .int (nI (j + 1))), (3, .int 1), (9, .int 0), (0, .ref (E 0)), (1, .int (nI q)), (2, .int (nI n)), (4, .int (nI i)), (5, .int (nI (12 * q + i))), (6, .int (nI (pm_af n q i)))]) hx hb d_M_canClose_296 hl (k := 8) rfl (nI_1 j) (by decide) rfl (fun ls hl => ?_)
                refine lv_goto (tgt := 214) hx hb d_M_canClose_299 (by decide) ?_
                exact ih.2.2.2 i (j + 1) true (by omega) (by omega) (by omega) (by rw [show n - j = (n - (j + 1)) + 1 by omega] at hres; simpa [pm_cj, pm_ap, c_401, c_402, c_403] using hres) ls (lv_sub hl [3, 4, 5, 1, 6, 7, 8, 0] rfl)
              · skip
                exact absurd (by decide) c_404
            · skip
              have c_403 : ¬ (j = i) := fun h => c_403 ((nI_eq (a := j) (b := i) (by omega) (by omega)).mpr h)
              refine lv_iload hx hb d_M_canClose_231 (lv_at hl 7 rfl) ?_
              refine lv_iconst (v := 1) hx hb d_M_canClose_233 (by decide) ?_
              refine lv_iadd hx hb d_M_canClose_234 ?_
              refine z_topi (y := nI (j + 1)) (nI_add j 1) ?_
              refine lv_iload_n hx hb d_M_canClose_235 rfl (lv_at hl 2 rfl) ?_
              refine lv_irem hx hb d_M_canClose_236 (nI_ne0 (n := n) (by omega) (by omega)) ?_
              refine z_topi (y := nI ((j + 1) % n)) (pk_rem (a := j + 1) (d := n) (by omega) (by omega) (by omega)) ?_
              refine lv_iload hx hb d_M_canClose_237 (lv_at hl 4 rfl) ?_
              refine lv_icmp_eq (tgt := 257) hx hb d_M_canClose_239 (by decide) (fun c_405 => ?_) (fun c_405 => ?_)
              · skip
                have c_405 : ((j + 1) % n) = i := (nI_eq (a := (j + 1) % n) (b := i) (by omega) (by omega)).mp c_405
                refine lv_iconst (v := 0) hx hb d_M_canClose_257 (by decide) ?_
                refine lv_istore (lv' := [(9, .int 0), (0, .ref (E 0)), (1, .int (nI q)), (2, .int (nI n)), (3, .int (pi_b g)), (4, .int (nI i)), (5, .int (nI (12 * q + i))), (6, .int (nI (pm_af n q i))), (8, .int (nI j))]) hx hb d_M_canClose_258 hl (by decide) rfl (fun ls hl => ?_)
                refine lv_iload hx hb d_M_canClose_260 (lv_at hl 0 rfl) ?_
                refine lv_if_eq (tgt := 290) hx hb d_M_canClose_262 (by decide) (fun c_406 => ?_) (fun c_406 => ?_)
                · skip
                  refine lv_iconst (v := 1) hx hb d_M_canClose_290 (by decide) ?_
                  refine lv_goto (tgt := 295) hx hb d_M_canClose_291 (by decide) ?_
                  refine lv_istore_n (lv' := [(3, .int 1), (9, .int 0), (0, .ref (E 0)), (1, .int (nI q)), (2, .int (nI n)), (4, .int (nI i)), (5, .int (nI (12 * q + i))), (6, .int (nI (pm_af n q i))), (8, .int (nI j))]) hx hb d_M_canClose_295 rfl hl (by decide) rfl (fun ls hl => ?_)
                  refine lv_iinc (v := nI (j + 1)) (lv' := [(8, .int (nI (j + 1))), (3, .int 1), (9, .int 0), (0, .ref (E 0)), (1, .int (nI q)), (2, .int (nI n)), (4, .int (nI i)), (5, .int (nI (12 * q + i))), (6, .int (nI (pm_af n q i)))]) hx hb d_M_canClose_296 hl (k := 8) rfl (nI_1 j) (by decide) rfl (fun ls hl => ?_)
                  refine lv_goto (tgt := 214) hx hb d_M_canClose_299 (by decide) ?_
                  exact ih.2.2.2 i (j + 1) true (by omega) (by omega) (by omega) (by rw [show n - j = (n - (j + 1)) + 1 by omega] at hres; simpa [pm_cj, pm_ap, c_401, c_402, c_403, c_405] using hres) ls (lv_sub hl [3, 4, 5, 1, 6, 7, 8, 0] rfl)
                · skip
                  exact absurd (by decide) c_406
              · skip
                have c_405 : ¬ (((j + 1) % n) = i) := fun h => c_405 ((nI_eq (a := (j + 1) % n) (b := i) (by omega) (by omega)).mpr h)
                refine lv_iload hx hb d_M_canClose_242 (lv_at hl 4 rfl) ?_
                refine lv_iconst (v := 1) hx hb d_M_canClose_244 (by decide) ?_
                refine lv_iadd hx hb d_M_canClose_245 ?_
                refine z_topi (y := nI (i + 1)) (nI_add i 1) ?_
                refine lv_iload_n hx hb d_M_canClose_246 rfl (lv_at hl 2 rfl) ?_
                refine lv_irem hx hb d_M_canClose_247 (nI_ne0 (n := n) (by omega) (by omega)) ?_
                refine z_topi (y := nI ((i + 1) % n)) (pk_rem (a := i + 1) (d := n) (by omega) (by omega) (by omega)) ?_
                refine lv_iload hx hb d_M_canClose_248 (lv_at hl 7 rfl) ?_
                refine lv_icmp_eq (tgt := 257) hx hb d_M_canClose_250 (by decide) (fun c_407 => ?_) (fun c_407 => ?_)
                · skip
                  have c_407 : ((i + 1) % n) = j := (nI_eq (a := (i + 1) % n) (b := j) (by omega) (by omega)).mp c_407
                  refine lv_iconst (v := 0) hx hb d_M_canClose_257 (by decide) ?_
                  refine lv_istore (lv' := [(9, .int 0), (0, .ref (E 0)), (1, .int (nI q)), (2, .int (nI n)), (3, .int (pi_b g)), (4, .int (nI i)), (5, .int (nI (12 * q + i))), (6, .int (nI (pm_af n q i))), (8, .int (nI j))]) hx hb d_M_canClose_258 hl (by decide) rfl (fun ls hl => ?_)
                  refine lv_iload hx hb d_M_canClose_260 (lv_at hl 0 rfl) ?_
                  refine lv_if_eq (tgt := 290) hx hb d_M_canClose_262 (by decide) (fun c_408 => ?_) (fun c_408 => ?_)
                  · skip
                    refine lv_iconst (v := 1) hx hb d_M_canClose_290 (by decide) ?_
                    refine lv_goto (tgt := 295) hx hb d_M_canClose_291 (by decide) ?_
                    refine lv_istore_n (lv' := [(3, .int 1), (9, .int 0), (0, .ref (E 0)), (1, .int (nI q)), (2, .int (nI n)), (4, .int (nI i)), (5, .int (nI (12 * q + i))), (6, .int (nI (pm_af n q i))), (8, .int (nI j))]) hx hb d_M_canClose_295 rfl hl (by decide) rfl (fun ls hl => ?_)
                    refine lv_iinc (v := nI (j + 1)) (lv' := [(8, .int (nI (j + 1))), (3, .int 1), (9, .int 0), (0, .ref (E 0)), (1, .int (nI q)), (2, .int (nI n)), (4, .int (nI i)), (5, .int (nI (12 * q + i))), (6, .int (nI (pm_af n q i)))]) hx hb d_M_canClose_296 hl (k := 8) rfl (nI_1 j) (by decide) rfl (fun ls hl => ?_)
                    refine lv_goto (tgt := 214) hx hb d_M_canClose_299 (by decide) ?_
                    exact ih.2.2.2 i (j + 1) true (by omega) (by omega) (by omega) (by rw [show n - j = (n - (j + 1)) + 1 by omega] at hres; simpa [pm_cj, pm_ap, c_401, c_402, c_403, c_405, c_407] using hres) ls (lv_sub hl [3, 4, 5, 1, 6, 7, 8, 0] rfl)
                  · skip
                    exact absurd (by decide) c_408
                · skip
                  have c_407 : ¬ (((i + 1) % n) = j) := fun h => c_407 ((nI_eq (a := (i + 1) % n) (b := j) (by omega) (by omega)).mpr h)
                  refine lv_iconst (v := 1) hx hb d_M_canClose_253 (by decide) ?_
                  refine lv_goto (tgt := 258) hx hb d_M_canClose_254 (by decide) ?_
                  refine lv_istore (lv' := [(9, .int 1), (0, .ref (E 0)), (1, .int (nI q)), (2, .int (nI n)), (3, .int (pi_b g)), (4, .int (nI i)), (5, .int (nI (12 * q + i))), (6, .int (nI (pm_af n q i))), (8, .int (nI j))]) hx hb d_M_canClose_258 hl (by decide) rfl (fun ls hl => ?_)
                  refine lv_iload hx hb d_M_canClose_260 (lv_at hl 0 rfl) ?_
                  refine lv_if_eq (tgt := 290) hx hb d_M_canClose_262 (by decide) (fun c_409 => ?_) (fun c_409 => ?_)
                  · skip
                    exact absurd c_409 (by decide)
                  · skip
                    refine lv_aload_n hx hb d_M_canClose_265 rfl (lv_at hl 1 rfl) ?_
                    refine lv_iload hx hb d_M_canClose_266 (lv_at hl 6 rfl) ?_
                    refine lv_iload hx hb d_M_canClose_268 (lv_at hl 7 rfl) ?_
                    refine lv_bipush (v := 12) hx hb d_M_canClose_270 (by decide) ?_
                    refine lv_iload_n hx hb d_M_canClose_272 rfl (lv_at hl 2 rfl) ?_
                    refine lv_imul hx hb d_M_canClose_273 ?_
                    refine z_topi (y := nI (12 * q)) (pk_mul 12 q) ?_
                    refine lv_iload hx hb d_M_canClose_274 (lv_at hl 8 rfl) ?_
                    refine lv_iadd hx hb d_M_canClose_276 ?_
                    refine z_topi (y := nI (12 * q + j)) (nI_add (12 * q) j) ?_
                    refine lv_aload_n hx hb d_M_canClose_277 rfl (lv_at hl 1 rfl) ?_
                    refine lv_iload_n hx hb d_M_canClose_278 rfl (lv_at hl 2 rfl) ?_
                    refine lv_iload hx hb d_M_canClose_279 (lv_at hl 8 rfl) ?_
                    refine z_rdV (n := 2) (C := R_M) (rest := [.int (nI (12 * q + j)), .int (nI (pm_af n q i)), .int (nI (12 * q + i)), .ref (E 0)]) ⟨hx, hb, hml, hown, hts⟩ hW0 (c_M_after G E th mp ms mc mn mm gv q j n (by omega) (by omega) hm (by omega) hn) w_656 w_653 w_655 wp_22 w_4 (by decide +kernel) ⟨rfl, rfl, Nat.le_of_ble_eq_true rfl, Nat.le_of_ble_eq_true rfl⟩ (hE0.recv hK rfl) (hB) rfl rfl hl.1 (Nat.le_of_ble_eq_true rfl) d_M_canClose_281 ⟨Nat.zero_le _, Nat.zero_le _⟩ ?_
                    refine z_rdV (n := 4) (C := R_M) (rest := []) ⟨hx, hb, hml, hown, hts⟩ hW0 (c_M_meet G E th mp ms mc mn mm gv (12 * q + i) (pm_af n q i) (12 * q + j) (pm_af n q j) (by omega) (by omega) (by omega) (by omega)) w_670 w_667 w_669 wp_24 w_4 (by decide +kernel) ⟨rfl, rfl, Nat.le_of_ble_eq_true rfl, Nat.le_of_ble_eq_true rfl⟩ (hE0.recv hK rfl) (hB) rfl rfl hl.1 (Nat.le_of_ble_eq_true rfl) d_M_canClose_284 ⟨Nat.zero_le _, Nat.zero_le _⟩ ?_
                    refine lv_if_ne (tgt := 294) hx hb d_M_canClose_287 (by decide) (fun c_410 => ?_) (fun c_410 => ?_)
                    · skip
                      have c_410 : (pm_meet (gv 5) (gv 6) (12 * q + i) (pm_af n q i) (12 * q + j) (pm_af n q j)) = true := pi_b_1.mp c_410
                      refine lv_iconst (v := 0) hx hb d_M_canClose_294 (by decide) ?_
                      refine lv_istore_n (lv' := [(3, .int 0), (9, .int 1), (0, .ref (E 0)), (1, .int (nI q)), (2, .int (nI n)), (4, .int (nI i)), (5, .int (nI (12 * q + i))), (6, .int (nI (pm_af n q i))), (8, .int (nI j))]) hx hb d_M_canClose_295 rfl hl (by decide) rfl (fun ls hl => ?_)
                      refine lv_iinc (v := nI (j + 1)) (lv' := [(8, .int (nI (j + 1))), (3, .int 0), (9, .int 1), (0, .ref (E 0)), (1, .int (nI q)), (2, .int (nI n)), (4, .int (nI i)), (5, .int (nI (12 * q + i))), (6, .int (nI (pm_af n q i)))]) hx hb d_M_canClose_296 hl (k := 8) rfl (nI_1 j) (by decide) rfl (fun ls hl => ?_)
                      refine lv_goto (tgt := 214) hx hb d_M_canClose_299 (by decide) ?_
                      exact ih.2.2.2 i (j + 1) false (by omega) (by omega) (by omega) (by rw [show n - j = (n - (j + 1)) + 1 by omega] at hres; simpa [pm_cj, pm_ap, c_401, c_402, c_403, c_405, c_407, c_410] using hres) ls (lv_sub hl [3, 4, 5, 1, 6, 7, 8, 0] rfl)
                    · skip
                      have c_410 : (pm_meet (gv 5) (gv 6) (12 * q + i) (pm_af n q i) (12 * q + j) (pm_af n q j)) = false := pi_b_0.mp c_410
                      refine lv_iconst (v := 1) hx hb d_M_canClose_290 (by decide) ?_
                      refine lv_goto (tgt := 295) hx hb d_M_canClose_291 (by decide) ?_
                      refine lv_istore_n (lv' := [(3, .int 1), (9, .int 1), (0, .ref (E 0)), (1, .int (nI q)), (2, .int (nI n)), (4, .int (nI i)), (5, .int (nI (12 * q + i))), (6, .int (nI (pm_af n q i))), (8, .int (nI j))]) hx hb d_M_canClose_295 rfl hl (by decide) rfl (fun ls hl => ?_)
                      refine lv_iinc (v := nI (j + 1)) (lv' := [(8, .int (nI (j + 1))), (3, .int 1), (9, .int 1), (0, .ref (E 0)), (1, .int (nI q)), (2, .int (nI n)), (4, .int (nI i)), (5, .int (nI (12 * q + i))), (6, .int (nI (pm_af n q i)))]) hx hb d_M_canClose_296 hl (k := 8) rfl (nI_1 j) (by decide) rfl (fun ls hl => ?_)
                      refine lv_goto (tgt := 214) hx hb d_M_canClose_299 (by decide) ?_
                      exact ih.2.2.2 i (j + 1) true (by omega) (by omega) (by omega) (by rw [show n - j = (n - (j + 1)) + 1 by omega] at hres; simpa [pm_cj, pm_ap, c_401, c_402, c_403, c_405, c_407, c_410] using hres) ls (lv_sub hl [3, 4, 5, 1, 6, 7, 8, 0] rfl)
  refine lv_aload_n hx hb d_M_canClose_0 rfl (lv_at hl 0 rfl) ?_
  refine va_get (D := (dC, dI)) (ci := 4) (v := .ref (E 5)) (C := R_M) (T := T_M) (N := 23) hx hb hts in_M hown hK hE0.P 0 rfl rfl 7 (by decide) (hts _ w_547) (fun _ h9 => h9) rfl d_M_canClose_1 ?_
  refine lv_iload_n hx hb d_M_canClose_4 rfl (lv_at hl 1 rfl) ?_
  refine z_iald hx hb hAI (show z_A cI _ (E 5) 32 (gv 4) from hGA 4 (by omega)) (by omega) (by decide) d_M_canClose_5 ?_
  refine z_topi (y := nI n) hm ?_
  refine lv_istore_n (lv' := [(2, .int (nI n)), (0, .ref (E 0)), (1, .int (nI q))]) hx hb d_M_canClose_6 rfl hl (by decide) rfl (fun ls hl => ?_)
  refine lv_iload_n hx hb d_M_canClose_7 rfl (lv_at hl 0 rfl) ?_
  refine lv_iconst (v := 3) hx hb d_M_canClose_8 (by decide) ?_
  refine lv_icmp_lt (tgt := 16) hx hb d_M_canClose_9 (by decide) (fun c_1 => ?_) (fun c_1 => ?_)
  · skip
    have c_1 : n < 3 := (nI_ltI (a := n) (b := 3) (by omega) (by omega)).mp c_1
    refine lv_iconst (v := 0) hx hb d_M_canClose_16 (by decide) ?_
    refine lv_istore_n (lv' := [(3, .int 0), (2, .int (nI n)), (0, .ref (E 0)), (1, .int (nI q))]) hx hb d_M_canClose_17 rfl hl (by decide) rfl (fun ls hl => ?_)
    refine lv_iconst (v := 0) hx hb d_M_canClose_18 (by decide) ?_
    refine lv_istore (lv' := [(4, .int 0), (3, .int 0), (2, .int (nI n)), (0, .ref (E 0)), (1, .int (nI q))]) hx hb d_M_canClose_19 hl (by decide) rfl (fun ls hl => ?_)
    exact (loops ((2000 + (n - 0) * 20 + 19) + 1)).1 0 false (by omega) (by omega) (by rw [pm_can, decide_eq_false (show ¬ 3 ≤ n by omega)]; rfl) ls (lv_sub hl [3, 4, 2, 1, 0] rfl)
  · skip
    have c_1 : ¬ (n < 3) := fun h => c_1 ((nI_ltI (a := n) (b := 3) (by omega) (by omega)).mpr h)
    refine lv_iconst (v := 1) hx hb d_M_canClose_12 (by decide) ?_
    refine lv_goto (tgt := 17) hx hb d_M_canClose_13 (by decide) ?_
    refine lv_istore_n (lv' := [(3, .int 1), (2, .int (nI n)), (0, .ref (E 0)), (1, .int (nI q))]) hx hb d_M_canClose_17 rfl hl (by decide) rfl (fun ls hl => ?_)
    refine lv_iconst (v := 0) hx hb d_M_canClose_18 (by decide) ?_
    refine lv_istore (lv' := [(4, .int 0), (3, .int 1), (2, .int (nI n)), (0, .ref (E 0)), (1, .int (nI q))]) hx hb d_M_canClose_19 hl (by decide) rfl (fun ls hl => ?_)
    exact (loops ((2000 + (n - 0) * 20 + 19) + 1)).1 0 true (by omega) (by omega) (by rw [pm_can, decide_eq_true (show 3 ≤ n by omega)]; rfl) ls (lv_sub hl [3, 4, 2, 1, 0] rfl)
end M3
