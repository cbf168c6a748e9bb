section M2
variable {s0 : State} {dC : Nat → ClassId} {dI : Nat → Nat → Nat} {cI cS : ClassId} {l : Launch}
set_option maxRecDepth 100000 in
set_option maxHeartbeats 4000000 in
theorem c_M_nearest (G : z_G s0 (dC, dI) cI cS) (a w : Int64) (hby : ¬ (if w < 0 then 0 - 2 * w else 2 * w) = 0) : Met l y_M_nearest [Cond.code y_M_nearest b_M_nearest 12 (some .int)] ({ frames := 0, cells := 0, slots := 0, locals := 0 }) (z_Pc s0 [.long a, .long w] (fun H => True)) (z_Qr (some (.int (pm_near a w)))) 0 0 z_no := by
  refine z_ofW (by decide +kernel) (Nat.le_of_ble_eq_true rfl) ?_
  intro p e s m below meth c hx hb hml hr hown hlocks hnm hW0 hB ls hl
  have hts := z_hts (args := [.long a, .long w].toArray) G.1 hW0
  have hN := z_nstW G.2.1 hW0
  have hK := va_K.moved hW0.alike G.2.2.1
  have hAI := arrOfT_moved hW0.alike G.2.2.2.1
  have hl : lv_has ls 12 [(0, .long a), (2, .long w)] := hl
  refine lv_lload_n hx hb d_M_nearest_0 rfl (lv_at hl 1 rfl) ?_
  refine lv_lconst (v := 0) hx hb d_M_nearest_1 (by decide) ?_
  refine W.lcmp hx hb d_M_nearest_2 ?_
  refine lv_if_ge (tgt := 16) hx hb d_M_nearest_3 (by decide) (fun c_1 => ?_) (fun c_1 => ?_)
  · skip
    have c_1 : 0 ≤ w := (lg_cmp_ge _ _).mp c_1
    have c_1' : ¬ (w < 0) := Int64.not_lt.mpr c_1
    refine lv_ldc2 hx hb hown (hts _ w_745) d_M_nearest_16 ?_
    refine lv_lload_n hx hb d_M_nearest_19 rfl (lv_at hl 0 rfl) ?_
    refine lv_lmul hx hb d_M_nearest_20 ?_
    refine lv_lstore (lv' := [(4, .long (2 * a)), (0, .long a), (2, .long w)]) hx hb d_M_nearest_21 hl (by decide) rfl (fun ls hl => ?_)
    refine lv_lload_n hx hb d_M_nearest_23 rfl (lv_at hl 2 rfl) ?_
    refine lv_lconst (v := 0) hx hb d_M_nearest_24 (by decide) ?_
    refine W.lcmp hx hb d_M_nearest_25 ?_
    refine lv_if_ge (tgt := 39) hx hb d_M_nearest_26 (by decide) (fun c_2 => ?_) (fun c_2 => ?_)
    · skip
      have c_2 : 0 ≤ w := (lg_cmp_ge _ _).mp c_2
      have c_2' : ¬ (w < 0) := Int64.not_lt.mpr c_2
      refine lv_ldc2 hx hb hown (hts _ w_745) d_M_nearest_39 ?_
      refine lv_lload_n hx hb d_M_nearest_42 rfl (lv_at hl 2 rfl) ?_
      refine lv_lmul hx hb d_M_nearest_43 ?_
      refine lv_lstore (lv' := [(6, .long (2 * w)), (4, .long (2 * a)), (0, .long a), (2, .long w)]) hx hb d_M_nearest_44 hl (by decide) rfl (fun ls hl => ?_)
      refine lv_lload hx hb d_M_nearest_46 (lv_at hl 1 rfl) ?_
      refine lv_lload hx hb d_M_nearest_48 (lv_at hl 0 rfl) ?_
      refine lv_ldc2 hx hb hown (hts _ w_745) d_M_nearest_50 ?_
      refine lv_ldiv hx hb d_M_nearest_53 (by decide) ?_
      refine lv_ladd hx hb d_M_nearest_54 ?_
      refine lv_lstore (lv' := [(8, .long ((2 * a) + ((2 * w) / 2))), (6, .long (2 * w)), (4, .long (2 * a)), (0, .long a), (2, .long w)]) hx hb d_M_nearest_55 hl (by decide) rfl (fun ls hl => ?_)
      refine lv_lload hx hb d_M_nearest_57 (lv_at hl 0 rfl) ?_
      refine lv_lload hx hb d_M_nearest_59 (lv_at hl 1 rfl) ?_
      refine lv_ldiv hx hb d_M_nearest_61 (by simpa [c_1, c_1', c_2, c_2'] using hby) ?_
      refine lv_lstore (lv' := [(10, .long (((2 * a) + ((2 * w) / 2)) / (2 * w))), (8, .long ((2 * a) + ((2 * w) / 2))), (6, .long (2 * w)), (4, .long (2 * a)), (0, .long a), (2, .long w)]) hx hb d_M_nearest_62 hl (by decide) rfl (fun ls hl => ?_)
      refine lv_lload hx hb d_M_nearest_64 (lv_at hl 0 rfl) ?_
      refine lv_lload hx hb d_M_nearest_66 (lv_at hl 2 rfl) ?_
      refine lv_lmul hx hb d_M_nearest_68 ?_
      refine lv_lload hx hb d_M_nearest_69 (lv_at hl 1 rfl) ?_
      refine W.lcmp hx hb d_M_nearest_71 ?_
      refine lv_if_le (tgt := 82) hx hb d_M_nearest_72 (by decide) (fun c_3 => ?_) (fun c_3 => ?_)
      · skip
        have c_3 : ((((2 * a) + ((2 * w) / 2)) / (2 * w)) * (2 * w)) ≤ ((2 * a) + ((2 * w) / 2)) := (lg_cmp_le _ _).mp c_3
        have c_3' : ¬ (((2 * a) + ((2 * w) / 2)) < ((((2 * a) + ((2 * w) / 2)) / (2 * w)) * (2 * w))) := Int64.not_lt.mpr c_3
        refine lv_lload hx hb d_M_nearest_82 (lv_at hl 0 rfl) ?_
        refine lv_l2i hx hb d_M_nearest_84 rfl ?_
        exact z_iret hx hb hr hlocks (by simp only [pm_near, c_1, c_1', c_2, c_2', c_3, c_3', ↓reduceIte]) d_M_nearest_85
      · skip
        have c_3 : ¬ (((((2 * a) + ((2 * w) / 2)) / (2 * w)) * (2 * w)) ≤ ((2 * a) + ((2 * w) / 2))) := fun h => c_3 ((lg_cmp_le _ _).mpr h)
        have c_3' : ((2 * a) + ((2 * w) / 2)) < ((((2 * a) + ((2 * w) / 2)) / (2 * w)) * (2 * w)) := Int64.not_le.mp c_3
        refine lv_lload hx hb d_M_nearest_75 (lv_at hl 0 rfl) ?_
        refine lv_lconst (v := 1) hx hb d_M_nearest_77 (by decide) ?_
        refine lv_lsub hx hb d_M_nearest_78 ?_
        refine lv_goto (tgt := 84) hx hb d_M_nearest_79 (by decide) ?_
        refine lv_l2i hx hb d_M_nearest_84 rfl ?_
        exact z_iret hx hb hr hlocks (by simp only [pm_near, c_1, c_1', c_2, c_2', c_3, c_3', ↓reduceIte]) d_M_nearest_85
    · skip
      have c_2 : ¬ (0 ≤ w) := fun h => c_2 ((lg_cmp_ge _ _).mpr h)
      have c_2' : w < 0 := Int64.not_le.mp c_2
      exact absurd c_2' c_1'
  · skip
    have c_1 : ¬ (0 ≤ w) := fun h => c_1 ((lg_cmp_ge _ _).mpr h)
    have c_1' : w < 0 := Int64.not_le.mp c_1
    refine lv_lconst (v := 0) hx hb d_M_nearest_6 (by decide) ?_
    refine lv_ldc2 hx hb hown (hts _ w_745) d_M_nearest_7 ?_
    refine lv_lload_n hx hb d_M_nearest_10 rfl (lv_at hl 0 rfl) ?_
    refine lv_lmul hx hb d_M_nearest_11 ?_
    refine lv_lsub hx hb d_M_nearest_12 ?_
    refine lv_goto (tgt := 21) hx hb d_M_nearest_13 (by decide) ?_
    refine lv_lstore (lv' := [(4, .long (0 - (2 * a))), (0, .long a), (2, .long w)]) hx hb d_M_nearest_21 hl (by decide) rfl (fun ls hl => ?_)
    refine lv_lload_n hx hb d_M_nearest_23 rfl (lv_at hl 2 rfl) ?_
    refine lv_lconst (v := 0) hx hb d_M_nearest_24 (by decide) ?_
    refine W.lcmp hx hb d_M_nearest_25 ?_
    refine lv_if_ge (tgt := 39) hx hb d_M_nearest_26 (by decide) (fun c_4 => ?_) (fun c_4 => ?_)
    · skip
      have c_4 : 0 ≤ w := (lg_cmp_ge _ _).mp c_4
      have c_4' : ¬ (w < 0) := Int64.not_lt.mpr c_4
      exact absurd c_1' c_4'
    · skip
      have c_4 : ¬ (0 ≤ w) := fun h => c_4 ((lg_cmp_ge _ _).mpr h)
      have c_4' : w < 0 := Int64.not_le.mp c_4
      refine lv_lconst (v := 0) hx hb d_M_nearest_29 (by decide) ?_
      refine lv_ldc2 hx hb hown (hts _ w_745) d_M_nearest_30 ?_
      refine lv_lload_n hx hb d_M_nearest_33 rfl (lv_at hl 2 rfl) ?_
      refine lv_lmul hx hb d_M_nearest_34 ?_
      refine lv_lsub hx hb d_M_nearest_35 ?_
      refine lv_goto (tgt := 44) hx hb d_M_nearest_36 (by decide) ?_
      refine lv_lstore (lv' := [(6, .long (0 - (2 * w))), (4, .long (0 - (2 * a))), (0, .long a), (2, .long w)]) hx hb d_M_nearest_44 hl (by decide) rfl (fun ls hl => ?_)
      refine lv_lload hx hb d_M_nearest_46 (lv_at hl 1 rfl) ?_
      refine lv_lload hx hb d_M_nearest_48 (lv_at hl 0 rfl) ?_
      refine lv_ldc2 hx hb hown (hts _ w_745) d_M_nearest_50 ?_
      refine lv_ldiv hx hb d_M_nearest_53 (by decide) ?_
      refine lv_ladd hx hb d_M_nearest_54 ?_
      refine lv_lstore (lv' := [(8, .long ((0 - (2 * a)) + ((0 - (2 * w)) / 2))), (6, .long (0 - (2 * w))), (4, .long (0 - (2 * a))), (0, .long a), (2, .long w)]) hx hb d_M_nearest_55 hl (by decide) rfl (fun ls hl => ?_)
      refine lv_lload hx hb d_M_nearest_57 (lv_at hl 0 rfl) ?_
      refine lv_lload hx hb d_M_nearest_59 (lv_at hl 1 rfl) ?_
      refine lv_ldiv hx hb d_M_nearest_61 (by simpa [c_1, c_1', c_4, c_4'] using hby) ?_
      refine lv_lstore (lv' := [(10, .long (((0 - (2 * a)) + ((0 - (2 * w)) / 2)) / (0 - (2 * w)))), (8, .long ((0 - (2 * a)) + ((0 - (2 * w)) / 2))), (6, .long (0 - (2 * w))), (4, .long (0 - (2 * a))), (0, .long a), (2, .long w)]) hx hb d_M_nearest_62 hl (by decide) rfl (fun ls hl => ?_)
      refine lv_lload hx hb d_M_nearest_64 (lv_at hl 0 rfl) ?_
      refine lv_lload hx hb d_M_nearest_66 (lv_at hl 2 rfl) ?_
      refine lv_lmul hx hb d_M_nearest_68 ?_
      refine lv_lload hx hb d_M_nearest_69 (lv_at hl 1 rfl) ?_
      refine W.lcmp hx hb d_M_nearest_71 ?_
      refine lv_if_le (tgt := 82) hx hb d_M_nearest_72 (by decide) (fun c_5 => ?_) (fun c_5 => ?_)
      · skip
        have c_5 : ((((0 - (2 * a)) + ((0 - (2 * w)) / 2)) / (0 - (2 * w))) * (0 - (2 * w))) ≤ ((0 - (2 * a)) + ((0 - (2 * w)) / 2)) := (lg_cmp_le _ _).mp c_5
        have c_5' : ¬ (((0 - (2 * a)) + ((0 - (2 * w)) / 2)) < ((((0 - (2 * a)) + ((0 - (2 * w)) / 2)) / (0 - (2 * w))) * (0 - (2 * w)))) := Int64.not_lt.mpr c_5
        refine lv_lload hx hb d_M_nearest_82 (lv_at hl 0 rfl) ?_
        refine lv_l2i hx hb d_M_nearest_84 rfl ?_
        exact z_iret hx hb hr hlocks (by simp only [pm_near, c_1, c_1', c_4, c_4', c_5, c_5', ↓reduceIte]) d_M_nearest_85
      · skip
        have c_5 : ¬ (((((0 - (2 * a)) + ((0 - (2 * w)) / 2)) / (0 - (2 * w))) * (0 - (2 * w))) ≤ ((0 - (2 * a)) + ((0 - (2 * w)) / 2))) := fun h => c_5 ((lg_cmp_le _ _).mpr h)
        have c_5' : ((0 - (2 * a)) + ((0 - (2 * w)) / 2)) < ((((0 - (2 * a)) + ((0 - (2 * w)) / 2)) / (0 - (2 * w))) * (0 - (2 * w))) := Int64.not_le.mp c_5
        refine lv_lload hx hb d_M_nearest_75 (lv_at hl 0 rfl) ?_
        refine lv_lconst (v := 1) hx hb d_M_nearest_77 (by decide) ?_
        refine lv_lsub hx hb d_M_nearest_78 ?_
        refine lv_goto (tgt := 84) hx hb d_M_nearest_79 (by decide) ?_
        refine lv_l2i hx hb d_M_nearest_84 rfl ?_
        exact z_iret hx hb hr hlocks (by simp only [pm_near, c_1, c_1', c_4, c_4', c_5, c_5', ↓reduceIte]) d_M_nearest_85
set_option maxRecDepth 100000 in
set_option maxHeartbeats 4000000 in
theorem c_M_forced (G : z_G s0 (dC, dI) cI cS) (E : Nat → Nat) (th : Int32) (mp ms mc mn mm : Nat) (gv : Nat → Nat → Int32) (p1 d1 : Int32) : Met l y_M_forced [Cond.code y_M_forced b_M_forced 6 (some .int)] ({ frames := 0, cells := 0, slots := 0, locals := 0 }) (z_Pc s0 [.ref (E 0), .int p1, .int d1] (fun H => z_Md (dC, dI) cI H E th mp ms mc mn mm gv)) (z_Qr (some (.int (pb_num (pm_f gv ms p1 d1))))) 0 0 z_no := by
  refine z_ofW (by decide +kernel) (Nat.le_of_ble_eq_true rfl) ?_
  intro p e s m below meth c hx hb hml hr hown hlocks hnm hW0 hB ls hl
  have hts := z_hts (args := [.ref (E 0), .int p1, .int d1].toArray) G.1 hW0
  have hN := z_nstW G.2.1 hW0
  have hK := va_K.moved hW0.alike G.2.2.1
  have hAI := arrOfT_moved hW0.alike G.2.2.2.1
  have hl : lv_has ls 6 [(0, .ref (E 0)), (1, .int p1), (2, .int d1)] := hl
  obtain ⟨⟨hE0, hGA⟩, hEi, ⟨hmp, hms, hmn, hmm, hmc⟩⟩ := id hB
  have loops : ∀ f : Nat, (∀ (i : Nat), ms - i < f → (i ≤ ms) → (pm_fo gv p1 d1 (ms - i) i none = pm_f gv ms p1 d1) → ∀ ls : Array Slot, lv_has ls 6 [(0, .ref (E 0)), (1, .int p1), (2, .int d1), (3, .int (-1)), (4, .int (nI i))] → W p l e ({ frames := 0, cells := 0, slots := 0, locals := 0 }) s m [.ref (E 0), .int p1, .int d1].toArray below meth c s.heap [] 0 0 (MQ below (z_Qr (some (.int (pb_num (pm_f gv ms p1 d1))))) [.ref (E 0), .int p1, .int d1].toArray s 0 0 z_no) (F0 m 5 ls [])) ∧ (∀ (i j : Nat), ms - i < f → (i ≤ ms) → (j < ms) → (pm_fo gv p1 d1 (ms - i) i (some j) = pm_f gv ms p1 d1) → ∀ ls : Array Slot, lv_has ls 6 [(0, .ref (E 0)), (1, .int p1), (2, .int d1), (3, .int (nI j)), (4, .int (nI i))] → W p l e ({ frames := 0, cells := 0, slots := 0, locals := 0 }) s m [.ref (E 0), .int p1, .int d1].toArray below meth c s.heap [] 0 0 (MQ below (z_Qr (some (.int (pb_num (pm_f gv ms p1 d1))))) [.ref (E 0), .int p1, .int d1].toArray s 0 0 z_no) (F0 m 5 ls [])) := by
    intro f
    induction f with
    | zero => exact ⟨fun _ h => absurd h (Nat.not_lt_zero _), fun _ _ h => absurd h (Nat.not_lt_zero _)⟩
    | succ f ih =>
      refine ⟨?_, ?_⟩
      · skip
        intro i hmu hi hres ls hl
        refine lv_iload hx hb d_M_forced_5 (lv_at hl 4 rfl) ?_
        refine lv_aload_n hx hb d_M_forced_7 rfl (lv_at hl 0 rfl) ?_
        refine va_get (D := (dC, dI)) (ci := 4) (v := .int (nI ms)) (C := R_M) (T := T_M) (N := 23) hx hb hts in_M hown hK hE0.P 0 rfl rfl 3 (by decide) (hts _ w_543) (fun _ h9 => h9) rfl d_M_forced_8 ?_
        refine lv_icmp_ge (tgt := 103) hx hb d_M_forced_11 (by decide) (fun c_101 => ?_) (fun c_101 => ?_)
        · skip
          have c_101 : ms ≤ i := (nI_leI (a := ms) (b := i) (by omega) (by omega)).mp c_101
          refine lv_iload_n hx hb d_M_forced_103 rfl (lv_at hl 3 rfl) ?_
          exact z_iret hx hb hr hlocks (by rw [show ms - i = 0 by omega] at hres; simp only [pm_fo] at hres; rw [← hres]; rfl) d_M_forced_104
        · skip
          have c_101 : ¬ (ms ≤ i) := fun h => c_101 ((nI_leI (a := ms) (b := i) (by omega) (by omega)).mpr h)
          refine lv_aload_n hx hb d_M_forced_14 rfl (lv_at hl 0 rfl) ?_
          refine va_get (D := (dC, dI)) (ci := 4) (v := .ref (E 2)) (C := R_M) (T := T_M) (N := 23) hx hb hts in_M hown hK hE0.P 0 rfl rfl 4 (by decide) (hts _ w_544) (fun _ h9 => h9) rfl d_M_forced_15 ?_
          refine lv_iload hx hb d_M_forced_18 (lv_at hl 4 rfl) ?_
          refine z_iald hx hb hAI (show z_A cI _ (E 2) 32 (gv 1) from hGA 1 (by omega)) (by omega) (by decide) d_M_forced_20 ?_
          refine lv_iload_n hx hb d_M_forced_21 rfl (lv_at hl 1 rfl) ?_
          refine lv_icmp_ne (tgt := 61) hx hb d_M_forced_22 (by decide) (fun c_102 => ?_) (fun c_102 => ?_)
          · skip
            refine lv_iconst (v := 0) hx hb d_M_forced_61 (by decide) ?_
            refine lv_istore (lv' := [(5, .int 0), (0, .ref (E 0)), (1, .int p1), (2, .int d1), (3, .int (-1)), (4, .int (nI i))]) hx hb d_M_forced_62 hl (by decide) rfl (fun ls hl => ?_)
            refine lv_iload hx hb d_M_forced_64 (lv_at hl 0 rfl) ?_
            refine lv_if_eq (tgt := 95) hx hb d_M_forced_66 (by decide) (fun c_103 => ?_) (fun c_103 => ?_)
            · skip
              refine lv_iload_n hx hb d_M_forced_95 rfl (lv_at hl 4 rfl) ?_
              refine lv_istore_n (lv' := [(3, .int (-1)), (5, .int 0), (0, .ref (E 0)), (1, .int p1), (2, .int d1), (4, .int (nI i))]) hx hb d_M_forced_96 rfl hl (by decide) rfl (fun ls hl => ?_)
              refine lv_iinc (v := nI (i + 1)) (lv' := [(4, .int (nI (i + 1))), (3, .int (-1)), (5, .int 0), (0, .ref (E 0)), (1, .int p1), (2, .int d1)]) hx hb d_M_forced_97 hl (k := 5) rfl (nI_1 i) (by decide) rfl (fun ls hl => ?_)
              refine lv_goto (tgt := 5) hx hb d_M_forced_100 (by decide) ?_
              exact ih.1 (i + 1) (by omega) (by omega) (by rw [show ms - i = (ms - (i + 1)) + 1 by omega] at hres; simpa [pm_fo, pm_nx, pm_h, c_101, c_102] using hres) ls (lv_sub hl [3, 4, 5, 1, 0] rfl)
            · skip
              exact absurd (by decide) c_103
          · skip
            refine lv_aload_n hx hb d_M_forced_25 rfl (lv_at hl 0 rfl) ?_
            refine va_get (D := (dC, dI)) (ci := 4) (v := .ref (E 8)) (C := R_M) (T := T_M) (N := 23) hx hb hts in_M hown hK hE0.P 0 rfl rfl 10 (by decide) (hts _ w_550) (fun _ h9 => h9) rfl d_M_forced_26 ?_
            refine lv_iload hx hb d_M_forced_29 (lv_at hl 4 rfl) ?_
            refine z_iald hx hb hAI (show z_A cI _ (E 8) 32 (gv 7) from hGA 7 (by omega)) (by omega) (by decide) d_M_forced_31 ?_
            refine lv_if_le (tgt := 61) hx hb d_M_forced_32 (by decide) (fun c_104 => ?_) (fun c_104 => ?_)
            · skip
              have c_104' : ¬ ((0 : Int32) < ((gv 7) i)) := Int32.not_lt.mpr c_104
              refine lv_iconst (v := 0) hx hb d_M_forced_61 (by decide) ?_
              refine lv_istore (lv' := [(5, .int 0), (0, .ref (E 0)), (1, .int p1), (2, .int d1), (3, .int (-1)), (4, .int (nI i))]) hx hb d_M_forced_62 hl (by decide) rfl (fun ls hl => ?_)
              refine lv_iload hx hb d_M_forced_64 (lv_at hl 0 rfl) ?_
              refine lv_if_eq (tgt := 95) hx hb d_M_forced_66 (by decide) (fun c_105 => ?_) (fun c_105 => ?_)
              · skip
                refine lv_iload_n hx hb d_M_forced_95 rfl (lv_at hl 4 rfl) ?_
                refine lv_istore_n (lv' := [(3, .int (-1)), (5, .int 0), (0, .ref (E 0)), (1, .int p1), (2, .int d1), (4, .int (nI i))]) hx hb d_M_forced_96 rfl hl (by decide) rfl (fun ls hl => ?_)
                refine lv_iinc (v := nI (i + 1)) (lv' := [(4, .int (nI (i + 1))), (3, .int (-1)), (5, .int 0), (0, .ref (E 0)), (1, .int p1), (2, .int d1)]) hx hb d_M_forced_97 hl (k := 5) rfl (nI_1 i) (by decide) rfl (fun ls hl => ?_)
                refine lv_goto (tgt := 5) hx hb d_M_forced_100 (by decide) ?_
                exact ih.1 (i + 1) (by omega) (by omega) (by rw [show ms - i = (ms - (i + 1)) + 1 by omega] at hres; simpa [pm_fo, pm_nx, pm_h, c_101, c_102, c_104, c_104'] using hres) ls (lv_sub hl [3, 4, 5, 1, 0] rfl)
              · skip
                exact absurd (by decide) c_105
            · skip
              have c_104' : (0 : Int32) < ((gv 7) i) := Int32.not_le.mp c_104
              refine lv_aload_n hx hb d_M_forced_35 rfl (lv_at hl 0 rfl) ?_
              refine va_get (D := (dC, dI)) (ci := 4) (v := .ref (E 3)) (C := R_M) (T := T_M) (N := 23) hx hb hts in_M hown hK hE0.P 0 rfl rfl 5 (by decide) (hts _ w_545) (fun _ h9 => h9) rfl d_M_forced_36 ?_
              refine lv_iload hx hb d_M_forced_39 (lv_at hl 4 rfl) ?_
              refine z_iald hx hb hAI (show z_A cI _ (E 3) 32 (gv 2) from hGA 2 (by omega)) (by omega) (by decide) d_M_forced_41 ?_
              refine lv_iload_n hx hb d_M_forced_42 rfl (lv_at hl 2 rfl) ?_
              refine lv_icmp_gt (tgt := 61) hx hb d_M_forced_43 (by decide) (fun c_106 => ?_) (fun c_106 => ?_)
              · skip
                have c_106' : ¬ (((gv 2) i) ≤ d1) := Int32.not_le.mpr c_106
                refine lv_iconst (v := 0) hx hb d_M_forced_61 (by decide) ?_
                refine lv_istore (lv' := [(5, .int 0), (0, .ref (E 0)), (1, .int p1), (2, .int d1), (3, .int (-1)), (4, .int (nI i))]) hx hb d_M_forced_62 hl (by decide) rfl (fun ls hl => ?_)
                refine lv_iload hx hb d_M_forced_64 (lv_at hl 0 rfl) ?_
                refine lv_if_eq (tgt := 95) hx hb d_M_forced_66 (by decide) (fun c_107 => ?_) (fun c_107 => ?_)
                · skip
                  refine lv_iload_n hx hb d_M_forced_95 rfl (lv_at hl 4 rfl) ?_
                  refine lv_istore_n (lv' := [(3, .int (-1)), (5, .int 0), (0, .ref (E 0)), (1, .int p1), (2, .int d1), (4, .int (nI i))]) hx hb d_M_forced_96 rfl hl (by decide) rfl (fun ls hl => ?_)
                  refine lv_iinc (v := nI (i + 1)) (lv' := [(4, .int (nI (i + 1))), (3, .int (-1)), (5, .int 0), (0, .ref (E 0)), (1, .int p1), (2, .int d1)]) hx hb d_M_forced_97 hl (k := 5) rfl (nI_1 i) (by decide) rfl (fun ls hl => ?_)
                  refine lv_goto (tgt := 5) hx hb d_M_forced_100 (by decide) ?_
                  exact ih.1 (i + 1) (by omega) (by omega) (by rw [show ms - i = (ms - (i + 1)) + 1 by omega] at hres; simpa [pm_fo, pm_nx, pm_h, c_101, c_102, c_104, c_104', c_106, c_106'] using hres) ls (lv_sub hl [3, 4, 5, 1, 0] rfl)
                · skip
                  exact absurd (by decide) c_107
              · skip
                have c_106' : ((gv 2) i) ≤ d1 := Int32.not_lt.mp c_106
                refine lv_iload_n hx hb d_M_forced_46 rfl (lv_at hl 2 rfl) ?_
                refine lv_aload_n hx hb d_M_forced_47 rfl (lv_at hl 0 rfl) ?_
                refine va_get (D := (dC, dI)) (ci := 4) (v := .ref (E 4)) (C := R_M) (T := T_M) (N := 23) hx hb hts in_M hown hK hE0.P 0 rfl rfl 6 (by decide) (hts _ w_546) (fun _ h9 => h9) rfl d_M_forced_48 ?_
                refine lv_iload hx hb d_M_forced_51 (lv_at hl 4 rfl) ?_
                refine z_iald hx hb hAI (show z_A cI _ (E 4) 32 (gv 3) from hGA 3 (by omega)) (by omega) (by decide) d_M_forced_53 ?_
                refine lv_icmp_gt (tgt := 61) hx hb d_M_forced_54 (by decide) (fun c_108 => ?_) (fun c_108 => ?_)
                · skip
                  have c_108' : ¬ (d1 ≤ ((gv 3) i)) := Int32.not_le.mpr c_108
                  refine lv_iconst (v := 0) hx hb d_M_forced_61 (by decide) ?_
                  refine lv_istore (lv' := [(5, .int 0), (0, .ref (E 0)), (1, .int p1), (2, .int d1), (3, .int (-1)), (4, .int (nI i))]) hx hb d_M_forced_62 hl (by decide) rfl (fun ls hl => ?_)
                  refine lv_iload hx hb d_M_forced_64 (lv_at hl 0 rfl) ?_
                  refine lv_if_eq (tgt := 95) hx hb d_M_forced_66 (by decide) (fun c_109 => ?_) (fun c_109 => ?_)
                  · skip
                    refine lv_iload_n hx hb d_M_forced_95 rfl (lv_at hl 4 rfl) ?_
                    refine lv_istore_n (lv' := [(3, .int (-1)), (5, .int 0), (0, .ref (E 0)), (1, .int p1), (2, .int d1), (4, .int (nI i))]) hx hb d_M_forced_96 rfl hl (by decide) rfl (fun ls hl => ?_)
                    refine lv_iinc (v := nI (i + 1)) (lv' := [(4, .int (nI (i + 1))), (3, .int (-1)), (5, .int 0), (0, .ref (E 0)), (1, .int p1), (2, .int d1)]) hx hb d_M_forced_97 hl (k := 5) rfl (nI_1 i) (by decide) rfl (fun ls hl => ?_)
                    refine lv_goto (tgt := 5) hx hb d_M_forced_100 (by decide) ?_
                    exact ih.1 (i + 1) (by omega) (by omega) (by rw [show ms - i = (ms - (i + 1)) + 1 by omega] at hres; simpa [pm_fo, pm_nx, pm_h, c_101, c_102, c_104, c_104', c_106, c_106', c_108, c_108'] using hres) ls (lv_sub hl [3, 4, 5, 1, 0] rfl)
                  · skip
                    exact absurd (by decide) c_109
                · skip
                  have c_108' : d1 ≤ ((gv 3) i) := Int32.not_lt.mp c_108
                  refine lv_iconst (v := 1) hx hb d_M_forced_57 (by decide) ?_
                  refine lv_goto (tgt := 62) hx hb d_M_forced_58 (by decide) ?_
                  refine lv_istore (lv' := [(5, .int 1), (0, .ref (E 0)), (1, .int p1), (2, .int d1), (3, .int (-1)), (4, .int (nI i))]) hx hb d_M_forced_62 hl (by decide) rfl (fun ls hl => ?_)
                  refine lv_iload hx hb d_M_forced_64 (lv_at hl 0 rfl) ?_
                  refine lv_if_eq (tgt := 95) hx hb d_M_forced_66 (by decide) (fun c_110 => ?_) (fun c_110 => ?_)
                  · skip
                    exact absurd c_110 (by decide)
                  · skip
                    refine lv_iload_n hx hb d_M_forced_69 rfl (lv_at hl 4 rfl) ?_
                    refine lv_iconst (v := (-1)) hx hb d_M_forced_70 (by decide) ?_
                    refine lv_icmp_eq (tgt := 90) hx hb d_M_forced_71 (by decide) (fun c_111 => ?_) (fun c_111 => ?_)
                    · skip
                      refine lv_iload hx hb d_M_forced_90 (lv_at hl 5 rfl) ?_
                      refine lv_goto (tgt := 96) hx hb d_M_forced_92 (by decide) ?_
                      refine lv_istore_n (lv' := [(3, .int (nI i)), (5, .int 1), (0, .ref (E 0)), (1, .int p1), (2, .int d1), (4, .int (nI i))]) hx hb d_M_forced_96 rfl hl (by decide) rfl (fun ls hl => ?_)
                      refine lv_iinc (v := nI (i + 1)) (lv' := [(4, .int (nI (i + 1))), (3, .int (nI i)), (5, .int 1), (0, .ref (E 0)), (1, .int p1), (2, .int d1)]) hx hb d_M_forced_97 hl (k := 5) rfl (nI_1 i) (by decide) rfl (fun ls hl => ?_)
                      refine lv_goto (tgt := 5) hx hb d_M_forced_100 (by decide) ?_
                      exact ih.2 (i + 1) i (by omega) (by omega) (by omega) (by rw [show ms - i = (ms - (i + 1)) + 1 by omega] at hres; simpa [pm_fo, pm_nx, pm_h, c_101, c_102, c_104, c_104', c_106, c_106', c_108, c_108'] using hres) ls (lv_sub hl [3, 4, 5, 1, 0] rfl)
                    · skip
                      exact absurd (by decide) c_111
      · skip
        intro i j hmu hi hj hres ls hl
        refine lv_iload hx hb d_M_forced_5 (lv_at hl 4 rfl) ?_
        refine lv_aload_n hx hb d_M_forced_7 rfl (lv_at hl 0 rfl) ?_
        refine va_get (D := (dC, dI)) (ci := 4) (v := .int (nI ms)) (C := R_M) (T := T_M) (N := 23) hx hb hts in_M hown hK hE0.P 0 rfl rfl 3 (by decide) (hts _ w_543) (fun _ h9 => h9) rfl d_M_forced_8 ?_
        refine lv_icmp_ge (tgt := 103) hx hb d_M_forced_11 (by decide) (fun c_201 => ?_) (fun c_201 => ?_)
        · skip
          have c_201 : ms ≤ i := (nI_leI (a := ms) (b := i) (by omega) (by omega)).mp c_201
          refine lv_iload_n hx hb d_M_forced_103 rfl (lv_at hl 3 rfl) ?_
          exact z_iret hx hb hr hlocks (by rw [show ms - i = 0 by omega] at hres; simp only [pm_fo] at hres; rw [← hres]; rfl) d_M_forced_104
        · skip
          have c_201 : ¬ (ms ≤ i) := fun h => c_201 ((nI_leI (a := ms) (b := i) (by omega) (by omega)).mpr h)
          refine lv_aload_n hx hb d_M_forced_14 rfl (lv_at hl 0 rfl) ?_
          refine va_get (D := (dC, dI)) (ci := 4) (v := .ref (E 2)) (C := R_M) (T := T_M) (N := 23) hx hb hts in_M hown hK hE0.P 0 rfl rfl 4 (by decide) (hts _ w_544) (fun _ h9 => h9) rfl d_M_forced_15 ?_
          refine lv_iload hx hb d_M_forced_18 (lv_at hl 4 rfl) ?_
          refine z_iald hx hb hAI (show z_A cI _ (E 2) 32 (gv 1) from hGA 1 (by omega)) (by omega) (by decide) d_M_forced_20 ?_
          refine lv_iload_n hx hb d_M_forced_21 rfl (lv_at hl 1 rfl) ?_
          refine lv_icmp_ne (tgt := 61) hx hb d_M_forced_22 (by decide) (fun c_202 => ?_) (fun c_202 => ?_)
          · skip
            refine lv_iconst (v := 0) hx hb d_M_forced_61 (by decide) ?_
            refine lv_istore (lv' := [(5, .int 0), (0, .ref (E 0)), (1, .int p1), (2, .int d1), (3, .int (nI j)), (4, .int (nI i))]) hx hb d_M_forced_62 hl (by decide) rfl (fun ls hl => ?_)
            refine lv_iload hx hb d_M_forced_64 (lv_at hl 0 rfl) ?_
            refine lv_if_eq (tgt := 95) hx hb d_M_forced_66 (by decide) (fun c_203 => ?_) (fun c_203 => ?_)
            · skip
              refine lv_iload_n hx hb d_M_forced_95 rfl (lv_at hl 4 rfl) ?_
              refine lv_istore_n (lv' := [(3, .int (nI j)), (5, .int 0), (0, .ref (E 0)), (1, .int p1), (2, .int d1), (4, .int (nI i))]) hx hb d_M_forced_96 rfl hl (by decide) rfl (fun ls hl => ?_)
              refine lv_iinc (v := nI (i + 1)) (lv' := [(4, .int (nI (i + 1))), (3, .int (nI j)), (5, .int 0), (0, .ref (E 0)), (1, .int p1), (2, .int d1)]) hx hb d_M_forced_97 hl (k := 5) rfl (nI_1 i) (by decide) rfl (fun ls hl => ?_)
              refine lv_goto (tgt := 5) hx hb d_M_forced_100 (by decide) ?_
              exact ih.2 (i + 1) j (by omega) (by omega) (by omega) (by rw [show ms - i = (ms - (i + 1)) + 1 by omega] at hres; simpa [pm_fo, pm_nx, pm_h, c_201, c_202] using hres) ls (lv_sub hl [3, 4, 5, 1, 0] rfl)
            · skip
              exact absurd (by decide) c_203
          · skip
            refine lv_aload_n hx hb d_M_forced_25 rfl (lv_at hl 0 rfl) ?_
            refine va_get (D := (dC, dI)) (ci := 4) (v := .ref (E 8)) (C := R_M) (T := T_M) (N := 23) hx hb hts in_M hown hK hE0.P 0 rfl rfl 10 (by decide) (hts _ w_550) (fun _ h9 => h9) rfl d_M_forced_26 ?_
            refine lv_iload hx hb d_M_forced_29 (lv_at hl 4 rfl) ?_
            refine z_iald hx hb hAI (show z_A cI _ (E 8) 32 (gv 7) from hGA 7 (by omega)) (by omega) (by decide) d_M_forced_31 ?_
            refine lv_if_le (tgt := 61) hx hb d_M_forced_32 (by decide) (fun c_204 => ?_) (fun c_204 => ?_)
            · skip
              have c_204' : ¬ ((0 : Int32) < ((gv 7) i)) := Int32.not_lt.mpr c_204
              refine lv_iconst (v := 0) hx hb d_M_forced_61 (by decide) ?_
              refine lv_istore (lv' := [(5, .int 0), (0, .ref (E 0)), (1, .int p1), (2, .int d1), (3, .int (nI j)), (4, .int (nI i))]) hx hb d_M_forced_62 hl (by decide) rfl (fun ls hl => ?_)
              refine lv_iload hx hb d_M_forced_64 (lv_at hl 0 rfl) ?_
              refine lv_if_eq (tgt := 95) hx hb d_M_forced_66 (by decide) (fun c_205 => ?_) (fun c_205 => ?_)
              · skip
                refine lv_iload_n hx hb d_M_forced_95 rfl (lv_at hl 4 rfl) ?_
                refine lv_istore_n (lv' := [(3, .int (nI j)), (5, .int 0), (0, .ref (E 0)), (1, .int p1), (2, .int d1), (4, .int (nI i))]) hx hb d_M_forced_96 rfl hl (by decide) rfl (fun ls hl => ?_)
                refine lv_iinc (v := nI (i + 1)) (lv' := [(4, .int (nI (i + 1))), (3, .int (nI j)), (5, .int 0), (0, .ref (E 0)), (1, .int p1), (2, .int d1)]) hx hb d_M_forced_97 hl (k := 5) rfl (nI_1 i) (by decide) rfl (fun ls hl => ?_)
                refine lv_goto (tgt := 5) hx hb d_M_forced_100 (by decide) ?_
                exact ih.2 (i + 1) j (by omega) (by omega) (by omega) (by rw [show ms - i = (ms - (i + 1)) + 1 by omega] at hres; simpa [pm_fo, pm_nx, pm_h, c_201, c_202, c_204, c_204'] using hres) ls (lv_sub hl [3, 4, 5, 1, 0] rfl)
              · skip
                exact absurd (by decide) c_205
            · skip
              have c_204' : (0 : Int32) < ((gv 7) i) := Int32.not_le.mp c_204
              refine lv_aload_n hx hb d_M_forced_35 rfl (lv_at hl 0 rfl) ?_
              refine va_get (D := (dC, dI)) (ci := 4) (v := .ref (E 3)) (C := R_M) (T := T_M) (N := 23) hx hb hts in_M hown hK hE0.P 0 rfl rfl 5 (by decide) (hts _ w_545) (fun _ h9 => h9) rfl d_M_forced_36 ?_
              refine lv_iload hx hb d_M_forced_39 (lv_at hl 4 rfl) ?_
              refine z_iald hx hb hAI (show z_A cI _ (E 3) 32 (gv 2) from hGA 2 (by omega)) (by omega) (by decide) d_M_forced_41 ?_
              refine lv_iload_n hx hb d_M_forced_42 rfl (lv_at hl 2 rfl) ?_
              refine lv_icmp_gt (tgt := 61) hx hb d_M_forced_43 (by decide) (fun c_206 => ?_) (fun c_206 => ?_)
              · skip
                have c_206' : ¬ (((gv 2) i) ≤ d1) := Int32.not_le.mpr c_206
                refine lv_iconst (v := 0) hx hb d_M_forced_61 (by decide) ?_
                refine lv_istore (lv' := [(5, .int 0), (0, .ref (E 0)), (1, .int p1), (2, .int d1), (3, .int (nI j)), (4, .int (nI i))]) hx hb d_M_forced_62 hl (by decide) rfl (fun ls hl => ?_)
                refine lv_iload hx hb d_M_forced_64 (lv_at hl 0 rfl) ?_
                refine lv_if_eq (tgt := 95) hx hb d_M_forced_66 (by decide) (fun c_207 => ?_) (fun c_207 => ?_)
                · skip
                  refine lv_iload_n hx hb d_M_forced_95 rfl (lv_at hl 4 rfl) ?_
                  refine lv_istore_n (lv' := [(3, .int (nI j)), (5, .int 0), (0, .ref (E 0)), (1, .int p1), (2, .int d1), (4, .int (nI i))]) hx hb d_M_forced_96 rfl hl (by decide) rfl (fun ls hl => ?_)
                  refine lv_iinc (v := nI (i + 1)) (lv' := [(4, .int (nI (i + 1))), (3, .int (nI j)), (5, .int 0), (0, .ref (E 0)), (1, .int p1), (2, .int d1)]) hx hb d_M_forced_97 hl (k := 5) rfl (nI_1 i) (by decide) rfl (fun ls hl => ?_)
                  refine lv_goto (tgt := 5) hx hb d_M_forced_100 (by decide) ?_
                  exact ih.2 (i + 1) j (by omega) (by omega) (by omega) (by rw [show ms - i = (ms - (i + 1)) + 1 by omega] at hres; simpa [pm_fo, pm_nx, pm_h, c_201, c_202, c_204, c_204', c_206, c_206'] using hres) ls (lv_sub hl [3, 4, 5, 1, 0] rfl)
                · skip
                  exact absurd (by decide) c_207
              · skip
                have c_206' : ((gv 2) i) ≤ d1 := Int32.not_lt.mp c_206
                refine lv_iload_n hx hb d_M_forced_46 rfl (lv_at hl 2 rfl) ?_
                refine lv_aload_n hx hb d_M_forced_47 rfl (lv_at hl 0 rfl) ?_
                refine va_get (D := (dC, dI)) (ci := 4) (v := .ref (E 4)) (C := R_M) (T := T_M) (N := 23) hx hb hts in_M hown hK hE0.P 0 rfl rfl 6 (by decide) (hts _ w_546) (fun _ h9 => h9) rfl d_M_forced_48 ?_
                refine lv_iload hx hb d_M_forced_51 (lv_at hl 4 rfl) ?_
                refine z_iald hx hb hAI (show z_A cI _ (E 4) 32 (gv 3) from hGA 3 (by omega)) (by omega) (by decide) d_M_forced_53 ?_
                refine lv_icmp_gt (tgt := 61) hx hb d_M_forced_54 (by decide) (fun c_208 => ?_) (fun c_208 => ?_)
                · skip
                  have c_208' : ¬ (d1 ≤ ((gv 3) i)) := Int32.not_le.mpr c_208
                  refine lv_iconst (v := 0) hx hb d_M_forced_61 (by decide) ?_
                  refine lv_istore (lv' := [(5, .int 0), (0, .ref (E 0)), (1, .int p1), (2, .int d1), (3, .int (nI j)), (4, .int (nI i))]) hx hb d_M_forced_62 hl (by decide) rfl (fun ls hl => ?_)
                  refine lv_iload hx hb d_M_forced_64 (lv_at hl 0 rfl) ?_
                  refine lv_if_eq (tgt := 95) hx hb d_M_forced_66 (by decide) (fun c_209 => ?_) (fun c_209 => ?_)
                  · skip
                    refine lv_iload_n hx hb d_M_forced_95 rfl (lv_at hl 4 rfl) ?_
                    refine lv_istore_n (lv' := [(3, .int (nI j)), (5, .int 0), (0, .ref (E 0)), (1, .int p1), (2, .int d1), (4, .int (nI i))]) hx hb d_M_forced_96 rfl hl (by decide) rfl (fun ls hl => ?_)
                    refine lv_iinc (v := nI (i + 1)) (lv' := [(4, .int (nI (i + 1))), (3, .int (nI j)), (5, .int 0), (0, .ref (E 0)), (1, .int p1), (2, .int d1)]) hx hb d_M_forced_97 hl (k := 5) rfl (nI_1 i) (by decide) rfl (fun ls hl => ?_)
                    refine lv_goto (tgt := 5) hx hb d_M_forced_100 (by decide) ?_
                    exact ih.2 (i + 1) j (by omega) (by omega) (by omega) (by rw [show ms - i = (ms - (i + 1)) + 1 by omega] at hres; simpa [pm_fo, pm_nx, pm_h, c_201, c_202, c_204, c_204', c_206, c_206', c_208, c_208'] using hres) ls (lv_sub hl [3, 4, 5, 1, 0] rfl)
                  · skip
                    exact absurd (by decide) c_209
                · skip
                  have c_208' : d1 ≤ ((gv 3) i) := Int32.not_lt.mp c_208
                  refine lv_iconst (v := 1) hx hb d_M_forced_57 (by decide) ?_
                  refine lv_goto (tgt := 62) hx hb d_M_forced_58 (by decide) ?_
                  refine lv_istore (lv' := [(5, .int 1), (0, .ref (E 0)), (1, .int p1), (2, .int d1), (3, .int (nI j)), (4, .int (nI i))]) hx hb d_M_forced_62 hl (by decide) rfl (fun ls hl => ?_)
                  refine lv_iload hx hb d_M_forced_64 (lv_at hl 0 rfl) ?_
                  refine lv_if_eq (tgt := 95) hx hb d_M_forced_66 (by decide) (fun c_210 => ?_) (fun c_210 => ?_)
                  · skip
                    exact absurd c_210 (by decide)
                  · skip
                    refine lv_iload_n hx hb d_M_forced_69 rfl (lv_at hl 4 rfl) ?_
                    refine lv_iconst (v := (-1)) hx hb d_M_forced_70 (by decide) ?_
                    refine lv_icmp_eq (tgt := 90) hx hb d_M_forced_71 (by decide) (fun c_211 => ?_) (fun c_211 => ?_)
                    · skip
                      exact absurd c_211 (z_ne1 (by omega))
                    · skip
                      refine lv_aload_n hx hb d_M_forced_74 rfl (lv_at hl 1 rfl) ?_
                      refine va_get (D := (dC, dI)) (ci := 4) (v := .ref (E 8)) (C := R_M) (T := T_M) (N := 23) hx hb hts in_M hown hK hE0.P 0 rfl rfl 10 (by decide) (hts _ w_550) (fun _ h9 => h9) rfl d_M_forced_75 ?_
                      refine lv_iload hx hb d_M_forced_78 (lv_at hl 5 rfl) ?_
                      refine z_iald hx hb hAI (show z_A cI _ (E 8) 32 (gv 7) from hGA 7 (by omega)) (by omega) (by decide) d_M_forced_80 ?_
                      refine lv_aload_n hx hb d_M_forced_81 rfl (lv_at hl 1 rfl) ?_
                      refine va_get (D := (dC, dI)) (ci := 4) (v := .ref (E 8)) (C := R_M) (T := T_M) (N := 23) hx hb hts in_M hown hK hE0.P 0 rfl rfl 10 (by decide) (hts _ w_550) (fun _ h9 => h9) rfl d_M_forced_82 ?_
                      refine lv_iload_n hx hb d_M_forced_85 rfl (lv_at hl 4 rfl) ?_
                      refine z_iald hx hb hAI (show z_A cI _ (E 8) 32 (gv 7) from hGA 7 (by omega)) (by omega) (by decide) d_M_forced_86 ?_
                      refine lv_icmp_le (tgt := 95) hx hb d_M_forced_87 (by decide) (fun c_212 => ?_) (fun c_212 => ?_)
                      · skip
                        have c_212' : ¬ (((gv 7) j) < ((gv 7) i)) := Int32.not_lt.mpr c_212
                        refine lv_iload_n hx hb d_M_forced_95 rfl (lv_at hl 4 rfl) ?_
                        refine lv_istore_n (lv' := [(3, .int (nI j)), (5, .int 1), (0, .ref (E 0)), (1, .int p1), (2, .int d1), (4, .int (nI i))]) hx hb d_M_forced_96 rfl hl (by decide) rfl (fun ls hl => ?_)
                        refine lv_iinc (v := nI (i + 1)) (lv' := [(4, .int (nI (i + 1))), (3, .int (nI j)), (5, .int 1), (0, .ref (E 0)), (1, .int p1), (2, .int d1)]) hx hb d_M_forced_97 hl (k := 5) rfl (nI_1 i) (by decide) rfl (fun ls hl => ?_)
                        refine lv_goto (tgt := 5) hx hb d_M_forced_100 (by decide) ?_
                        exact ih.2 (i + 1) j (by omega) (by omega) (by omega) (by rw [show ms - i = (ms - (i + 1)) + 1 by omega] at hres; simpa [pm_fo, pm_nx, pm_h, c_201, c_202, c_204, c_204', c_206, c_206', c_208, c_208', c_211, c_212, c_212'] using hres) ls (lv_sub hl [3, 4, 5, 1, 0] rfl)
                      · skip
                        have c_212' : ((gv 7) j) < ((gv 7) i) := Int32.not_le.mp c_212
                        refine lv_iload hx hb d_M_forced_90 (lv_at hl 5 rfl) ?_
                        refine lv_goto (tgt := 96) hx hb d_M_forced_92 (by decide) ?_
                        refine lv_istore_n (lv' := [(3, .int (nI i)), (5, .int 1), (0, .ref (E 0)), (1, .int p1), (2, .int d1), (4, .int (nI i))]) hx hb d_M_forced_96 rfl hl (by decide) rfl (fun ls hl => ?_)
                        refine lv_iinc (v := nI (i + 1)) (lv' := [(4, .int (nI (i + 1))), (3, .int (nI i)), (5, .int 1), (0, .ref (E 0)), (1, .int p1), (2, .int d1)]) hx hb d_M_forced_97 hl (k := 5) rfl (nI_1 i) (by decide) rfl (fun ls hl => ?_)
                        refine lv_goto (tgt := 5) hx hb d_M_forced_100 (by decide) ?_
                        exact ih.2 (i + 1) i (by omega) (by omega) (by omega) (by rw [show ms - i = (ms - (i + 1)) + 1 by omega] at hres; simpa [pm_fo, pm_nx, pm_h, c_201, c_202, c_204, c_204', c_206, c_206', c_208, c_208', c_211, c_212, c_212'] using hres) ls (lv_sub hl [3, 4, 5, 1, 0] rfl)
  refine lv_iconst (v := (-1)) hx hb d_M_forced_0 (by decide) ?_
  refine lv_istore_n (lv' := [(3, .int (-1)), (0, .ref (E 0)), (1, .int p1), (2, .int d1)]) hx hb d_M_forced_1 rfl hl (by decide) rfl (fun ls hl => ?_)
  refine lv_iconst (v := 0) hx hb d_M_forced_2 (by decide) ?_
  refine lv_istore (lv' := [(4, .int 0), (3, .int (-1)), (0, .ref (E 0)), (1, .int p1), (2, .int d1)]) hx hb d_M_forced_3 hl (by decide) rfl (fun ls hl => ?_)
  exact (loops ((ms - 0) + 1)).1 0 (by omega) (by omega) (by simp) ls (lv_sub hl [2, 3, 4, 1, 0] rfl)
set_option maxRecDepth 100000 in
set_option maxHeartbeats 4000000 in
theorem c_M_isIn (G : z_G s0 (dC, dI) cI cS) (E : Nat → Nat) (th : Int32) (mp ms mc mn mm : Nat) (gv : Nat → Nat → Int32) (q n : Nat) (x y : Int32) (hq : q < 32) (hm : gv 4 q = nI n) (hn0 : 0 < n) (hn : n ≤ 12) : Met l y_M_isIn [Cond.code y_M_isIn b_M_isIn 10 (some .boolean)] ({ frames := 2, cells := 0, slots := 0, locals := 49 }) (z_Pc s0 [.ref (E 0), .int (nI q), .int x, .int y] (fun H => z_Md (dC, dI) cI H E th mp ms mc mn mm gv)) (z_Qr (some (.int (pi_b (pm_in (gv 5) (gv 6) n q x y))))) 0 0 z_no := by
  refine z_ofW (by decide +kernel) (Nat.le_of_ble_eq_true rfl) ?_
  intro p e s m below meth c hx hb hml hr hown hlocks hnm hW0 hB ls hl
  have hts := z_hts (args := [.ref (E 0), .int (nI q), .int x, .int y].toArray) G.1 hW0
  have hN := z_nstW G.2.1 hW0
  have hK := va_K.moved hW0.alike G.2.2.1
  have hAI := arrOfT_moved hW0.alike G.2.2.2.1
  have hl : lv_has ls 10 [(0, .ref (E 0)), (1, .int (nI q)), (2, .int x), (3, .int y)] := hl
  obtain ⟨⟨hE0, hGA⟩, hEi, ⟨hmp, hms, hmn, hmm, hmc⟩⟩ := id hB
  have haf : ∀ k, pm_af n q k < 384 := fun k => pm_af_lt hq hn0 hn
  have loops : ∀ f : Nat, (∀ (k : Nat) (b : Bool), n - k < f → (k ≤ n) → (pm_cont (gv 5) (gv 6) n q x y (n - k) k b = pm_in (gv 5) (gv 6) n q x y) → ∀ ls : Array Slot, lv_has ls 10 [(0, .ref (E 0)), (1, .int (nI q)), (2, .int x), (3, .int y), (4, .int (pi_b b)), (5, .int (nI k))] → W p l e ({ frames := 2, cells := 0, slots := 0, locals := 49 }) s m [.ref (E 0), .int (nI q), .int x, .int y].toArray below meth c s.heap [] 0 0 (MQ below (z_Qr (some (.int (pi_b (pm_in (gv 5) (gv 6) n q x y))))) [.ref (E 0), .int (nI q), .int x, .int y].toArray s 0 0 z_no) (F0 m 6 ls [])) := by
    intro f
    induction f with
    | zero => exact fun _ _ h => absurd h (Nat.not_lt_zero _)
    | succ f ih =>
      intro k b hmu hk hres ls hl
      have haf1 := haf k
      refine lv_iload hx hb d_M_isIn_6 (lv_at hl 5 rfl) ?_
      refine lv_aload_n hx hb d_M_isIn_8 rfl (lv_at hl 0 rfl) ?_
      refine va_get (D := (dC, dI)) (ci := 4) (v := .ref (E 5)) (C := R_M) (T := T_M) (N := 23) hx hb hts in_M hown hK hE0.P 0 rfl rfl 7 (by decide) (hts _ w_547) (fun _ h9 => h9) rfl d_M_isIn_9 ?_
      refine lv_iload_n hx hb d_M_isIn_12 rfl (lv_at hl 1 rfl) ?_
      refine z_iald hx hb hAI (show z_A cI _ (E 5) 32 (gv 4) from hGA 4 (by omega)) (by omega) (by decide) d_M_isIn_13 ?_
      refine z_topi (y := nI n) hm ?_
      refine lv_icmp_ge (tgt := 190) hx hb d_M_isIn_14 (by decide) (fun c_101 => ?_) (fun c_101 => ?_)
      · skip
        have c_101 : n ≤ k := (nI_leI (a := n) (b := k) (by omega) (by omega)).mp c_101
        refine lv_iload hx hb d_M_isIn_190 (lv_at hl 4 rfl) ?_
        exact z_zret hx hb hr hlocks (by rw [show n - k = 0 by omega] at hres; simp only [pm_cont] at hres; rw [hres]) d_M_isIn_192
      · skip
        have c_101 : ¬ (n ≤ k) := fun h => c_101 ((nI_leI (a := n) (b := k) (by omega) (by omega)).mpr h)
        refine lv_bipush (v := 12) hx hb d_M_isIn_17 (by decide) ?_
        refine lv_iload_n hx hb d_M_isIn_19 rfl (lv_at hl 1 rfl) ?_
        refine lv_imul hx hb d_M_isIn_20 ?_
        refine z_topi (y := nI (12 * q)) (pk_mul 12 q) ?_
        refine lv_iload hx hb d_M_isIn_21 (lv_at hl 5 rfl) ?_
        refine lv_iadd hx hb d_M_isIn_23 ?_
        refine z_topi (y := nI (12 * q + k)) (nI_add (12 * q) k) ?_
        refine lv_istore (lv' := [(6, .int (nI (12 * q + k))), (0, .ref (E 0)), (1, .int (nI q)), (2, .int x), (3, .int y), (4, .int (pi_b b)), (5, .int (nI k))]) hx hb d_M_isIn_24 hl (by decide) rfl (fun ls hl => ?_)
        refine lv_aload_n hx hb d_M_isIn_26 rfl (lv_at hl 1 rfl) ?_
        refine lv_iload_n hx hb d_M_isIn_27 rfl (lv_at hl 2 rfl) ?_
        refine lv_iload hx hb d_M_isIn_28 (lv_at hl 6 rfl) ?_
        refine z_rdV (n := 2) (C := R_M) (rest := []) ⟨hx, hb, hml, hown, hts⟩ hW0 (c_M_after G E th mp ms mc mn mm gv q k n (by omega) (by omega) hm hn0 hn) w_656 w_653 w_655 wp_22 w_4 (by decide +kernel) ⟨rfl, rfl, Nat.le_of_ble_eq_true rfl, Nat.le_of_ble_eq_true rfl⟩ (hE0.recv hK rfl) (hB) rfl rfl hl.1 (Nat.le_of_ble_eq_true rfl) d_M_isIn_30 ⟨Nat.zero_le _, Nat.zero_le _⟩ ?_
        refine lv_istore (lv' := [(7, .int (nI (pm_af n q k))), (6, .int (nI (12 * q + k))), (0, .ref (E 0)), (1, .int (nI q)), (2, .int x), (3, .int y), (4, .int (pi_b b)), (5, .int (nI k))]) hx hb d_M_isIn_33 hl (by decide) rfl (fun ls hl => ?_)
        refine lv_aload_n hx hb d_M_isIn_35 rfl (lv_at hl 2 rfl) ?_
        refine lv_iload hx hb d_M_isIn_36 (lv_at hl 1 rfl) ?_
        refine lv_iload hx hb d_M_isIn_38 (lv_at hl 0 rfl) ?_
        refine lv_iload_n hx hb d_M_isIn_40 rfl (lv_at hl 4 rfl) ?_
        refine lv_iload_n hx hb d_M_isIn_41 rfl (lv_at hl 5 rfl) ?_
        refine z_rdV (n := 4) (C := R_M) (rest := []) ⟨hx, hb, hml, hown, hts⟩ hW0 (c_M_isOn G E th mp ms mc mn mm gv (12 * q + k) (pm_af n q k) x y (by omega) (by omega)) w_660 w_657 w_659 wp_23 w_4 (by decide +kernel) ⟨rfl, rfl, Nat.le_of_ble_eq_true rfl, Nat.le_of_ble_eq_true rfl⟩ (hE0.recv hK rfl) (hB) rfl rfl hl.1 (Nat.le_of_ble_eq_true rfl) d_M_isIn_42 ⟨Nat.zero_le _, Nat.zero_le _⟩ ?_
        refine lv_if_eq (tgt := 50) hx hb d_M_isIn_45 (by decide) (fun c_102 => ?_) (fun c_102 => ?_)
        · skip
          have c_102 : (pm_on (gv 5) (gv 6) (12 * q + k) (pm_af n q k) x y) = false := pi_b_0.mp c_102
          refine lv_aload_n hx hb d_M_isIn_50 rfl (lv_at hl 2 rfl) ?_
          refine va_get (D := (dC, dI)) (ci := 4) (v := .ref (E 7)) (C := R_M) (T := T_M) (N := 23) hx hb hts in_M hown hK hE0.P 0 rfl rfl 9 (by decide) (hts _ w_549) (fun _ h9 => h9) rfl d_M_isIn_51 ?_
          refine lv_iload hx hb d_M_isIn_54 (lv_at hl 1 rfl) ?_
          refine z_iald hx hb hAI (show z_A cI _ (E 7) 384 (gv 6) from hGA 6 (by omega)) (by omega) (by decide) d_M_isIn_56 ?_
          refine lv_iload_n hx hb d_M_isIn_57 rfl (lv_at hl 5 rfl) ?_
          refine lv_icmp_le (tgt := 65) hx hb d_M_isIn_58 (by decide) (fun c_103 => ?_) (fun c_103 => ?_)
          · skip
            have c_103' : ¬ (y < ((gv 6) (12 * q + k))) := Int32.not_lt.mpr c_103
            refine lv_iconst (v := 0) hx hb d_M_isIn_65 (by decide) ?_
            refine lv_aload_n hx hb d_M_isIn_66 rfl (lv_at hl 2 rfl) ?_
            refine va_get (D := (dC, dI)) (ci := 4) (v := .ref (E 7)) (C := R_M) (T := T_M) (N := 23) hx hb hts in_M hown hK hE0.P 0 rfl rfl 9 (by decide) (hts _ w_549) (fun _ h9 => h9) rfl d_M_isIn_67 ?_
            refine lv_iload hx hb d_M_isIn_70 (lv_at hl 0 rfl) ?_
            refine z_iald hx hb hAI (show z_A cI _ (E 7) 384 (gv 6) from hGA 6 (by omega)) (by omega) (by decide) d_M_isIn_72 ?_
            refine lv_iload_n hx hb d_M_isIn_73 rfl (lv_at hl 5 rfl) ?_
            refine lv_icmp_le (tgt := 81) hx hb d_M_isIn_74 (by decide) (fun c_104 => ?_) (fun c_104 => ?_)
            · skip
              have c_104' : ¬ (y < ((gv 6) (pm_af n q k))) := Int32.not_lt.mpr c_104
              refine lv_iconst (v := 0) hx hb d_M_isIn_81 (by decide) ?_
              refine lv_icmp_eq (tgt := 89) hx hb d_M_isIn_82 (by decide) (fun c_105 => ?_) (fun c_105 => ?_)
              · skip
                refine lv_iconst (v := 0) hx hb d_M_isIn_89 (by decide) ?_
                refine lv_istore (lv' := [(8, .int 0), (7, .int (nI (pm_af n q k))), (6, .int (nI (12 * q + k))), (0, .ref (E 0)), (1, .int (nI q)), (2, .int x), (3, .int y), (4, .int (pi_b b)), (5, .int (nI k))]) hx hb d_M_isIn_90 hl (by decide) rfl (fun ls hl => ?_)
                refine lv_aload_n hx hb d_M_isIn_92 rfl (lv_at hl 3 rfl) ?_
                refine va_get (D := (dC, dI)) (ci := 4) (v := .ref (E 6)) (C := R_M) (T := T_M) (N := 23) hx hb hts in_M hown hK hE0.P 0 rfl rfl 8 (by decide) (hts _ w_548) (fun _ h9 => h9) rfl d_M_isIn_93 ?_
                refine lv_iload hx hb d_M_isIn_96 (lv_at hl 2 rfl) ?_
                refine z_iald hx hb hAI (show z_A cI _ (E 6) 384 (gv 5) from hGA 5 (by omega)) (by omega) (by decide) d_M_isIn_98 ?_
                refine lv_aload_n hx hb d_M_isIn_99 rfl (lv_at hl 3 rfl) ?_
                refine va_get (D := (dC, dI)) (ci := 4) (v := .ref (E 7)) (C := R_M) (T := T_M) (N := 23) hx hb hts in_M hown hK hE0.P 0 rfl rfl 9 (by decide) (hts _ w_549) (fun _ h9 => h9) rfl d_M_isIn_100 ?_
                refine lv_iload hx hb d_M_isIn_103 (lv_at hl 2 rfl) ?_
                refine z_iald hx hb hAI (show z_A cI _ (E 7) 384 (gv 6) from hGA 6 (by omega)) (by omega) (by decide) d_M_isIn_105 ?_
                refine lv_aload_n hx hb d_M_isIn_106 rfl (lv_at hl 3 rfl) ?_
                refine va_get (D := (dC, dI)) (ci := 4) (v := .ref (E 6)) (C := R_M) (T := T_M) (N := 23) hx hb hts in_M hown hK hE0.P 0 rfl rfl 8 (by decide) (hts _ w_548) (fun _ h9 => h9) rfl d_M_isIn_107 ?_
                refine lv_iload hx hb d_M_isIn_110 (lv_at hl 1 rfl) ?_
                refine z_iald hx hb hAI (show z_A cI _ (E 6) 384 (gv 5) from hGA 5 (by omega)) (by omega) (by decide) d_M_isIn_112 ?_
                refine lv_aload_n hx hb d_M_isIn_113 rfl (lv_at hl 3 rfl) ?_
                refine va_get (D := (dC, dI)) (ci := 4) (v := .ref (E 7)) (C := R_M) (T := T_M) (N := 23) hx hb hts in_M hown hK hE0.P 0 rfl rfl 9 (by decide) (hts _ w_549) (fun _ h9 => h9) rfl d_M_isIn_114 ?_
                refine lv_iload hx hb d_M_isIn_117 (lv_at hl 1 rfl) ?_
                refine z_iald hx hb hAI (show z_A cI _ (E 7) 384 (gv 6) from hGA 6 (by omega)) (by omega) (by decide) d_M_isIn_119 ?_
                refine lv_iload_n hx hb d_M_isIn_120 rfl (lv_at hl 5 rfl) ?_
                refine lv_iload_n hx hb d_M_isIn_121 rfl (lv_at hl 6 rfl) ?_
                refine z_rdS (n := 6) (rest := []) ⟨hx, hb, hml, hown, hts⟩ hW0 (c_M_side G ((gv 5) (12 * q + k)) ((gv 6) (12 * q + k)) ((gv 5) (pm_af n q k)) ((gv 6) (pm_af n q k)) x y) w_663 w_661 w_662 w_4 (by decide +kernel) ⟨rfl, rfl, Nat.le_of_ble_eq_true rfl, Nat.le_of_ble_eq_true rfl⟩ (trivial) rfl rfl hl.1 (Nat.le_of_ble_eq_true rfl) d_M_isIn_122 ⟨Nat.zero_le _, Nat.zero_le _⟩ ?_
                refine lv_istore (lv' := [(9, .int (pm_side ((gv 5) (12 * q + k)) ((gv 6) (12 * q + k)) ((gv 5) (pm_af n q k)) ((gv 6) (pm_af n q k)) x y)), (8, .int 0), (7, .int (nI (pm_af n q k))), (6, .int (nI (12 * q + k))), (0, .ref (E 0)), (1, .int (nI q)), (2, .int x), (3, .int y), (4, .int (pi_b b)), (5, .int (nI k))]) hx hb d_M_isIn_125 hl (by decide) rfl (fun ls hl => ?_)
                refine lv_iload hx hb d_M_isIn_127 (lv_at hl 1 rfl) ?_
                refine lv_if_eq (tgt := 180) hx hb d_M_isIn_129 (by decide) (fun c_106 => ?_) (fun c_106 => ?_)
                · skip
                  refine lv_iload hx hb d_M_isIn_180 (lv_at hl 8 rfl) ?_
                  refine lv_istore (lv' := [(4, .int (pi_b b)), (9, .int (pm_side ((gv 5) (12 * q + k)) ((gv 6) (12 * q + k)) ((gv 5) (pm_af n q k)) ((gv 6) (pm_af n q k)) x y)), (8, .int 0), (7, .int (nI (pm_af n q k))), (6, .int (nI (12 * q + k))), (0, .ref (E 0)), (1, .int (nI q)), (2, .int x), (3, .int y), (5, .int (nI k))]) hx hb d_M_isIn_182 hl (by decide) rfl (fun ls hl => ?_)
                  refine lv_iinc (v := nI (k + 1)) (lv' := [(5, .int (nI (k + 1))), (4, .int (pi_b b)), (9, .int (pm_side ((gv 5) (12 * q + k)) ((gv 6) (12 * q + k)) ((gv 5) (pm_af n q k)) ((gv 6) (pm_af n q k)) x y)), (8, .int 0), (7, .int (nI (pm_af n q k))), (6, .int (nI (12 * q + k))), (0, .ref (E 0)), (1, .int (nI q)), (2, .int x), (3, .int y)]) hx hb d_M_isIn_184 hl (k := 9) rfl (nI_1 k) (by decide) rfl (fun ls hl => ?_)
                  refine lv_goto (tgt := 6) hx hb d_M_isIn_187 (by decide) ?_
                  exact ih (k + 1) b (by omega) (by omega) (by rw [show n - k = (n - (k + 1)) + 1 by omega] at hres; simpa [pm_cont, pm_tog, c_101, c_102, c_103, c_103', c_104, c_104'] using hres) ls (lv_sub hl [6, 7, 8, 9, 1, 0] rfl)
                · skip
                  exact absurd (by decide) c_106
              · skip
                exact absurd (by decide) c_105
            · skip
              have c_104' : y < ((gv 6) (pm_af n q k)) := Int32.not_le.mp c_104
              refine lv_iconst (v := 1) hx hb d_M_isIn_77 (by decide) ?_
              refine lv_goto (tgt := 82) hx hb d_M_isIn_78 (by decide) ?_
              refine lv_icmp_eq (tgt := 89) hx hb d_M_isIn_82 (by decide) (fun c_107 => ?_) (fun c_107 => ?_)
              · skip
                exact absurd c_107 (by decide)
              · skip
                refine lv_iconst (v := 1) hx hb d_M_isIn_85 (by decide) ?_
                refine lv_goto (tgt := 90) hx hb d_M_isIn_86 (by decide) ?_
                refine lv_istore (lv' := [(8, .int 1), (7, .int (nI (pm_af n q k))), (6, .int (nI (12 * q + k))), (0, .ref (E 0)), (1, .int (nI q)), (2, .int x), (3, .int y), (4, .int (pi_b b)), (5, .int (nI k))]) hx hb d_M_isIn_90 hl (by decide) rfl (fun ls hl => ?_)
                refine lv_aload_n hx hb d_M_isIn_92 rfl (lv_at hl 3 rfl) ?_
                refine va_get (D := (dC, dI)) (ci := 4) (v := .ref (E 6)) (C := R_M) (T := T_M) (N := 23) hx hb hts in_M hown hK hE0.P 0 rfl rfl 8 (by decide) (hts _ w_548) (fun _ h9 => h9) rfl d_M_isIn_93 ?_
                refine lv_iload hx hb d_M_isIn_96 (lv_at hl 2 rfl) ?_
                refine z_iald hx hb hAI (show z_A cI _ (E 6) 384 (gv 5) from hGA 5 (by omega)) (by omega) (by decide) d_M_isIn_98 ?_
                refine lv_aload_n hx hb d_M_isIn_99 rfl (lv_at hl 3 rfl) ?_
                refine va_get (D := (dC, dI)) (ci := 4) (v := .ref (E 7)) (C := R_M) (T := T_M) (N := 23) hx hb hts in_M hown hK hE0.P 0 rfl rfl 9 (by decide) (hts _ w_549) (fun _ h9 => h9) rfl d_M_isIn_100 ?_
                refine lv_iload hx hb d_M_isIn_103 (lv_at hl 2 rfl) ?_
                refine z_iald hx hb hAI (show z_A cI _ (E 7) 384 (gv 6) from hGA 6 (by omega)) (by omega) (by decide) d_M_isIn_105 ?_
                refine lv_aload_n hx hb d_M_isIn_106 rfl (lv_at hl 3 rfl) ?_
                refine va_get (D := (dC, dI)) (ci := 4) (v := .ref (E 6)) (C := R_M) (T := T_M) (N := 23) hx hb hts in_M hown hK hE0.P 0 rfl rfl 8 (by decide) (hts _ w_548) (fun _ h9 => h9) rfl d_M_isIn_107 ?_
                refine lv_iload hx hb d_M_isIn_110 (lv_at hl 1 rfl) ?_
                refine z_iald hx hb hAI (show z_A cI _ (E 6) 384 (gv 5) from hGA 5 (by omega)) (by omega) (by decide) d_M_isIn_112 ?_
                refine lv_aload_n hx hb d_M_isIn_113 rfl (lv_at hl 3 rfl) ?_
                refine va_get (D := (dC, dI)) (ci := 4) (v := .ref (E 7)) (C := R_M) (T := T_M) (N := 23) hx hb hts in_M hown hK hE0.P 0 rfl rfl 9 (by decide) (hts _ w_549) (fun _ h9 => h9) rfl d_M_isIn_114 ?_
                refine lv_iload hx hb d_M_isIn_117 (lv_at hl 1 rfl) ?_
                refine z_iald hx hb hAI (show z_A cI _ (E 7) 384 (gv 6) from hGA 6 (by omega)) (by omega) (by decide) d_M_isIn_119 ?_
                refine lv_iload_n hx hb d_M_isIn_120 rfl (lv_at hl 5 rfl) ?_
                refine lv_iload_n hx hb d_M_isIn_121 rfl (lv_at hl 6 rfl) ?_
                refine z_rdS (n := 6) (rest := []) ⟨hx, hb, hml, hown, hts⟩ hW0 (c_M_side G ((gv 5) (12 * q + k)) ((gv 6) (12 * q + k)) ((gv 5) (pm_af n q k)) ((gv 6) (pm_af n q k)) x y) w_663 w_661 w_662 w_4 (by decide +kernel) ⟨rfl, rfl, Nat.le_of_ble_eq_true rfl, Nat.le_of_ble_eq_true rfl⟩ (trivial) rfl rfl hl.1 (Nat.le_of_ble_eq_true rfl) d_M_isIn_122 ⟨Nat.zero_le _, Nat.zero_le _⟩ ?_
                refine lv_istore (lv' := [(9, .int (pm_side ((gv 5) (12 * q + k)) ((gv 6) (12 * q + k)) ((gv 5) (pm_af n q k)) ((gv 6) (pm_af n q k)) x y)), (8, .int 1), (7, .int (nI (pm_af n q k))), (6, .int (nI (12 * q + k))), (0, .ref (E 0)), (1, .int (nI q)), (2, .int x), (3, .int y), (4, .int (pi_b b)), (5, .int (nI k))]) hx hb d_M_isIn_125 hl (by decide) rfl (fun ls hl => ?_)
                refine lv_iload hx hb d_M_isIn_127 (lv_at hl 1 rfl) ?_
                refine lv_if_eq (tgt := 180) hx hb d_M_isIn_129 (by decide) (fun c_108 => ?_) (fun c_108 => ?_)
                · skip
                  exact absurd c_108 (by decide)
                · skip
                  refine lv_aload_n hx hb d_M_isIn_132 rfl (lv_at hl 4 rfl) ?_
                  refine va_get (D := (dC, dI)) (ci := 4) (v := .ref (E 7)) (C := R_M) (T := T_M) (N := 23) hx hb hts in_M hown hK hE0.P 0 rfl rfl 9 (by decide) (hts _ w_549) (fun _ h9 => h9) rfl d_M_isIn_133 ?_
                  refine lv_iload hx hb d_M_isIn_136 (lv_at hl 2 rfl) ?_
                  refine z_iald hx hb hAI (show z_A cI _ (E 7) 384 (gv 6) from hGA 6 (by omega)) (by omega) (by decide) d_M_isIn_138 ?_
                  refine lv_aload_n hx hb d_M_isIn_139 rfl (lv_at hl 4 rfl) ?_
                  refine va_get (D := (dC, dI)) (ci := 4) (v := .ref (E 7)) (C := R_M) (T := T_M) (N := 23) hx hb hts in_M hown hK hE0.P 0 rfl rfl 9 (by decide) (hts _ w_549) (fun _ h9 => h9) rfl d_M_isIn_140 ?_
                  refine lv_iload hx hb d_M_isIn_143 (lv_at hl 3 rfl) ?_
                  refine z_iald hx hb hAI (show z_A cI _ (E 7) 384 (gv 6) from hGA 6 (by omega)) (by omega) (by decide) d_M_isIn_145 ?_
                  refine lv_icmp_le (tgt := 153) hx hb d_M_isIn_146 (by decide) (fun c_109 => ?_) (fun c_109 => ?_)
                  · skip
                    have c_109' : ¬ (((gv 6) (12 * q + k)) < ((gv 6) (pm_af n q k))) := Int32.not_lt.mpr c_109
                    refine lv_iconst (v := 0) hx hb d_M_isIn_153 (by decide) ?_
                    refine lv_iload hx hb d_M_isIn_154 (lv_at hl 0 rfl) ?_
                    refine lv_if_le (tgt := 163) hx hb d_M_isIn_156 (by decide) (fun c_110 => ?_) (fun c_110 => ?_)
                    · skip
                      have c_110' : ¬ ((0 : Int32) < (pm_side ((gv 5) (12 * q + k)) ((gv 6) (12 * q + k)) ((gv 5) (pm_af n q k)) ((gv 6) (pm_af n q k)) x y)) := Int32.not_lt.mpr c_110
                      refine lv_iconst (v := 0) hx hb d_M_isIn_163 (by decide) ?_
                      refine lv_icmp_ne (tgt := 180) hx hb d_M_isIn_164 (by decide) (fun c_111 => ?_) (fun c_111 => ?_)
                      · skip
                        exact absurd (by decide) c_111
                      · skip
                        refine lv_iload hx hb d_M_isIn_167 (lv_at hl 8 rfl) ?_
                        refine lv_if_ne (tgt := 176) hx hb d_M_isIn_169 (by decide) (fun c_112 => ?_) (fun c_112 => ?_)
                        · skip
                          have c_112 : b = true := pi_b_1.mp c_112
                          refine lv_iconst (v := 0) hx hb d_M_isIn_176 (by decide) ?_
                          refine lv_goto (tgt := 182) hx hb d_M_isIn_177 (by decide) ?_
                          refine lv_istore (lv' := [(4, .int 0), (9, .int (pm_side ((gv 5) (12 * q + k)) ((gv 6) (12 * q + k)) ((gv 5) (pm_af n q k)) ((gv 6) (pm_af n q k)) x y)), (8, .int 1), (7, .int (nI (pm_af n q k))), (6, .int (nI (12 * q + k))), (0, .ref (E 0)), (1, .int (nI q)), (2, .int x), (3, .int y), (5, .int (nI k))]) hx hb d_M_isIn_182 hl (by decide) rfl (fun ls hl => ?_)
                          refine lv_iinc (v := nI (k + 1)) (lv' := [(5, .int (nI (k + 1))), (4, .int 0), (9, .int (pm_side ((gv 5) (12 * q + k)) ((gv 6) (12 * q + k)) ((gv 5) (pm_af n q k)) ((gv 6) (pm_af n q k)) x y)), (8, .int 1), (7, .int (nI (pm_af n q k))), (6, .int (nI (12 * q + k))), (0, .ref (E 0)), (1, .int (nI q)), (2, .int x), (3, .int y)]) hx hb d_M_isIn_184 hl (k := 9) rfl (nI_1 k) (by decide) rfl (fun ls hl => ?_)
                          refine lv_goto (tgt := 6) hx hb d_M_isIn_187 (by decide) ?_
                          exact ih (k + 1) false (by omega) (by omega) (by rw [show n - k = (n - (k + 1)) + 1 by omega] at hres; simpa [pm_cont, pm_tog, c_101, c_102, c_103, c_103', c_104, c_104', c_109, c_109', c_110, c_110', c_112] using hres) ls (lv_sub hl [6, 7, 8, 9, 1, 0] rfl)
                        · skip
                          have c_112 : b = false := pi_b_0.mp c_112
                          refine lv_iconst (v := 1) hx hb d_M_isIn_172 (by decide) ?_
                          refine lv_goto (tgt := 182) hx hb d_M_isIn_173 (by decide) ?_
                          refine lv_istore (lv' := [(4, .int 1), (9, .int (pm_side ((gv 5) (12 * q + k)) ((gv 6) (12 * q + k)) ((gv 5) (pm_af n q k)) ((gv 6) (pm_af n q k)) x y)), (8, .int 1), (7, .int (nI (pm_af n q k))), (6, .int (nI (12 * q + k))), (0, .ref (E 0)), (1, .int (nI q)), (2, .int x), (3, .int y), (5, .int (nI k))]) hx hb d_M_isIn_182 hl (by decide) rfl (fun ls hl => ?_)
                          refine lv_iinc (v := nI (k + 1)) (lv' := [(5, .int (nI (k + 1))), (4, .int 1), (9, .int (pm_side ((gv 5) (12 * q + k)) ((gv 6) (12 * q + k)) ((gv 5) (pm_af n q k)) ((gv 6) (pm_af n q k)) x y)), (8, .int 1), (7, .int (nI (pm_af n q k))), (6, .int (nI (12 * q + k))), (0, .ref (E 0)), (1, .int (nI q)), (2, .int x), (3, .int y)]) hx hb d_M_isIn_184 hl (k := 9) rfl (nI_1 k) (by decide) rfl (fun ls hl => ?_)
                          refine lv_goto (tgt := 6) hx hb d_M_isIn_187 (by decide) ?_
                          exact ih (k + 1) true (by omega) (by omega) (by rw [show n - k = (n - (k + 1)) + 1 by omega] at hres; simpa [pm_cont, pm_tog, c_101, c_102, c_103, c_103', c_104, c_104', c_109, c_109', c_110, c_110', c_112] using hres) ls (lv_sub hl [6, 7, 8, 9, 1, 0] rfl)
                    · skip
                      have c_110' : (0 : Int32) < (pm_side ((gv 5) (12 * q + k)) ((gv 6) (12 * q + k)) ((gv 5) (pm_af n q k)) ((gv 6) (pm_af n q k)) x y) := Int32.not_le.mp c_110
                      refine lv_iconst (v := 1) hx hb d_M_isIn_159 (by decide) ?_
                      refine lv_goto (tgt := 164) hx hb d_M_isIn_160 (by decide) ?_
                      refine lv_icmp_ne (tgt := 180) hx hb d_M_isIn_164 (by decide) (fun c_113 => ?_) (fun c_113 => ?_)
                      · skip
                        refine lv_iload hx hb d_M_isIn_180 (lv_at hl 8 rfl) ?_
                        refine lv_istore (lv' := [(4, .int (pi_b b)), (9, .int (pm_side ((gv 5) (12 * q + k)) ((gv 6) (12 * q + k)) ((gv 5) (pm_af n q k)) ((gv 6) (pm_af n q k)) x y)), (8, .int 1), (7, .int (nI (pm_af n q k))), (6, .int (nI (12 * q + k))), (0, .ref (E 0)), (1, .int (nI q)), (2, .int x), (3, .int y), (5, .int (nI k))]) hx hb d_M_isIn_182 hl (by decide) rfl (fun ls hl => ?_)
                        refine lv_iinc (v := nI (k + 1)) (lv' := [(5, .int (nI (k + 1))), (4, .int (pi_b b)), (9, .int (pm_side ((gv 5) (12 * q + k)) ((gv 6) (12 * q + k)) ((gv 5) (pm_af n q k)) ((gv 6) (pm_af n q k)) x y)), (8, .int 1), (7, .int (nI (pm_af n q k))), (6, .int (nI (12 * q + k))), (0, .ref (E 0)), (1, .int (nI q)), (2, .int x), (3, .int y)]) hx hb d_M_isIn_184 hl (k := 9) rfl (nI_1 k) (by decide) rfl (fun ls hl => ?_)
                        refine lv_goto (tgt := 6) hx hb d_M_isIn_187 (by decide) ?_
                        exact ih (k + 1) b (by omega) (by omega) (by rw [show n - k = (n - (k + 1)) + 1 by omega] at hres; simpa [pm_cont, pm_tog, c_101, c_102, c_103, c_103', c_104, c_104', c_109, c_109', c_110, c_110'] using hres) ls (lv_sub hl [6, 7, 8, 9, 1, 0] rfl)
                      · skip
                        exact absurd c_113 (by decide)
                  · skip
                    have c_109' : ((gv 6) (12 * q + k)) < ((gv 6) (pm_af n q k)) := Int32.not_le.mp c_109
                    refine lv_iconst (v := 1) hx hb d_M_isIn_149 (by decide) ?_
                    refine lv_goto (tgt := 154) hx hb d_M_isIn_150 (by decide) ?_
                    refine lv_iload hx hb d_M_isIn_154 (lv_at hl 0 rfl) ?_
                    refine lv_if_le (tgt := 163) hx hb d_M_isIn_156 (by decide) (fun c_114 => ?_) (fun c_114 => ?_)
                    · skip
                      have c_114' : ¬ ((0 : Int32) < (pm_side ((gv 5) (12 * q + k)) ((gv 6) (12 * q + k)) ((gv 5) (pm_af n q k)) ((gv 6) (pm_af n q k)) x y)) := Int32.not_lt.mpr c_114
                      refine lv_iconst (v := 0) hx hb d_M_isIn_163 (by decide) ?_
                      refine lv_icmp_ne (tgt := 180) hx hb d_M_isIn_164 (by decide) (fun c_115 => ?_) (fun c_115 => ?_)
                      · skip
                        refine lv_iload hx hb d_M_isIn_180 (lv_at hl 8 rfl) ?_
                        refine lv_istore (lv' := [(4, .int (pi_b b)), (9, .int (pm_side ((gv 5) (12 * q + k)) ((gv 6) (12 * q + k)) ((gv 5) (pm_af n q k)) ((gv 6) (pm_af n q k)) x y)), (8, .int 1), (7, .int (nI (pm_af n q k))), (6, .int (nI (12 * q + k))), (0, .ref (E 0)), (1, .int (nI q)), (2, .int x), (3, .int y), (5, .int (nI k))]) hx hb d_M_isIn_182 hl (by decide) rfl (fun ls hl => ?_)
                        refine lv_iinc (v := nI (k + 1)) (lv' := [(5, .int (nI (k + 1))), (4, .int (pi_b b)), (9, .int (pm_side ((gv 5) (12 * q + k)) ((gv 6) (12 * q + k)) ((gv 5) (pm_af n q k)) ((gv 6) (pm_af n q k)) x y)), (8, .int 1), (7, .int (nI (pm_af n q k))), (6, .int (nI (12 * q + k))), (0, .ref (E 0)), (1, .int (nI q)), (2, .int x), (3, .int y)]) hx hb d_M_isIn_184 hl (k := 9) rfl (nI_1 k) (by decide) rfl (fun ls hl => ?_)
                        refine lv_goto (tgt := 6) hx hb d_M_isIn_187 (by decide) ?_
                        exact ih (k + 1) b (by omega) (by omega) (by rw [show n - k = (n - (k + 1)) + 1 by omega] at hres; simpa [pm_cont, pm_tog, c_101, c_102, c_103, c_103', c_104, c_104', c_109, c_109', c_114, c_114'] using hres) ls (lv_sub hl [6, 7, 8, 9, 1, 0] rfl)
                      · skip
                        exact absurd c_115 (by decide)
                    · skip
                      have c_114' : (0 : Int32) < (pm_side ((gv 5) (12 * q + k)) ((gv 6) (12 * q + k)) ((gv 5) (pm_af n q k)) ((gv 6) (pm_af n q k)) x y) := Int32.not_le.mp c_114
                      refine lv_iconst (v := 1) hx hb d_M_isIn_159 (by decide) ?_
                      refine lv_goto (tgt := 164) hx hb d_M_isIn_160 (by decide) ?_
                      refine lv_icmp_ne (tgt := 180) hx hb d_M_isIn_164 (by decide) (fun c_116 => ?_) (fun c_116 => ?_)
                      · skip
                        exact absurd (by decide) c_116
                      · skip
                        refine lv_iload hx hb d_M_isIn_167 (lv_at hl 8 rfl) ?_
                        refine lv_if_ne (tgt := 176) hx hb d_M_isIn_169 (by decide) (fun c_117 => ?_) (fun c_117 => ?_)
                        · skip
                          have c_117 : b = true := pi_b_1.mp c_117
                          refine lv_iconst (v := 0) hx hb d_M_isIn_176 (by decide) ?_
                          refine lv_goto (tgt := 182) hx hb d_M_isIn_177 (by decide) ?_
                          refine lv_istore (lv' := [(4, .int 0), (9, .int (pm_side ((gv 5) (12 * q + k)) ((gv 6) (12 * q + k)) ((gv 5) (pm_af n q k)) ((gv 6) (pm_af n q k)) x y)), (8, .int 1), (7, .int (nI (pm_af n q k))), (6, .int (nI (12 * q + k))), (0, .ref (E 0)), (1, .int (nI q)), (2, .int x), (3, .int y), (5, .int (nI k))]) hx hb d_M_isIn_182 hl (by decide) rfl (fun ls hl => ?_)
                          refine lv_iinc (v := nI (k + 1)) (lv' := [(5, .int (nI (k + 1))), (4, .int 0), (9, .int (pm_side ((gv 5) (12 * q + k)) ((gv 6) (12 * q + k)) ((gv 5) (pm_af n q k)) ((gv 6) (pm_af n q k)) x y)), (8, .int 1), (7, .int (nI (pm_af n q k))), (6, .int (nI (12 * q + k))), (0, .ref (E 0)), (1, .int (nI q)), (2, .int x), (3, .int y)]) hx hb d_M_isIn_184 hl (k := 9) rfl (nI_1 k) (by decide) rfl (fun ls hl => ?_)
                          refine lv_goto (tgt := 6) hx hb d_M_isIn_187 (by decide) ?_
                          exact ih (k + 1) false (by omega) (by omega) (by rw [show n - k = (n - (k + 1)) + 1 by omega] at hres; simpa [pm_cont, pm_tog, c_101, c_102, c_103, c_103', c_104, c_104', c_109, c_109', c_114, c_114', c_117] using hres) ls (lv_sub hl [6, 7, 8, 9, 1, 0] rfl)
                        · skip
                          have c_117 : b = false := pi_b_0.mp c_117
                          refine lv_iconst (v := 1) hx hb d_M_isIn_172 (by decide) ?_
                          refine lv_goto (tgt := 182) hx hb d_M_isIn_173 (by decide) ?_
                          refine lv_istore (lv' := [(4, .int 1), (9, .int (pm_side ((gv 5) (12 * q + k)) ((gv 6) (12 * q + k)) ((gv 5) (pm_af n q k)) ((gv 6) (pm_af n q k)) x y)), (8, .int 1), (7, .int (nI (pm_af n q k))), (6, .int (nI (12 * q + k))), (0, .ref (E 0)), (1, .int (nI q)), (2, .int x), (3, .int y), (5, .int (nI k))]) hx hb d_M_isIn_182 hl (by decide) rfl (fun ls hl => ?_)
                          refine lv_iinc (v := nI (k + 1)) (lv' := [(5, .int (nI (k + 1))), (4, .int 1), (9, .int (pm_side ((gv 5) (12 * q + k)) ((gv 6) (12 * q + k)) ((gv 5) (pm_af n q k)) ((gv 6) (pm_af n q k)) x y)), (8, .int 1), (7, .int (nI (pm_af n q k))), (6, .int (nI (12 * q + k))), (0, .ref (E 0)), (1, .int (nI q)), (2, .int x), (3, .int y)]) hx hb d_M_isIn_184 hl (k := 9) rfl (nI_1 k) (by decide) rfl (fun ls hl => ?_)
                          refine lv_goto (tgt := 6) hx hb d_M_isIn_187 (by decide) ?_
                          exact ih (k + 1) true (by omega) (by omega) (by rw [show n - k = (n - (k + 1)) + 1 by omega] at hres; simpa [pm_cont, pm_tog, c_101, c_102, c_103, c_103', c_104, c_104', c_109, c_109', c_114, c_114', c_117] using hres) ls (lv_sub hl [6, 7, 8, 9, 1, 0] rfl)
          · skip
            have c_103' : y < ((gv 6) (12 * q + k)) := Int32.not_le.mp c_103
            refine lv_iconst (v := 1) hx hb d_M_isIn_61 (by decide) ?_
            refine lv_goto (tgt := 66) hx hb d_M_isIn_62 (by decide) ?_
            refine lv_aload_n hx hb d_M_isIn_66 rfl (lv_at hl 2 rfl) ?_
            refine va_get (D := (dC, dI)) (ci := 4) (v := .ref (E 7)) (C := R_M) (T := T_M) (N := 23) hx hb hts in_M hown hK hE0.P 0 rfl rfl 9 (by decide) (hts _ w_549) (fun _ h9 => h9) rfl d_M_isIn_67 ?_
            refine lv_iload hx hb d_M_isIn_70 (lv_at hl 0 rfl) ?_
            refine z_iald hx hb hAI (show z_A cI _ (E 7) 384 (gv 6) from hGA 6 (by omega)) (by omega) (by decide) d_M_isIn_72 ?_
            refine lv_iload_n hx hb d_M_isIn_73 rfl (lv_at hl 5 rfl) ?_
            refine lv_icmp_le (tgt := 81) hx hb d_M_isIn_74 (by decide) (fun c_118 => ?_) (fun c_118 => ?_)
            · skip
              have c_118' : ¬ (y < ((gv 6) (pm_af n q k))) := Int32.not_lt.mpr c_118
              refine lv_iconst (v := 0) hx hb d_M_isIn_81 (by decide) ?_
              refine lv_icmp_eq (tgt := 89) hx hb d_M_isIn_82 (by decide) (fun c_119 => ?_) (fun c_119 => ?_)
              · skip
                exact absurd c_119 (by decide)
              · skip
                refine lv_iconst (v := 1) hx hb d_M_isIn_85 (by decide) ?_
                refine lv_goto (tgt := 90) hx hb d_M_isIn_86 (by decide) ?_
                refine lv_istore (lv' := [(8, .int 1), (7, .int (nI (pm_af n q k))), (6, .int (nI (12 * q + k))), (0, .ref (E 0)), (1, .int (nI q)), (2, .int x), (3, .int y), (4, .int (pi_b b)), (5, .int (nI k))]) hx hb d_M_isIn_90 hl (by decide) rfl (fun ls hl => ?_)
                refine lv_aload_n hx hb d_M_isIn_92 rfl (lv_at hl 3 rfl) ?_
                refine va_get (D := (dC, dI)) (ci := 4) (v := .ref (E 6)) (C := R_M) (T := T_M) (N := 23) hx hb hts in_M hown hK hE0.P 0 rfl rfl 8 (by decide) (hts _ w_548) (fun _ h9 => h9) rfl d_M_isIn_93 ?_
                refine lv_iload hx hb d_M_isIn_96 (lv_at hl 2 rfl) ?_
                refine z_iald hx hb hAI (show z_A cI _ (E 6) 384 (gv 5) from hGA 5 (by omega)) (by omega) (by decide) d_M_isIn_98 ?_
                refine lv_aload_n hx hb d_M_isIn_99 rfl (lv_at hl 3 rfl) ?_
                refine va_get (D := (dC, dI)) (ci := 4) (v := .ref (E 7)) (C := R_M) (T := T_M) (N := 23) hx hb hts in_M hown hK hE0.P 0 rfl rfl 9 (by decide) (hts _ w_549) (fun _ h9 => h9) rfl d_M_isIn_100 ?_
                refine lv_iload hx hb d_M_isIn_103 (lv_at hl 2 rfl) ?_
                refine z_iald hx hb hAI (show z_A cI _ (E 7) 384 (gv 6) from hGA 6 (by omega)) (by omega) (by decide) d_M_isIn_105 ?_
                refine lv_aload_n hx hb d_M_isIn_106 rfl (lv_at hl 3 rfl) ?_
                refine va_get (D := (dC, dI)) (ci := 4) (v := .ref (E 6)) (C := R_M) (T := T_M) (N := 23) hx hb hts in_M hown hK hE0.P 0 rfl rfl 8 (by decide) (hts _ w_548) (fun _ h9 => h9) rfl d_M_isIn_107 ?_
                refine lv_iload hx hb d_M_isIn_110 (lv_at hl 1 rfl) ?_
                refine z_iald hx hb hAI (show z_A cI _ (E 6) 384 (gv 5) from hGA 5 (by omega)) (by omega) (by decide) d_M_isIn_112 ?_
                refine lv_aload_n hx hb d_M_isIn_113 rfl (lv_at hl 3 rfl) ?_
                refine va_get (D := (dC, dI)) (ci := 4) (v := .ref (E 7)) (C := R_M) (T := T_M) (N := 23) hx hb hts in_M hown hK hE0.P 0 rfl rfl 9 (by decide) (hts _ w_549) (fun _ h9 => h9) rfl d_M_isIn_114 ?_
                refine lv_iload hx hb d_M_isIn_117 (lv_at hl 1 rfl) ?_
                refine z_iald hx hb hAI (show z_A cI _ (E 7) 384 (gv 6) from hGA 6 (by omega)) (by omega) (by decide) d_M_isIn_119 ?_
                refine lv_iload_n hx hb d_M_isIn_120 rfl (lv_at hl 5 rfl) ?_
                refine lv_iload_n hx hb d_M_isIn_121 rfl (lv_at hl 6 rfl) ?_
                refine z_rdS (n := 6) (rest := []) ⟨hx, hb, hml, hown, hts⟩ hW0 (c_M_side G ((gv 5) (12 * q + k)) ((gv 6) (12 * q + k)) ((gv 5) (pm_af n q k)) ((gv 6) (pm_af n q k)) x y) w_663 w_661 w_662 w_4 (by decide +kernel) ⟨rfl, rfl, Nat.le_of_ble_eq_true rfl, Nat.le_of_ble_eq_true rfl⟩ (trivial) rfl rfl hl.1 (Nat.le_of_ble_eq_true rfl) d_M_isIn_122 ⟨Nat.zero_le _, Nat.zero_le _⟩ ?_
                refine lv_istore (lv' := [(9, .int (pm_side ((gv 5) (12 * q + k)) ((gv 6) (12 * q + k)) ((gv 5) (pm_af n q k)) ((gv 6) (pm_af n q k)) x y)), (8, .int 1), (7, .int (nI (pm_af n q k))), (6, .int (nI (12 * q + k))), (0, .ref (E 0)), (1, .int (nI q)), (2, .int x), (3, .int y), (4, .int (pi_b b)), (5, .int (nI k))]) hx hb d_M_isIn_125 hl (by decide) rfl (fun ls hl => ?_)
                refine lv_iload hx hb d_M_isIn_127 (lv_at hl 1 rfl) ?_
                refine lv_if_eq (tgt := 180) hx hb d_M_isIn_129 (by decide) (fun c_120 => ?_) (fun c_120 => ?_)
                · skip
                  exact absurd c_120 (by decide)
                · skip
                  refine lv_aload_n hx hb d_M_isIn_132 rfl (lv_at hl 4 rfl) ?_
                  refine va_get (D := (dC, dI)) (ci := 4) (v := .ref (E 7)) (C := R_M) (T := T_M) (N := 23) hx hb hts in_M hown hK hE0.P 0 rfl rfl 9 (by decide) (hts _ w_549) (fun _ h9 => h9) rfl d_M_isIn_133 ?_
                  refine lv_iload hx hb d_M_isIn_136 (lv_at hl 2 rfl) ?_
                  refine z_iald hx hb hAI (show z_A cI _ (E 7) 384 (gv 6) from hGA 6 (by omega)) (by omega) (by decide) d_M_isIn_138 ?_
                  refine lv_aload_n hx hb d_M_isIn_139 rfl (lv_at hl 4 rfl) ?_
                  refine va_get (D := (dC, dI)) (ci := 4) (v := .ref (E 7)) (C := R_M) (T := T_M) (N := 23) hx hb hts in_M hown hK hE0.P 0 rfl rfl 9 (by decide) (hts _ w_549) (fun _ h9 => h9) rfl d_M_isIn_140 ?_
                  refine lv_iload hx hb d_M_isIn_143 (lv_at hl 3 rfl) ?_
                  refine z_iald hx hb hAI (show z_A cI _ (E 7) 384 (gv 6) from hGA 6 (by omega)) (by omega) (by decide) d_M_isIn_145 ?_
                  refine lv_icmp_le (tgt := 153) hx hb d_M_isIn_146 (by decide) (fun c_121 => ?_) (fun c_121 => ?_)
                  · skip
                    have c_121' : ¬ (((gv 6) (12 * q + k)) < ((gv 6) (pm_af n q k))) := Int32.not_lt.mpr c_121
                    refine lv_iconst (v := 0) hx hb d_M_isIn_153 (by decide) ?_
                    refine lv_iload hx hb d_M_isIn_154 (lv_at hl 0 rfl) ?_
                    refine lv_if_le (tgt := 163) hx hb d_M_isIn_156 (by decide) (fun c_122 => ?_) (fun c_122 => ?_)
                    · skip
                      have c_122' : ¬ ((0 : Int32) < (pm_side ((gv 5) (12 * q + k)) ((gv 6) (12 * q + k)) ((gv 5) (pm_af n q k)) ((gv 6) (pm_af n q k)) x y)) := Int32.not_lt.mpr c_122
                      refine lv_iconst (v := 0) hx hb d_M_isIn_163 (by decide) ?_
                      refine lv_icmp_ne (tgt := 180) hx hb d_M_isIn_164 (by decide) (fun c_123 => ?_) (fun c_123 => ?_)
                      · skip
                        exact absurd (by decide) c_123
                      · skip
                        refine lv_iload hx hb d_M_isIn_167 (lv_at hl 8 rfl) ?_
                        refine lv_if_ne (tgt := 176) hx hb d_M_isIn_169 (by decide) (fun c_124 => ?_) (fun c_124 => ?_)
                        · skip
                          have c_124 : b = true := pi_b_1.mp c_124
                          refine lv_iconst (v := 0) hx hb d_M_isIn_176 (by decide) ?_
                          refine lv_goto (tgt := 182) hx hb d_M_isIn_177 (by decide) ?_
                          refine lv_istore (lv' := [(4, .int 0), (9, .int (pm_side ((gv 5) (12 * q + k)) ((gv 6) (12 * q + k)) ((gv 5) (pm_af n q k)) ((gv 6) (pm_af n q k)) x y)), (8, .int 1), (7, .int (nI (pm_af n q k))), (6, .int (nI (12 * q + k))), (0, .ref (E 0)), (1, .int (nI q)), (2, .int x), (3, .int y), (5, .int (nI k))]) hx hb d_M_isIn_182 hl (by decide) rfl (fun ls hl => ?_)
                          refine lv_iinc (v := nI (k + 1)) (lv' := [(5, .int (nI (k + 1))), (4, .int 0), (9, .int (pm_side ((gv 5) (12 * q + k)) ((gv 6) (12 * q + k)) ((gv 5) (pm_af n q k)) ((gv 6) (pm_af n q k)) x y)), (8, .int 1), (7, .int (nI (pm_af n q k))), (6, .int (nI (12 * q + k))), (0, .ref (E 0)), (1, .int (nI q)), (2, .int x), (3, .int y)]) hx hb d_M_isIn_184 hl (k := 9) rfl (nI_1 k) (by decide) rfl (fun ls hl => ?_)
                          refine lv_goto (tgt := 6) hx hb d_M_isIn_187 (by decide) ?_
                          exact ih (k + 1) false (by omega) (by omega) (by rw [show n - k = (n - (k + 1)) + 1 by omega] at hres; simpa [pm_cont, pm_tog, c_101, c_102, c_103, c_103', c_118, c_118', c_121, c_121', c_122, c_122', c_124] using hres) ls (lv_sub hl [6, 7, 8, 9, 1, 0] rfl)
                        · skip
                          have c_124 : b = false := pi_b_0.mp c_124
                          refine lv_iconst (v := 1) hx hb d_M_isIn_172 (by decide) ?_
                          refine lv_goto (tgt := 182) hx hb d_M_isIn_173 (by decide) ?_
                          refine lv_istore (lv' := [(4, .int 1), (9, .int (pm_side ((gv 5) (12 * q + k)) ((gv 6) (12 * q + k)) ((gv 5) (pm_af n q k)) ((gv 6) (pm_af n q k)) x y)), (8, .int 1), (7, .int (nI (pm_af n q k))), (6, .int (nI (12 * q + k))), (0, .ref (E 0)), (1, .int (nI q)), (2, .int x), (3, .int y), (5, .int (nI k))]) hx hb d_M_isIn_182 hl (by decide) rfl (fun ls hl => ?_)
                          refine lv_iinc (v := nI (k + 1)) (lv' := [(5, .int (nI (k + 1))), (4, .int 1), (9, .int (pm_side ((gv 5) (12 * q + k)) ((gv 6) (12 * q + k)) ((gv 5) (pm_af n q k)) ((gv 6) (pm_af n q k)) x y)), (8, .int 1), (7, .int (nI (pm_af n q k))), (6, .int (nI (12 * q + k))), (0, .ref (E 0)), (1, .int (nI q)), (2, .int x), (3, .int y)]) hx hb d_M_isIn_184 hl (k := 9) rfl (nI_1 k) (by decide) rfl (fun ls hl => ?_)
                          refine lv_goto (tgt := 6) hx hb d_M_isIn_187 (by decide) ?_
                          exact ih (k + 1) true (by omega) (by omega) (by rw [show n - k = (n - (k + 1)) + 1 by omega] at hres; simpa [pm_cont, pm_tog, c_101, c_102, c_103, c_103', c_118, c_118', c_121, c_121', c_122, c_122', c_124] using hres) ls (lv_sub hl [6, 7, 8, 9, 1, 0] rfl)
                    · skip
                      have c_122' : (0 : Int32) < (pm_side ((gv 5) (12 * q + k)) ((gv 6) (12 * q + k)) ((gv 5) (pm_af n q k)) ((gv 6) (pm_af n q k)) x y) := Int32.not_le.mp c_122
                      refine lv_iconst (v := 1) hx hb d_M_isIn_159 (by decide) ?_
                      refine lv_goto (tgt := 164) hx hb d_M_isIn_160 (by decide) ?_
                      refine lv_icmp_ne (tgt := 180) hx hb d_M_isIn_164 (by decide) (fun c_125 => ?_) (fun c_125 => ?_)
                      · skip
                        refine lv_iload hx hb d_M_isIn_180 (lv_at hl 8 rfl) ?_
                        refine lv_istore (lv' := [(4, .int (pi_b b)), (9, .int (pm_side ((gv 5) (12 * q + k)) ((gv 6) (12 * q + k)) ((gv 5) (pm_af n q k)) ((gv 6) (pm_af n q k)) x y)), (8, .int 1), (7, .int (nI (pm_af n q k))), (6, .int (nI (12 * q + k))), (0, .ref (E 0)), (1, .int (nI q)), (2, .int x), (3, .int y), (5, .int (nI k))]) hx hb d_M_isIn_182 hl (by decide) rfl (fun ls hl => ?_)
                        refine lv_iinc (v := nI (k + 1)) (lv' := [(5, .int (nI (k + 1))), (4, .int (pi_b b)), (9, .int (pm_side ((gv 5) (12 * q + k)) ((gv 6) (12 * q + k)) ((gv 5) (pm_af n q k)) ((gv 6) (pm_af n q k)) x y)), (8, .int 1), (7, .int (nI (pm_af n q k))), (6, .int (nI (12 * q + k))), (0, .ref (E 0)), (1, .int (nI q)), (2, .int x), (3, .int y)]) hx hb d_M_isIn_184 hl (k := 9) rfl (nI_1 k) (by decide) rfl (fun ls hl => ?_)
                        refine lv_goto (tgt := 6) hx hb d_M_isIn_187 (by decide) ?_
                        exact ih (k + 1) b (by omega) (by omega) (by rw [show n - k = (n - (k + 1)) + 1 by omega] at hres; simpa [pm_cont, pm_tog, c_101, c_102, c_103, c_103', c_118, c_118', c_121, c_121', c_122, c_122'] using hres) ls (lv_sub hl [6, 7, 8, 9, 1, 0] rfl)
                      · skip
                        exact absurd c_125 (by decide)
                  · skip
                    have c_121' : ((gv 6) (12 * q + k)) < ((gv 6) (pm_af n q k)) := Int32.not_le.mp c_121
                    refine lv_iconst (v := 1) hx hb d_M_isIn_149 (by decide) ?_
                    refine lv_goto (tgt := 154) hx hb d_M_isIn_150 (by decide) ?_
                    refine lv_iload hx hb d_M_isIn_154 (lv_at hl 0 rfl) ?_
                    refine lv_if_le (tgt := 163) hx hb d_M_isIn_156 (by decide) (fun c_126 => ?_) (fun c_126 => ?_)
                    · skip
                      have c_126' : ¬ ((0 : Int32) < (pm_side ((gv 5) (12 * q + k)) ((gv 6) (12 * q + k)) ((gv 5) (pm_af n q k)) ((gv 6) (pm_af n q k)) x y)) := Int32.not_lt.mpr c_126
                      refine lv_iconst (v := 0) hx hb d_M_isIn_163 (by decide) ?_
                      refine lv_icmp_ne (tgt := 180) hx hb d_M_isIn_164 (by decide) (fun c_127 => ?_) (fun c_127 => ?_)
                      · skip
                        refine lv_iload hx hb d_M_isIn_180 (lv_at hl 8 rfl) ?_
                        refine lv_istore (lv' := [(4, .int (pi_b b)), (9, .int (pm_side ((gv 5) (12 * q + k)) ((gv 6) (12 * q + k)) ((gv 5) (pm_af n q k)) ((gv 6) (pm_af n q k)) x y)), (8, .int 1), (7, .int (nI (pm_af n q k))), (6, .int (nI (12 * q + k))), (0, .ref (E 0)), (1, .int (nI q)), (2, .int x), (3, .int y), (5, .int (nI k))]) hx hb d_M_isIn_182 hl (by decide) rfl (fun ls hl => ?_)
                        refine lv_iinc (v := nI (k + 1)) (lv' := [(5, .int (nI (k + 1))), (4, .int (pi_b b)), (9, .int (pm_side ((gv 5) (12 * q + k)) ((gv 6) (12 * q + k)) ((gv 5) (pm_af n q k)) ((gv 6) (pm_af n q k)) x y)), (8, .int 1), (7, .int (nI (pm_af n q k))), (6, .int (nI (12 * q + k))), (0, .ref (E 0)), (1, .int (nI q)), (2, .int x), (3, .int y)]) hx hb d_M_isIn_184 hl (k := 9) rfl (nI_1 k) (by decide) rfl (fun ls hl => ?_)
                        refine lv_goto (tgt := 6) hx hb d_M_isIn_187 (by decide) ?_
                        exact ih (k + 1) b (by omega) (by omega) (by rw [show n - k = (n - (k + 1)) + 1 by omega] at hres; simpa [pm_cont, pm_tog, c_101, c_102, c_103, c_103', c_118, c_118', c_121, c_121', c_126, c_126'] using hres) ls (lv_sub hl [6, 7, 8, 9, 1, 0] rfl)
                      · skip
                        exact absurd c_127 (by decide)
                    · skip
                      have c_126' : (0 : Int32) < (pm_side ((gv 5) (12 * q + k)) ((gv 6) (12 * q + k)) ((gv 5) (pm_af n q k)) ((gv 6) (pm_af n q k)) x y) := Int32.not_le.mp c_126
                      refine lv_iconst (v := 1) hx hb d_M_isIn_159 (by decide) ?_
                      refine lv_goto (tgt := 164) hx hb d_M_isIn_160 (by decide) ?_
                      refine lv_icmp_ne (tgt := 180) hx hb d_M_isIn_164 (by decide) (fun c_128 => ?_) (fun c_128 => ?_)
                      · skip
                        exact absurd (by decide) c_128
                      · skip
                        refine lv_iload hx hb d_M_isIn_167 (lv_at hl 8 rfl) ?_
                        refine lv_if_ne (tgt := 176) hx hb d_M_isIn_169 (by decide) (fun c_129 => ?_) (fun c_129 => ?_)
                        · skip
                          have c_129 : b = true := pi_b_1.mp c_129
                          refine lv_iconst (v := 0) hx hb d_M_isIn_176 (by decide) ?_
                          refine lv_goto (tgt := 182) hx hb d_M_isIn_177 (by decide) ?_
                          refine lv_istore (lv' := [(4, .int 0), (9, .int (pm_side ((gv 5) (12 * q + k)) ((gv 6) (12 * q + k)) ((gv 5) (pm_af n q k)) ((gv 6) (pm_af n q k)) x y)), (8, .int 1), (7, .int (nI (pm_af n q k))), (6, .int (nI (12 * q + k))), (0, .ref (E 0)), (1, .int (nI q)), (2, .int x), (3, .int y), (5, .int (nI k))]) hx hb d_M_isIn_182 hl (by decide) rfl (fun ls hl => ?_)
                          refine lv_iinc (v := nI (k + 1)) (lv' := [(5, .int (nI (k + 1))), (4, .int 0), (9, .int (pm_side ((gv 5) (12 * q + k)) ((gv 6) (12 * q + k)) ((gv 5) (pm_af n q k)) ((gv 6) (pm_af n q k)) x y)), (8, .int 1), (7, .int (nI (pm_af n q k))), (6, .int (nI (12 * q + k))), (0, .ref (E 0)), (1, .int (nI q)), (2, .int x), (3, .int y)]) hx hb d_M_isIn_184 hl (k := 9) rfl (nI_1 k) (by decide) rfl (fun ls hl => ?_)
                          refine lv_goto (tgt := 6) hx hb d_M_isIn_187 (by decide) ?_
                          exact ih (k + 1) false (by omega) (by omega) (by rw [show n - k = (n - (k + 1)) + 1 by omega] at hres; simpa [pm_cont, pm_tog, c_101, c_102, c_103, c_103', c_118, c_118', c_121, c_121', c_126, c_126', c_129] using hres) ls (lv_sub hl [6, 7, 8, 9, 1, 0] rfl)
                        · skip
                          have c_129 : b = false := pi_b_0.mp c_129
                          refine lv_iconst (v := 1) hx hb d_M_isIn_172 (by decide) ?_
                          refine lv_goto (tgt := 182) hx hb d_M_isIn_173 (by decide) ?_
                          refine lv_istore (lv' := [(4, .int 1), (9, .int (pm_side ((gv 5) (12 * q + k)) ((gv 6) (12 * q + k)) ((gv 5) (pm_af n q k)) ((gv 6) (pm_af n q k)) x y)), (8, .int 1), (7, .int (nI (pm_af n q k))), (6, .int (nI (12 * q + k))), (0, .ref (E 0)), (1, .int (nI q)), (2, .int x), (3, .int y), (5, .int (nI k))]) hx hb d_M_isIn_182 hl (by decide) rfl (fun ls hl => ?_)
                          refine lv_iinc (v := nI (k + 1)) (lv' := [(5, .int (nI (k + 1))), (4, .int 1), (9, .int (pm_side ((gv 5) (12 * q + k)) ((gv 6) (12 * q + k)) ((gv 5) (pm_af n q k)) ((gv 6) (pm_af n q k)) x y)), (8, .int 1), (7, .int (nI (pm_af n q k))), (6, .int (nI (12 * q + k))), (0, .ref (E 0)), (1, .int (nI q)), (2, .int x), (3, .int y)]) hx hb d_M_isIn_184 hl (k := 9) rfl (nI_1 k) (by decide) rfl (fun ls hl => ?_)
                          refine lv_goto (tgt := 6) hx hb d_M_isIn_187 (by decide) ?_
                          exact ih (k + 1) true (by omega) (by omega) (by rw [show n - k = (n - (k + 1)) + 1 by omega] at hres; simpa [pm_cont, pm_tog, c_101, c_102, c_103, c_103', c_118, c_118', c_121, c_121', c_126, c_126', c_129] using hres) ls (lv_sub hl [6, 7, 8, 9, 1, 0] rfl)
            · skip
              have c_118' : y < ((gv 6) (pm_af n q k)) := Int32.not_le.mp c_118
              refine lv_iconst (v := 1) hx hb d_M_isIn_77 (by decide) ?_
              refine lv_goto (tgt := 82) hx hb d_M_isIn_78 (by decide) ?_
              refine lv_icmp_eq (tgt := 89) hx hb d_M_isIn_82 (by decide) (fun c_130 => ?_) (fun c_130 => ?_)
              · skip
                refine lv_iconst (v := 0) hx hb d_M_isIn_89 (by decide) ?_
                refine lv_istore (lv' := [(8, .int 0), (7, .int (nI (pm_af n q k))), (6, .int (nI (12 * q + k))), (0, .ref (E 0)), (1, .int (nI q)), (2, .int x), (3, .int y), (4, .int (pi_b b)), (5, .int (nI k))]) hx hb d_M_isIn_90 hl (by decide) rfl (fun ls hl => ?_)
                refine lv_aload_n hx hb d_M_isIn_92 rfl (lv_at hl 3 rfl) ?_
                refine va_get (D := (dC, dI)) (ci := 4) (v := .ref (E 6)) (C := R_M) (T := T_M) (N := 23) hx hb hts in_M hown hK hE0.P 0 rfl rfl 8 (by decide) (hts _ w_548) (fun _ h9 => h9) rfl d_M_isIn_93 ?_
                refine lv_iload hx hb d_M_isIn_96 (lv_at hl 2 rfl) ?_
                refine z_iald hx hb hAI (show z_A cI _ (E 6) 384 (gv 5) from hGA 5 (by omega)) (by omega) (by decide) d_M_isIn_98 ?_
                refine lv_aload_n hx hb d_M_isIn_99 rfl (lv_at hl 3 rfl) ?_
                refine va_get (D := (dC, dI)) (ci := 4) (v := .ref (E 7)) (C := R_M) (T := T_M) (N := 23) hx hb hts in_M hown hK hE0.P 0 rfl rfl 9 (by decide) (hts _ w_549) (fun _ h9 => h9) rfl d_M_isIn_100 ?_
                refine lv_iload hx hb d_M_isIn_103 (lv_at hl 2 rfl) ?_
                refine z_iald hx hb hAI (show z_A cI _ (E 7) 384 (gv 6) from hGA 6 (by omega)) (by omega) (by decide) d_M_isIn_105 ?_
                refine lv_aload_n hx hb d_M_isIn_106 rfl (lv_at hl 3 rfl) ?_
                refine va_get (D := (dC, dI)) (ci := 4) (v := .ref (E 6)) (C := R_M) (T := T_M) (N := 23) hx hb hts in_M hown hK hE0.P 0 rfl rfl 8 (by decide) (hts _ w_548) (fun _ h9 => h9) rfl d_M_isIn_107 ?_
                refine lv_iload hx hb d_M_isIn_110 (lv_at hl 1 rfl) ?_
                refine z_iald hx hb hAI (show z_A cI _ (E 6) 384 (gv 5) from hGA 5 (by omega)) (by omega) (by decide) d_M_isIn_112 ?_
                refine lv_aload_n hx hb d_M_isIn_113 rfl (lv_at hl 3 rfl) ?_
                refine va_get (D := (dC, dI)) (ci := 4) (v := .ref (E 7)) (C := R_M) (T := T_M) (N := 23) hx hb hts in_M hown hK hE0.P 0 rfl rfl 9 (by decide) (hts _ w_549) (fun _ h9 => h9) rfl d_M_isIn_114 ?_
                refine lv_iload hx hb d_M_isIn_117 (lv_at hl 1 rfl) ?_
                refine z_iald hx hb hAI (show z_A cI _ (E 7) 384 (gv 6) from hGA 6 (by omega)) (by omega) (by decide) d_M_isIn_119 ?_
                refine lv_iload_n hx hb d_M_isIn_120 rfl (lv_at hl 5 rfl) ?_
                refine lv_iload_n hx hb d_M_isIn_121 rfl (lv_at hl 6 rfl) ?_
                refine z_rdS (n := 6) (rest := []) ⟨hx, hb, hml, hown, hts⟩ hW0 (c_M_side G ((gv 5) (12 * q + k)) ((gv 6) (12 * q + k)) ((gv 5) (pm_af n q k)) ((gv 6) (pm_af n q k)) x y) w_663 w_661 w_662 w_4 (by decide +kernel) ⟨rfl, rfl, Nat.le_of_ble_eq_true rfl, Nat.le_of_ble_eq_true rfl⟩ (trivial) rfl rfl hl.1 (Nat.le_of_ble_eq_true rfl) d_M_isIn_122 ⟨Nat.zero_le _, Nat.zero_le _⟩ ?_
                refine lv_istore (lv' := [(9, .int (pm_side ((gv 5) (12 * q + k)) ((gv 6) (12 * q + k)) ((gv 5) (pm_af n q k)) ((gv 6) (pm_af n q k)) x y)), (8, .int 0), (7, .int (nI (pm_af n q k))), (6, .int (nI (12 * q + k))), (0, .ref (E 0)), (1, .int (nI q)), (2, .int x), (3, .int y), (4, .int (pi_b b)), (5, .int (nI k))]) hx hb d_M_isIn_125 hl (by decide) rfl (fun ls hl => ?_)
                refine lv_iload hx hb d_M_isIn_127 (lv_at hl 1 rfl) ?_
                refine lv_if_eq (tgt := 180) hx hb d_M_isIn_129 (by decide) (fun c_131 => ?_) (fun c_131 => ?_)
                · skip
                  refine lv_iload hx hb d_M_isIn_180 (lv_at hl 8 rfl) ?_
                  refine lv_istore (lv' := [(4, .int (pi_b b)), (9, .int (pm_side ((gv 5) (12 * q + k)) ((gv 6) (12 * q + k)) ((gv 5) (pm_af n q k)) ((gv 6) (pm_af n q k)) x y)), (8, .int 0), (7, .int (nI (pm_af n q k))), (6, .int (nI (12 * q + k))), (0, .ref (E 0)), (1, .int (nI q)), (2, .int x), (3, .int y), (5, .int (nI k))]) hx hb d_M_isIn_182 hl (by decide) rfl (fun ls hl => ?_)
                  refine lv_iinc (v := nI (k + 1)) (lv' := [(5, .int (nI (k + 1))), (4, .int (pi_b b)), (9, .int (pm_side ((gv 5) (12 * q + k)) ((gv 6) (12 * q + k)) ((gv 5) (pm_af n q k)) ((gv 6) (pm_af n q k)) x y)), (8, .int 0), (7, .int (nI (pm_af n q k))), (6, .int (nI (12 * q + k))), (0, .ref (E 0)), (1, .int (nI q)), (2, .int x), (3, .int y)]) hx hb d_M_isIn_184 hl (k := 9) rfl (nI_1 k) (by decide) rfl (fun ls hl => ?_)
                  refine lv_goto (tgt := 6) hx hb d_M_isIn_187 (by decide) ?_
                  exact ih (k + 1) b (by omega) (by omega) (by rw [show n - k = (n - (k + 1)) + 1 by omega] at hres; simpa [pm_cont, pm_tog, c_101, c_102, c_103, c_103', c_118, c_118'] using hres) ls (lv_sub hl [6, 7, 8, 9, 1, 0] rfl)
                · skip
                  exact absurd (by decide) c_131
              · skip
                exact absurd (by decide) c_130
        · skip
          have c_102 : (pm_on (gv 5) (gv 6) (12 * q + k) (pm_af n q k) x y) = true := pi_b_1.mp c_102
          refine lv_iconst (v := 1) hx hb d_M_isIn_48 (by decide) ?_
          exact z_zret hx hb hr hlocks (by rw [show n - k = (n - (k + 1)) + 1 by omega] at hres; simp [pm_cont, c_101, c_102] at hres; simp [pi_b, hres]) d_M_isIn_49
  refine lv_iconst (v := 0) hx hb d_M_isIn_0 (by decide) ?_
  refine lv_istore (lv' := [(4, .int 0), (0, .ref (E 0)), (1, .int (nI q)), (2, .int x), (3, .int y)]) hx hb d_M_isIn_1 hl (by decide) rfl (fun ls hl => ?_)
  refine lv_iconst (v := 0) hx hb d_M_isIn_3 (by decide) ?_
  refine lv_istore (lv' := [(5, .int 0), (4, .int 0), (0, .ref (E 0)), (1, .int (nI q)), (2, .int x), (3, .int y)]) hx hb d_M_isIn_4 hl (by decide) rfl (fun ls hl => ?_)
  exact (loops ((n - 0) + 1)) 0 false (by omega) (by omega) (by simp [pm_in]) ls (lv_sub hl [2, 3, 4, 5, 1, 0] rfl)
set_option maxRecDepth 100000 in
set_option maxHeartbeats 4000000 in
theorem c_M_misfits (G : z_G s0 (dC, dI) cI cS) (E : Nat → Nat) (th : Int32) (mp ms mc mn mm : Nat) (gv : Nat → Nat → Int32) (cn : Nat → Nat) (hcn : ∀ i, i < ms → gv 4 i = nI (cn i) ∧ cn i ≤ 12 ∧ (0 < gv 7 i → 3 ≤ cn i)) (p1 : Nat) (d : Int32) (hp1 : p1 < 16) : Met l y_M_misfits [Cond.code y_M_misfits b_M_misfits 7 (some .boolean)] ({ frames := 3, cells := 0, slots := 0, locals := 78 }) (z_Pc s0 [.ref (E 0), .int (nI p1), .int d] (fun H => z_Md (dC, dI) cI H E th mp ms mc mn mm gv)) (z_Qr (some (.int (pi_b (pm_mis gv cn ms d p1))))) 0 0 z_no := by
  refine z_ofW (by decide +kernel) (Nat.le_of_ble_eq_true rfl) ?_
  intro p e s m below meth c hx hb hml hr hown hlocks hnm hW0 hB ls hl
  have hts := z_hts (args := [.ref (E 0), .int (nI p1), .int d].toArray) G.1 hW0
  have hN := z_nstW G.2.1 hW0
  have hK := va_K.moved hW0.alike G.2.2.1
  have hAI := arrOfT_moved hW0.alike G.2.2.2.1
  have hl : lv_has ls 7 [(0, .ref (E 0)), (1, .int (nI p1)), (2, .int d)] := hl
  obtain ⟨⟨hE0, hGA⟩, hEi, ⟨hmp, hms, hmn, hmm, hmc⟩⟩ := id hB
  have loops : ∀ f : Nat, (∀ (s1 q1 : Nat) (b : Bool) (k : Nat), cn s1 - k < f → (s1 < ms) → (q1 < ms) → (cn s1 ≤ 12) → (0 < cn s1) → (0 < cn q1) → (k ≤ cn s1) → (pm_out (gv 5) (gv 6) (cn q1) q1 s1 (cn s1 - k) k b = pm_mis gv cn ms d p1) → ∀ ls : Array Slot, lv_has ls 7 [(0, .ref (E 0)), (1, .int (nI p1)), (2, .int d), (3, .int (nI s1)), (4, .int (nI q1)), (5, .int (pi_b b)), (6, .int (nI k))] → W p l e ({ frames := 3, cells := 0, slots := 0, locals := 78 }) s m [.ref (E 0), .int (nI p1), .int d].toArray below meth c s.heap [] 0 0 (MQ below (z_Qr (some (.int (pi_b (pm_mis gv cn ms d p1))))) [.ref (E 0), .int (nI p1), .int d].toArray s 0 0 z_no) (F0 m 40 ls [])) := by
    intro f
    induction f with
    | zero => exact fun _ _ _ _ h => absurd h (Nat.not_lt_zero _)
    | succ f ih =>
      intro s1 q1 b k hmu hs1 hq1 hc1 hc2 hc3 hk hres ls hl
      refine lv_iload_n hx hb d_M_misfits_40 rfl (lv_at hl 3 rfl) ?_
      refine lv_iconst (v := (-1)) hx hb d_M_misfits_41 (by decide) ?_
      refine lv_icmp_eq (tgt := 113) hx hb d_M_misfits_42 (by decide) (fun c_101 => ?_) (fun c_101 => ?_)
      · skip
        exact absurd c_101 (z_ne1 (by omega))
      · skip
        refine lv_iload hx hb d_M_misfits_45 (lv_at hl 4 rfl) ?_
        refine lv_iconst (v := (-1)) hx hb d_M_misfits_47 (by decide) ?_
        refine lv_icmp_eq (tgt := 113) hx hb d_M_misfits_48 (by decide) (fun c_102 => ?_) (fun c_102 => ?_)
        · skip
          exact absurd c_102 (z_ne1 (by omega))
        · skip
          refine lv_iload hx hb d_M_misfits_51 (lv_at hl 6 rfl) ?_
          refine lv_aload_n hx hb d_M_misfits_53 rfl (lv_at hl 0 rfl) ?_
          refine va_get (D := (dC, dI)) (ci := 4) (v := .ref (E 5)) (C := R_M) (T := T_M) (N := 23) hx hb hts in_M hown hK hE0.P 0 rfl rfl 7 (by decide) (hts _ w_547) (fun _ h9 => h9) rfl d_M_misfits_54 ?_
          refine lv_iload_n hx hb d_M_misfits_57 rfl (lv_at hl 3 rfl) ?_
          refine z_iald hx hb hAI (show z_A cI _ (E 5) 32 (gv 4) from hGA 4 (by omega)) (by omega) (by decide) d_M_misfits_58 ?_
          refine z_topi (y := nI (cn s1)) (hcn s1 (by omega)).1 ?_
          refine lv_icmp_ge (tgt := 113) hx hb d_M_misfits_59 (by decide) (fun c_103 => ?_) (fun c_103 => ?_)
          · skip
            have c_103 : (cn s1) ≤ k := (nI_leI (a := cn s1) (b := k) (by omega) (by omega)).mp c_103
            refine lv_iload hx hb d_M_misfits_113 (lv_at hl 5 rfl) ?_
            exact z_zret hx hb hr hlocks (by rw [show cn s1 - k = 0 by omega] at hres; simp only [pm_out] at hres; rw [hres]) d_M_misfits_115
          · skip
            have c_103 : ¬ ((cn s1) ≤ k) := fun h => c_103 ((nI_leI (a := cn s1) (b := k) (by omega) (by omega)).mpr h)
            refine lv_iload hx hb d_M_misfits_62 (lv_at hl 5 rfl) ?_
            refine lv_if_ne (tgt := 100) hx hb d_M_misfits_64 (by decide) (fun c_104 => ?_) (fun c_104 => ?_)
            · skip
              have c_104 : b = true := pi_b_1.mp c_104
              refine lv_iconst (v := 1) hx hb d_M_misfits_100 (by decide) ?_
              refine lv_goto (tgt := 105) hx hb d_M_misfits_101 (by decide) ?_
              refine lv_istore (lv' := [(5, .int 1), (0, .ref (E 0)), (1, .int (nI p1)), (2, .int d), (3, .int (nI s1)), (4, .int (nI q1)), (6, .int (nI k))]) hx hb d_M_misfits_105 hl (by decide) rfl (fun ls hl => ?_)
              refine lv_iinc (v := nI (k + 1)) (lv' := [(6, .int (nI (k + 1))), (5, .int 1), (0, .ref (E 0)), (1, .int (nI p1)), (2, .int d), (3, .int (nI s1)), (4, .int (nI q1))]) hx hb d_M_misfits_107 hl (k := 6) rfl (nI_1 k) (by decide) rfl (fun ls hl => ?_)
              refine lv_goto (tgt := 40) hx hb d_M_misfits_110 (by decide) ?_
              exact ih s1 q1 true (k + 1) (by omega) (by omega) (by omega) (by omega) (by omega) (by omega) (by omega) (by rw [show cn s1 - k = (cn s1 - (k + 1)) + 1 by omega] at hres; simpa [pm_out, c_101, c_102, c_103, c_104] using hres) ls (lv_sub hl [2, 3, 4, 5, 6, 1, 0] rfl)
            · skip
              have c_104 : b = false := pi_b_0.mp c_104
              refine lv_aload_n hx hb d_M_misfits_67 rfl (lv_at hl 0 rfl) ?_
              refine lv_iload hx hb d_M_misfits_68 (lv_at hl 4 rfl) ?_
              refine lv_aload_n hx hb d_M_misfits_70 rfl (lv_at hl 0 rfl) ?_
              refine va_get (D := (dC, dI)) (ci := 4) (v := .ref (E 6)) (C := R_M) (T := T_M) (N := 23) hx hb hts in_M hown hK hE0.P 0 rfl rfl 8 (by decide) (hts _ w_548) (fun _ h9 => h9) rfl d_M_misfits_71 ?_
              refine lv_bipush (v := 12) hx hb d_M_misfits_74 (by decide) ?_
              refine lv_iload_n hx hb d_M_misfits_76 rfl (lv_at hl 3 rfl) ?_
              refine lv_imul hx hb d_M_misfits_77 ?_
              refine z_topi (y := nI (12 * s1)) (pk_mul 12 s1) ?_
              refine lv_iload hx hb d_M_misfits_78 (lv_at hl 6 rfl) ?_
              refine lv_iadd hx hb d_M_misfits_80 ?_
              refine z_topi (y := nI (12 * s1 + k)) (nI_add (12 * s1) k) ?_
              refine z_iald hx hb hAI (show z_A cI _ (E 6) 384 (gv 5) from hGA 5 (by omega)) (by omega) (by decide) d_M_misfits_81 ?_
              refine lv_aload_n hx hb d_M_misfits_82 rfl (lv_at hl 0 rfl) ?_
              refine va_get (D := (dC, dI)) (ci := 4) (v := .ref (E 7)) (C := R_M) (T := T_M) (N := 23) hx hb hts in_M hown hK hE0.P 0 rfl rfl 9 (by decide) (hts _ w_549) (fun _ h9 => h9) rfl d_M_misfits_83 ?_
              refine lv_bipush (v := 12) hx hb d_M_misfits_86 (by decide) ?_
              refine lv_iload_n hx hb d_M_misfits_88 rfl (lv_at hl 3 rfl) ?_
              refine lv_imul hx hb d_M_misfits_89 ?_
              refine z_topi (y := nI (12 * s1)) (pk_mul 12 s1) ?_
              refine lv_iload hx hb d_M_misfits_90 (lv_at hl 6 rfl) ?_
              refine lv_iadd hx hb d_M_misfits_92 ?_
              refine z_topi (y := nI (12 * s1 + k)) (nI_add (12 * s1) k) ?_
              refine z_iald hx hb hAI (show z_A cI _ (E 7) 384 (gv 6) from hGA 6 (by omega)) (by omega) (by decide) d_M_misfits_93 ?_
              refine z_rdV (n := 3) (C := R_M) (rest := []) ⟨hx, hb, hml, hown, hts⟩ hW0 (c_M_isIn G E th mp ms mc mn mm gv q1 (cn q1) ((gv 5) (12 * s1 + k)) ((gv 6) (12 * s1 + k)) (by omega) (hcn q1 (by omega)).1 (by omega) (hcn q1 (by omega)).2.1) w_697 w_694 w_696 wp_27 w_4 (by decide +kernel) ⟨rfl, rfl, Nat.le_of_ble_eq_true rfl, Nat.le_of_ble_eq_true rfl⟩ (hE0.recv hK rfl) (hB) rfl rfl hl.1 (Nat.le_of_ble_eq_true rfl) d_M_misfits_94 ⟨Nat.zero_le _, Nat.zero_le _⟩ ?_
              refine lv_if_ne (tgt := 104) hx hb d_M_misfits_97 (by decide) (fun c_105 => ?_) (fun c_105 => ?_)
              · skip
                have c_105 : (pm_in (gv 5) (gv 6) (cn q1) q1 ((gv 5) (12 * s1 + k)) ((gv 6) (12 * s1 + k))) = true := pi_b_1.mp c_105
                refine lv_iconst (v := 0) hx hb d_M_misfits_104 (by decide) ?_
                refine lv_istore (lv' := [(5, .int 0), (0, .ref (E 0)), (1, .int (nI p1)), (2, .int d), (3, .int (nI s1)), (4, .int (nI q1)), (6, .int (nI k))]) hx hb d_M_misfits_105 hl (by decide) rfl (fun ls hl => ?_)
                refine lv_iinc (v := nI (k + 1)) (lv' := [(6, .int (nI (k + 1))), (5, .int 0), (0, .ref (E 0)), (1, .int (nI p1)), (2, .int d), (3, .int (nI s1)), (4, .int (nI q1))]) hx hb d_M_misfits_107 hl (k := 6) rfl (nI_1 k) (by decide) rfl (fun ls hl => ?_)
                refine lv_goto (tgt := 40) hx hb d_M_misfits_110 (by decide) ?_
                exact ih s1 q1 false (k + 1) (by omega) (by omega) (by omega) (by omega) (by omega) (by omega) (by omega) (by rw [show cn s1 - k = (cn s1 - (k + 1)) + 1 by omega] at hres; simpa [pm_out, c_101, c_102, c_103, c_104, c_105] using hres) ls (lv_sub hl [2, 3, 4, 5, 6, 1, 0] rfl)
              · skip
                have c_105 : (pm_in (gv 5) (gv 6) (cn q1) q1 ((gv 5) (12 * s1 + k)) ((gv 6) (12 * s1 + k))) = false := pi_b_0.mp c_105
                refine lv_iconst (v := 1) hx hb d_M_misfits_100 (by decide) ?_
                refine lv_goto (tgt := 105) hx hb d_M_misfits_101 (by decide) ?_
                refine lv_istore (lv' := [(5, .int 1), (0, .ref (E 0)), (1, .int (nI p1)), (2, .int d), (3, .int (nI s1)), (4, .int (nI q1)), (6, .int (nI k))]) hx hb d_M_misfits_105 hl (by decide) rfl (fun ls hl => ?_)
                refine lv_iinc (v := nI (k + 1)) (lv' := [(6, .int (nI (k + 1))), (5, .int 1), (0, .ref (E 0)), (1, .int (nI p1)), (2, .int d), (3, .int (nI s1)), (4, .int (nI q1))]) hx hb d_M_misfits_107 hl (k := 6) rfl (nI_1 k) (by decide) rfl (fun ls hl => ?_)
                refine lv_goto (tgt := 40) hx hb d_M_misfits_110 (by decide) ?_
                exact ih s1 q1 true (k + 1) (by omega) (by omega) (by omega) (by omega) (by omega) (by omega) (by omega) (by rw [show cn s1 - k = (cn s1 - (k + 1)) + 1 by omega] at hres; simpa [pm_out, c_101, c_102, c_103, c_104, c_105] using hres) ls (lv_sub hl [2, 3, 4, 5, 6, 1, 0] rfl)
  refine lv_aload_n hx hb d_M_misfits_0 rfl (lv_at hl 0 rfl) ?_
  refine lv_iload_n hx hb d_M_misfits_1 rfl (lv_at hl 1 rfl) ?_
  refine lv_iload_n hx hb d_M_misfits_2 rfl (lv_at hl 2 rfl) ?_
  refine z_rdV (n := 2) (C := R_M) (rest := []) ⟨hx, hb, hml, hown, hts⟩ hW0 (c_M_forced G E th mp ms mc mn mm gv (nI p1) d) w_689 w_686 w_688 wp_26 w_4 (by decide +kernel) ⟨rfl, rfl, Nat.le_of_ble_eq_true rfl, Nat.le_of_ble_eq_true rfl⟩ (hE0.recv hK rfl) (hB) rfl rfl hl.1 (Nat.le_of_ble_eq_true rfl) d_M_misfits_3 ⟨Nat.zero_le _, Nat.zero_le _⟩ ?_
  obtain ⟨o_3, hq_3⟩ : ∃ o, pm_f gv ms (nI p1) d = o := ⟨_, rfl⟩
  rcases o_3 with _ | j_3
  · skip
    refine z_topi (y := -1) (by rw [hq_3]; rfl) ?_
    refine lv_istore_n (lv' := [(3, .int (-1)), (0, .ref (E 0)), (1, .int (nI p1)), (2, .int d)]) hx hb d_M_misfits_6 rfl hl (by decide) rfl (fun ls hl => ?_)
    refine lv_aload_n hx hb d_M_misfits_7 rfl (lv_at hl 1 rfl) ?_
    refine va_get (D := (dC, dI)) (ci := 4) (v := .ref (E 1)) (C := R_M) (T := T_M) (N := 23) hx hb hts in_M hown hK hE0.P 0 rfl rfl 2 (by decide) (hts _ w_542) (fun _ h9 => h9) rfl d_M_misfits_8 ?_
    refine lv_iload_n hx hb d_M_misfits_11 rfl (lv_at hl 2 rfl) ?_
    refine z_iald hx hb hAI (show z_A cI _ (E 1) 16 (gv 0) from hGA 0 (by omega)) (by omega) (by decide) d_M_misfits_12 ?_
    refine lv_iconst (v := (-1)) hx hb d_M_misfits_13 (by decide) ?_
    refine lv_icmp_ne (tgt := 21) hx hb d_M_misfits_14 (by decide) (fun c_1 => ?_) (fun c_1 => ?_)
    · skip
      refine lv_aload_n hx hb d_M_misfits_21 rfl (lv_at hl 1 rfl) ?_
      refine lv_aload_n hx hb d_M_misfits_22 rfl (lv_at hl 1 rfl) ?_
      refine va_get (D := (dC, dI)) (ci := 4) (v := .ref (E 1)) (C := R_M) (T := T_M) (N := 23) hx hb hts in_M hown hK hE0.P 0 rfl rfl 2 (by decide) (hts _ w_542) (fun _ h9 => h9) rfl d_M_misfits_23 ?_
      refine lv_iload_n hx hb d_M_misfits_26 rfl (lv_at hl 2 rfl) ?_
      refine z_iald hx hb hAI (show z_A cI _ (E 1) 16 (gv 0) from hGA 0 (by omega)) (by omega) (by decide) d_M_misfits_27 ?_
      refine lv_iload_n hx hb d_M_misfits_28 rfl (lv_at hl 3 rfl) ?_
      refine z_rdV (n := 2) (C := R_M) (rest := []) ⟨hx, hb, hml, hown, hts⟩ hW0 (c_M_forced G E th mp ms mc mn mm gv ((gv 0) p1) d) w_689 w_686 w_688 wp_26 w_4 (by decide +kernel) ⟨rfl, rfl, Nat.le_of_ble_eq_true rfl, Nat.le_of_ble_eq_true rfl⟩ (hE0.recv hK rfl) (hB) rfl rfl hl.1 (Nat.le_of_ble_eq_true rfl) d_M_misfits_29 ⟨Nat.zero_le _, Nat.zero_le _⟩ ?_
      obtain ⟨o_29, hq_29⟩ : ∃ o, pm_f gv ms ((gv 0) p1) d = o := ⟨_, rfl⟩
      rcases o_29 with _ | j_29
      · skip
        refine z_topi (y := -1) (by rw [hq_29]; rfl) ?_
        refine lv_istore (lv' := [(4, .int (-1)), (3, .int (-1)), (0, .ref (E 0)), (1, .int (nI p1)), (2, .int d)]) hx hb d_M_misfits_32 hl (by decide) rfl (fun ls hl => ?_)
        refine lv_iconst (v := 0) hx hb d_M_misfits_34 (by decide) ?_
        refine lv_istore (lv' := [(5, .int 0), (4, .int (-1)), (3, .int (-1)), (0, .ref (E 0)), (1, .int (nI p1)), (2, .int d)]) hx hb d_M_misfits_35 hl (by decide) rfl (fun ls hl => ?_)
        refine lv_iconst (v := 0) hx hb d_M_misfits_37 (by decide) ?_
        refine lv_istore (lv' := [(6, .int 0), (5, .int 0), (4, .int (-1)), (3, .int (-1)), (0, .ref (E 0)), (1, .int (nI p1)), (2, .int d)]) hx hb d_M_misfits_38 hl (by decide) rfl (fun ls hl => ?_)
        refine lv_iload_n hx hb d_M_misfits_40 rfl (lv_at hl 3 rfl) ?_
        refine lv_iconst (v := (-1)) hx hb d_M_misfits_41 (by decide) ?_
        refine lv_icmp_eq (tgt := 113) hx hb d_M_misfits_42 (by decide) (fun c_2 => ?_) (fun c_2 => ?_)
        · skip
          refine lv_iload hx hb d_M_misfits_113 (lv_at hl 1 rfl) ?_
          exact z_zret hx hb hr hlocks (by simp [pi_b, pm_mis, pm_mf, hq_3, hq_29, c_1]) d_M_misfits_115
        · skip
          exact absurd (by decide) c_2
      · skip
        have hj_29 := pm_f_ok hq_29
        have hc_29 := hcn j_29 hj_29.1
        have h3_29 := hc_29.2.2 hj_29.2
        have hl_29 := hj_29.1
        refine z_topi (y := nI j_29) (by rw [hq_29]; rfl) ?_
        refine lv_istore (lv' := [(4, .int (nI j_29)), (3, .int (-1)), (0, .ref (E 0)), (1, .int (nI p1)), (2, .int d)]) hx hb d_M_misfits_32 hl (by decide) rfl (fun ls hl => ?_)
        refine lv_iconst (v := 0) hx hb d_M_misfits_34 (by decide) ?_
        refine lv_istore (lv' := [(5, .int 0), (4, .int (nI j_29)), (3, .int (-1)), (0, .ref (E 0)), (1, .int (nI p1)), (2, .int d)]) hx hb d_M_misfits_35 hl (by decide) rfl (fun ls hl => ?_)
        refine lv_iconst (v := 0) hx hb d_M_misfits_37 (by decide) ?_
        refine lv_istore (lv' := [(6, .int 0), (5, .int 0), (4, .int (nI j_29)), (3, .int (-1)), (0, .ref (E 0)), (1, .int (nI p1)), (2, .int d)]) hx hb d_M_misfits_38 hl (by decide) rfl (fun ls hl => ?_)
        refine lv_iload_n hx hb d_M_misfits_40 rfl (lv_at hl 3 rfl) ?_
        refine lv_iconst (v := (-1)) hx hb d_M_misfits_41 (by decide) ?_
        refine lv_icmp_eq (tgt := 113) hx hb d_M_misfits_42 (by decide) (fun c_3 => ?_) (fun c_3 => ?_)
        · skip
          refine lv_iload hx hb d_M_misfits_113 (lv_at hl 1 rfl) ?_
          exact z_zret hx hb hr hlocks (by simp [pi_b, pm_mis, pm_mf, hq_3, hq_29, c_1]) d_M_misfits_115
        · skip
          exact absurd (by decide) c_3
    · skip
      refine lv_iconst (v := (-1)) hx hb d_M_misfits_17 (by decide) ?_
      refine lv_goto (tgt := 32) hx hb d_M_misfits_18 (by decide) ?_
      refine lv_istore (lv' := [(4, .int (-1)), (3, .int (-1)), (0, .ref (E 0)), (1, .int (nI p1)), (2, .int d)]) hx hb d_M_misfits_32 hl (by decide) rfl (fun ls hl => ?_)
      refine lv_iconst (v := 0) hx hb d_M_misfits_34 (by decide) ?_
      refine lv_istore (lv' := [(5, .int 0), (4, .int (-1)), (3, .int (-1)), (0, .ref (E 0)), (1, .int (nI p1)), (2, .int d)]) hx hb d_M_misfits_35 hl (by decide) rfl (fun ls hl => ?_)
      refine lv_iconst (v := 0) hx hb d_M_misfits_37 (by decide) ?_
      refine lv_istore (lv' := [(6, .int 0), (5, .int 0), (4, .int (-1)), (3, .int (-1)), (0, .ref (E 0)), (1, .int (nI p1)), (2, .int d)]) hx hb d_M_misfits_38 hl (by decide) rfl (fun ls hl => ?_)
      refine lv_iload_n hx hb d_M_misfits_40 rfl (lv_at hl 3 rfl) ?_
      refine lv_iconst (v := (-1)) hx hb d_M_misfits_41 (by decide) ?_
      refine lv_icmp_eq (tgt := 113) hx hb d_M_misfits_42 (by decide) (fun c_4 => ?_) (fun c_4 => ?_)
      · skip
        refine lv_iload hx hb d_M_misfits_113 (lv_at hl 1 rfl) ?_
        exact z_zret hx hb hr hlocks (by simp [pi_b, pm_mis, pm_mf, hq_3, c_1]) d_M_misfits_115
      · skip
        exact absurd (by decide) c_4
  · skip
    have hj_3 := pm_f_ok hq_3
    have hc_3 := hcn j_3 hj_3.1
    have h3_3 := hc_3.2.2 hj_3.2
    have hl_3 := hj_3.1
    refine z_topi (y := nI j_3) (by rw [hq_3]; rfl) ?_
    refine lv_istore_n (lv' := [(3, .int (nI j_3)), (0, .ref (E 0)), (1, .int (nI p1)), (2, .int d)]) hx hb d_M_misfits_6 rfl hl (by decide) rfl (fun ls hl => ?_)
    refine lv_aload_n hx hb d_M_misfits_7 rfl (lv_at hl 1 rfl) ?_
    refine va_get (D := (dC, dI)) (ci := 4) (v := .ref (E 1)) (C := R_M) (T := T_M) (N := 23) hx hb hts in_M hown hK hE0.P 0 rfl rfl 2 (by decide) (hts _ w_542) (fun _ h9 => h9) rfl d_M_misfits_8 ?_
    refine lv_iload_n hx hb d_M_misfits_11 rfl (lv_at hl 2 rfl) ?_
    refine z_iald hx hb hAI (show z_A cI _ (E 1) 16 (gv 0) from hGA 0 (by omega)) (by omega) (by decide) d_M_misfits_12 ?_
    refine lv_iconst (v := (-1)) hx hb d_M_misfits_13 (by decide) ?_
    refine lv_icmp_ne (tgt := 21) hx hb d_M_misfits_14 (by decide) (fun c_5 => ?_) (fun c_5 => ?_)
    · skip
      refine lv_aload_n hx hb d_M_misfits_21 rfl (lv_at hl 1 rfl) ?_
      refine lv_aload_n hx hb d_M_misfits_22 rfl (lv_at hl 1 rfl) ?_
      refine va_get (D := (dC, dI)) (ci := 4) (v := .ref (E 1)) (C := R_M) (T := T_M) (N := 23) hx hb hts in_M hown hK hE0.P 0 rfl rfl 2 (by decide) (hts _ w_542) (fun _ h9 => h9) rfl d_M_misfits_23 ?_
      refine lv_iload_n hx hb d_M_misfits_26 rfl (lv_at hl 2 rfl) ?_
      refine z_iald hx hb hAI (show z_A cI _ (E 1) 16 (gv 0) from hGA 0 (by omega)) (by omega) (by decide) d_M_misfits_27 ?_
      refine lv_iload_n hx hb d_M_misfits_28 rfl (lv_at hl 3 rfl) ?_
      refine z_rdV (n := 2) (C := R_M) (rest := []) ⟨hx, hb, hml, hown, hts⟩ hW0 (c_M_forced G E th mp ms mc mn mm gv ((gv 0) p1) d) w_689 w_686 w_688 wp_26 w_4 (by decide +kernel) ⟨rfl, rfl, Nat.le_of_ble_eq_true rfl, Nat.le_of_ble_eq_true rfl⟩ (hE0.recv hK rfl) (hB) rfl rfl hl.1 (Nat.le_of_ble_eq_true rfl) d_M_misfits_29 ⟨Nat.zero_le _, Nat.zero_le _⟩ ?_
      obtain ⟨o_29, hq_29⟩ : ∃ o, pm_f gv ms ((gv 0) p1) d = o := ⟨_, rfl⟩
      rcases o_29 with _ | j_29
      · skip
        refine z_topi (y := -1) (by rw [hq_29]; rfl) ?_
        refine lv_istore (lv' := [(4, .int (-1)), (3, .int (nI j_3)), (0, .ref (E 0)), (1, .int (nI p1)), (2, .int d)]) hx hb d_M_misfits_32 hl (by decide) rfl (fun ls hl => ?_)
        refine lv_iconst (v := 0) hx hb d_M_misfits_34 (by decide) ?_
        refine lv_istore (lv' := [(5, .int 0), (4, .int (-1)), (3, .int (nI j_3)), (0, .ref (E 0)), (1, .int (nI p1)), (2, .int d)]) hx hb d_M_misfits_35 hl (by decide) rfl (fun ls hl => ?_)
        refine lv_iconst (v := 0) hx hb d_M_misfits_37 (by decide) ?_
        refine lv_istore (lv' := [(6, .int 0), (5, .int 0), (4, .int (-1)), (3, .int (nI j_3)), (0, .ref (E 0)), (1, .int (nI p1)), (2, .int d)]) hx hb d_M_misfits_38 hl (by decide) rfl (fun ls hl => ?_)
        refine lv_iload_n hx hb d_M_misfits_40 rfl (lv_at hl 3 rfl) ?_
        refine lv_iconst (v := (-1)) hx hb d_M_misfits_41 (by decide) ?_
        refine lv_icmp_eq (tgt := 113) hx hb d_M_misfits_42 (by decide) (fun c_6 => ?_) (fun c_6 => ?_)
        · skip
          exact absurd c_6 (z_ne1 (by omega))
        · skip
          refine lv_iload hx hb d_M_misfits_45 (lv_at hl 2 rfl) ?_
          refine lv_iconst (v := (-1)) hx hb d_M_misfits_47 (by decide) ?_
          refine lv_icmp_eq (tgt := 113) hx hb d_M_misfits_48 (by decide) (fun c_7 => ?_) (fun c_7 => ?_)
          · skip
            refine lv_iload hx hb d_M_misfits_113 (lv_at hl 1 rfl) ?_
            exact z_zret hx hb hr hlocks (by simp [pi_b, pm_mis, pm_mf, hq_3, hq_29, c_5, c_6]) d_M_misfits_115
          · skip
            exact absurd (by decide) c_7
      · skip
        have hj_29 := pm_f_ok hq_29
        have hc_29 := hcn j_29 hj_29.1
        have h3_29 := hc_29.2.2 hj_29.2
        have hl_29 := hj_29.1
        refine z_topi (y := nI j_29) (by rw [hq_29]; rfl) ?_
        refine lv_istore (lv' := [(4, .int (nI j_29)), (3, .int (nI j_3)), (0, .ref (E 0)), (1, .int (nI p1)), (2, .int d)]) hx hb d_M_misfits_32 hl (by decide) rfl (fun ls hl => ?_)
        refine lv_iconst (v := 0) hx hb d_M_misfits_34 (by decide) ?_
        refine lv_istore (lv' := [(5, .int 0), (4, .int (nI j_29)), (3, .int (nI j_3)), (0, .ref (E 0)), (1, .int (nI p1)), (2, .int d)]) hx hb d_M_misfits_35 hl (by decide) rfl (fun ls hl => ?_)
        refine lv_iconst (v := 0) hx hb d_M_misfits_37 (by decide) ?_
        refine lv_istore (lv' := [(6, .int 0), (5, .int 0), (4, .int (nI j_29)), (3, .int (nI j_3)), (0, .ref (E 0)), (1, .int (nI p1)), (2, .int d)]) hx hb d_M_misfits_38 hl (by decide) rfl (fun ls hl => ?_)
        exact (loops ((cn j_3 - 0) + 1)) j_3 j_29 false 0 (by omega) (by omega) (by omega) (by omega) (by omega) (by omega) (by omega) (by simp [pm_mis, pm_mf, hq_3, hq_29, c_5]) ls (lv_sub hl [4, 5, 6, 3, 2, 1, 0] rfl)
    · skip
      refine lv_iconst (v := (-1)) hx hb d_M_misfits_17 (by decide) ?_
      refine lv_goto (tgt := 32) hx hb d_M_misfits_18 (by decide) ?_
      refine lv_istore (lv' := [(4, .int (-1)), (3, .int (nI j_3)), (0, .ref (E 0)), (1, .int (nI p1)), (2, .int d)]) hx hb d_M_misfits_32 hl (by decide) rfl (fun ls hl => ?_)
      refine lv_iconst (v := 0) hx hb d_M_misfits_34 (by decide) ?_
      refine lv_istore (lv' := [(5, .int 0), (4, .int (-1)), (3, .int (nI j_3)), (0, .ref (E 0)), (1, .int (nI p1)), (2, .int d)]) hx hb d_M_misfits_35 hl (by decide) rfl (fun ls hl => ?_)
      refine lv_iconst (v := 0) hx hb d_M_misfits_37 (by decide) ?_
      refine lv_istore (lv' := [(6, .int 0), (5, .int 0), (4, .int (-1)), (3, .int (nI j_3)), (0, .ref (E 0)), (1, .int (nI p1)), (2, .int d)]) hx hb d_M_misfits_38 hl (by decide) rfl (fun ls hl => ?_)
      refine lv_iload_n hx hb d_M_misfits_40 rfl (lv_at hl 3 rfl) ?_
      refine lv_iconst (v := (-1)) hx hb d_M_misfits_41 (by decide) ?_
      refine lv_icmp_eq (tgt := 113) hx hb d_M_misfits_42 (by decide) (fun c_8 => ?_) (fun c_8 => ?_)
      · skip
        exact absurd c_8 (z_ne1 (by omega))
      · skip
        refine lv_iload hx hb d_M_misfits_45 (lv_at hl 2 rfl) ?_
        refine lv_iconst (v := (-1)) hx hb d_M_misfits_47 (by decide) ?_
        refine lv_icmp_eq (tgt := 113) hx hb d_M_misfits_48 (by decide) (fun c_9 => ?_) (fun c_9 => ?_)
        · skip
          refine lv_iload hx hb d_M_misfits_113 (lv_at hl 1 rfl) ?_
          exact z_zret hx hb hr hlocks (by simp [pi_b, pm_mis, pm_mf, hq_3, c_5, c_8]) d_M_misfits_115
        · skip
          exact absurd (by decide) c_9
end M2
