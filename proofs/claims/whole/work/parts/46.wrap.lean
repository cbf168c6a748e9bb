section WRA
variable {s0 : State} {dC : Nat → ClassId} {dI : Nat → Nat → Nat} {cI cS cL : ClassId} {l : Launch}
set_option maxRecDepth 100000 in
set_option maxHeartbeats 4000000 in
theorem w_place (G : z_G s0 (dC, dI) cI cS) (hLX : z_LX s0 cL) {rm : Room} {mc ms sz a o : Nat} {p0 : Int32} {B P : Heap → Prop} {F : Nat → Prop} {f : Nat → Int64} {v : Int32} (hM : Met l y_B_place [Cond.code y_B_place b_B_place 2 (some .int)] rm (z_Pc s0 [.ref a, .int p0] (fun H => H.size = sz ∧ B H)) (z_Qw (fun r H => r = some (.int v) ∧ P H) (z_fr F sz)) mc ms (z_fr F sz)) (hrm : rm.cells = mc ∧ rm.slots = ms) (hOB : ∀ H : Heap, B H → ∃ fs, z_O (dC, dI) H a 3 fs) (hPk : ∀ H H1 : Heap, P H → (∀ q : Nat, q ≠ o → H1[q]? = H[q]?) → P H1) (hoF : ¬ F o) : Met l y_L_place [Cond.codeWith y_L_place b_L_place 4 (some .int) [(0, 9, 12, 13), (0, 9, 15, 15)]] ({ frames := rm.frames + 1, cells := mc, slots := ms, locals := 8 + (2 + 11) + rm.locals }) (z_Pc s0 [.ref a, .int p0, .ref o] (fun H => H.size = sz ∧ (B H ∧ z_L cL H o 1 f))) (z_Qw (fun r H => r = some (.int 0) ∧ (P H ∧ z_L cL H o 1 (vp_updL f 0 (v.toInt64)))) (z_fr (fun q => F q ∨ q = o) sz)) mc ms (z_fr (fun q => F q ∨ q = o) sz) := by
  refine z_ofWT (by decide +kernel) (Nat.le_of_ble_eq_true rfl) ?_
  intro p e s m below meth c hx hb hml hr hown hlocks htab hW0 hB ls hl
  have hts := z_hts (args := [.ref a, .int p0, .ref o].toArray) G.1 hW0
  have hK := va_K.moved hW0.alike G.2.2.1
  have hl : lv_has ls 4 [(0, .ref a), (1, .int p0), (2, .ref o)] := hl
  obtain ⟨rfl, hB, hL0⟩ := hB
  obtain ⟨fs, hO⟩ := hOB _ hB
  have hS : va_S (z_fr (fun q => F q ∨ q = o) s.heap.size) s.heap s.heap [] := va_S.rf
  have hAL := arrOfT_moved hW0.alike hLX.1
  refine lv_aload_n hx hb d_L_place_0 rfl (lv_at hl 2 rfl) ?_
  refine lv_iconst (v := 0) hx hb d_L_place_1 (by decide) ?_
  refine lv_aload_n hx hb d_L_place_2 rfl (lv_at hl 0 rfl) ?_
  refine lv_iload_n hx hb d_L_place_3 rfl (lv_at hl 1 rfl) ?_
  refine z_wrV (n := 1) (C := R_B) (rest := [.int 0, .ref o]) ⟨hx, hb, hml, hown, hts⟩ hW0 hM w_98 w_95 w_96 w_97 w_1 (by decide +kernel) ⟨hrm.1, hrm.2, Nat.le_refl _, Nat.le_refl _⟩ (hO.recv hK rfl) ⟨rfl, hB⟩ rfl rfl hl.1 (Nat.le_of_ble_eq_true rfl) d_L_place_4 ⟨Nat.le_of_eq (Nat.zero_add _), Nat.le_of_eq (Nat.zero_add _)⟩ hS (fun q h => h.elim (fun h => Or.inl (Or.inl h)) Or.inr) (fun H1 locs1 hP1 hz1 hk1 hS => ?_)
  rw [Nat.zero_add mc, Nat.zero_add ms]
  have hL1 := hL0.keep (hk1 _ hL0.lt (fun h => h.elim hoF (fun h => Nat.not_le.mpr hL0.lt h)))
  refine lv_i2l hx hb d_L_place_7 rfl ?_
  refine z_last (x := v.toInt64) hx hb hAL hL1 hS (Or.inl (Or.inr rfl)) d_L_place_8 (fun H1 locs1 hz2 hL1 ho2 hS => ?_)
  have hP1 := hPk _ _ hP1 ho2
  refine lv_goto (tgt := 18) hx hb d_L_place_9 (by decide) ?_
  refine lv_iconst (v := 0) hx hb d_L_place_18 (by decide) ?_
  exact z_wi hx hb hr hlocks ⟨rfl, hP1, hL1⟩ hS d_L_place_19
set_option maxRecDepth 100000 in
set_option maxHeartbeats 4000000 in
theorem w_place_t1 (G : z_G s0 (dC, dI) cI cS) (hLX : z_LX s0 cL) {rm : Room} {sz a o : Nat} {p0 : Int32} {B K : Heap → Prop} (hM : xt_Met l y_B_place [Cond.code y_B_place b_B_place 2 (some .int)] rm (z_Pc s0 [.ref a, .int p0] B) "java/util/NoSuchElementException") (hrm : rm.cells = 1 ∧ rm.slots = 6) (hOB : ∀ H : Heap, B H → ∃ fs, z_O (dC, dI) H a 3 fs) (hKB : ∀ H : Heap, K H → B H) (hKs : ∀ H H1 : Heap, K H → H.size ≤ H1.size → (∀ q : Nat, q < H.size → H1[q]? = H[q]?) → K H1) : Met l y_L_place [Cond.codeWith y_L_place b_L_place 4 (some .int) [(0, 9, 12, 13), (0, 9, 15, 15)]] ({ frames := rm.frames + 1, cells := 1, slots := 6, locals := 8 + (2 + 11) + rm.locals }) (z_Pc s0 [.ref a, .int p0, .ref o] (fun H => H.size = sz ∧ K H)) (z_Qw (fun r H => r = some (.int 1) ∧ K H) (z_fr (fun _ => False) sz)) 1 6 (z_fr (fun _ => False) sz) := by
  refine z_ofWT (by decide +kernel) (Nat.le_of_ble_eq_true rfl) ?_
  intro p e s m below meth c hx hb hml hr hown hlocks htab hW0 hB ls hl
  have hts := z_hts (args := [.ref a, .int p0, .ref o].toArray) G.1 hW0
  have hK := va_K.moved hW0.alike G.2.2.1
  have hl : lv_has ls 4 [(0, .ref a), (1, .int p0), (2, .ref o)] := hl
  obtain ⟨rfl, hK0⟩ := hB
  have hB := hKB _ hK0
  obtain ⟨fs, hO⟩ := hOB _ hB
  refine lv_aload_n hx hb d_L_place_0 rfl (lv_at hl 2 rfl) ?_
  refine lv_iconst (v := 0) hx hb d_L_place_1 (by decide) ?_
  refine lv_aload_n hx hb d_L_place_2 rfl (lv_at hl 0 rfl) ?_
  refine lv_iload_n hx hb d_L_place_3 rfl (lv_at hl 1 rfl) ?_
  refine xh_catch (X := "java/util/NoSuchElementException") (own := R_L) (xt_runV (C := R_B) (rest := [.int 0, .ref o]) (g := F0 m 4 ls _) ⟨hx, hb, hml, hown, hts⟩ hM ⟨z_callB (n := 1) hts w_98 w_95 w_1 (by decide +kernel) ⟨hrm.1, hrm.2, Nat.le_refl _, Nat.le_refl _⟩, hts _ w_96, hts _ w_97⟩ ⟨z_blind, hO.recv hK rfl, fun U hU hW => ⟨rfl, hW0.trans hW, by rw [hU]; exact hB⟩⟩ rfl rfl hl.1 rfl (Nat.le_of_ble_eq_true rfl) d_L_place_4 ⟨Nat.le_of_ble_eq_true rfl, Nat.le_of_ble_eq_true rfl⟩) hown [] ⟨0, 9, 12, 13⟩ [⟨0, 9, 15, 15⟩] htab rfl (by decide) (hts _ w_93) (fun y hy => by cases hy) (fun x9 H1 hz1 ho1 => ?_)
  have hS : va_S (z_fr (fun _ => False) s.heap.size) s.heap H1 [] := ⟨hz1, fun q h1 _ => ho1 q h1, fun q hq => by cases hq⟩
  have hK1 := hKs _ _ hK0 hz1 ho1
  refine lv_astore_n (lv' := [(3, .ref x9), (0, .ref a), (1, .int p0), (2, .ref o)]) hx hb d_L_place_12 rfl hl (by decide) rfl (fun ls hl => ?_)
  refine lv_iconst (v := 1) hx hb d_L_place_13 (by decide) ?_
  exact z_wi hx hb hr hlocks ⟨rfl, hK1⟩ hS d_L_place_14
set_option maxRecDepth 100000 in
set_option maxHeartbeats 4000000 in
theorem w_place_t2 (G : z_G s0 (dC, dI) cI cS) (hLX : z_LX s0 cL) {rm : Room} {sz a o : Nat} {p0 : Int32} {B K : Heap → Prop} (hM : xt_Met l y_B_place [Cond.code y_B_place b_B_place 2 (some .int)] rm (z_Pc s0 [.ref a, .int p0] B) "java/lang/IllegalStateException") (hrm : rm.cells = 1 ∧ rm.slots = 6) (hOB : ∀ H : Heap, B H → ∃ fs, z_O (dC, dI) H a 3 fs) (hKB : ∀ H : Heap, K H → B H) (hKs : ∀ H H1 : Heap, K H → H.size ≤ H1.size → (∀ q : Nat, q < H.size → H1[q]? = H[q]?) → K H1) : Met l y_L_place [Cond.codeWith y_L_place b_L_place 4 (some .int) [(0, 9, 12, 13), (0, 9, 15, 15)]] ({ frames := rm.frames + 1, cells := 1, slots := 6, locals := 8 + (2 + 11) + rm.locals }) (z_Pc s0 [.ref a, .int p0, .ref o] (fun H => H.size = sz ∧ K H)) (z_Qw (fun r H => r = some (.int 2) ∧ K H) (z_fr (fun _ => False) sz)) 1 6 (z_fr (fun _ => False) sz) := by
  refine z_ofWT (by decide +kernel) (Nat.le_of_ble_eq_true rfl) ?_
  intro p e s m below meth c hx hb hml hr hown hlocks htab hW0 hB ls hl
  have hts := z_hts (args := [.ref a, .int p0, .ref o].toArray) G.1 hW0
  have hK := va_K.moved hW0.alike G.2.2.1
  have hl : lv_has ls 4 [(0, .ref a), (1, .int p0), (2, .ref o)] := hl
  obtain ⟨rfl, hK0⟩ := hB
  have hB := hKB _ hK0
  obtain ⟨fs, hO⟩ := hOB _ hB
  refine lv_aload_n hx hb d_L_place_0 rfl (lv_at hl 2 rfl) ?_
  refine lv_iconst (v := 0) hx hb d_L_place_1 (by decide) ?_
  refine lv_aload_n hx hb d_L_place_2 rfl (lv_at hl 0 rfl) ?_
  refine lv_iload_n hx hb d_L_place_3 rfl (lv_at hl 1 rfl) ?_
  refine xh_catch (X := "java/lang/IllegalStateException") (own := R_L) (xt_runV (C := R_B) (rest := [.int 0, .ref o]) (g := F0 m 4 ls _) ⟨hx, hb, hml, hown, hts⟩ hM ⟨z_callB (n := 1) hts w_98 w_95 w_1 (by decide +kernel) ⟨hrm.1, hrm.2, Nat.le_refl _, Nat.le_refl _⟩, hts _ w_96, hts _ w_97⟩ ⟨z_blind, hO.recv hK rfl, fun U hU hW => ⟨rfl, hW0.trans hW, by rw [hU]; exact hB⟩⟩ rfl rfl hl.1 rfl (Nat.le_of_ble_eq_true rfl) d_L_place_4 ⟨Nat.le_of_ble_eq_true rfl, Nat.le_of_ble_eq_true rfl⟩) hown [⟨0, 9, 12, 13⟩] ⟨0, 9, 15, 15⟩ [] htab rfl (by decide) (hts _ w_94) (fun y hy => by simp only [List.mem_cons, List.not_mem_nil, or_false] at hy; subst hy; exact ⟨rfl, by decide, _, hts _ w_93, va_Nc.moved hW0.alike hLX.2.1⟩) (fun x9 H1 hz1 ho1 => ?_)
  have hS : va_S (z_fr (fun _ => False) s.heap.size) s.heap H1 [] := ⟨hz1, fun q h1 _ => ho1 q h1, fun q hq => by cases hq⟩
  have hK1 := hKs _ _ hK0 hz1 ho1
  refine lv_astore_n (lv' := [(3, .ref x9), (0, .ref a), (1, .int p0), (2, .ref o)]) hx hb d_L_place_15 rfl hl (by decide) rfl (fun ls hl => ?_)
  refine lv_iconst (v := 2) hx hb d_L_place_16 (by decide) ?_
  exact z_wi hx hb hr hlocks ⟨rfl, hK1⟩ hS d_L_place_17
set_option maxRecDepth 100000 in
set_option maxHeartbeats 4000000 in
theorem w_shape (G : z_G s0 (dC, dI) cI cS) (hLX : z_LX s0 cL) {rm : Room} {mc ms sz a o : Nat} {p0 p1 p2 : Int32} {B P : Heap → Prop} {F : Nat → Prop} {f : Nat → Int64} {v : Int32} (hM : Met l y_B_shape [Cond.code y_B_shape b_B_shape 4 (some .int)] rm (z_Pc s0 [.ref a, .int p0, .int p1, .int p2] (fun H => H.size = sz ∧ B H)) (z_Qw (fun r H => r = some (.int v) ∧ P H) (z_fr F sz)) mc ms (z_fr F sz)) (hrm : rm.cells = mc ∧ rm.slots = ms) (hOB : ∀ H : Heap, B H → ∃ fs, z_O (dC, dI) H a 3 fs) (hPk : ∀ H H1 : Heap, P H → (∀ q : Nat, q ≠ o → H1[q]? = H[q]?) → P H1) (hoF : ¬ F o) : Met l y_L_shape [Cond.codeWith y_L_shape b_L_shape 6 (some .int) [(0, 12, 15, 13), (0, 12, 19, 21), (0, 12, 23, 15)]] ({ frames := rm.frames + 1, cells := mc, slots := ms, locals := 8 + (4 + 11) + rm.locals }) (z_Pc s0 [.ref a, .int p0, .int p1, .int p2, .ref o] (fun H => H.size = sz ∧ (B H ∧ z_L cL H o 1 f))) (z_Qw (fun r H => r = some (.int 0) ∧ (P H ∧ z_L cL H o 1 (vp_updL f 0 (v.toInt64)))) (z_fr (fun q => F q ∨ q = o) sz)) mc ms (z_fr (fun q => F q ∨ q = o) sz) := by
  refine z_ofWT (by decide +kernel) (Nat.le_of_ble_eq_true rfl) ?_
  intro p e s m below meth c hx hb hml hr hown hlocks htab hW0 hB ls hl
  have hts := z_hts (args := [.ref a, .int p0, .int p1, .int p2, .ref o].toArray) G.1 hW0
  have hK := va_K.moved hW0.alike G.2.2.1
  have hl : lv_has ls 6 [(0, .ref a), (1, .int p0), (2, .int p1), (3, .int p2), (4, .ref o)] := hl
  obtain ⟨rfl, hB, hL0⟩ := hB
  obtain ⟨fs, hO⟩ := hOB _ hB
  have hS : va_S (z_fr (fun q => F q ∨ q = o) s.heap.size) s.heap s.heap [] := va_S.rf
  have hAL := arrOfT_moved hW0.alike hLX.1
  refine lv_aload hx hb d_L_shape_0 (lv_at hl 4 rfl) ?_
  refine lv_iconst (v := 0) hx hb d_L_shape_2 (by decide) ?_
  refine lv_aload_n hx hb d_L_shape_3 rfl (lv_at hl 0 rfl) ?_
  refine lv_iload_n hx hb d_L_shape_4 rfl (lv_at hl 1 rfl) ?_
  refine lv_iload_n hx hb d_L_shape_5 rfl (lv_at hl 2 rfl) ?_
  refine lv_iload_n hx hb d_L_shape_6 rfl (lv_at hl 3 rfl) ?_
  refine z_wrV (n := 3) (C := R_B) (rest := [.int 0, .ref o]) ⟨hx, hb, hml, hown, hts⟩ hW0 hM w_194 w_191 w_192 w_193 w_1 (by decide +kernel) ⟨hrm.1, hrm.2, Nat.le_refl _, Nat.le_refl _⟩ (hO.recv hK rfl) ⟨rfl, hB⟩ rfl rfl hl.1 (Nat.le_of_ble_eq_true rfl) d_L_shape_7 ⟨Nat.le_of_eq (Nat.zero_add _), Nat.le_of_eq (Nat.zero_add _)⟩ hS (fun q h => h.elim (fun h => Or.inl (Or.inl h)) Or.inr) (fun H1 locs1 hP1 hz1 hk1 hS => ?_)
  rw [Nat.zero_add mc, Nat.zero_add ms]
  have hL1 := hL0.keep (hk1 _ hL0.lt (fun h => h.elim hoF (fun h => Nat.not_le.mpr hL0.lt h)))
  refine lv_i2l hx hb d_L_shape_10 rfl ?_
  refine z_last (x := v.toInt64) hx hb hAL hL1 hS (Or.inl (Or.inr rfl)) d_L_shape_11 (fun H1 locs1 hz2 hL1 ho2 hS => ?_)
  have hP1 := hPk _ _ hP1 ho2
  refine lv_goto (tgt := 27) hx hb d_L_shape_12 (by decide) ?_
  refine lv_iconst (v := 0) hx hb d_L_shape_27 (by decide) ?_
  exact z_wi hx hb hr hlocks ⟨rfl, hP1, hL1⟩ hS d_L_shape_28
set_option maxRecDepth 100000 in
set_option maxHeartbeats 4000000 in
theorem w_shape_t1 (G : z_G s0 (dC, dI) cI cS) (hLX : z_LX s0 cL) {rm : Room} {sz a o : Nat} {p0 p1 p2 : Int32} {B K : Heap → Prop} (hM : xt_Met l y_B_shape [Cond.code y_B_shape b_B_shape 4 (some .int)] rm (z_Pc s0 [.ref a, .int p0, .int p1, .int p2] B) "java/util/NoSuchElementException") (hrm : rm.cells = 1 ∧ rm.slots = 6) (hOB : ∀ H : Heap, B H → ∃ fs, z_O (dC, dI) H a 3 fs) (hKB : ∀ H : Heap, K H → B H) (hKs : ∀ H H1 : Heap, K H → H.size ≤ H1.size → (∀ q : Nat, q < H.size → H1[q]? = H[q]?) → K H1) : Met l y_L_shape [Cond.codeWith y_L_shape b_L_shape 6 (some .int) [(0, 12, 15, 13), (0, 12, 19, 21), (0, 12, 23, 15)]] ({ frames := rm.frames + 1, cells := 1, slots := 6, locals := 8 + (4 + 11) + rm.locals }) (z_Pc s0 [.ref a, .int p0, .int p1, .int p2, .ref o] (fun H => H.size = sz ∧ K H)) (z_Qw (fun r H => r = some (.int 1) ∧ K H) (z_fr (fun _ => False) sz)) 1 6 (z_fr (fun _ => False) sz) := by
  refine z_ofWT (by decide +kernel) (Nat.le_of_ble_eq_true rfl) ?_
  intro p e s m below meth c hx hb hml hr hown hlocks htab hW0 hB ls hl
  have hts := z_hts (args := [.ref a, .int p0, .int p1, .int p2, .ref o].toArray) G.1 hW0
  have hK := va_K.moved hW0.alike G.2.2.1
  have hl : lv_has ls 6 [(0, .ref a), (1, .int p0), (2, .int p1), (3, .int p2), (4, .ref o)] := hl
  obtain ⟨rfl, hK0⟩ := hB
  have hB := hKB _ hK0
  obtain ⟨fs, hO⟩ := hOB _ hB
  refine lv_aload hx hb d_L_shape_0 (lv_at hl 4 rfl) ?_
  refine lv_iconst (v := 0) hx hb d_L_shape_2 (by decide) ?_
  refine lv_aload_n hx hb d_L_shape_3 rfl (lv_at hl 0 rfl) ?_
  refine lv_iload_n hx hb d_L_shape_4 rfl (lv_at hl 1 rfl) ?_
  refine lv_iload_n hx hb d_L_shape_5 rfl (lv_at hl 2 rfl) ?_
  refine lv_iload_n hx hb d_L_shape_6 rfl (lv_at hl 3 rfl) ?_
  refine xh_catch (X := "java/util/NoSuchElementException") (own := R_L) (xt_runV (C := R_B) (rest := [.int 0, .ref o]) (g := F0 m 7 ls _) ⟨hx, hb, hml, hown, hts⟩ hM ⟨z_callB (n := 3) hts w_194 w_191 w_1 (by decide +kernel) ⟨hrm.1, hrm.2, Nat.le_refl _, Nat.le_refl _⟩, hts _ w_192, hts _ w_193⟩ ⟨z_blind, hO.recv hK rfl, fun U hU hW => ⟨rfl, hW0.trans hW, by rw [hU]; exact hB⟩⟩ rfl rfl hl.1 rfl (Nat.le_of_ble_eq_true rfl) d_L_shape_7 ⟨Nat.le_of_ble_eq_true rfl, Nat.le_of_ble_eq_true rfl⟩) hown [] ⟨0, 12, 15, 13⟩ [⟨0, 12, 19, 21⟩, ⟨0, 12, 23, 15⟩] htab rfl (by decide) (hts _ w_93) (fun y hy => by cases hy) (fun x9 H1 hz1 ho1 => ?_)
  have hS : va_S (z_fr (fun _ => False) s.heap.size) s.heap H1 [] := ⟨hz1, fun q h1 _ => ho1 q h1, fun q hq => by cases hq⟩
  have hK1 := hKs _ _ hK0 hz1 ho1
  refine lv_astore (lv' := [(5, .ref x9), (0, .ref a), (1, .int p0), (2, .int p1), (3, .int p2), (4, .ref o)]) hx hb d_L_shape_15 hl (by decide) rfl (fun ls hl => ?_)
  refine lv_iconst (v := 1) hx hb d_L_shape_17 (by decide) ?_
  exact z_wi hx hb hr hlocks ⟨rfl, hK1⟩ hS d_L_shape_18
set_option maxRecDepth 100000 in
set_option maxHeartbeats 4000000 in
theorem w_shape_t2 (G : z_G s0 (dC, dI) cI cS) (hLX : z_LX s0 cL) {rm : Room} {sz a o : Nat} {p0 p1 p2 : Int32} {B K : Heap → Prop} (hM : xt_Met l y_B_shape [Cond.code y_B_shape b_B_shape 4 (some .int)] rm (z_Pc s0 [.ref a, .int p0, .int p1, .int p2] B) "java/lang/IllegalArgumentException") (hrm : rm.cells = 1 ∧ rm.slots = 6) (hOB : ∀ H : Heap, B H → ∃ fs, z_O (dC, dI) H a 3 fs) (hKB : ∀ H : Heap, K H → B H) (hKs : ∀ H H1 : Heap, K H → H.size ≤ H1.size → (∀ q : Nat, q < H.size → H1[q]? = H[q]?) → K H1) : Met l y_L_shape [Cond.codeWith y_L_shape b_L_shape 6 (some .int) [(0, 12, 15, 13), (0, 12, 19, 21), (0, 12, 23, 15)]] ({ frames := rm.frames + 1, cells := 1, slots := 6, locals := 8 + (4 + 11) + rm.locals }) (z_Pc s0 [.ref a, .int p0, .int p1, .int p2, .ref o] (fun H => H.size = sz ∧ K H)) (z_Qw (fun r H => r = some (.int 2) ∧ K H) (z_fr (fun _ => False) sz)) 1 6 (z_fr (fun _ => False) sz) := by
  refine z_ofWT (by decide +kernel) (Nat.le_of_ble_eq_true rfl) ?_
  intro p e s m below meth c hx hb hml hr hown hlocks htab hW0 hB ls hl
  have hts := z_hts (args := [.ref a, .int p0, .int p1, .int p2, .ref o].toArray) G.1 hW0
  have hK := va_K.moved hW0.alike G.2.2.1
  have hl : lv_has ls 6 [(0, .ref a), (1, .int p0), (2, .int p1), (3, .int p2), (4, .ref o)] := hl
  obtain ⟨rfl, hK0⟩ := hB
  have hB := hKB _ hK0
  obtain ⟨fs, hO⟩ := hOB _ hB
  refine lv_aload hx hb d_L_shape_0 (lv_at hl 4 rfl) ?_
  refine lv_iconst (v := 0) hx hb d_L_shape_2 (by decide) ?_
  refine lv_aload_n hx hb d_L_shape_3 rfl (lv_at hl 0 rfl) ?_
  refine lv_iload_n hx hb d_L_shape_4 rfl (lv_at hl 1 rfl) ?_
  refine lv_iload_n hx hb d_L_shape_5 rfl (lv_at hl 2 rfl) ?_
  refine lv_iload_n hx hb d_L_shape_6 rfl (lv_at hl 3 rfl) ?_
  refine xh_catch (X := "java/lang/IllegalArgumentException") (own := R_L) (xt_runV (C := R_B) (rest := [.int 0, .ref o]) (g := F0 m 7 ls _) ⟨hx, hb, hml, hown, hts⟩ hM ⟨z_callB (n := 3) hts w_194 w_191 w_1 (by decide +kernel) ⟨hrm.1, hrm.2, Nat.le_refl _, Nat.le_refl _⟩, hts _ w_192, hts _ w_193⟩ ⟨z_blind, hO.recv hK rfl, fun U hU hW => ⟨rfl, hW0.trans hW, by rw [hU]; exact hB⟩⟩ rfl rfl hl.1 rfl (Nat.le_of_ble_eq_true rfl) d_L_shape_7 ⟨Nat.le_of_ble_eq_true rfl, Nat.le_of_ble_eq_true rfl⟩) hown [⟨0, 12, 15, 13⟩] ⟨0, 12, 19, 21⟩ [⟨0, 12, 23, 15⟩] htab rfl (by decide) (hts _ w_190) (fun y hy => by simp only [List.mem_cons, List.not_mem_nil, or_false] at hy; subst hy; exact ⟨rfl, by decide, _, hts _ w_93, va_Nc.moved hW0.alike hLX.2.2.1⟩) (fun x9 H1 hz1 ho1 => ?_)
  have hS : va_S (z_fr (fun _ => False) s.heap.size) s.heap H1 [] := ⟨hz1, fun q h1 _ => ho1 q h1, fun q hq => by cases hq⟩
  have hK1 := hKs _ _ hK0 hz1 ho1
  refine lv_astore (lv' := [(5, .ref x9), (0, .ref a), (1, .int p0), (2, .int p1), (3, .int p2), (4, .ref o)]) hx hb d_L_shape_19 hl (by decide) rfl (fun ls hl => ?_)
  refine lv_iconst (v := 2) hx hb d_L_shape_21 (by decide) ?_
  exact z_wi hx hb hr hlocks ⟨rfl, hK1⟩ hS d_L_shape_22
set_option maxRecDepth 100000 in
set_option maxHeartbeats 4000000 in
theorem w_shape_t3 (G : z_G s0 (dC, dI) cI cS) (hLX : z_LX s0 cL) {rm : Room} {sz a o : Nat} {p0 p1 p2 : Int32} {B K : Heap → Prop} (hM : xt_Met l y_B_shape [Cond.code y_B_shape b_B_shape 4 (some .int)] rm (z_Pc s0 [.ref a, .int p0, .int p1, .int p2] B) "java/lang/IllegalStateException") (hrm : rm.cells = 1 ∧ rm.slots = 6) (hOB : ∀ H : Heap, B H → ∃ fs, z_O (dC, dI) H a 3 fs) (hKB : ∀ H : Heap, K H → B H) (hKs : ∀ H H1 : Heap, K H → H.size ≤ H1.size → (∀ q : Nat, q < H.size → H1[q]? = H[q]?) → K H1) : Met l y_L_shape [Cond.codeWith y_L_shape b_L_shape 6 (some .int) [(0, 12, 15, 13), (0, 12, 19, 21), (0, 12, 23, 15)]] ({ frames := rm.frames + 1, cells := 1, slots := 6, locals := 8 + (4 + 11) + rm.locals }) (z_Pc s0 [.ref a, .int p0, .int p1, .int p2, .ref o] (fun H => H.size = sz ∧ K H)) (z_Qw (fun r H => r = some (.int 3) ∧ K H) (z_fr (fun _ => False) sz)) 1 6 (z_fr (fun _ => False) sz) := by
  refine z_ofWT (by decide +kernel) (Nat.le_of_ble_eq_true rfl) ?_
  intro p e s m below meth c hx hb hml hr hown hlocks htab hW0 hB ls hl
  have hts := z_hts (args := [.ref a, .int p0, .int p1, .int p2, .ref o].toArray) G.1 hW0
  have hK := va_K.moved hW0.alike G.2.2.1
  have hl : lv_has ls 6 [(0, .ref a), (1, .int p0), (2, .int p1), (3, .int p2), (4, .ref o)] := hl
  obtain ⟨rfl, hK0⟩ := hB
  have hB := hKB _ hK0
  obtain ⟨fs, hO⟩ := hOB _ hB
  refine lv_aload hx hb d_L_shape_0 (lv_at hl 4 rfl) ?_
  refine lv_iconst (v := 0) hx hb d_L_shape_2 (by decide) ?_
  refine lv_aload_n hx hb d_L_shape_3 rfl (lv_at hl 0 rfl) ?_
  refine lv_iload_n hx hb d_L_shape_4 rfl (lv_at hl 1 rfl) ?_
  refine lv_iload_n hx hb d_L_shape_5 rfl (lv_at hl 2 rfl) ?_
  refine lv_iload_n hx hb d_L_shape_6 rfl (lv_at hl 3 rfl) ?_
  refine xh_catch (X := "java/lang/IllegalStateException") (own := R_L) (xt_runV (C := R_B) (rest := [.int 0, .ref o]) (g := F0 m 7 ls _) ⟨hx, hb, hml, hown, hts⟩ hM ⟨z_callB (n := 3) hts w_194 w_191 w_1 (by decide +kernel) ⟨hrm.1, hrm.2, Nat.le_refl _, Nat.le_refl _⟩, hts _ w_192, hts _ w_193⟩ ⟨z_blind, hO.recv hK rfl, fun U hU hW => ⟨rfl, hW0.trans hW, by rw [hU]; exact hB⟩⟩ rfl rfl hl.1 rfl (Nat.le_of_ble_eq_true rfl) d_L_shape_7 ⟨Nat.le_of_ble_eq_true rfl, Nat.le_of_ble_eq_true rfl⟩) hown [⟨0, 12, 15, 13⟩, ⟨0, 12, 19, 21⟩] ⟨0, 12, 23, 15⟩ [] htab rfl (by decide) (hts _ w_94) (fun y hy => by simp only [List.mem_cons, List.not_mem_nil, or_false] at hy; rcases hy with rfl | rfl; exact ⟨rfl, by decide, _, hts _ w_93, va_Nc.moved hW0.alike hLX.2.1⟩; exact ⟨rfl, by decide, _, hts _ w_190, va_Nc.moved hW0.alike hLX.2.2.2⟩) (fun x9 H1 hz1 ho1 => ?_)
  have hS : va_S (z_fr (fun _ => False) s.heap.size) s.heap H1 [] := ⟨hz1, fun q h1 _ => ho1 q h1, fun q hq => by cases hq⟩
  have hK1 := hKs _ _ hK0 hz1 ho1
  refine lv_astore (lv' := [(5, .ref x9), (0, .ref a), (1, .int p0), (2, .int p1), (3, .int p2), (4, .ref o)]) hx hb d_L_shape_23 hl (by decide) rfl (fun ls hl => ?_)
  refine lv_iconst (v := 3) hx hb d_L_shape_25 (by decide) ?_
  exact z_wi hx hb hr hlocks ⟨rfl, hK1⟩ hS d_L_shape_26
set_option maxRecDepth 100000 in
set_option maxHeartbeats 4000000 in
theorem w_corner (G : z_G s0 (dC, dI) cI cS) (hLX : z_LX s0 cL) {rm : Room} {mc ms sz a o : Nat} {p0 p1 p2 : Int32} {B P : Heap → Prop} {F : Nat → Prop} {f : Nat → Int64} {v : Int32} (hM : Met l y_B_corner [Cond.code y_B_corner b_B_corner 5 (some .int)] rm (z_Pc s0 [.ref a, .int p0, .int p1, .int p2] (fun H => H.size = sz ∧ B H)) (z_Qw (fun r H => r = some (.int v) ∧ P H) (z_fr F sz)) mc ms (z_fr F sz)) (hrm : rm.cells = mc ∧ rm.slots = ms) (hOB : ∀ H : Heap, B H → ∃ fs, z_O (dC, dI) H a 3 fs) (hPk : ∀ H H1 : Heap, P H → (∀ q : Nat, q ≠ o → H1[q]? = H[q]?) → P H1) (hoF : ¬ F o) : Met l y_L_corner [Cond.codeWith y_L_corner b_L_corner 6 (some .int) [(0, 12, 15, 13), (0, 12, 19, 21), (0, 12, 23, 15)]] ({ frames := rm.frames + 1, cells := mc, slots := ms, locals := 8 + (5 + 11) + rm.locals }) (z_Pc s0 [.ref a, .int p0, .int p1, .int p2, .ref o] (fun H => H.size = sz ∧ (B H ∧ z_L cL H o 1 f))) (z_Qw (fun r H => r = some (.int 0) ∧ (P H ∧ z_L cL H o 1 (vp_updL f 0 (v.toInt64)))) (z_fr (fun q => F q ∨ q = o) sz)) mc ms (z_fr (fun q => F q ∨ q = o) sz) := by
  refine z_ofWT (by decide +kernel) (Nat.le_of_ble_eq_true rfl) ?_
  intro p e s m below meth c hx hb hml hr hown hlocks htab hW0 hB ls hl
  have hts := z_hts (args := [.ref a, .int p0, .int p1, .int p2, .ref o].toArray) G.1 hW0
  have hK := va_K.moved hW0.alike G.2.2.1
  have hl : lv_has ls 6 [(0, .ref a), (1, .int p0), (2, .int p1), (3, .int p2), (4, .ref o)] := hl
  obtain ⟨rfl, hB, hL0⟩ := hB
  obtain ⟨fs, hO⟩ := hOB _ hB
  have hS : va_S (z_fr (fun q => F q ∨ q = o) s.heap.size) s.heap s.heap [] := va_S.rf
  have hAL := arrOfT_moved hW0.alike hLX.1
  refine lv_aload hx hb d_L_corner_0 (lv_at hl 4 rfl) ?_
  refine lv_iconst (v := 0) hx hb d_L_corner_2 (by decide) ?_
  refine lv_aload_n hx hb d_L_corner_3 rfl (lv_at hl 0 rfl) ?_
  refine lv_iload_n hx hb d_L_corner_4 rfl (lv_at hl 1 rfl) ?_
  refine lv_iload_n hx hb d_L_corner_5 rfl (lv_at hl 2 rfl) ?_
  refine lv_iload_n hx hb d_L_corner_6 rfl (lv_at hl 3 rfl) ?_
  refine z_wrV (n := 3) (C := R_B) (rest := [.int 0, .ref o]) ⟨hx, hb, hml, hown, hts⟩ hW0 hM w_263 w_260 w_261 w_262 w_1 (by decide +kernel) ⟨hrm.1, hrm.2, Nat.le_refl _, Nat.le_refl _⟩ (hO.recv hK rfl) ⟨rfl, hB⟩ rfl rfl hl.1 (Nat.le_of_ble_eq_true rfl) d_L_corner_7 ⟨Nat.le_of_eq (Nat.zero_add _), Nat.le_of_eq (Nat.zero_add _)⟩ hS (fun q h => h.elim (fun h => Or.inl (Or.inl h)) Or.inr) (fun H1 locs1 hP1 hz1 hk1 hS => ?_)
  rw [Nat.zero_add mc, Nat.zero_add ms]
  have hL1 := hL0.keep (hk1 _ hL0.lt (fun h => h.elim hoF (fun h => Nat.not_le.mpr hL0.lt h)))
  refine lv_i2l hx hb d_L_corner_10 rfl ?_
  refine z_last (x := v.toInt64) hx hb hAL hL1 hS (Or.inl (Or.inr rfl)) d_L_corner_11 (fun H1 locs1 hz2 hL1 ho2 hS => ?_)
  have hP1 := hPk _ _ hP1 ho2
  refine lv_goto (tgt := 27) hx hb d_L_corner_12 (by decide) ?_
  refine lv_iconst (v := 0) hx hb d_L_corner_27 (by decide) ?_
  exact z_wi hx hb hr hlocks ⟨rfl, hP1, hL1⟩ hS d_L_corner_28
set_option maxRecDepth 100000 in
set_option maxHeartbeats 4000000 in
theorem w_corner_t1 (G : z_G s0 (dC, dI) cI cS) (hLX : z_LX s0 cL) {rm : Room} {sz a o : Nat} {p0 p1 p2 : Int32} {B K : Heap → Prop} (hM : xt_Met l y_B_corner [Cond.code y_B_corner b_B_corner 5 (some .int)] rm (z_Pc s0 [.ref a, .int p0, .int p1, .int p2] B) "java/util/NoSuchElementException") (hrm : rm.cells = 1 ∧ rm.slots = 6) (hOB : ∀ H : Heap, B H → ∃ fs, z_O (dC, dI) H a 3 fs) (hKB : ∀ H : Heap, K H → B H) (hKs : ∀ H H1 : Heap, K H → H.size ≤ H1.size → (∀ q : Nat, q < H.size → H1[q]? = H[q]?) → K H1) : Met l y_L_corner [Cond.codeWith y_L_corner b_L_corner 6 (some .int) [(0, 12, 15, 13), (0, 12, 19, 21), (0, 12, 23, 15)]] ({ frames := rm.frames + 1, cells := 1, slots := 6, locals := 8 + (5 + 11) + rm.locals }) (z_Pc s0 [.ref a, .int p0, .int p1, .int p2, .ref o] (fun H => H.size = sz ∧ K H)) (z_Qw (fun r H => r = some (.int 1) ∧ K H) (z_fr (fun _ => False) sz)) 1 6 (z_fr (fun _ => False) sz) := by
  refine z_ofWT (by decide +kernel) (Nat.le_of_ble_eq_true rfl) ?_
  intro p e s m below meth c hx hb hml hr hown hlocks htab hW0 hB ls hl
  have hts := z_hts (args := [.ref a, .int p0, .int p1, .int p2, .ref o].toArray) G.1 hW0
  have hK := va_K.moved hW0.alike G.2.2.1
  have hl : lv_has ls 6 [(0, .ref a), (1, .int p0), (2, .int p1), (3, .int p2), (4, .ref o)] := hl
  obtain ⟨rfl, hK0⟩ := hB
  have hB := hKB _ hK0
  obtain ⟨fs, hO⟩ := hOB _ hB
  refine lv_aload hx hb d_L_corner_0 (lv_at hl 4 rfl) ?_
  refine lv_iconst (v := 0) hx hb d_L_corner_2 (by decide) ?_
  refine lv_aload_n hx hb d_L_corner_3 rfl (lv_at hl 0 rfl) ?_
  refine lv_iload_n hx hb d_L_corner_4 rfl (lv_at hl 1 rfl) ?_
  refine lv_iload_n hx hb d_L_corner_5 rfl (lv_at hl 2 rfl) ?_
  refine lv_iload_n hx hb d_L_corner_6 rfl (lv_at hl 3 rfl) ?_
  refine xh_catch (X := "java/util/NoSuchElementException") (own := R_L) (xt_runV (C := R_B) (rest := [.int 0, .ref o]) (g := F0 m 7 ls _) ⟨hx, hb, hml, hown, hts⟩ hM ⟨z_callB (n := 3) hts w_263 w_260 w_1 (by decide +kernel) ⟨hrm.1, hrm.2, Nat.le_refl _, Nat.le_refl _⟩, hts _ w_261, hts _ w_262⟩ ⟨z_blind, hO.recv hK rfl, fun U hU hW => ⟨rfl, hW0.trans hW, by rw [hU]; exact hB⟩⟩ rfl rfl hl.1 rfl (Nat.le_of_ble_eq_true rfl) d_L_corner_7 ⟨Nat.le_of_ble_eq_true rfl, Nat.le_of_ble_eq_true rfl⟩) hown [] ⟨0, 12, 15, 13⟩ [⟨0, 12, 19, 21⟩, ⟨0, 12, 23, 15⟩] htab rfl (by decide) (hts _ w_93) (fun y hy => by cases hy) (fun x9 H1 hz1 ho1 => ?_)
  have hS : va_S (z_fr (fun _ => False) s.heap.size) s.heap H1 [] := ⟨hz1, fun q h1 _ => ho1 q h1, fun q hq => by cases hq⟩
  have hK1 := hKs _ _ hK0 hz1 ho1
  refine lv_astore (lv' := [(5, .ref x9), (0, .ref a), (1, .int p0), (2, .int p1), (3, .int p2), (4, .ref o)]) hx hb d_L_corner_15 hl (by decide) rfl (fun ls hl => ?_)
  refine lv_iconst (v := 1) hx hb d_L_corner_17 (by decide) ?_
  exact z_wi hx hb hr hlocks ⟨rfl, hK1⟩ hS d_L_corner_18
set_option maxRecDepth 100000 in
set_option maxHeartbeats 4000000 in
theorem w_corner_t2 (G : z_G s0 (dC, dI) cI cS) (hLX : z_LX s0 cL) {rm : Room} {sz a o : Nat} {p0 p1 p2 : Int32} {B K : Heap → Prop} (hM : xt_Met l y_B_corner [Cond.code y_B_corner b_B_corner 5 (some .int)] rm (z_Pc s0 [.ref a, .int p0, .int p1, .int p2] B) "java/lang/IllegalArgumentException") (hrm : rm.cells = 1 ∧ rm.slots = 6) (hOB : ∀ H : Heap, B H → ∃ fs, z_O (dC, dI) H a 3 fs) (hKB : ∀ H : Heap, K H → B H) (hKs : ∀ H H1 : Heap, K H → H.size ≤ H1.size → (∀ q : Nat, q < H.size → H1[q]? = H[q]?) → K H1) : Met l y_L_corner [Cond.codeWith y_L_corner b_L_corner 6 (some .int) [(0, 12, 15, 13), (0, 12, 19, 21), (0, 12, 23, 15)]] ({ frames := rm.frames + 1, cells := 1, slots := 6, locals := 8 + (5 + 11) + rm.locals }) (z_Pc s0 [.ref a, .int p0, .int p1, .int p2, .ref o] (fun H => H.size = sz ∧ K H)) (z_Qw (fun r H => r = some (.int 2) ∧ K H) (z_fr (fun _ => False) sz)) 1 6 (z_fr (fun _ => False) sz) := by
  refine z_ofWT (by decide +kernel) (Nat.le_of_ble_eq_true rfl) ?_
  intro p e s m below meth c hx hb hml hr hown hlocks htab hW0 hB ls hl
  have hts := z_hts (args := [.ref a, .int p0, .int p1, .int p2, .ref o].toArray) G.1 hW0
  have hK := va_K.moved hW0.alike G.2.2.1
  have hl : lv_has ls 6 [(0, .ref a), (1, .int p0), (2, .int p1), (3, .int p2), (4, .ref o)] := hl
  obtain ⟨rfl, hK0⟩ := hB
  have hB := hKB _ hK0
  obtain ⟨fs, hO⟩ := hOB _ hB
  refine lv_aload hx hb d_L_corner_0 (lv_at hl 4 rfl) ?_
  refine lv_iconst (v := 0) hx hb d_L_corner_2 (by decide) ?_
  refine lv_aload_n hx hb d_L_corner_3 rfl (lv_at hl 0 rfl) ?_
  refine lv_iload_n hx hb d_L_corner_4 rfl (lv_at hl 1 rfl) ?_
  refine lv_iload_n hx hb d_L_corner_5 rfl (lv_at hl 2 rfl) ?_
  refine lv_iload_n hx hb d_L_corner_6 rfl (lv_at hl 3 rfl) ?_
  refine xh_catch (X := "java/lang/IllegalArgumentException") (own := R_L) (xt_runV (C := R_B) (rest := [.int 0, .ref o]) (g := F0 m 7 ls _) ⟨hx, hb, hml, hown, hts⟩ hM ⟨z_callB (n := 3) hts w_263 w_260 w_1 (by decide +kernel) ⟨hrm.1, hrm.2, Nat.le_refl _, Nat.le_refl _⟩, hts _ w_261, hts _ w_262⟩ ⟨z_blind, hO.recv hK rfl, fun U hU hW => ⟨rfl, hW0.trans hW, by rw [hU]; exact hB⟩⟩ rfl rfl hl.1 rfl (Nat.le_of_ble_eq_true rfl) d_L_corner_7 ⟨Nat.le_of_ble_eq_true rfl, Nat.le_of_ble_eq_true rfl⟩) hown [⟨0, 12, 15, 13⟩] ⟨0, 12, 19, 21⟩ [⟨0, 12, 23, 15⟩] htab rfl (by decide) (hts _ w_190) (fun y hy => by simp only [List.mem_cons, List.not_mem_nil, or_false] at hy; subst hy; exact ⟨rfl, by decide, _, hts _ w_93, va_Nc.moved hW0.alike hLX.2.2.1⟩) (fun x9 H1 hz1 ho1 => ?_)
  have hS : va_S (z_fr (fun _ => False) s.heap.size) s.heap H1 [] := ⟨hz1, fun q h1 _ => ho1 q h1, fun q hq => by cases hq⟩
  have hK1 := hKs _ _ hK0 hz1 ho1
  refine lv_astore (lv' := [(5, .ref x9), (0, .ref a), (1, .int p0), (2, .int p1), (3, .int p2), (4, .ref o)]) hx hb d_L_corner_19 hl (by decide) rfl (fun ls hl => ?_)
  refine lv_iconst (v := 2) hx hb d_L_corner_21 (by decide) ?_
  exact z_wi hx hb hr hlocks ⟨rfl, hK1⟩ hS d_L_corner_22
set_option maxRecDepth 100000 in
set_option maxHeartbeats 4000000 in
theorem w_corner_t3 (G : z_G s0 (dC, dI) cI cS) (hLX : z_LX s0 cL) {rm : Room} {sz a o : Nat} {p0 p1 p2 : Int32} {B K : Heap → Prop} (hM : xt_Met l y_B_corner [Cond.code y_B_corner b_B_corner 5 (some .int)] rm (z_Pc s0 [.ref a, .int p0, .int p1, .int p2] B) "java/lang/IllegalStateException") (hrm : rm.cells = 1 ∧ rm.slots = 6) (hOB : ∀ H : Heap, B H → ∃ fs, z_O (dC, dI) H a 3 fs) (hKB : ∀ H : Heap, K H → B H) (hKs : ∀ H H1 : Heap, K H → H.size ≤ H1.size → (∀ q : Nat, q < H.size → H1[q]? = H[q]?) → K H1) : Met l y_L_corner [Cond.codeWith y_L_corner b_L_corner 6 (some .int) [(0, 12, 15, 13), (0, 12, 19, 21), (0, 12, 23, 15)]] ({ frames := rm.frames + 1, cells := 1, slots := 6, locals := 8 + (5 + 11) + rm.locals }) (z_Pc s0 [.ref a, .int p0, .int p1, .int p2, .ref o] (fun H => H.size = sz ∧ K H)) (z_Qw (fun r H => r = some (.int 3) ∧ K H) (z_fr (fun _ => False) sz)) 1 6 (z_fr (fun _ => False) sz) := by
  refine z_ofWT (by decide +kernel) (Nat.le_of_ble_eq_true rfl) ?_
  intro p e s m below meth c hx hb hml hr hown hlocks htab hW0 hB ls hl
  have hts := z_hts (args := [.ref a, .int p0, .int p1, .int p2, .ref o].toArray) G.1 hW0
  have hK := va_K.moved hW0.alike G.2.2.1
  have hl : lv_has ls 6 [(0, .ref a), (1, .int p0), (2, .int p1), (3, .int p2), (4, .ref o)] := hl
  obtain ⟨rfl, hK0⟩ := hB
  have hB := hKB _ hK0
  obtain ⟨fs, hO⟩ := hOB _ hB
  refine lv_aload hx hb d_L_corner_0 (lv_at hl 4 rfl) ?_
  refine lv_iconst (v := 0) hx hb d_L_corner_2 (by decide) ?_
  refine lv_aload_n hx hb d_L_corner_3 rfl (lv_at hl 0 rfl) ?_
  refine lv_iload_n hx hb d_L_corner_4 rfl (lv_at hl 1 rfl) ?_
  refine lv_iload_n hx hb d_L_corner_5 rfl (lv_at hl 2 rfl) ?_
  refine lv_iload_n hx hb d_L_corner_6 rfl (lv_at hl 3 rfl) ?_
  refine xh_catch (X := "java/lang/IllegalStateException") (own := R_L) (xt_runV (C := R_B) (rest := [.int 0, .ref o]) (g := F0 m 7 ls _) ⟨hx, hb, hml, hown, hts⟩ hM ⟨z_callB (n := 3) hts w_263 w_260 w_1 (by decide +kernel) ⟨hrm.1, hrm.2, Nat.le_refl _, Nat.le_refl _⟩, hts _ w_261, hts _ w_262⟩ ⟨z_blind, hO.recv hK rfl, fun U hU hW => ⟨rfl, hW0.trans hW, by rw [hU]; exact hB⟩⟩ rfl rfl hl.1 rfl (Nat.le_of_ble_eq_true rfl) d_L_corner_7 ⟨Nat.le_of_ble_eq_true rfl, Nat.le_of_ble_eq_true rfl⟩) hown [⟨0, 12, 15, 13⟩, ⟨0, 12, 19, 21⟩] ⟨0, 12, 23, 15⟩ [] htab rfl (by decide) (hts _ w_94) (fun y hy => by simp only [List.mem_cons, List.not_mem_nil, or_false] at hy; rcases hy with rfl | rfl; exact ⟨rfl, by decide, _, hts _ w_93, va_Nc.moved hW0.alike hLX.2.1⟩; exact ⟨rfl, by decide, _, hts _ w_190, va_Nc.moved hW0.alike hLX.2.2.2⟩) (fun x9 H1 hz1 ho1 => ?_)
  have hS : va_S (z_fr (fun _ => False) s.heap.size) s.heap H1 [] := ⟨hz1, fun q h1 _ => ho1 q h1, fun q hq => by cases hq⟩
  have hK1 := hKs _ _ hK0 hz1 ho1
  refine lv_astore (lv' := [(5, .ref x9), (0, .ref a), (1, .int p0), (2, .int p1), (3, .int p2), (4, .ref o)]) hx hb d_L_corner_23 hl (by decide) rfl (fun ls hl => ?_)
  refine lv_iconst (v := 3) hx hb d_L_corner_25 (by decide) ?_
  exact z_wi hx hb hr hlocks ⟨rfl, hK1⟩ hS d_L_corner_26
set_option maxRecDepth 100000 in
set_option maxHeartbeats 4000000 in
theorem w_close (G : z_G s0 (dC, dI) cI cS) (hLX : z_LX s0 cL) {rm : Room} {mc ms sz a o : Nat} {p0 : Int32} {B P : Heap → Prop} {F : Nat → Prop} {f : Nat → Int64} {v : Bool} (hM : Met l y_B_close [Cond.code y_B_close b_B_close 3 (some .boolean)] rm (z_Pc s0 [.ref a, .int p0] (fun H => H.size = sz ∧ B H)) (z_Qw (fun r H => r = some (.int (pi_b v)) ∧ P H) (z_fr F sz)) mc ms (z_fr F sz)) (hrm : rm.cells = mc ∧ rm.slots = ms) (hOB : ∀ H : Heap, B H → ∃ fs, z_O (dC, dI) H a 3 fs) (hPk : ∀ H H1 : Heap, P H → (∀ q : Nat, q ≠ o → H1[q]? = H[q]?) → P H1) (hoF : ¬ F o) : Met l y_L_close [Cond.codeWith y_L_close b_L_close 4 (some .int) [(0, 16, 19, 13)]] ({ frames := rm.frames + 1, cells := mc, slots := ms, locals := 8 + (3 + 11) + rm.locals }) (z_Pc s0 [.ref a, .int p0, .ref o] (fun H => H.size = sz ∧ (B H ∧ z_L cL H o 1 f))) (z_Qw (fun r H => r = some (.int 0) ∧ (P H ∧ z_L cL H o 1 (vp_updL f 0 ((pi_b v).toInt64)))) (z_fr (fun q => F q ∨ q = o) sz)) mc ms (z_fr (fun q => F q ∨ q = o) sz) := by
  refine z_ofWT (by decide +kernel) (Nat.le_of_ble_eq_true rfl) ?_
  intro p e s m below meth c hx hb hml hr hown hlocks htab hW0 hB ls hl
  have hts := z_hts (args := [.ref a, .int p0, .ref o].toArray) G.1 hW0
  have hK := va_K.moved hW0.alike G.2.2.1
  have hl : lv_has ls 4 [(0, .ref a), (1, .int p0), (2, .ref o)] := hl
  obtain ⟨rfl, hB, hL0⟩ := hB
  obtain ⟨fs, hO⟩ := hOB _ hB
  have hS : va_S (z_fr (fun q => F q ∨ q = o) s.heap.size) s.heap s.heap [] := va_S.rf
  have hAL := arrOfT_moved hW0.alike hLX.1
  refine lv_aload_n hx hb d_L_close_0 rfl (lv_at hl 2 rfl) ?_
  refine lv_iconst (v := 0) hx hb d_L_close_1 (by decide) ?_
  refine lv_aload_n hx hb d_L_close_2 rfl (lv_at hl 0 rfl) ?_
  refine lv_iload_n hx hb d_L_close_3 rfl (lv_at hl 1 rfl) ?_
  refine z_wrV (n := 1) (C := R_B) (rest := [.int 0, .ref o]) ⟨hx, hb, hml, hown, hts⟩ hW0 hM w_292 w_289 w_290 w_291 w_1 (by decide +kernel) ⟨hrm.1, hrm.2, Nat.le_refl _, Nat.le_refl _⟩ (hO.recv hK rfl) ⟨rfl, hB⟩ rfl rfl hl.1 (Nat.le_of_ble_eq_true rfl) d_L_close_4 ⟨Nat.le_of_eq (Nat.zero_add _), Nat.le_of_eq (Nat.zero_add _)⟩ hS (fun q h => h.elim (fun h => Or.inl (Or.inl h)) Or.inr) (fun H1 locs1 hP1 hz1 hk1 hS => ?_)
  rw [Nat.zero_add mc, Nat.zero_add ms]
  have hL1 := hL0.keep (hk1 _ hL0.lt (fun h => h.elim hoF (fun h => Nat.not_le.mpr hL0.lt h)))
  refine lv_if_eq (tgt := 14) hx hb d_L_close_7 (by decide) (fun c_1 => ?_) (fun c_1 => ?_)
  · skip
    have c_1 : v = false := pi_b_0.mp c_1
    refine lv_lconst (v := 0) hx hb d_L_close_14 (by decide) ?_
    refine z_last (x := 0) hx hb hAL hL1 hS (Or.inl (Or.inr rfl)) d_L_close_15 (fun H1 locs1 hz2 hL1 ho2 hS => ?_)
    have hP1 := hPk _ _ hP1 ho2
    refine lv_goto (tgt := 22) hx hb d_L_close_16 (by decide) ?_
    refine lv_iconst (v := 0) hx hb d_L_close_22 (by decide) ?_
    have e9 : (0 : Int64) = (pi_b v).toInt64 := by rw [c_1]; decide
    rw [e9] at hL1
    exact z_wi hx hb hr hlocks ⟨rfl, hP1, hL1⟩ hS d_L_close_23
  · skip
    have c_1 : v = true := pi_b_1.mp c_1
    refine lv_lconst (v := 1) hx hb d_L_close_10 (by decide) ?_
    refine lv_goto (tgt := 15) hx hb d_L_close_11 (by decide) ?_
    refine z_last (x := 1) hx hb hAL hL1 hS (Or.inl (Or.inr rfl)) d_L_close_15 (fun H1 locs1 hz2 hL1 ho2 hS => ?_)
    have hP1 := hPk _ _ hP1 ho2
    refine lv_goto (tgt := 22) hx hb d_L_close_16 (by decide) ?_
    refine lv_iconst (v := 0) hx hb d_L_close_22 (by decide) ?_
    have e9 : (1 : Int64) = (pi_b v).toInt64 := by rw [c_1]; decide
    rw [e9] at hL1
    exact z_wi hx hb hr hlocks ⟨rfl, hP1, hL1⟩ hS d_L_close_23
set_option maxRecDepth 100000 in
set_option maxHeartbeats 4000000 in
theorem w_close_t1 (G : z_G s0 (dC, dI) cI cS) (hLX : z_LX s0 cL) {rm : Room} {sz a o : Nat} {p0 : Int32} {B K : Heap → Prop} (hM : xt_Met l y_B_close [Cond.code y_B_close b_B_close 3 (some .boolean)] rm (z_Pc s0 [.ref a, .int p0] B) "java/util/NoSuchElementException") (hrm : rm.cells = 1 ∧ rm.slots = 6) (hOB : ∀ H : Heap, B H → ∃ fs, z_O (dC, dI) H a 3 fs) (hKB : ∀ H : Heap, K H → B H) (hKs : ∀ H H1 : Heap, K H → H.size ≤ H1.size → (∀ q : Nat, q < H.size → H1[q]? = H[q]?) → K H1) : Met l y_L_close [Cond.codeWith y_L_close b_L_close 4 (some .int) [(0, 16, 19, 13)]] ({ frames := rm.frames + 1, cells := 1, slots := 6, locals := 8 + (3 + 11) + rm.locals }) (z_Pc s0 [.ref a, .int p0, .ref o] (fun H => H.size = sz ∧ K H)) (z_Qw (fun r H => r = some (.int 1) ∧ K H) (z_fr (fun _ => False) sz)) 1 6 (z_fr (fun _ => False) sz) := by
  refine z_ofWT (by decide +kernel) (Nat.le_of_ble_eq_true rfl) ?_
  intro p e s m below meth c hx hb hml hr hown hlocks htab hW0 hB ls hl
  have hts := z_hts (args := [.ref a, .int p0, .ref o].toArray) G.1 hW0
  have hK := va_K.moved hW0.alike G.2.2.1
  have hl : lv_has ls 4 [(0, .ref a), (1, .int p0), (2, .ref o)] := hl
  obtain ⟨rfl, hK0⟩ := hB
  have hB := hKB _ hK0
  obtain ⟨fs, hO⟩ := hOB _ hB
  refine lv_aload_n hx hb d_L_close_0 rfl (lv_at hl 2 rfl) ?_
  refine lv_iconst (v := 0) hx hb d_L_close_1 (by decide) ?_
  refine lv_aload_n hx hb d_L_close_2 rfl (lv_at hl 0 rfl) ?_
  refine lv_iload_n hx hb d_L_close_3 rfl (lv_at hl 1 rfl) ?_
  refine xh_catch (X := "java/util/NoSuchElementException") (own := R_L) (xt_runV (C := R_B) (rest := [.int 0, .ref o]) (g := F0 m 4 ls _) ⟨hx, hb, hml, hown, hts⟩ hM ⟨z_callB (n := 1) hts w_292 w_289 w_1 (by decide +kernel) ⟨hrm.1, hrm.2, Nat.le_refl _, Nat.le_refl _⟩, hts _ w_290, hts _ w_291⟩ ⟨z_blind, hO.recv hK rfl, fun U hU hW => ⟨rfl, hW0.trans hW, by rw [hU]; exact hB⟩⟩ rfl rfl hl.1 rfl (Nat.le_of_ble_eq_true rfl) d_L_close_4 ⟨Nat.le_of_ble_eq_true rfl, Nat.le_of_ble_eq_true rfl⟩) hown [] ⟨0, 16, 19, 13⟩ [] htab rfl (by decide) (hts _ w_93) (fun y hy => by cases hy) (fun x9 H1 hz1 ho1 => ?_)
  have hS : va_S (z_fr (fun _ => False) s.heap.size) s.heap H1 [] := ⟨hz1, fun q h1 _ => ho1 q h1, fun q hq => by cases hq⟩
  have hK1 := hKs _ _ hK0 hz1 ho1
  refine lv_astore_n (lv' := [(3, .ref x9), (0, .ref a), (1, .int p0), (2, .ref o)]) hx hb d_L_close_19 rfl hl (by decide) rfl (fun ls hl => ?_)
  refine lv_iconst (v := 1) hx hb d_L_close_20 (by decide) ?_
  exact z_wi hx hb hr hlocks ⟨rfl, hK1⟩ hS d_L_close_21
set_option maxRecDepth 100000 in
set_option maxHeartbeats 4000000 in
theorem w_unsure (G : z_G s0 (dC, dI) cI cS) (hLX : z_LX s0 cL) {rm : Room} {mc ms sz a o : Nat} {p0 p1 : Int32} {B P : Heap → Prop} {F : Nat → Prop} {f : Nat → Int64} {v : Bool} (hM : Met l y_B_unsure [Cond.code y_B_unsure b_B_unsure 5 (some .boolean)] rm (z_Pc s0 [.ref a, .int p0, .int p1] (fun H => H.size = sz ∧ B H)) (z_Qw (fun r H => r = some (.int (pi_b v)) ∧ P H) (z_fr F sz)) mc ms (z_fr F sz)) (hrm : rm.cells = mc ∧ rm.slots = ms) (hOB : ∀ H : Heap, B H → ∃ fs, z_O (dC, dI) H a 3 fs) (hPk : ∀ H H1 : Heap, P H → (∀ q : Nat, q ≠ o → H1[q]? = H[q]?) → P H1) (hoF : ¬ F o) : Met l y_L_unsure [Cond.codeWith y_L_unsure b_L_unsure 5 (some .int) [(0, 17, 20, 13)]] ({ frames := rm.frames + 1, cells := mc, slots := ms, locals := 8 + (5 + 11) + rm.locals }) (z_Pc s0 [.ref a, .int p0, .int p1, .ref o] (fun H => H.size = sz ∧ (B H ∧ z_L cL H o 1 f))) (z_Qw (fun r H => r = some (.int 0) ∧ (P H ∧ z_L cL H o 1 (vp_updL f 0 ((pi_b v).toInt64)))) (z_fr (fun q => F q ∨ q = o) sz)) mc ms (z_fr (fun q => F q ∨ q = o) sz) := by
  refine z_ofWT (by decide +kernel) (Nat.le_of_ble_eq_true rfl) ?_
  intro p e s m below meth c hx hb hml hr hown hlocks htab hW0 hB ls hl
  have hts := z_hts (args := [.ref a, .int p0, .int p1, .ref o].toArray) G.1 hW0
  have hK := va_K.moved hW0.alike G.2.2.1
  have hl : lv_has ls 5 [(0, .ref a), (1, .int p0), (2, .int p1), (3, .ref o)] := hl
  obtain ⟨rfl, hB, hL0⟩ := hB
  obtain ⟨fs, hO⟩ := hOB _ hB
  have hS : va_S (z_fr (fun q => F q ∨ q = o) s.heap.size) s.heap s.heap [] := va_S.rf
  have hAL := arrOfT_moved hW0.alike hLX.1
  refine lv_aload_n hx hb d_L_unsure_0 rfl (lv_at hl 3 rfl) ?_
  refine lv_iconst (v := 0) hx hb d_L_unsure_1 (by decide) ?_
  refine lv_aload_n hx hb d_L_unsure_2 rfl (lv_at hl 0 rfl) ?_
  refine lv_iload_n hx hb d_L_unsure_3 rfl (lv_at hl 1 rfl) ?_
  refine lv_iload_n hx hb d_L_unsure_4 rfl (lv_at hl 2 rfl) ?_
  refine z_wrV (n := 2) (C := R_B) (rest := [.int 0, .ref o]) ⟨hx, hb, hml, hown, hts⟩ hW0 hM w_348 w_345 w_346 w_347 w_1 (by decide +kernel) ⟨hrm.1, hrm.2, Nat.le_refl _, Nat.le_refl _⟩ (hO.recv hK rfl) ⟨rfl, hB⟩ rfl rfl hl.1 (Nat.le_of_ble_eq_true rfl) d_L_unsure_5 ⟨Nat.le_of_eq (Nat.zero_add _), Nat.le_of_eq (Nat.zero_add _)⟩ hS (fun q h => h.elim (fun h => Or.inl (Or.inl h)) Or.inr) (fun H1 locs1 hP1 hz1 hk1 hS => ?_)
  rw [Nat.zero_add mc, Nat.zero_add ms]
  have hL1 := hL0.keep (hk1 _ hL0.lt (fun h => h.elim hoF (fun h => Nat.not_le.mpr hL0.lt h)))
  refine lv_if_eq (tgt := 15) hx hb d_L_unsure_8 (by decide) (fun c_1 => ?_) (fun c_1 => ?_)
  · skip
    have c_1 : v = false := pi_b_0.mp c_1
    refine lv_lconst (v := 0) hx hb d_L_unsure_15 (by decide) ?_
    refine z_last (x := 0) hx hb hAL hL1 hS (Or.inl (Or.inr rfl)) d_L_unsure_16 (fun H1 locs1 hz2 hL1 ho2 hS => ?_)
    have hP1 := hPk _ _ hP1 ho2
    refine lv_goto (tgt := 24) hx hb d_L_unsure_17 (by decide) ?_
    refine lv_iconst (v := 0) hx hb d_L_unsure_24 (by decide) ?_
    have e9 : (0 : Int64) = (pi_b v).toInt64 := by rw [c_1]; decide
    rw [e9] at hL1
    exact z_wi hx hb hr hlocks ⟨rfl, hP1, hL1⟩ hS d_L_unsure_25
  · skip
    have c_1 : v = true := pi_b_1.mp c_1
    refine lv_lconst (v := 1) hx hb d_L_unsure_11 (by decide) ?_
    refine lv_goto (tgt := 16) hx hb d_L_unsure_12 (by decide) ?_
    refine z_last (x := 1) hx hb hAL hL1 hS (Or.inl (Or.inr rfl)) d_L_unsure_16 (fun H1 locs1 hz2 hL1 ho2 hS => ?_)
    have hP1 := hPk _ _ hP1 ho2
    refine lv_goto (tgt := 24) hx hb d_L_unsure_17 (by decide) ?_
    refine lv_iconst (v := 0) hx hb d_L_unsure_24 (by decide) ?_
    have e9 : (1 : Int64) = (pi_b v).toInt64 := by rw [c_1]; decide
    rw [e9] at hL1
    exact z_wi hx hb hr hlocks ⟨rfl, hP1, hL1⟩ hS d_L_unsure_25
set_option maxRecDepth 100000 in
set_option maxHeartbeats 4000000 in
theorem w_unsure_t1 (G : z_G s0 (dC, dI) cI cS) (hLX : z_LX s0 cL) {rm : Room} {sz a o : Nat} {p0 p1 : Int32} {B K : Heap → Prop} (hM : xt_Met l y_B_unsure [Cond.code y_B_unsure b_B_unsure 5 (some .boolean)] rm (z_Pc s0 [.ref a, .int p0, .int p1] B) "java/util/NoSuchElementException") (hrm : rm.cells = 1 ∧ rm.slots = 6) (hOB : ∀ H : Heap, B H → ∃ fs, z_O (dC, dI) H a 3 fs) (hKB : ∀ H : Heap, K H → B H) (hKs : ∀ H H1 : Heap, K H → H.size ≤ H1.size → (∀ q : Nat, q < H.size → H1[q]? = H[q]?) → K H1) : Met l y_L_unsure [Cond.codeWith y_L_unsure b_L_unsure 5 (some .int) [(0, 17, 20, 13)]] ({ frames := rm.frames + 1, cells := 1, slots := 6, locals := 8 + (5 + 11) + rm.locals }) (z_Pc s0 [.ref a, .int p0, .int p1, .ref o] (fun H => H.size = sz ∧ K H)) (z_Qw (fun r H => r = some (.int 1) ∧ K H) (z_fr (fun _ => False) sz)) 1 6 (z_fr (fun _ => False) sz) := by
  refine z_ofWT (by decide +kernel) (Nat.le_of_ble_eq_true rfl) ?_
  intro p e s m below meth c hx hb hml hr hown hlocks htab hW0 hB ls hl
  have hts := z_hts (args := [.ref a, .int p0, .int p1, .ref o].toArray) G.1 hW0
  have hK := va_K.moved hW0.alike G.2.2.1
  have hl : lv_has ls 5 [(0, .ref a), (1, .int p0), (2, .int p1), (3, .ref o)] := hl
  obtain ⟨rfl, hK0⟩ := hB
  have hB := hKB _ hK0
  obtain ⟨fs, hO⟩ := hOB _ hB
  refine lv_aload_n hx hb d_L_unsure_0 rfl (lv_at hl 3 rfl) ?_
  refine lv_iconst (v := 0) hx hb d_L_unsure_1 (by decide) ?_
  refine lv_aload_n hx hb d_L_unsure_2 rfl (lv_at hl 0 rfl) ?_
  refine lv_iload_n hx hb d_L_unsure_3 rfl (lv_at hl 1 rfl) ?_
  refine lv_iload_n hx hb d_L_unsure_4 rfl (lv_at hl 2 rfl) ?_
  refine xh_catch (X := "java/util/NoSuchElementException") (own := R_L) (xt_runV (C := R_B) (rest := [.int 0, .ref o]) (g := F0 m 5 ls _) ⟨hx, hb, hml, hown, hts⟩ hM ⟨z_callB (n := 2) hts w_348 w_345 w_1 (by decide +kernel) ⟨hrm.1, hrm.2, Nat.le_refl _, Nat.le_refl _⟩, hts _ w_346, hts _ w_347⟩ ⟨z_blind, hO.recv hK rfl, fun U hU hW => ⟨rfl, hW0.trans hW, by rw [hU]; exact hB⟩⟩ rfl rfl hl.1 rfl (Nat.le_of_ble_eq_true rfl) d_L_unsure_5 ⟨Nat.le_of_ble_eq_true rfl, Nat.le_of_ble_eq_true rfl⟩) hown [] ⟨0, 17, 20, 13⟩ [] htab rfl (by decide) (hts _ w_93) (fun y hy => by cases hy) (fun x9 H1 hz1 ho1 => ?_)
  have hS : va_S (z_fr (fun _ => False) s.heap.size) s.heap H1 [] := ⟨hz1, fun q h1 _ => ho1 q h1, fun q hq => by cases hq⟩
  have hK1 := hKs _ _ hK0 hz1 ho1
  refine lv_astore (lv' := [(4, .ref x9), (0, .ref a), (1, .int p0), (2, .int p1), (3, .ref o)]) hx hb d_L_unsure_20 hl (by decide) rfl (fun ls hl => ?_)
  refine lv_iconst (v := 1) hx hb d_L_unsure_22 (by decide) ?_
  exact z_wi hx hb hr hlocks ⟨rfl, hK1⟩ hS d_L_unsure_23
set_option maxRecDepth 100000 in
set_option maxHeartbeats 4000000 in
theorem w_force (G : z_G s0 (dC, dI) cI cS) (hLX : z_LX s0 cL) {rm : Room} {mc ms sz a o : Nat} {p0 p1 : Int32} {B P : Heap → Prop} {F : Nat → Prop} {f : Nat → Int64} {v : Int32} (hM : Met l y_B_force [Cond.code y_B_force b_B_force 4 (some .int)] rm (z_Pc s0 [.ref a, .int p0, .int p1] (fun H => H.size = sz ∧ B H)) (z_Qw (fun r H => r = some (.int v) ∧ P H) (z_fr F sz)) mc ms (z_fr F sz)) (hrm : rm.cells = mc ∧ rm.slots = ms) (hOB : ∀ H : Heap, B H → ∃ fs, z_O (dC, dI) H a 3 fs) (hPk : ∀ H H1 : Heap, P H → (∀ q : Nat, q ≠ o → H1[q]? = H[q]?) → P H1) (hoF : ¬ F o) : Met l y_L_force [Cond.codeWith y_L_force b_L_force 5 (some .int) [(0, 10, 13, 13), (0, 10, 17, 21)]] ({ frames := rm.frames + 1, cells := mc, slots := ms, locals := 8 + (4 + 11) + rm.locals }) (z_Pc s0 [.ref a, .int p0, .int p1, .ref o] (fun H => H.size = sz ∧ (B H ∧ z_L cL H o 1 f))) (z_Qw (fun r H => r = some (.int 0) ∧ (P H ∧ z_L cL H o 1 (vp_updL f 0 (v.toInt64)))) (z_fr (fun q => F q ∨ q = o) sz)) mc ms (z_fr (fun q => F q ∨ q = o) sz) := by
  refine z_ofWT (by decide +kernel) (Nat.le_of_ble_eq_true rfl) ?_
  intro p e s m below meth c hx hb hml hr hown hlocks htab hW0 hB ls hl
  have hts := z_hts (args := [.ref a, .int p0, .int p1, .ref o].toArray) G.1 hW0
  have hK := va_K.moved hW0.alike G.2.2.1
  have hl : lv_has ls 5 [(0, .ref a), (1, .int p0), (2, .int p1), (3, .ref o)] := hl
  obtain ⟨rfl, hB, hL0⟩ := hB
  obtain ⟨fs, hO⟩ := hOB _ hB
  have hS : va_S (z_fr (fun q => F q ∨ q = o) s.heap.size) s.heap s.heap [] := va_S.rf
  have hAL := arrOfT_moved hW0.alike hLX.1
  refine lv_aload_n hx hb d_L_force_0 rfl (lv_at hl 3 rfl) ?_
  refine lv_iconst (v := 0) hx hb d_L_force_1 (by decide) ?_
  refine lv_aload_n hx hb d_L_force_2 rfl (lv_at hl 0 rfl) ?_
  refine lv_iload_n hx hb d_L_force_3 rfl (lv_at hl 1 rfl) ?_
  refine lv_iload_n hx hb d_L_force_4 rfl (lv_at hl 2 rfl) ?_
  refine z_wrV (n := 2) (C := R_B) (rest := [.int 0, .ref o]) ⟨hx, hb, hml, hown, hts⟩ hW0 hM w_359 w_356 w_357 w_358 w_1 (by decide +kernel) ⟨hrm.1, hrm.2, Nat.le_refl _, Nat.le_refl _⟩ (hO.recv hK rfl) ⟨rfl, hB⟩ rfl rfl hl.1 (Nat.le_of_ble_eq_true rfl) d_L_force_5 ⟨Nat.le_of_eq (Nat.zero_add _), Nat.le_of_eq (Nat.zero_add _)⟩ hS (fun q h => h.elim (fun h => Or.inl (Or.inl h)) Or.inr) (fun H1 locs1 hP1 hz1 hk1 hS => ?_)
  rw [Nat.zero_add mc, Nat.zero_add ms]
  have hL1 := hL0.keep (hk1 _ hL0.lt (fun h => h.elim hoF (fun h => Nat.not_le.mpr hL0.lt h)))
  refine lv_i2l hx hb d_L_force_8 rfl ?_
  refine z_last (x := v.toInt64) hx hb hAL hL1 hS (Or.inl (Or.inr rfl)) d_L_force_9 (fun H1 locs1 hz2 hL1 ho2 hS => ?_)
  have hP1 := hPk _ _ hP1 ho2
  refine lv_goto (tgt := 21) hx hb d_L_force_10 (by decide) ?_
  refine lv_iconst (v := 0) hx hb d_L_force_21 (by decide) ?_
  exact z_wi hx hb hr hlocks ⟨rfl, hP1, hL1⟩ hS d_L_force_22
set_option maxRecDepth 100000 in
set_option maxHeartbeats 4000000 in
theorem w_force_t1 (G : z_G s0 (dC, dI) cI cS) (hLX : z_LX s0 cL) {rm : Room} {sz a o : Nat} {p0 p1 : Int32} {B K : Heap → Prop} (hM : xt_Met l y_B_force [Cond.code y_B_force b_B_force 4 (some .int)] rm (z_Pc s0 [.ref a, .int p0, .int p1] B) "java/util/NoSuchElementException") (hrm : rm.cells = 1 ∧ rm.slots = 6) (hOB : ∀ H : Heap, B H → ∃ fs, z_O (dC, dI) H a 3 fs) (hKB : ∀ H : Heap, K H → B H) (hKs : ∀ H H1 : Heap, K H → H.size ≤ H1.size → (∀ q : Nat, q < H.size → H1[q]? = H[q]?) → K H1) : Met l y_L_force [Cond.codeWith y_L_force b_L_force 5 (some .int) [(0, 10, 13, 13), (0, 10, 17, 21)]] ({ frames := rm.frames + 1, cells := 1, slots := 6, locals := 8 + (4 + 11) + rm.locals }) (z_Pc s0 [.ref a, .int p0, .int p1, .ref o] (fun H => H.size = sz ∧ K H)) (z_Qw (fun r H => r = some (.int 1) ∧ K H) (z_fr (fun _ => False) sz)) 1 6 (z_fr (fun _ => False) sz) := by
  refine z_ofWT (by decide +kernel) (Nat.le_of_ble_eq_true rfl) ?_
  intro p e s m below meth c hx hb hml hr hown hlocks htab hW0 hB ls hl
  have hts := z_hts (args := [.ref a, .int p0, .int p1, .ref o].toArray) G.1 hW0
  have hK := va_K.moved hW0.alike G.2.2.1
  have hl : lv_has ls 5 [(0, .ref a), (1, .int p0), (2, .int p1), (3, .ref o)] := hl
  obtain ⟨rfl, hK0⟩ := hB
  have hB := hKB _ hK0
  obtain ⟨fs, hO⟩ := hOB _ hB
  refine lv_aload_n hx hb d_L_force_0 rfl (lv_at hl 3 rfl) ?_
  refine lv_iconst (v := 0) hx hb d_L_force_1 (by decide) ?_
  refine lv_aload_n hx hb d_L_force_2 rfl (lv_at hl 0 rfl) ?_
  refine lv_iload_n hx hb d_L_force_3 rfl (lv_at hl 1 rfl) ?_
  refine lv_iload_n hx hb d_L_force_4 rfl (lv_at hl 2 rfl) ?_
  refine xh_catch (X := "java/util/NoSuchElementException") (own := R_L) (xt_runV (C := R_B) (rest := [.int 0, .ref o]) (g := F0 m 5 ls _) ⟨hx, hb, hml, hown, hts⟩ hM ⟨z_callB (n := 2) hts w_359 w_356 w_1 (by decide +kernel) ⟨hrm.1, hrm.2, Nat.le_refl _, Nat.le_refl _⟩, hts _ w_357, hts _ w_358⟩ ⟨z_blind, hO.recv hK rfl, fun U hU hW => ⟨rfl, hW0.trans hW, by rw [hU]; exact hB⟩⟩ rfl rfl hl.1 rfl (Nat.le_of_ble_eq_true rfl) d_L_force_5 ⟨Nat.le_of_ble_eq_true rfl, Nat.le_of_ble_eq_true rfl⟩) hown [] ⟨0, 10, 13, 13⟩ [⟨0, 10, 17, 21⟩] htab rfl (by decide) (hts _ w_93) (fun y hy => by cases hy) (fun x9 H1 hz1 ho1 => ?_)
  have hS : va_S (z_fr (fun _ => False) s.heap.size) s.heap H1 [] := ⟨hz1, fun q h1 _ => ho1 q h1, fun q hq => by cases hq⟩
  have hK1 := hKs _ _ hK0 hz1 ho1
  refine lv_astore (lv' := [(4, .ref x9), (0, .ref a), (1, .int p0), (2, .int p1), (3, .ref o)]) hx hb d_L_force_13 hl (by decide) rfl (fun ls hl => ?_)
  refine lv_iconst (v := 1) hx hb d_L_force_15 (by decide) ?_
  exact z_wi hx hb hr hlocks ⟨rfl, hK1⟩ hS d_L_force_16
set_option maxRecDepth 100000 in
set_option maxHeartbeats 4000000 in
theorem w_force_t2 (G : z_G s0 (dC, dI) cI cS) (hLX : z_LX s0 cL) {rm : Room} {sz a o : Nat} {p0 p1 : Int32} {B K : Heap → Prop} (hM : xt_Met l y_B_force [Cond.code y_B_force b_B_force 4 (some .int)] rm (z_Pc s0 [.ref a, .int p0, .int p1] B) "java/lang/IllegalArgumentException") (hrm : rm.cells = 1 ∧ rm.slots = 6) (hOB : ∀ H : Heap, B H → ∃ fs, z_O (dC, dI) H a 3 fs) (hKB : ∀ H : Heap, K H → B H) (hKs : ∀ H H1 : Heap, K H → H.size ≤ H1.size → (∀ q : Nat, q < H.size → H1[q]? = H[q]?) → K H1) : Met l y_L_force [Cond.codeWith y_L_force b_L_force 5 (some .int) [(0, 10, 13, 13), (0, 10, 17, 21)]] ({ frames := rm.frames + 1, cells := 1, slots := 6, locals := 8 + (4 + 11) + rm.locals }) (z_Pc s0 [.ref a, .int p0, .int p1, .ref o] (fun H => H.size = sz ∧ K H)) (z_Qw (fun r H => r = some (.int 2) ∧ K H) (z_fr (fun _ => False) sz)) 1 6 (z_fr (fun _ => False) sz) := by
  refine z_ofWT (by decide +kernel) (Nat.le_of_ble_eq_true rfl) ?_
  intro p e s m below meth c hx hb hml hr hown hlocks htab hW0 hB ls hl
  have hts := z_hts (args := [.ref a, .int p0, .int p1, .ref o].toArray) G.1 hW0
  have hK := va_K.moved hW0.alike G.2.2.1
  have hl : lv_has ls 5 [(0, .ref a), (1, .int p0), (2, .int p1), (3, .ref o)] := hl
  obtain ⟨rfl, hK0⟩ := hB
  have hB := hKB _ hK0
  obtain ⟨fs, hO⟩ := hOB _ hB
  refine lv_aload_n hx hb d_L_force_0 rfl (lv_at hl 3 rfl) ?_
  refine lv_iconst (v := 0) hx hb d_L_force_1 (by decide) ?_
  refine lv_aload_n hx hb d_L_force_2 rfl (lv_at hl 0 rfl) ?_
  refine lv_iload_n hx hb d_L_force_3 rfl (lv_at hl 1 rfl) ?_
  refine lv_iload_n hx hb d_L_force_4 rfl (lv_at hl 2 rfl) ?_
  refine xh_catch (X := "java/lang/IllegalArgumentException") (own := R_L) (xt_runV (C := R_B) (rest := [.int 0, .ref o]) (g := F0 m 5 ls _) ⟨hx, hb, hml, hown, hts⟩ hM ⟨z_callB (n := 2) hts w_359 w_356 w_1 (by decide +kernel) ⟨hrm.1, hrm.2, Nat.le_refl _, Nat.le_refl _⟩, hts _ w_357, hts _ w_358⟩ ⟨z_blind, hO.recv hK rfl, fun U hU hW => ⟨rfl, hW0.trans hW, by rw [hU]; exact hB⟩⟩ rfl rfl hl.1 rfl (Nat.le_of_ble_eq_true rfl) d_L_force_5 ⟨Nat.le_of_ble_eq_true rfl, Nat.le_of_ble_eq_true rfl⟩) hown [⟨0, 10, 13, 13⟩] ⟨0, 10, 17, 21⟩ [] htab rfl (by decide) (hts _ w_190) (fun y hy => by simp only [List.mem_cons, List.not_mem_nil, or_false] at hy; subst hy; exact ⟨rfl, by decide, _, hts _ w_93, va_Nc.moved hW0.alike hLX.2.2.1⟩) (fun x9 H1 hz1 ho1 => ?_)
  have hS : va_S (z_fr (fun _ => False) s.heap.size) s.heap H1 [] := ⟨hz1, fun q h1 _ => ho1 q h1, fun q hq => by cases hq⟩
  have hK1 := hKs _ _ hK0 hz1 ho1
  refine lv_astore (lv' := [(4, .ref x9), (0, .ref a), (1, .int p0), (2, .int p1), (3, .ref o)]) hx hb d_L_force_17 hl (by decide) rfl (fun ls hl => ?_)
  refine lv_iconst (v := 2) hx hb d_L_force_19 (by decide) ?_
  exact z_wi hx hb hr hlocks ⟨rfl, hK1⟩ hS d_L_force_20
set_option maxRecDepth 100000 in
set_option maxHeartbeats 4000000 in
theorem w_inside (G : z_G s0 (dC, dI) cI cS) (hLX : z_LX s0 cL) {rm : Room} {mc ms sz a o : Nat} {p0 p1 p2 p3 : Int32} {B P : Heap → Prop} {F : Nat → Prop} {f : Nat → Int64} {v : Int32} (hM : Met l y_B_inside [Cond.code y_B_inside b_B_inside 8 (some .int)] rm (z_Pc s0 [.ref a, .int p0, .int p1, .int p2, .int p3] (fun H => H.size = sz ∧ B H)) (z_Qw (fun r H => r = some (.int v) ∧ P H) (z_fr F sz)) mc ms (z_fr F sz)) (hrm : rm.cells = mc ∧ rm.slots = ms) (hOB : ∀ H : Heap, B H → ∃ fs, z_O (dC, dI) H a 3 fs) (hPk : ∀ H H1 : Heap, P H → (∀ q : Nat, q ≠ o → H1[q]? = H[q]?) → P H1) (hoF : ¬ F o) : Met l y_L_inside [Cond.codeWith y_L_inside b_L_inside 7 (some .int) [(0, 14, 17, 13), (0, 14, 21, 21)]] ({ frames := rm.frames + 1, cells := mc, slots := ms, locals := 8 + (8 + 11) + rm.locals }) (z_Pc s0 [.ref a, .int p0, .int p1, .int p2, .int p3, .ref o] (fun H => H.size = sz ∧ (B H ∧ z_L cL H o 1 f))) (z_Qw (fun r H => r = some (.int 0) ∧ (P H ∧ z_L cL H o 1 (vp_updL f 0 (v.toInt64)))) (z_fr (fun q => F q ∨ q = o) sz)) mc ms (z_fr (fun q => F q ∨ q = o) sz) := by
  refine z_ofWT (by decide +kernel) (Nat.le_of_ble_eq_true rfl) ?_
  intro p e s m below meth c hx hb hml hr hown hlocks htab hW0 hB ls hl
  have hts := z_hts (args := [.ref a, .int p0, .int p1, .int p2, .int p3, .ref o].toArray) G.1 hW0
  have hK := va_K.moved hW0.alike G.2.2.1
  have hl : lv_has ls 7 [(0, .ref a), (1, .int p0), (2, .int p1), (3, .int p2), (4, .int p3), (5, .ref o)] := hl
  obtain ⟨rfl, hB, hL0⟩ := hB
  obtain ⟨fs, hO⟩ := hOB _ hB
  have hS : va_S (z_fr (fun q => F q ∨ q = o) s.heap.size) s.heap s.heap [] := va_S.rf
  have hAL := arrOfT_moved hW0.alike hLX.1
  refine lv_aload hx hb d_L_inside_0 (lv_at hl 5 rfl) ?_
  refine lv_iconst (v := 0) hx hb d_L_inside_2 (by decide) ?_
  refine lv_aload_n hx hb d_L_inside_3 rfl (lv_at hl 0 rfl) ?_
  refine lv_iload_n hx hb d_L_inside_4 rfl (lv_at hl 1 rfl) ?_
  refine lv_iload_n hx hb d_L_inside_5 rfl (lv_at hl 2 rfl) ?_
  refine lv_iload_n hx hb d_L_inside_6 rfl (lv_at hl 3 rfl) ?_
  refine lv_iload hx hb d_L_inside_7 (lv_at hl 4 rfl) ?_
  refine z_wrV (n := 4) (C := R_B) (rest := [.int 0, .ref o]) ⟨hx, hb, hml, hown, hts⟩ hW0 hM w_374 w_371 w_372 w_373 w_1 (by decide +kernel) ⟨hrm.1, hrm.2, Nat.le_refl _, Nat.le_refl _⟩ (hO.recv hK rfl) ⟨rfl, hB⟩ rfl rfl hl.1 (Nat.le_of_ble_eq_true rfl) d_L_inside_9 ⟨Nat.le_of_eq (Nat.zero_add _), Nat.le_of_eq (Nat.zero_add _)⟩ hS (fun q h => h.elim (fun h => Or.inl (Or.inl h)) Or.inr) (fun H1 locs1 hP1 hz1 hk1 hS => ?_)
  rw [Nat.zero_add mc, Nat.zero_add ms]
  have hL1 := hL0.keep (hk1 _ hL0.lt (fun h => h.elim hoF (fun h => Nat.not_le.mpr hL0.lt h)))
  refine lv_i2l hx hb d_L_inside_12 rfl ?_
  refine z_last (x := v.toInt64) hx hb hAL hL1 hS (Or.inl (Or.inr rfl)) d_L_inside_13 (fun H1 locs1 hz2 hL1 ho2 hS => ?_)
  have hP1 := hPk _ _ hP1 ho2
  refine lv_goto (tgt := 25) hx hb d_L_inside_14 (by decide) ?_
  refine lv_iconst (v := 0) hx hb d_L_inside_25 (by decide) ?_
  exact z_wi hx hb hr hlocks ⟨rfl, hP1, hL1⟩ hS d_L_inside_26
set_option maxRecDepth 100000 in
set_option maxHeartbeats 4000000 in
theorem w_inside_t1 (G : z_G s0 (dC, dI) cI cS) (hLX : z_LX s0 cL) {rm : Room} {sz a o : Nat} {p0 p1 p2 p3 : Int32} {B K : Heap → Prop} (hM : xt_Met l y_B_inside [Cond.code y_B_inside b_B_inside 8 (some .int)] rm (z_Pc s0 [.ref a, .int p0, .int p1, .int p2, .int p3] B) "java/util/NoSuchElementException") (hrm : rm.cells = 1 ∧ rm.slots = 6) (hOB : ∀ H : Heap, B H → ∃ fs, z_O (dC, dI) H a 3 fs) (hKB : ∀ H : Heap, K H → B H) (hKs : ∀ H H1 : Heap, K H → H.size ≤ H1.size → (∀ q : Nat, q < H.size → H1[q]? = H[q]?) → K H1) : Met l y_L_inside [Cond.codeWith y_L_inside b_L_inside 7 (some .int) [(0, 14, 17, 13), (0, 14, 21, 21)]] ({ frames := rm.frames + 1, cells := 1, slots := 6, locals := 8 + (8 + 11) + rm.locals }) (z_Pc s0 [.ref a, .int p0, .int p1, .int p2, .int p3, .ref o] (fun H => H.size = sz ∧ K H)) (z_Qw (fun r H => r = some (.int 1) ∧ K H) (z_fr (fun _ => False) sz)) 1 6 (z_fr (fun _ => False) sz) := by
  refine z_ofWT (by decide +kernel) (Nat.le_of_ble_eq_true rfl) ?_
  intro p e s m below meth c hx hb hml hr hown hlocks htab hW0 hB ls hl
  have hts := z_hts (args := [.ref a, .int p0, .int p1, .int p2, .int p3, .ref o].toArray) G.1 hW0
  have hK := va_K.moved hW0.alike G.2.2.1
  have hl : lv_has ls 7 [(0, .ref a), (1, .int p0), (2, .int p1), (3, .int p2), (4, .int p3), (5, .ref o)] := hl
  obtain ⟨rfl, hK0⟩ := hB
  have hB := hKB _ hK0
  obtain ⟨fs, hO⟩ := hOB _ hB
  refine lv_aload hx hb d_L_inside_0 (lv_at hl 5 rfl) ?_
  refine lv_iconst (v := 0) hx hb d_L_inside_2 (by decide) ?_
  refine lv_aload_n hx hb d_L_inside_3 rfl (lv_at hl 0 rfl) ?_
  refine lv_iload_n hx hb d_L_inside_4 rfl (lv_at hl 1 rfl) ?_
  refine lv_iload_n hx hb d_L_inside_5 rfl (lv_at hl 2 rfl) ?_
  refine lv_iload_n hx hb d_L_inside_6 rfl (lv_at hl 3 rfl) ?_
  refine lv_iload hx hb d_L_inside_7 (lv_at hl 4 rfl) ?_
  refine xh_catch (X := "java/util/NoSuchElementException") (own := R_L) (xt_runV (C := R_B) (rest := [.int 0, .ref o]) (g := F0 m 9 ls _) ⟨hx, hb, hml, hown, hts⟩ hM ⟨z_callB (n := 4) hts w_374 w_371 w_1 (by decide +kernel) ⟨hrm.1, hrm.2, Nat.le_refl _, Nat.le_refl _⟩, hts _ w_372, hts _ w_373⟩ ⟨z_blind, hO.recv hK rfl, fun U hU hW => ⟨rfl, hW0.trans hW, by rw [hU]; exact hB⟩⟩ rfl rfl hl.1 rfl (Nat.le_of_ble_eq_true rfl) d_L_inside_9 ⟨Nat.le_of_ble_eq_true rfl, Nat.le_of_ble_eq_true rfl⟩) hown [] ⟨0, 14, 17, 13⟩ [⟨0, 14, 21, 21⟩] htab rfl (by decide) (hts _ w_93) (fun y hy => by cases hy) (fun x9 H1 hz1 ho1 => ?_)
  have hS : va_S (z_fr (fun _ => False) s.heap.size) s.heap H1 [] := ⟨hz1, fun q h1 _ => ho1 q h1, fun q hq => by cases hq⟩
  have hK1 := hKs _ _ hK0 hz1 ho1
  refine lv_astore (lv' := [(6, .ref x9), (0, .ref a), (1, .int p0), (2, .int p1), (3, .int p2), (4, .int p3), (5, .ref o)]) hx hb d_L_inside_17 hl (by decide) rfl (fun ls hl => ?_)
  refine lv_iconst (v := 1) hx hb d_L_inside_19 (by decide) ?_
  exact z_wi hx hb hr hlocks ⟨rfl, hK1⟩ hS d_L_inside_20
set_option maxRecDepth 100000 in
set_option maxHeartbeats 4000000 in
theorem w_inside_t2 (G : z_G s0 (dC, dI) cI cS) (hLX : z_LX s0 cL) {rm : Room} {sz a o : Nat} {p0 p1 p2 p3 : Int32} {B K : Heap → Prop} (hM : xt_Met l y_B_inside [Cond.code y_B_inside b_B_inside 8 (some .int)] rm (z_Pc s0 [.ref a, .int p0, .int p1, .int p2, .int p3] B) "java/lang/IllegalArgumentException") (hrm : rm.cells = 1 ∧ rm.slots = 6) (hOB : ∀ H : Heap, B H → ∃ fs, z_O (dC, dI) H a 3 fs) (hKB : ∀ H : Heap, K H → B H) (hKs : ∀ H H1 : Heap, K H → H.size ≤ H1.size → (∀ q : Nat, q < H.size → H1[q]? = H[q]?) → K H1) : Met l y_L_inside [Cond.codeWith y_L_inside b_L_inside 7 (some .int) [(0, 14, 17, 13), (0, 14, 21, 21)]] ({ frames := rm.frames + 1, cells := 1, slots := 6, locals := 8 + (8 + 11) + rm.locals }) (z_Pc s0 [.ref a, .int p0, .int p1, .int p2, .int p3, .ref o] (fun H => H.size = sz ∧ K H)) (z_Qw (fun r H => r = some (.int 2) ∧ K H) (z_fr (fun _ => False) sz)) 1 6 (z_fr (fun _ => False) sz) := by
  refine z_ofWT (by decide +kernel) (Nat.le_of_ble_eq_true rfl) ?_
  intro p e s m below meth c hx hb hml hr hown hlocks htab hW0 hB ls hl
  have hts := z_hts (args := [.ref a, .int p0, .int p1, .int p2, .int p3, .ref o].toArray) G.1 hW0
  have hK := va_K.moved hW0.alike G.2.2.1
  have hl : lv_has ls 7 [(0, .ref a), (1, .int p0), (2, .int p1), (3, .int p2), (4, .int p3), (5, .ref o)] := hl
  obtain ⟨rfl, hK0⟩ := hB
  have hB := hKB _ hK0
  obtain ⟨fs, hO⟩ := hOB _ hB
  refine lv_aload hx hb d_L_inside_0 (lv_at hl 5 rfl) ?_
  refine lv_iconst (v := 0) hx hb d_L_inside_2 (by decide) ?_
  refine lv_aload_n hx hb d_L_inside_3 rfl (lv_at hl 0 rfl) ?_
  refine lv_iload_n hx hb d_L_inside_4 rfl (lv_at hl 1 rfl) ?_
  refine lv_iload_n hx hb d_L_inside_5 rfl (lv_at hl 2 rfl) ?_
  refine lv_iload_n hx hb d_L_inside_6 rfl (lv_at hl 3 rfl) ?_
  refine lv_iload hx hb d_L_inside_7 (lv_at hl 4 rfl) ?_
  refine xh_catch (X := "java/lang/IllegalArgumentException") (own := R_L) (xt_runV (C := R_B) (rest := [.int 0, .ref o]) (g := F0 m 9 ls _) ⟨hx, hb, hml, hown, hts⟩ hM ⟨z_callB (n := 4) hts w_374 w_371 w_1 (by decide +kernel) ⟨hrm.1, hrm.2, Nat.le_refl _, Nat.le_refl _⟩, hts _ w_372, hts _ w_373⟩ ⟨z_blind, hO.recv hK rfl, fun U hU hW => ⟨rfl, hW0.trans hW, by rw [hU]; exact hB⟩⟩ rfl rfl hl.1 rfl (Nat.le_of_ble_eq_true rfl) d_L_inside_9 ⟨Nat.le_of_ble_eq_true rfl, Nat.le_of_ble_eq_true rfl⟩) hown [⟨0, 14, 17, 13⟩] ⟨0, 14, 21, 21⟩ [] htab rfl (by decide) (hts _ w_190) (fun y hy => by simp only [List.mem_cons, List.not_mem_nil, or_false] at hy; subst hy; exact ⟨rfl, by decide, _, hts _ w_93, va_Nc.moved hW0.alike hLX.2.2.1⟩) (fun x9 H1 hz1 ho1 => ?_)
  have hS : va_S (z_fr (fun _ => False) s.heap.size) s.heap H1 [] := ⟨hz1, fun q h1 _ => ho1 q h1, fun q hq => by cases hq⟩
  have hK1 := hKs _ _ hK0 hz1 ho1
  refine lv_astore (lv' := [(6, .ref x9), (0, .ref a), (1, .int p0), (2, .int p1), (3, .int p2), (4, .int p3), (5, .ref o)]) hx hb d_L_inside_21 hl (by decide) rfl (fun ls hl => ?_)
  refine lv_iconst (v := 2) hx hb d_L_inside_23 (by decide) ?_
  exact z_wi hx hb hr hlocks ⟨rfl, hK1⟩ hS d_L_inside_24
set_option maxRecDepth 100000 in
set_option maxHeartbeats 4000000 in
theorem w_threeWay (G : z_G s0 (dC, dI) cI cS) (hLX : z_LX s0 cL) {rm : Room} {mc ms sz a o : Nat} {p0 p1 p2 p3 : Int32} {B P : Heap → Prop} {F : Nat → Prop} {f : Nat → Int64} {v : Int32} (hM : Met l y_B_threeWay [Cond.code y_B_threeWay b_B_threeWay 7 (some .int)] rm (z_Pc s0 [.ref a, .int p0, .int p1, .int p2, .int p3] (fun H => H.size = sz ∧ B H)) (z_Qw (fun r H => r = some (.int v) ∧ P H) (z_fr F sz)) mc ms (z_fr F sz)) (hrm : rm.cells = mc ∧ rm.slots = ms) (hOB : ∀ H : Heap, B H → ∃ fs, z_O (dC, dI) H a 3 fs) (hPk : ∀ H H1 : Heap, P H → (∀ q : Nat, q ≠ o → H1[q]? = H[q]?) → P H1) (hoF : ¬ F o) : Met l y_L_threeWay [Cond.codeWith y_L_threeWay b_L_threeWay 7 (some .int) [(0, 14, 17, 13), (0, 14, 21, 21)]] ({ frames := rm.frames + 1, cells := mc, slots := ms, locals := 8 + (7 + 11) + rm.locals }) (z_Pc s0 [.ref a, .int p0, .int p1, .int p2, .int p3, .ref o] (fun H => H.size = sz ∧ (B H ∧ z_L cL H o 1 f))) (z_Qw (fun r H => r = some (.int 0) ∧ (P H ∧ z_L cL H o 1 (vp_updL f 0 (v.toInt64)))) (z_fr (fun q => F q ∨ q = o) sz)) mc ms (z_fr (fun q => F q ∨ q = o) sz) := by
  refine z_ofWT (by decide +kernel) (Nat.le_of_ble_eq_true rfl) ?_
  intro p e s m below meth c hx hb hml hr hown hlocks htab hW0 hB ls hl
  have hts := z_hts (args := [.ref a, .int p0, .int p1, .int p2, .int p3, .ref o].toArray) G.1 hW0
  have hK := va_K.moved hW0.alike G.2.2.1
  have hl : lv_has ls 7 [(0, .ref a), (1, .int p0), (2, .int p1), (3, .int p2), (4, .int p3), (5, .ref o)] := hl
  obtain ⟨rfl, hB, hL0⟩ := hB
  obtain ⟨fs, hO⟩ := hOB _ hB
  have hS : va_S (z_fr (fun q => F q ∨ q = o) s.heap.size) s.heap s.heap [] := va_S.rf
  have hAL := arrOfT_moved hW0.alike hLX.1
  refine lv_aload hx hb d_L_threeWay_0 (lv_at hl 5 rfl) ?_
  refine lv_iconst (v := 0) hx hb d_L_threeWay_2 (by decide) ?_
  refine lv_aload_n hx hb d_L_threeWay_3 rfl (lv_at hl 0 rfl) ?_
  refine lv_iload_n hx hb d_L_threeWay_4 rfl (lv_at hl 1 rfl) ?_
  refine lv_iload_n hx hb d_L_threeWay_5 rfl (lv_at hl 2 rfl) ?_
  refine lv_iload_n hx hb d_L_threeWay_6 rfl (lv_at hl 3 rfl) ?_
  refine lv_iload hx hb d_L_threeWay_7 (lv_at hl 4 rfl) ?_
  refine z_wrV (n := 4) (C := R_B) (rest := [.int 0, .ref o]) ⟨hx, hb, hml, hown, hts⟩ hW0 hM w_393 w_390 w_391 w_392 w_1 (by decide +kernel) ⟨hrm.1, hrm.2, Nat.le_refl _, Nat.le_refl _⟩ (hO.recv hK rfl) ⟨rfl, hB⟩ rfl rfl hl.1 (Nat.le_of_ble_eq_true rfl) d_L_threeWay_9 ⟨Nat.le_of_eq (Nat.zero_add _), Nat.le_of_eq (Nat.zero_add _)⟩ hS (fun q h => h.elim (fun h => Or.inl (Or.inl h)) Or.inr) (fun H1 locs1 hP1 hz1 hk1 hS => ?_)
  rw [Nat.zero_add mc, Nat.zero_add ms]
  have hL1 := hL0.keep (hk1 _ hL0.lt (fun h => h.elim hoF (fun h => Nat.not_le.mpr hL0.lt h)))
  refine lv_i2l hx hb d_L_threeWay_12 rfl ?_
  refine z_last (x := v.toInt64) hx hb hAL hL1 hS (Or.inl (Or.inr rfl)) d_L_threeWay_13 (fun H1 locs1 hz2 hL1 ho2 hS => ?_)
  have hP1 := hPk _ _ hP1 ho2
  refine lv_goto (tgt := 25) hx hb d_L_threeWay_14 (by decide) ?_
  refine lv_iconst (v := 0) hx hb d_L_threeWay_25 (by decide) ?_
  exact z_wi hx hb hr hlocks ⟨rfl, hP1, hL1⟩ hS d_L_threeWay_26
set_option maxRecDepth 100000 in
set_option maxHeartbeats 4000000 in
theorem w_threeWay_t1 (G : z_G s0 (dC, dI) cI cS) (hLX : z_LX s0 cL) {rm : Room} {sz a o : Nat} {p0 p1 p2 p3 : Int32} {B K : Heap → Prop} (hM : xt_Met l y_B_threeWay [Cond.code y_B_threeWay b_B_threeWay 7 (some .int)] rm (z_Pc s0 [.ref a, .int p0, .int p1, .int p2, .int p3] B) "java/util/NoSuchElementException") (hrm : rm.cells = 1 ∧ rm.slots = 6) (hOB : ∀ H : Heap, B H → ∃ fs, z_O (dC, dI) H a 3 fs) (hKB : ∀ H : Heap, K H → B H) (hKs : ∀ H H1 : Heap, K H → H.size ≤ H1.size → (∀ q : Nat, q < H.size → H1[q]? = H[q]?) → K H1) : Met l y_L_threeWay [Cond.codeWith y_L_threeWay b_L_threeWay 7 (some .int) [(0, 14, 17, 13), (0, 14, 21, 21)]] ({ frames := rm.frames + 1, cells := 1, slots := 6, locals := 8 + (7 + 11) + rm.locals }) (z_Pc s0 [.ref a, .int p0, .int p1, .int p2, .int p3, .ref o] (fun H => H.size = sz ∧ K H)) (z_Qw (fun r H => r = some (.int 1) ∧ K H) (z_fr (fun _ => False) sz)) 1 6 (z_fr (fun _ => False) sz) := by
  refine z_ofWT (by decide +kernel) (Nat.le_of_ble_eq_true rfl) ?_
  intro p e s m below meth c hx hb hml hr hown hlocks htab hW0 hB ls hl
  have hts := z_hts (args := [.ref a, .int p0, .int p1, .int p2, .int p3, .ref o].toArray) G.1 hW0
  have hK := va_K.moved hW0.alike G.2.2.1
  have hl : lv_has ls 7 [(0, .ref a), (1, .int p0), (2, .int p1), (3, .int p2), (4, .int p3), (5, .ref o)] := hl
  obtain ⟨rfl, hK0⟩ := hB
  have hB := hKB _ hK0
  obtain ⟨fs, hO⟩ := hOB _ hB
  refine lv_aload hx hb d_L_threeWay_0 (lv_at hl 5 rfl) ?_
  refine lv_iconst (v := 0) hx hb d_L_threeWay_2 (by decide) ?_
  refine lv_aload_n hx hb d_L_threeWay_3 rfl (lv_at hl 0 rfl) ?_
  refine lv_iload_n hx hb d_L_threeWay_4 rfl (lv_at hl 1 rfl) ?_
  refine lv_iload_n hx hb d_L_threeWay_5 rfl (lv_at hl 2 rfl) ?_
  refine lv_iload_n hx hb d_L_threeWay_6 rfl (lv_at hl 3 rfl) ?_
  refine lv_iload hx hb d_L_threeWay_7 (lv_at hl 4 rfl) ?_
  refine xh_catch (X := "java/util/NoSuchElementException") (own := R_L) (xt_runV (C := R_B) (rest := [.int 0, .ref o]) (g := F0 m 9 ls _) ⟨hx, hb, hml, hown, hts⟩ hM ⟨z_callB (n := 4) hts w_393 w_390 w_1 (by decide +kernel) ⟨hrm.1, hrm.2, Nat.le_refl _, Nat.le_refl _⟩, hts _ w_391, hts _ w_392⟩ ⟨z_blind, hO.recv hK rfl, fun U hU hW => ⟨rfl, hW0.trans hW, by rw [hU]; exact hB⟩⟩ rfl rfl hl.1 rfl (Nat.le_of_ble_eq_true rfl) d_L_threeWay_9 ⟨Nat.le_of_ble_eq_true rfl, Nat.le_of_ble_eq_true rfl⟩) hown [] ⟨0, 14, 17, 13⟩ [⟨0, 14, 21, 21⟩] htab rfl (by decide) (hts _ w_93) (fun y hy => by cases hy) (fun x9 H1 hz1 ho1 => ?_)
  have hS : va_S (z_fr (fun _ => False) s.heap.size) s.heap H1 [] := ⟨hz1, fun q h1 _ => ho1 q h1, fun q hq => by cases hq⟩
  have hK1 := hKs _ _ hK0 hz1 ho1
  refine lv_astore (lv' := [(6, .ref x9), (0, .ref a), (1, .int p0), (2, .int p1), (3, .int p2), (4, .int p3), (5, .ref o)]) hx hb d_L_threeWay_17 hl (by decide) rfl (fun ls hl => ?_)
  refine lv_iconst (v := 1) hx hb d_L_threeWay_19 (by decide) ?_
  exact z_wi hx hb hr hlocks ⟨rfl, hK1⟩ hS d_L_threeWay_20
set_option maxRecDepth 100000 in
set_option maxHeartbeats 4000000 in
theorem w_threeWay_t2 (G : z_G s0 (dC, dI) cI cS) (hLX : z_LX s0 cL) {rm : Room} {sz a o : Nat} {p0 p1 p2 p3 : Int32} {B K : Heap → Prop} (hM : xt_Met l y_B_threeWay [Cond.code y_B_threeWay b_B_threeWay 7 (some .int)] rm (z_Pc s0 [.ref a, .int p0, .int p1, .int p2, .int p3] B) "java/lang/IllegalArgumentException") (hrm : rm.cells = 1 ∧ rm.slots = 6) (hOB : ∀ H : Heap, B H → ∃ fs, z_O (dC, dI) H a 3 fs) (hKB : ∀ H : Heap, K H → B H) (hKs : ∀ H H1 : Heap, K H → H.size ≤ H1.size → (∀ q : Nat, q < H.size → H1[q]? = H[q]?) → K H1) : Met l y_L_threeWay [Cond.codeWith y_L_threeWay b_L_threeWay 7 (some .int) [(0, 14, 17, 13), (0, 14, 21, 21)]] ({ frames := rm.frames + 1, cells := 1, slots := 6, locals := 8 + (7 + 11) + rm.locals }) (z_Pc s0 [.ref a, .int p0, .int p1, .int p2, .int p3, .ref o] (fun H => H.size = sz ∧ K H)) (z_Qw (fun r H => r = some (.int 2) ∧ K H) (z_fr (fun _ => False) sz)) 1 6 (z_fr (fun _ => False) sz) := by
  refine z_ofWT (by decide +kernel) (Nat.le_of_ble_eq_true rfl) ?_
  intro p e s m below meth c hx hb hml hr hown hlocks htab hW0 hB ls hl
  have hts := z_hts (args := [.ref a, .int p0, .int p1, .int p2, .int p3, .ref o].toArray) G.1 hW0
  have hK := va_K.moved hW0.alike G.2.2.1
  have hl : lv_has ls 7 [(0, .ref a), (1, .int p0), (2, .int p1), (3, .int p2), (4, .int p3), (5, .ref o)] := hl
  obtain ⟨rfl, hK0⟩ := hB
  have hB := hKB _ hK0
  obtain ⟨fs, hO⟩ := hOB _ hB
  refine lv_aload hx hb d_L_threeWay_0 (lv_at hl 5 rfl) ?_
  refine lv_iconst (v := 0) hx hb d_L_threeWay_2 (by decide) ?_
  refine lv_aload_n hx hb d_L_threeWay_3 rfl (lv_at hl 0 rfl) ?_
  refine lv_iload_n hx hb d_L_threeWay_4 rfl (lv_at hl 1 rfl) ?_
  refine lv_iload_n hx hb d_L_threeWay_5 rfl (lv_at hl 2 rfl) ?_
  refine lv_iload_n hx hb d_L_threeWay_6 rfl (lv_at hl 3 rfl) ?_
  refine lv_iload hx hb d_L_threeWay_7 (lv_at hl 4 rfl) ?_
  refine xh_catch (X := "java/lang/IllegalArgumentException") (own := R_L) (xt_runV (C := R_B) (rest := [.int 0, .ref o]) (g := F0 m 9 ls _) ⟨hx, hb, hml, hown, hts⟩ hM ⟨z_callB (n := 4) hts w_393 w_390 w_1 (by decide +kernel) ⟨hrm.1, hrm.2, Nat.le_refl _, Nat.le_refl _⟩, hts _ w_391, hts _ w_392⟩ ⟨z_blind, hO.recv hK rfl, fun U hU hW => ⟨rfl, hW0.trans hW, by rw [hU]; exact hB⟩⟩ rfl rfl hl.1 rfl (Nat.le_of_ble_eq_true rfl) d_L_threeWay_9 ⟨Nat.le_of_ble_eq_true rfl, Nat.le_of_ble_eq_true rfl⟩) hown [⟨0, 14, 17, 13⟩] ⟨0, 14, 21, 21⟩ [] htab rfl (by decide) (hts _ w_190) (fun y hy => by simp only [List.mem_cons, List.not_mem_nil, or_false] at hy; subst hy; exact ⟨rfl, by decide, _, hts _ w_93, va_Nc.moved hW0.alike hLX.2.2.1⟩) (fun x9 H1 hz1 ho1 => ?_)
  have hS : va_S (z_fr (fun _ => False) s.heap.size) s.heap H1 [] := ⟨hz1, fun q h1 _ => ho1 q h1, fun q hq => by cases hq⟩
  have hK1 := hKs _ _ hK0 hz1 ho1
  refine lv_astore (lv' := [(6, .ref x9), (0, .ref a), (1, .int p0), (2, .int p1), (3, .int p2), (4, .int p3), (5, .ref o)]) hx hb d_L_threeWay_21 hl (by decide) rfl (fun ls hl => ?_)
  refine lv_iconst (v := 2) hx hb d_L_threeWay_23 (by decide) ?_
  exact z_wi hx hb hr hlocks ⟨rfl, hK1⟩ hS d_L_threeWay_24
set_option maxRecDepth 100000 in
set_option maxHeartbeats 4000000 in
theorem w_area (G : z_G s0 (dC, dI) cI cS) (hLX : z_LX s0 cL) {rm : Room} {mc ms sz a o : Nat} {p0 p1 : Int32} {B P : Heap → Prop} {F : Nat → Prop} {f : Nat → Int64} {v : Int32} (hM : Met l y_B_area [Cond.code y_B_area b_B_area 4 (some .int)] rm (z_Pc s0 [.ref a, .int p0, .int p1] (fun H => H.size = sz ∧ B H)) (z_Qw (fun r H => r = some (.int v) ∧ P H) (z_fr F sz)) mc ms (z_fr F sz)) (hrm : rm.cells = mc ∧ rm.slots = ms) (hOB : ∀ H : Heap, B H → ∃ fs, z_O (dC, dI) H a 3 fs) (hPk : ∀ H H1 : Heap, P H → (∀ q : Nat, q ≠ o → H1[q]? = H[q]?) → P H1) (hoF : ¬ F o) : Met l y_L_area [Cond.codeWith y_L_area b_L_area 5 (some .int) [(0, 10, 13, 13), (0, 10, 17, 21)]] ({ frames := rm.frames + 1, cells := mc, slots := ms, locals := 8 + (4 + 11) + rm.locals }) (z_Pc s0 [.ref a, .int p0, .int p1, .ref o] (fun H => H.size = sz ∧ (B H ∧ z_L cL H o 1 f))) (z_Qw (fun r H => r = some (.int 0) ∧ (P H ∧ z_L cL H o 1 (vp_updL f 0 (v.toInt64)))) (z_fr (fun q => F q ∨ q = o) sz)) mc ms (z_fr (fun q => F q ∨ q = o) sz) := by
  refine z_ofWT (by decide +kernel) (Nat.le_of_ble_eq_true rfl) ?_
  intro p e s m below meth c hx hb hml hr hown hlocks htab hW0 hB ls hl
  have hts := z_hts (args := [.ref a, .int p0, .int p1, .ref o].toArray) G.1 hW0
  have hK := va_K.moved hW0.alike G.2.2.1
  have hl : lv_has ls 5 [(0, .ref a), (1, .int p0), (2, .int p1), (3, .ref o)] := hl
  obtain ⟨rfl, hB, hL0⟩ := hB
  obtain ⟨fs, hO⟩ := hOB _ hB
  have hS : va_S (z_fr (fun q => F q ∨ q = o) s.heap.size) s.heap s.heap [] := va_S.rf
  have hAL := arrOfT_moved hW0.alike hLX.1
  refine lv_aload_n hx hb d_L_area_0 rfl (lv_at hl 3 rfl) ?_
  refine lv_iconst (v := 0) hx hb d_L_area_1 (by decide) ?_
  refine lv_aload_n hx hb d_L_area_2 rfl (lv_at hl 0 rfl) ?_
  refine lv_iload_n hx hb d_L_area_3 rfl (lv_at hl 1 rfl) ?_
  refine lv_iload_n hx hb d_L_area_4 rfl (lv_at hl 2 rfl) ?_
  refine z_wrV (n := 2) (C := R_B) (rest := [.int 0, .ref o]) ⟨hx, hb, hml, hown, hts⟩ hW0 hM w_400 w_397 w_398 w_399 w_1 (by decide +kernel) ⟨hrm.1, hrm.2, Nat.le_refl _, Nat.le_refl _⟩ (hO.recv hK rfl) ⟨rfl, hB⟩ rfl rfl hl.1 (Nat.le_of_ble_eq_true rfl) d_L_area_5 ⟨Nat.le_of_eq (Nat.zero_add _), Nat.le_of_eq (Nat.zero_add _)⟩ hS (fun q h => h.elim (fun h => Or.inl (Or.inl h)) Or.inr) (fun H1 locs1 hP1 hz1 hk1 hS => ?_)
  rw [Nat.zero_add mc, Nat.zero_add ms]
  have hL1 := hL0.keep (hk1 _ hL0.lt (fun h => h.elim hoF (fun h => Nat.not_le.mpr hL0.lt h)))
  refine lv_i2l hx hb d_L_area_8 rfl ?_
  refine z_last (x := v.toInt64) hx hb hAL hL1 hS (Or.inl (Or.inr rfl)) d_L_area_9 (fun H1 locs1 hz2 hL1 ho2 hS => ?_)
  have hP1 := hPk _ _ hP1 ho2
  refine lv_goto (tgt := 21) hx hb d_L_area_10 (by decide) ?_
  refine lv_iconst (v := 0) hx hb d_L_area_21 (by decide) ?_
  exact z_wi hx hb hr hlocks ⟨rfl, hP1, hL1⟩ hS d_L_area_22
set_option maxRecDepth 100000 in
set_option maxHeartbeats 4000000 in
theorem w_area_t1 (G : z_G s0 (dC, dI) cI cS) (hLX : z_LX s0 cL) {rm : Room} {sz a o : Nat} {p0 p1 : Int32} {B K : Heap → Prop} (hM : xt_Met l y_B_area [Cond.code y_B_area b_B_area 4 (some .int)] rm (z_Pc s0 [.ref a, .int p0, .int p1] B) "java/util/NoSuchElementException") (hrm : rm.cells = 1 ∧ rm.slots = 6) (hOB : ∀ H : Heap, B H → ∃ fs, z_O (dC, dI) H a 3 fs) (hKB : ∀ H : Heap, K H → B H) (hKs : ∀ H H1 : Heap, K H → H.size ≤ H1.size → (∀ q : Nat, q < H.size → H1[q]? = H[q]?) → K H1) : Met l y_L_area [Cond.codeWith y_L_area b_L_area 5 (some .int) [(0, 10, 13, 13), (0, 10, 17, 21)]] ({ frames := rm.frames + 1, cells := 1, slots := 6, locals := 8 + (4 + 11) + rm.locals }) (z_Pc s0 [.ref a, .int p0, .int p1, .ref o] (fun H => H.size = sz ∧ K H)) (z_Qw (fun r H => r = some (.int 1) ∧ K H) (z_fr (fun _ => False) sz)) 1 6 (z_fr (fun _ => False) sz) := by
  refine z_ofWT (by decide +kernel) (Nat.le_of_ble_eq_true rfl) ?_
  intro p e s m below meth c hx hb hml hr hown hlocks htab hW0 hB ls hl
  have hts := z_hts (args := [.ref a, .int p0, .int p1, .ref o].toArray) G.1 hW0
  have hK := va_K.moved hW0.alike G.2.2.1
  have hl : lv_has ls 5 [(0, .ref a), (1, .int p0), (2, .int p1), (3, .ref o)] := hl
  obtain ⟨rfl, hK0⟩ := hB
  have hB := hKB _ hK0
  obtain ⟨fs, hO⟩ := hOB _ hB
  refine lv_aload_n hx hb d_L_area_0 rfl (lv_at hl 3 rfl) ?_
  refine lv_iconst (v := 0) hx hb d_L_area_1 (by decide) ?_
  refine lv_aload_n hx hb d_L_area_2 rfl (lv_at hl 0 rfl) ?_
  refine lv_iload_n hx hb d_L_area_3 rfl (lv_at hl 1 rfl) ?_
  refine lv_iload_n hx hb d_L_area_4 rfl (lv_at hl 2 rfl) ?_
  refine xh_catch (X := "java/util/NoSuchElementException") (own := R_L) (xt_runV (C := R_B) (rest := [.int 0, .ref o]) (g := F0 m 5 ls _) ⟨hx, hb, hml, hown, hts⟩ hM ⟨z_callB (n := 2) hts w_400 w_397 w_1 (by decide +kernel) ⟨hrm.1, hrm.2, Nat.le_refl _, Nat.le_refl _⟩, hts _ w_398, hts _ w_399⟩ ⟨z_blind, hO.recv hK rfl, fun U hU hW => ⟨rfl, hW0.trans hW, by rw [hU]; exact hB⟩⟩ rfl rfl hl.1 rfl (Nat.le_of_ble_eq_true rfl) d_L_area_5 ⟨Nat.le_of_ble_eq_true rfl, Nat.le_of_ble_eq_true rfl⟩) hown [] ⟨0, 10, 13, 13⟩ [⟨0, 10, 17, 21⟩] htab rfl (by decide) (hts _ w_93) (fun y hy => by cases hy) (fun x9 H1 hz1 ho1 => ?_)
  have hS : va_S (z_fr (fun _ => False) s.heap.size) s.heap H1 [] := ⟨hz1, fun q h1 _ => ho1 q h1, fun q hq => by cases hq⟩
  have hK1 := hKs _ _ hK0 hz1 ho1
  refine lv_astore (lv' := [(4, .ref x9), (0, .ref a), (1, .int p0), (2, .int p1), (3, .ref o)]) hx hb d_L_area_13 hl (by decide) rfl (fun ls hl => ?_)
  refine lv_iconst (v := 1) hx hb d_L_area_15 (by decide) ?_
  exact z_wi hx hb hr hlocks ⟨rfl, hK1⟩ hS d_L_area_16
set_option maxRecDepth 100000 in
set_option maxHeartbeats 4000000 in
theorem w_area_t2 (G : z_G s0 (dC, dI) cI cS) (hLX : z_LX s0 cL) {rm : Room} {sz a o : Nat} {p0 p1 : Int32} {B K : Heap → Prop} (hM : xt_Met l y_B_area [Cond.code y_B_area b_B_area 4 (some .int)] rm (z_Pc s0 [.ref a, .int p0, .int p1] B) "java/lang/IllegalArgumentException") (hrm : rm.cells = 1 ∧ rm.slots = 6) (hOB : ∀ H : Heap, B H → ∃ fs, z_O (dC, dI) H a 3 fs) (hKB : ∀ H : Heap, K H → B H) (hKs : ∀ H H1 : Heap, K H → H.size ≤ H1.size → (∀ q : Nat, q < H.size → H1[q]? = H[q]?) → K H1) : Met l y_L_area [Cond.codeWith y_L_area b_L_area 5 (some .int) [(0, 10, 13, 13), (0, 10, 17, 21)]] ({ frames := rm.frames + 1, cells := 1, slots := 6, locals := 8 + (4 + 11) + rm.locals }) (z_Pc s0 [.ref a, .int p0, .int p1, .ref o] (fun H => H.size = sz ∧ K H)) (z_Qw (fun r H => r = some (.int 2) ∧ K H) (z_fr (fun _ => False) sz)) 1 6 (z_fr (fun _ => False) sz) := by
  refine z_ofWT (by decide +kernel) (Nat.le_of_ble_eq_true rfl) ?_
  intro p e s m below meth c hx hb hml hr hown hlocks htab hW0 hB ls hl
  have hts := z_hts (args := [.ref a, .int p0, .int p1, .ref o].toArray) G.1 hW0
  have hK := va_K.moved hW0.alike G.2.2.1
  have hl : lv_has ls 5 [(0, .ref a), (1, .int p0), (2, .int p1), (3, .ref o)] := hl
  obtain ⟨rfl, hK0⟩ := hB
  have hB := hKB _ hK0
  obtain ⟨fs, hO⟩ := hOB _ hB
  refine lv_aload_n hx hb d_L_area_0 rfl (lv_at hl 3 rfl) ?_
  refine lv_iconst (v := 0) hx hb d_L_area_1 (by decide) ?_
  refine lv_aload_n hx hb d_L_area_2 rfl (lv_at hl 0 rfl) ?_
  refine lv_iload_n hx hb d_L_area_3 rfl (lv_at hl 1 rfl) ?_
  refine lv_iload_n hx hb d_L_area_4 rfl (lv_at hl 2 rfl) ?_
  refine xh_catch (X := "java/lang/IllegalArgumentException") (own := R_L) (xt_runV (C := R_B) (rest := [.int 0, .ref o]) (g := F0 m 5 ls _) ⟨hx, hb, hml, hown, hts⟩ hM ⟨z_callB (n := 2) hts w_400 w_397 w_1 (by decide +kernel) ⟨hrm.1, hrm.2, Nat.le_refl _, Nat.le_refl _⟩, hts _ w_398, hts _ w_399⟩ ⟨z_blind, hO.recv hK rfl, fun U hU hW => ⟨rfl, hW0.trans hW, by rw [hU]; exact hB⟩⟩ rfl rfl hl.1 rfl (Nat.le_of_ble_eq_true rfl) d_L_area_5 ⟨Nat.le_of_ble_eq_true rfl, Nat.le_of_ble_eq_true rfl⟩) hown [⟨0, 10, 13, 13⟩] ⟨0, 10, 17, 21⟩ [] htab rfl (by decide) (hts _ w_190) (fun y hy => by simp only [List.mem_cons, List.not_mem_nil, or_false] at hy; subst hy; exact ⟨rfl, by decide, _, hts _ w_93, va_Nc.moved hW0.alike hLX.2.2.1⟩) (fun x9 H1 hz1 ho1 => ?_)
  have hS : va_S (z_fr (fun _ => False) s.heap.size) s.heap H1 [] := ⟨hz1, fun q h1 _ => ho1 q h1, fun q hq => by cases hq⟩
  have hK1 := hKs _ _ hK0 hz1 ho1
  refine lv_astore (lv' := [(4, .ref x9), (0, .ref a), (1, .int p0), (2, .int p1), (3, .ref o)]) hx hb d_L_area_17 hl (by decide) rfl (fun ls hl => ?_)
  refine lv_iconst (v := 2) hx hb d_L_area_19 (by decide) ?_
  exact z_wi hx hb hr hlocks ⟨rfl, hK1⟩ hS d_L_area_20
set_option maxRecDepth 100000 in
set_option maxHeartbeats 4000000 in
theorem w_misfit (G : z_G s0 (dC, dI) cI cS) (hLX : z_LX s0 cL) {rm : Room} {mc ms sz a o : Nat} {p0 p1 : Int32} {B P : Heap → Prop} {F : Nat → Prop} {f : Nat → Int64} {v : Int32} (hM : Met l y_B_misfit [Cond.code y_B_misfit b_B_misfit 5 (some .int)] rm (z_Pc s0 [.ref a, .int p0, .int p1] (fun H => H.size = sz ∧ B H)) (z_Qw (fun r H => r = some (.int v) ∧ P H) (z_fr F sz)) mc ms (z_fr F sz)) (hrm : rm.cells = mc ∧ rm.slots = ms) (hOB : ∀ H : Heap, B H → ∃ fs, z_O (dC, dI) H a 3 fs) (hPk : ∀ H H1 : Heap, P H → (∀ q : Nat, q ≠ o → H1[q]? = H[q]?) → P H1) (hoF : ¬ F o) : Met l y_L_misfit [Cond.codeWith y_L_misfit b_L_misfit 5 (some .int) [(0, 10, 13, 13), (0, 10, 17, 21)]] ({ frames := rm.frames + 1, cells := mc, slots := ms, locals := 8 + (5 + 11) + rm.locals }) (z_Pc s0 [.ref a, .int p0, .int p1, .ref o] (fun H => H.size = sz ∧ (B H ∧ z_L cL H o 1 f))) (z_Qw (fun r H => r = some (.int 0) ∧ (P H ∧ z_L cL H o 1 (vp_updL f 0 (v.toInt64)))) (z_fr (fun q => F q ∨ q = o) sz)) mc ms (z_fr (fun q => F q ∨ q = o) sz) := by
  refine z_ofWT (by decide +kernel) (Nat.le_of_ble_eq_true rfl) ?_
  intro p e s m below meth c hx hb hml hr hown hlocks htab hW0 hB ls hl
  have hts := z_hts (args := [.ref a, .int p0, .int p1, .ref o].toArray) G.1 hW0
  have hK := va_K.moved hW0.alike G.2.2.1
  have hl : lv_has ls 5 [(0, .ref a), (1, .int p0), (2, .int p1), (3, .ref o)] := hl
  obtain ⟨rfl, hB, hL0⟩ := hB
  obtain ⟨fs, hO⟩ := hOB _ hB
  have hS : va_S (z_fr (fun q => F q ∨ q = o) s.heap.size) s.heap s.heap [] := va_S.rf
  have hAL := arrOfT_moved hW0.alike hLX.1
  refine lv_aload_n hx hb d_L_misfit_0 rfl (lv_at hl 3 rfl) ?_
  refine lv_iconst (v := 0) hx hb d_L_misfit_1 (by decide) ?_
  refine lv_aload_n hx hb d_L_misfit_2 rfl (lv_at hl 0 rfl) ?_
  refine lv_iload_n hx hb d_L_misfit_3 rfl (lv_at hl 1 rfl) ?_
  refine lv_iload_n hx hb d_L_misfit_4 rfl (lv_at hl 2 rfl) ?_
  refine z_wrV (n := 2) (C := R_B) (rest := [.int 0, .ref o]) ⟨hx, hb, hml, hown, hts⟩ hW0 hM w_414 w_411 w_412 w_413 w_1 (by decide +kernel) ⟨hrm.1, hrm.2, Nat.le_refl _, Nat.le_refl _⟩ (hO.recv hK rfl) ⟨rfl, hB⟩ rfl rfl hl.1 (Nat.le_of_ble_eq_true rfl) d_L_misfit_5 ⟨Nat.le_of_eq (Nat.zero_add _), Nat.le_of_eq (Nat.zero_add _)⟩ hS (fun q h => h.elim (fun h => Or.inl (Or.inl h)) Or.inr) (fun H1 locs1 hP1 hz1 hk1 hS => ?_)
  rw [Nat.zero_add mc, Nat.zero_add ms]
  have hL1 := hL0.keep (hk1 _ hL0.lt (fun h => h.elim hoF (fun h => Nat.not_le.mpr hL0.lt h)))
  refine lv_i2l hx hb d_L_misfit_8 rfl ?_
  refine z_last (x := v.toInt64) hx hb hAL hL1 hS (Or.inl (Or.inr rfl)) d_L_misfit_9 (fun H1 locs1 hz2 hL1 ho2 hS => ?_)
  have hP1 := hPk _ _ hP1 ho2
  refine lv_goto (tgt := 21) hx hb d_L_misfit_10 (by decide) ?_
  refine lv_iconst (v := 0) hx hb d_L_misfit_21 (by decide) ?_
  exact z_wi hx hb hr hlocks ⟨rfl, hP1, hL1⟩ hS d_L_misfit_22
set_option maxRecDepth 100000 in
set_option maxHeartbeats 4000000 in
theorem w_misfit_t1 (G : z_G s0 (dC, dI) cI cS) (hLX : z_LX s0 cL) {rm : Room} {sz a o : Nat} {p0 p1 : Int32} {B K : Heap → Prop} (hM : xt_Met l y_B_misfit [Cond.code y_B_misfit b_B_misfit 5 (some .int)] rm (z_Pc s0 [.ref a, .int p0, .int p1] B) "java/util/NoSuchElementException") (hrm : rm.cells = 1 ∧ rm.slots = 6) (hOB : ∀ H : Heap, B H → ∃ fs, z_O (dC, dI) H a 3 fs) (hKB : ∀ H : Heap, K H → B H) (hKs : ∀ H H1 : Heap, K H → H.size ≤ H1.size → (∀ q : Nat, q < H.size → H1[q]? = H[q]?) → K H1) : Met l y_L_misfit [Cond.codeWith y_L_misfit b_L_misfit 5 (some .int) [(0, 10, 13, 13), (0, 10, 17, 21)]] ({ frames := rm.frames + 1, cells := 1, slots := 6, locals := 8 + (5 + 11) + rm.locals }) (z_Pc s0 [.ref a, .int p0, .int p1, .ref o] (fun H => H.size = sz ∧ K H)) (z_Qw (fun r H => r = some (.int 1) ∧ K H) (z_fr (fun _ => False) sz)) 1 6 (z_fr (fun _ => False) sz) := by
  refine z_ofWT (by decide +kernel) (Nat.le_of_ble_eq_true rfl) ?_
  intro p e s m below meth c hx hb hml hr hown hlocks htab hW0 hB ls hl
  have hts := z_hts (args := [.ref a, .int p0, .int p1, .ref o].toArray) G.1 hW0
  have hK := va_K.moved hW0.alike G.2.2.1
  have hl : lv_has ls 5 [(0, .ref a), (1, .int p0), (2, .int p1), (3, .ref o)] := hl
  obtain ⟨rfl, hK0⟩ := hB
  have hB := hKB _ hK0
  obtain ⟨fs, hO⟩ := hOB _ hB
  refine lv_aload_n hx hb d_L_misfit_0 rfl (lv_at hl 3 rfl) ?_
  refine lv_iconst (v := 0) hx hb d_L_misfit_1 (by decide) ?_
  refine lv_aload_n hx hb d_L_misfit_2 rfl (lv_at hl 0 rfl) ?_
  refine lv_iload_n hx hb d_L_misfit_3 rfl (lv_at hl 1 rfl) ?_
  refine lv_iload_n hx hb d_L_misfit_4 rfl (lv_at hl 2 rfl) ?_
  refine xh_catch (X := "java/util/NoSuchElementException") (own := R_L) (xt_runV (C := R_B) (rest := [.int 0, .ref o]) (g := F0 m 5 ls _) ⟨hx, hb, hml, hown, hts⟩ hM ⟨z_callB (n := 2) hts w_414 w_411 w_1 (by decide +kernel) ⟨hrm.1, hrm.2, Nat.le_refl _, Nat.le_refl _⟩, hts _ w_412, hts _ w_413⟩ ⟨z_blind, hO.recv hK rfl, fun U hU hW => ⟨rfl, hW0.trans hW, by rw [hU]; exact hB⟩⟩ rfl rfl hl.1 rfl (Nat.le_of_ble_eq_true rfl) d_L_misfit_5 ⟨Nat.le_of_ble_eq_true rfl, Nat.le_of_ble_eq_true rfl⟩) hown [] ⟨0, 10, 13, 13⟩ [⟨0, 10, 17, 21⟩] htab rfl (by decide) (hts _ w_93) (fun y hy => by cases hy) (fun x9 H1 hz1 ho1 => ?_)
  have hS : va_S (z_fr (fun _ => False) s.heap.size) s.heap H1 [] := ⟨hz1, fun q h1 _ => ho1 q h1, fun q hq => by cases hq⟩
  have hK1 := hKs _ _ hK0 hz1 ho1
  refine lv_astore (lv' := [(4, .ref x9), (0, .ref a), (1, .int p0), (2, .int p1), (3, .ref o)]) hx hb d_L_misfit_13 hl (by decide) rfl (fun ls hl => ?_)
  refine lv_iconst (v := 1) hx hb d_L_misfit_15 (by decide) ?_
  exact z_wi hx hb hr hlocks ⟨rfl, hK1⟩ hS d_L_misfit_16
set_option maxRecDepth 100000 in
set_option maxHeartbeats 4000000 in
theorem w_misfit_t2 (G : z_G s0 (dC, dI) cI cS) (hLX : z_LX s0 cL) {rm : Room} {sz a o : Nat} {p0 p1 : Int32} {B K : Heap → Prop} (hM : xt_Met l y_B_misfit [Cond.code y_B_misfit b_B_misfit 5 (some .int)] rm (z_Pc s0 [.ref a, .int p0, .int p1] B) "java/lang/IllegalArgumentException") (hrm : rm.cells = 1 ∧ rm.slots = 6) (hOB : ∀ H : Heap, B H → ∃ fs, z_O (dC, dI) H a 3 fs) (hKB : ∀ H : Heap, K H → B H) (hKs : ∀ H H1 : Heap, K H → H.size ≤ H1.size → (∀ q : Nat, q < H.size → H1[q]? = H[q]?) → K H1) : Met l y_L_misfit [Cond.codeWith y_L_misfit b_L_misfit 5 (some .int) [(0, 10, 13, 13), (0, 10, 17, 21)]] ({ frames := rm.frames + 1, cells := 1, slots := 6, locals := 8 + (5 + 11) + rm.locals }) (z_Pc s0 [.ref a, .int p0, .int p1, .ref o] (fun H => H.size = sz ∧ K H)) (z_Qw (fun r H => r = some (.int 2) ∧ K H) (z_fr (fun _ => False) sz)) 1 6 (z_fr (fun _ => False) sz) := by
  refine z_ofWT (by decide +kernel) (Nat.le_of_ble_eq_true rfl) ?_
  intro p e s m below meth c hx hb hml hr hown hlocks htab hW0 hB ls hl
  have hts := z_hts (args := [.ref a, .int p0, .int p1, .ref o].toArray) G.1 hW0
  have hK := va_K.moved hW0.alike G.2.2.1
  have hl : lv_has ls 5 [(0, .ref a), (1, .int p0), (2, .int p1), (3, .ref o)] := hl
  obtain ⟨rfl, hK0⟩ := hB
  have hB := hKB _ hK0
  obtain ⟨fs, hO⟩ := hOB _ hB
  refine lv_aload_n hx hb d_L_misfit_0 rfl (lv_at hl 3 rfl) ?_
  refine lv_iconst (v := 0) hx hb d_L_misfit_1 (by decide) ?_
  refine lv_aload_n hx hb d_L_misfit_2 rfl (lv_at hl 0 rfl) ?_
  refine lv_iload_n hx hb d_L_misfit_3 rfl (lv_at hl 1 rfl) ?_
  refine lv_iload_n hx hb d_L_misfit_4 rfl (lv_at hl 2 rfl) ?_
  refine xh_catch (X := "java/lang/IllegalArgumentException") (own := R_L) (xt_runV (C := R_B) (rest := [.int 0, .ref o]) (g := F0 m 5 ls _) ⟨hx, hb, hml, hown, hts⟩ hM ⟨z_callB (n := 2) hts w_414 w_411 w_1 (by decide +kernel) ⟨hrm.1, hrm.2, Nat.le_refl _, Nat.le_refl _⟩, hts _ w_412, hts _ w_413⟩ ⟨z_blind, hO.recv hK rfl, fun U hU hW => ⟨rfl, hW0.trans hW, by rw [hU]; exact hB⟩⟩ rfl rfl hl.1 rfl (Nat.le_of_ble_eq_true rfl) d_L_misfit_5 ⟨Nat.le_of_ble_eq_true rfl, Nat.le_of_ble_eq_true rfl⟩) hown [⟨0, 10, 13, 13⟩] ⟨0, 10, 17, 21⟩ [] htab rfl (by decide) (hts _ w_190) (fun y hy => by simp only [List.mem_cons, List.not_mem_nil, or_false] at hy; subst hy; exact ⟨rfl, by decide, _, hts _ w_93, va_Nc.moved hW0.alike hLX.2.2.1⟩) (fun x9 H1 hz1 ho1 => ?_)
  have hS : va_S (z_fr (fun _ => False) s.heap.size) s.heap H1 [] := ⟨hz1, fun q h1 _ => ho1 q h1, fun q hq => by cases hq⟩
  have hK1 := hKs _ _ hK0 hz1 ho1
  refine lv_astore (lv' := [(4, .ref x9), (0, .ref a), (1, .int p0), (2, .int p1), (3, .ref o)]) hx hb d_L_misfit_17 hl (by decide) rfl (fun ls hl => ?_)
  refine lv_iconst (v := 2) hx hb d_L_misfit_19 (by decide) ?_
  exact z_wi hx hb hr hlocks ⟨rfl, hK1⟩ hS d_L_misfit_20
set_option maxRecDepth 100000 in
set_option maxHeartbeats 4000000 in
theorem w_distance (G : z_G s0 (dC, dI) cI cS) (hLX : z_LX s0 cL) {rm : Room} {mc ms sz a o : Nat} {p0 p1 p2 : Int32} {B P : Heap → Prop} {F : Nat → Prop} {f : Nat → Int64} {v : Int32} (hM : Met l y_B_distance [Cond.code y_B_distance b_B_distance 6 (some .int)] rm (z_Pc s0 [.ref a, .int p0, .int p1, .int p2] (fun H => H.size = sz ∧ B H)) (z_Qw (fun r H => r = some (.int v) ∧ P H) (z_fr F sz)) mc ms (z_fr F sz)) (hrm : rm.cells = mc ∧ rm.slots = ms) (hOB : ∀ H : Heap, B H → ∃ fs, z_O (dC, dI) H a 3 fs) (hPk : ∀ H H1 : Heap, P H → (∀ q : Nat, q ≠ o → H1[q]? = H[q]?) → P H1) (hoF : ¬ F o) : Met l y_L_distance [Cond.codeWith y_L_distance b_L_distance 6 (some .int) [(0, 12, 15, 13), (0, 12, 19, 21)]] ({ frames := rm.frames + 1, cells := mc, slots := ms, locals := 8 + (6 + 11) + rm.locals }) (z_Pc s0 [.ref a, .int p0, .int p1, .int p2, .ref o] (fun H => H.size = sz ∧ (B H ∧ z_L cL H o 1 f))) (z_Qw (fun r H => r = some (.int 0) ∧ (P H ∧ z_L cL H o 1 (vp_updL f 0 (v.toInt64)))) (z_fr (fun q => F q ∨ q = o) sz)) mc ms (z_fr (fun q => F q ∨ q = o) sz) := by
  refine z_ofWT (by decide +kernel) (Nat.le_of_ble_eq_true rfl) ?_
  intro p e s m below meth c hx hb hml hr hown hlocks htab hW0 hB ls hl
  have hts := z_hts (args := [.ref a, .int p0, .int p1, .int p2, .ref o].toArray) G.1 hW0
  have hK := va_K.moved hW0.alike G.2.2.1
  have hl : lv_has ls 6 [(0, .ref a), (1, .int p0), (2, .int p1), (3, .int p2), (4, .ref o)] := hl
  obtain ⟨rfl, hB, hL0⟩ := hB
  obtain ⟨fs, hO⟩ := hOB _ hB
  have hS : va_S (z_fr (fun q => F q ∨ q = o) s.heap.size) s.heap s.heap [] := va_S.rf
  have hAL := arrOfT_moved hW0.alike hLX.1
  refine lv_aload hx hb d_L_distance_0 (lv_at hl 4 rfl) ?_
  refine lv_iconst (v := 0) hx hb d_L_distance_2 (by decide) ?_
  refine lv_aload_n hx hb d_L_distance_3 rfl (lv_at hl 0 rfl) ?_
  refine lv_iload_n hx hb d_L_distance_4 rfl (lv_at hl 1 rfl) ?_
  refine lv_iload_n hx hb d_L_distance_5 rfl (lv_at hl 2 rfl) ?_
  refine lv_iload_n hx hb d_L_distance_6 rfl (lv_at hl 3 rfl) ?_
  refine z_wrV (n := 3) (C := R_B) (rest := [.int 0, .ref o]) ⟨hx, hb, hml, hown, hts⟩ hW0 hM w_430 w_427 w_428 w_429 w_1 (by decide +kernel) ⟨hrm.1, hrm.2, Nat.le_refl _, Nat.le_refl _⟩ (hO.recv hK rfl) ⟨rfl, hB⟩ rfl rfl hl.1 (Nat.le_of_ble_eq_true rfl) d_L_distance_7 ⟨Nat.le_of_eq (Nat.zero_add _), Nat.le_of_eq (Nat.zero_add _)⟩ hS (fun q h => h.elim (fun h => Or.inl (Or.inl h)) Or.inr) (fun H1 locs1 hP1 hz1 hk1 hS => ?_)
  rw [Nat.zero_add mc, Nat.zero_add ms]
  have hL1 := hL0.keep (hk1 _ hL0.lt (fun h => h.elim hoF (fun h => Nat.not_le.mpr hL0.lt h)))
  refine lv_i2l hx hb d_L_distance_10 rfl ?_
  refine z_last (x := v.toInt64) hx hb hAL hL1 hS (Or.inl (Or.inr rfl)) d_L_distance_11 (fun H1 locs1 hz2 hL1 ho2 hS => ?_)
  have hP1 := hPk _ _ hP1 ho2
  refine lv_goto (tgt := 23) hx hb d_L_distance_12 (by decide) ?_
  refine lv_iconst (v := 0) hx hb d_L_distance_23 (by decide) ?_
  exact z_wi hx hb hr hlocks ⟨rfl, hP1, hL1⟩ hS d_L_distance_24
set_option maxRecDepth 100000 in
set_option maxHeartbeats 4000000 in
theorem w_distance_t1 (G : z_G s0 (dC, dI) cI cS) (hLX : z_LX s0 cL) {rm : Room} {sz a o : Nat} {p0 p1 p2 : Int32} {B K : Heap → Prop} (hM : xt_Met l y_B_distance [Cond.code y_B_distance b_B_distance 6 (some .int)] rm (z_Pc s0 [.ref a, .int p0, .int p1, .int p2] B) "java/util/NoSuchElementException") (hrm : rm.cells = 1 ∧ rm.slots = 6) (hOB : ∀ H : Heap, B H → ∃ fs, z_O (dC, dI) H a 3 fs) (hKB : ∀ H : Heap, K H → B H) (hKs : ∀ H H1 : Heap, K H → H.size ≤ H1.size → (∀ q : Nat, q < H.size → H1[q]? = H[q]?) → K H1) : Met l y_L_distance [Cond.codeWith y_L_distance b_L_distance 6 (some .int) [(0, 12, 15, 13), (0, 12, 19, 21)]] ({ frames := rm.frames + 1, cells := 1, slots := 6, locals := 8 + (6 + 11) + rm.locals }) (z_Pc s0 [.ref a, .int p0, .int p1, .int p2, .ref o] (fun H => H.size = sz ∧ K H)) (z_Qw (fun r H => r = some (.int 1) ∧ K H) (z_fr (fun _ => False) sz)) 1 6 (z_fr (fun _ => False) sz) := by
  refine z_ofWT (by decide +kernel) (Nat.le_of_ble_eq_true rfl) ?_
  intro p e s m below meth c hx hb hml hr hown hlocks htab hW0 hB ls hl
  have hts := z_hts (args := [.ref a, .int p0, .int p1, .int p2, .ref o].toArray) G.1 hW0
  have hK := va_K.moved hW0.alike G.2.2.1
  have hl : lv_has ls 6 [(0, .ref a), (1, .int p0), (2, .int p1), (3, .int p2), (4, .ref o)] := hl
  obtain ⟨rfl, hK0⟩ := hB
  have hB := hKB _ hK0
  obtain ⟨fs, hO⟩ := hOB _ hB
  refine lv_aload hx hb d_L_distance_0 (lv_at hl 4 rfl) ?_
  refine lv_iconst (v := 0) hx hb d_L_distance_2 (by decide) ?_
  refine lv_aload_n hx hb d_L_distance_3 rfl (lv_at hl 0 rfl) ?_
  refine lv_iload_n hx hb d_L_distance_4 rfl (lv_at hl 1 rfl) ?_
  refine lv_iload_n hx hb d_L_distance_5 rfl (lv_at hl 2 rfl) ?_
  refine lv_iload_n hx hb d_L_distance_6 rfl (lv_at hl 3 rfl) ?_
  refine xh_catch (X := "java/util/NoSuchElementException") (own := R_L) (xt_runV (C := R_B) (rest := [.int 0, .ref o]) (g := F0 m 7 ls _) ⟨hx, hb, hml, hown, hts⟩ hM ⟨z_callB (n := 3) hts w_430 w_427 w_1 (by decide +kernel) ⟨hrm.1, hrm.2, Nat.le_refl _, Nat.le_refl _⟩, hts _ w_428, hts _ w_429⟩ ⟨z_blind, hO.recv hK rfl, fun U hU hW => ⟨rfl, hW0.trans hW, by rw [hU]; exact hB⟩⟩ rfl rfl hl.1 rfl (Nat.le_of_ble_eq_true rfl) d_L_distance_7 ⟨Nat.le_of_ble_eq_true rfl, Nat.le_of_ble_eq_true rfl⟩) hown [] ⟨0, 12, 15, 13⟩ [⟨0, 12, 19, 21⟩] htab rfl (by decide) (hts _ w_93) (fun y hy => by cases hy) (fun x9 H1 hz1 ho1 => ?_)
  have hS : va_S (z_fr (fun _ => False) s.heap.size) s.heap H1 [] := ⟨hz1, fun q h1 _ => ho1 q h1, fun q hq => by cases hq⟩
  have hK1 := hKs _ _ hK0 hz1 ho1
  refine lv_astore (lv' := [(5, .ref x9), (0, .ref a), (1, .int p0), (2, .int p1), (3, .int p2), (4, .ref o)]) hx hb d_L_distance_15 hl (by decide) rfl (fun ls hl => ?_)
  refine lv_iconst (v := 1) hx hb d_L_distance_17 (by decide) ?_
  exact z_wi hx hb hr hlocks ⟨rfl, hK1⟩ hS d_L_distance_18
set_option maxRecDepth 100000 in
set_option maxHeartbeats 4000000 in
theorem w_distance_t2 (G : z_G s0 (dC, dI) cI cS) (hLX : z_LX s0 cL) {rm : Room} {sz a o : Nat} {p0 p1 p2 : Int32} {B K : Heap → Prop} (hM : xt_Met l y_B_distance [Cond.code y_B_distance b_B_distance 6 (some .int)] rm (z_Pc s0 [.ref a, .int p0, .int p1, .int p2] B) "java/lang/IllegalArgumentException") (hrm : rm.cells = 1 ∧ rm.slots = 6) (hOB : ∀ H : Heap, B H → ∃ fs, z_O (dC, dI) H a 3 fs) (hKB : ∀ H : Heap, K H → B H) (hKs : ∀ H H1 : Heap, K H → H.size ≤ H1.size → (∀ q : Nat, q < H.size → H1[q]? = H[q]?) → K H1) : Met l y_L_distance [Cond.codeWith y_L_distance b_L_distance 6 (some .int) [(0, 12, 15, 13), (0, 12, 19, 21)]] ({ frames := rm.frames + 1, cells := 1, slots := 6, locals := 8 + (6 + 11) + rm.locals }) (z_Pc s0 [.ref a, .int p0, .int p1, .int p2, .ref o] (fun H => H.size = sz ∧ K H)) (z_Qw (fun r H => r = some (.int 2) ∧ K H) (z_fr (fun _ => False) sz)) 1 6 (z_fr (fun _ => False) sz) := by
  refine z_ofWT (by decide +kernel) (Nat.le_of_ble_eq_true rfl) ?_
  intro p e s m below meth c hx hb hml hr hown hlocks htab hW0 hB ls hl
  have hts := z_hts (args := [.ref a, .int p0, .int p1, .int p2, .ref o].toArray) G.1 hW0
  have hK := va_K.moved hW0.alike G.2.2.1
  have hl : lv_has ls 6 [(0, .ref a), (1, .int p0), (2, .int p1), (3, .int p2), (4, .ref o)] := hl
  obtain ⟨rfl, hK0⟩ := hB
  have hB := hKB _ hK0
  obtain ⟨fs, hO⟩ := hOB _ hB
  refine lv_aload hx hb d_L_distance_0 (lv_at hl 4 rfl) ?_
  refine lv_iconst (v := 0) hx hb d_L_distance_2 (by decide) ?_
  refine lv_aload_n hx hb d_L_distance_3 rfl (lv_at hl 0 rfl) ?_
  refine lv_iload_n hx hb d_L_distance_4 rfl (lv_at hl 1 rfl) ?_
  refine lv_iload_n hx hb d_L_distance_5 rfl (lv_at hl 2 rfl) ?_
  refine lv_iload_n hx hb d_L_distance_6 rfl (lv_at hl 3 rfl) ?_
  refine xh_catch (X := "java/lang/IllegalArgumentException") (own := R_L) (xt_runV (C := R_B) (rest := [.int 0, .ref o]) (g := F0 m 7 ls _) ⟨hx, hb, hml, hown, hts⟩ hM ⟨z_callB (n := 3) hts w_430 w_427 w_1 (by decide +kernel) ⟨hrm.1, hrm.2, Nat.le_refl _, Nat.le_refl _⟩, hts _ w_428, hts _ w_429⟩ ⟨z_blind, hO.recv hK rfl, fun U hU hW => ⟨rfl, hW0.trans hW, by rw [hU]; exact hB⟩⟩ rfl rfl hl.1 rfl (Nat.le_of_ble_eq_true rfl) d_L_distance_7 ⟨Nat.le_of_ble_eq_true rfl, Nat.le_of_ble_eq_true rfl⟩) hown [⟨0, 12, 15, 13⟩] ⟨0, 12, 19, 21⟩ [] htab rfl (by decide) (hts _ w_190) (fun y hy => by simp only [List.mem_cons, List.not_mem_nil, or_false] at hy; subst hy; exact ⟨rfl, by decide, _, hts _ w_93, va_Nc.moved hW0.alike hLX.2.2.1⟩) (fun x9 H1 hz1 ho1 => ?_)
  have hS : va_S (z_fr (fun _ => False) s.heap.size) s.heap H1 [] := ⟨hz1, fun q h1 _ => ho1 q h1, fun q hq => by cases hq⟩
  have hK1 := hKs _ _ hK0 hz1 ho1
  refine lv_astore (lv' := [(5, .ref x9), (0, .ref a), (1, .int p0), (2, .int p1), (3, .int p2), (4, .ref o)]) hx hb d_L_distance_19 hl (by decide) rfl (fun ls hl => ?_)
  refine lv_iconst (v := 2) hx hb d_L_distance_21 (by decide) ?_
  exact z_wi hx hb hr hlocks ⟨rfl, hK1⟩ hS d_L_distance_22
set_option maxRecDepth 100000 in
set_option maxHeartbeats 4000000 in
theorem w_name (G : z_G s0 (dC, dI) cI cS) (hLX : z_LX s0 cL) {rm : Room} {mc ms sz a : Nat} {p0 p1 p2 p3 : Int32} {B P : Heap → Prop} {F : Nat → Prop} (hM : Met l y_B_name [Cond.code y_B_name b_B_name 5 none] rm (z_Pc s0 [.ref a, .int p0, .int p1, .int p2, .int p3] (fun H => H.size = sz ∧ B H)) (z_Qw (fun r H => r = none ∧ P H) (z_fr F sz)) mc ms (z_fr F sz)) (hrm : rm.cells = mc ∧ rm.slots = ms) (hOB : ∀ H : Heap, B H → ∃ fs, z_O (dC, dI) H a 3 fs) : Met l y_L_name [Cond.codeWith y_L_name b_L_name 6 (some .int) [(0, 9, 12, 13), (0, 9, 16, 21), (0, 9, 20, 15)]] ({ frames := rm.frames + 1, cells := mc, slots := ms, locals := 8 + (5 + 11) + rm.locals }) (z_Pc s0 [.ref a, .int p0, .int p1, .int p2, .int p3] (fun H => H.size = sz ∧ B H)) (z_Qw (fun r H => r = some (.int 0) ∧ P H) (z_fr (fun q => F q) sz)) mc ms (z_fr (fun q => F q) sz) := by
  refine z_ofWT (by decide +kernel) (Nat.le_of_ble_eq_true rfl) ?_
  intro p e s m below meth c hx hb hml hr hown hlocks htab hW0 hB ls hl
  have hts := z_hts (args := [.ref a, .int p0, .int p1, .int p2, .int p3].toArray) G.1 hW0
  have hK := va_K.moved hW0.alike G.2.2.1
  have hl : lv_has ls 6 [(0, .ref a), (1, .int p0), (2, .int p1), (3, .int p2), (4, .int p3)] := hl
  obtain ⟨rfl, hB⟩ := hB
  obtain ⟨fs, hO⟩ := hOB _ hB
  have hS : va_S (z_fr (fun q => F q) s.heap.size) s.heap s.heap [] := va_S.rf
  refine lv_aload_n hx hb d_L_name_0 rfl (lv_at hl 0 rfl) ?_
  refine lv_iload_n hx hb d_L_name_1 rfl (lv_at hl 1 rfl) ?_
  refine lv_iload_n hx hb d_L_name_2 rfl (lv_at hl 2 rfl) ?_
  refine lv_iload_n hx hb d_L_name_3 rfl (lv_at hl 3 rfl) ?_
  refine lv_iload hx hb d_L_name_4 (lv_at hl 4 rfl) ?_
  refine z_wrVv (n := 4) (C := R_B) (rest := []) ⟨hx, hb, hml, hown, hts⟩ hW0 hM w_446 w_443 w_444 w_445 w_1 (by decide +kernel) ⟨hrm.1, hrm.2, Nat.le_refl _, Nat.le_refl _⟩ (hO.recv hK rfl) ⟨rfl, hB⟩ rfl rfl hl.1 (Nat.le_of_ble_eq_true rfl) d_L_name_6 ⟨Nat.le_of_eq (Nat.zero_add _), Nat.le_of_eq (Nat.zero_add _)⟩ hS (fun q h => h) (fun H1 locs1 hP1 hz1 hk1 hS => ?_)
  rw [Nat.zero_add mc, Nat.zero_add ms]
  refine lv_goto (tgt := 24) hx hb d_L_name_9 (by decide) ?_
  refine lv_iconst (v := 0) hx hb d_L_name_24 (by decide) ?_
  exact z_wi hx hb hr hlocks ⟨rfl, hP1⟩ hS d_L_name_25
set_option maxRecDepth 100000 in
set_option maxHeartbeats 4000000 in
theorem w_name_t1 (G : z_G s0 (dC, dI) cI cS) (hLX : z_LX s0 cL) {rm : Room} {sz a : Nat} {p0 p1 p2 p3 : Int32} {B K : Heap → Prop} (hM : xt_Met l y_B_name [Cond.code y_B_name b_B_name 5 none] rm (z_Pc s0 [.ref a, .int p0, .int p1, .int p2, .int p3] B) "java/util/NoSuchElementException") (hrm : rm.cells = 1 ∧ rm.slots = 6) (hOB : ∀ H : Heap, B H → ∃ fs, z_O (dC, dI) H a 3 fs) (hKB : ∀ H : Heap, K H → B H) (hKs : ∀ H H1 : Heap, K H → H.size ≤ H1.size → (∀ q : Nat, q < H.size → H1[q]? = H[q]?) → K H1) : Met l y_L_name [Cond.codeWith y_L_name b_L_name 6 (some .int) [(0, 9, 12, 13), (0, 9, 16, 21), (0, 9, 20, 15)]] ({ frames := rm.frames + 1, cells := 1, slots := 6, locals := 8 + (5 + 11) + rm.locals }) (z_Pc s0 [.ref a, .int p0, .int p1, .int p2, .int p3] (fun H => H.size = sz ∧ K H)) (z_Qw (fun r H => r = some (.int 1) ∧ K H) (z_fr (fun _ => False) sz)) 1 6 (z_fr (fun _ => False) sz) := by
  refine z_ofWT (by decide +kernel) (Nat.le_of_ble_eq_true rfl) ?_
  intro p e s m below meth c hx hb hml hr hown hlocks htab hW0 hB ls hl
  have hts := z_hts (args := [.ref a, .int p0, .int p1, .int p2, .int p3].toArray) G.1 hW0
  have hK := va_K.moved hW0.alike G.2.2.1
  have hl : lv_has ls 6 [(0, .ref a), (1, .int p0), (2, .int p1), (3, .int p2), (4, .int p3)] := hl
  obtain ⟨rfl, hK0⟩ := hB
  have hB := hKB _ hK0
  obtain ⟨fs, hO⟩ := hOB _ hB
  refine lv_aload_n hx hb d_L_name_0 rfl (lv_at hl 0 rfl) ?_
  refine lv_iload_n hx hb d_L_name_1 rfl (lv_at hl 1 rfl) ?_
  refine lv_iload_n hx hb d_L_name_2 rfl (lv_at hl 2 rfl) ?_
  refine lv_iload_n hx hb d_L_name_3 rfl (lv_at hl 3 rfl) ?_
  refine lv_iload hx hb d_L_name_4 (lv_at hl 4 rfl) ?_
  refine xh_catch (X := "java/util/NoSuchElementException") (own := R_L) (xt_runV (C := R_B) (rest := []) (g := F0 m 6 ls _) ⟨hx, hb, hml, hown, hts⟩ hM ⟨z_callB (n := 4) hts w_446 w_443 w_1 (by decide +kernel) ⟨hrm.1, hrm.2, Nat.le_refl _, Nat.le_refl _⟩, hts _ w_444, hts _ w_445⟩ ⟨z_blind, hO.recv hK rfl, fun U hU hW => ⟨rfl, hW0.trans hW, by rw [hU]; exact hB⟩⟩ rfl rfl hl.1 rfl (Nat.le_of_ble_eq_true rfl) d_L_name_6 ⟨Nat.le_of_ble_eq_true rfl, Nat.le_of_ble_eq_true rfl⟩) hown [] ⟨0, 9, 12, 13⟩ [⟨0, 9, 16, 21⟩, ⟨0, 9, 20, 15⟩] htab rfl (by decide) (hts _ w_93) (fun y hy => by cases hy) (fun x9 H1 hz1 ho1 => ?_)
  have hS : va_S (z_fr (fun _ => False) s.heap.size) s.heap H1 [] := ⟨hz1, fun q h1 _ => ho1 q h1, fun q hq => by cases hq⟩
  have hK1 := hKs _ _ hK0 hz1 ho1
  refine lv_astore (lv' := [(5, .ref x9), (0, .ref a), (1, .int p0), (2, .int p1), (3, .int p2), (4, .int p3)]) hx hb d_L_name_12 hl (by decide) rfl (fun ls hl => ?_)
  refine lv_iconst (v := 1) hx hb d_L_name_14 (by decide) ?_
  exact z_wi hx hb hr hlocks ⟨rfl, hK1⟩ hS d_L_name_15
set_option maxRecDepth 100000 in
set_option maxHeartbeats 4000000 in
theorem w_name_t2 (G : z_G s0 (dC, dI) cI cS) (hLX : z_LX s0 cL) {rm : Room} {sz a : Nat} {p0 p1 p2 p3 : Int32} {B K : Heap → Prop} (hM : xt_Met l y_B_name [Cond.code y_B_name b_B_name 5 none] rm (z_Pc s0 [.ref a, .int p0, .int p1, .int p2, .int p3] B) "java/lang/IllegalArgumentException") (hrm : rm.cells = 1 ∧ rm.slots = 6) (hOB : ∀ H : Heap, B H → ∃ fs, z_O (dC, dI) H a 3 fs) (hKB : ∀ H : Heap, K H → B H) (hKs : ∀ H H1 : Heap, K H → H.size ≤ H1.size → (∀ q : Nat, q < H.size → H1[q]? = H[q]?) → K H1) : Met l y_L_name [Cond.codeWith y_L_name b_L_name 6 (some .int) [(0, 9, 12, 13), (0, 9, 16, 21), (0, 9, 20, 15)]] ({ frames := rm.frames + 1, cells := 1, slots := 6, locals := 8 + (5 + 11) + rm.locals }) (z_Pc s0 [.ref a, .int p0, .int p1, .int p2, .int p3] (fun H => H.size = sz ∧ K H)) (z_Qw (fun r H => r = some (.int 2) ∧ K H) (z_fr (fun _ => False) sz)) 1 6 (z_fr (fun _ => False) sz) := by
  refine z_ofWT (by decide +kernel) (Nat.le_of_ble_eq_true rfl) ?_
  intro p e s m below meth c hx hb hml hr hown hlocks htab hW0 hB ls hl
  have hts := z_hts (args := [.ref a, .int p0, .int p1, .int p2, .int p3].toArray) G.1 hW0
  have hK := va_K.moved hW0.alike G.2.2.1
  have hl : lv_has ls 6 [(0, .ref a), (1, .int p0), (2, .int p1), (3, .int p2), (4, .int p3)] := hl
  obtain ⟨rfl, hK0⟩ := hB
  have hB := hKB _ hK0
  obtain ⟨fs, hO⟩ := hOB _ hB
  refine lv_aload_n hx hb d_L_name_0 rfl (lv_at hl 0 rfl) ?_
  refine lv_iload_n hx hb d_L_name_1 rfl (lv_at hl 1 rfl) ?_
  refine lv_iload_n hx hb d_L_name_2 rfl (lv_at hl 2 rfl) ?_
  refine lv_iload_n hx hb d_L_name_3 rfl (lv_at hl 3 rfl) ?_
  refine lv_iload hx hb d_L_name_4 (lv_at hl 4 rfl) ?_
  refine xh_catch (X := "java/lang/IllegalArgumentException") (own := R_L) (xt_runV (C := R_B) (rest := []) (g := F0 m 6 ls _) ⟨hx, hb, hml, hown, hts⟩ hM ⟨z_callB (n := 4) hts w_446 w_443 w_1 (by decide +kernel) ⟨hrm.1, hrm.2, Nat.le_refl _, Nat.le_refl _⟩, hts _ w_444, hts _ w_445⟩ ⟨z_blind, hO.recv hK rfl, fun U hU hW => ⟨rfl, hW0.trans hW, by rw [hU]; exact hB⟩⟩ rfl rfl hl.1 rfl (Nat.le_of_ble_eq_true rfl) d_L_name_6 ⟨Nat.le_of_ble_eq_true rfl, Nat.le_of_ble_eq_true rfl⟩) hown [⟨0, 9, 12, 13⟩] ⟨0, 9, 16, 21⟩ [⟨0, 9, 20, 15⟩] htab rfl (by decide) (hts _ w_190) (fun y hy => by simp only [List.mem_cons, List.not_mem_nil, or_false] at hy; subst hy; exact ⟨rfl, by decide, _, hts _ w_93, va_Nc.moved hW0.alike hLX.2.2.1⟩) (fun x9 H1 hz1 ho1 => ?_)
  have hS : va_S (z_fr (fun _ => False) s.heap.size) s.heap H1 [] := ⟨hz1, fun q h1 _ => ho1 q h1, fun q hq => by cases hq⟩
  have hK1 := hKs _ _ hK0 hz1 ho1
  refine lv_astore (lv' := [(5, .ref x9), (0, .ref a), (1, .int p0), (2, .int p1), (3, .int p2), (4, .int p3)]) hx hb d_L_name_16 hl (by decide) rfl (fun ls hl => ?_)
  refine lv_iconst (v := 2) hx hb d_L_name_18 (by decide) ?_
  exact z_wi hx hb hr hlocks ⟨rfl, hK1⟩ hS d_L_name_19
set_option maxRecDepth 100000 in
set_option maxHeartbeats 4000000 in
theorem w_name_t3 (G : z_G s0 (dC, dI) cI cS) (hLX : z_LX s0 cL) {rm : Room} {sz a : Nat} {p0 p1 p2 p3 : Int32} {B K : Heap → Prop} (hM : xt_Met l y_B_name [Cond.code y_B_name b_B_name 5 none] rm (z_Pc s0 [.ref a, .int p0, .int p1, .int p2, .int p3] B) "java/lang/IllegalStateException") (hrm : rm.cells = 1 ∧ rm.slots = 6) (hOB : ∀ H : Heap, B H → ∃ fs, z_O (dC, dI) H a 3 fs) (hKB : ∀ H : Heap, K H → B H) (hKs : ∀ H H1 : Heap, K H → H.size ≤ H1.size → (∀ q : Nat, q < H.size → H1[q]? = H[q]?) → K H1) : Met l y_L_name [Cond.codeWith y_L_name b_L_name 6 (some .int) [(0, 9, 12, 13), (0, 9, 16, 21), (0, 9, 20, 15)]] ({ frames := rm.frames + 1, cells := 1, slots := 6, locals := 8 + (5 + 11) + rm.locals }) (z_Pc s0 [.ref a, .int p0, .int p1, .int p2, .int p3] (fun H => H.size = sz ∧ K H)) (z_Qw (fun r H => r = some (.int 3) ∧ K H) (z_fr (fun _ => False) sz)) 1 6 (z_fr (fun _ => False) sz) := by
  refine z_ofWT (by decide +kernel) (Nat.le_of_ble_eq_true rfl) ?_
  intro p e s m below meth c hx hb hml hr hown hlocks htab hW0 hB ls hl
  have hts := z_hts (args := [.ref a, .int p0, .int p1, .int p2, .int p3].toArray) G.1 hW0
  have hK := va_K.moved hW0.alike G.2.2.1
  have hl : lv_has ls 6 [(0, .ref a), (1, .int p0), (2, .int p1), (3, .int p2), (4, .int p3)] := hl
  obtain ⟨rfl, hK0⟩ := hB
  have hB := hKB _ hK0
  obtain ⟨fs, hO⟩ := hOB _ hB
  refine lv_aload_n hx hb d_L_name_0 rfl (lv_at hl 0 rfl) ?_
  refine lv_iload_n hx hb d_L_name_1 rfl (lv_at hl 1 rfl) ?_
  refine lv_iload_n hx hb d_L_name_2 rfl (lv_at hl 2 rfl) ?_
  refine lv_iload_n hx hb d_L_name_3 rfl (lv_at hl 3 rfl) ?_
  refine lv_iload hx hb d_L_name_4 (lv_at hl 4 rfl) ?_
  refine xh_catch (X := "java/lang/IllegalStateException") (own := R_L) (xt_runV (C := R_B) (rest := []) (g := F0 m 6 ls _) ⟨hx, hb, hml, hown, hts⟩ hM ⟨z_callB (n := 4) hts w_446 w_443 w_1 (by decide +kernel) ⟨hrm.1, hrm.2, Nat.le_refl _, Nat.le_refl _⟩, hts _ w_444, hts _ w_445⟩ ⟨z_blind, hO.recv hK rfl, fun U hU hW => ⟨rfl, hW0.trans hW, by rw [hU]; exact hB⟩⟩ rfl rfl hl.1 rfl (Nat.le_of_ble_eq_true rfl) d_L_name_6 ⟨Nat.le_of_ble_eq_true rfl, Nat.le_of_ble_eq_true rfl⟩) hown [⟨0, 9, 12, 13⟩, ⟨0, 9, 16, 21⟩] ⟨0, 9, 20, 15⟩ [] htab rfl (by decide) (hts _ w_94) (fun y hy => by simp only [List.mem_cons, List.not_mem_nil, or_false] at hy; rcases hy with rfl | rfl; exact ⟨rfl, by decide, _, hts _ w_93, va_Nc.moved hW0.alike hLX.2.1⟩; exact ⟨rfl, by decide, _, hts _ w_190, va_Nc.moved hW0.alike hLX.2.2.2⟩) (fun x9 H1 hz1 ho1 => ?_)
  have hS : va_S (z_fr (fun _ => False) s.heap.size) s.heap H1 [] := ⟨hz1, fun q h1 _ => ho1 q h1, fun q hq => by cases hq⟩
  have hK1 := hKs _ _ hK0 hz1 ho1
  refine lv_astore (lv' := [(5, .ref x9), (0, .ref a), (1, .int p0), (2, .int p1), (3, .int p2), (4, .int p3)]) hx hb d_L_name_20 hl (by decide) rfl (fun ls hl => ?_)
  refine lv_iconst (v := 3) hx hb d_L_name_22 (by decide) ?_
  exact z_wi hx hb hr hlocks ⟨rfl, hK1⟩ hS d_L_name_23
set_option maxRecDepth 100000 in
set_option maxHeartbeats 4000000 in
theorem w_nameOn (G : z_G s0 (dC, dI) cI cS) (hLX : z_LX s0 cL) {rm : Room} {mc ms sz a o : Nat} {p0 p1 : Int32} {B P : Heap → Prop} {F : Nat → Prop} {f : Nat → Int64} {v : Int32} (hM : Met l y_B_nameOn [Cond.code y_B_nameOn b_B_nameOn 3 (some .int)] rm (z_Pc s0 [.ref a, .int p0, .int p1] (fun H => H.size = sz ∧ B H)) (z_Qw (fun r H => r = some (.int v) ∧ P H) (z_fr F sz)) mc ms (z_fr F sz)) (hrm : rm.cells = mc ∧ rm.slots = ms) (hOB : ∀ H : Heap, B H → ∃ fs, z_O (dC, dI) H a 3 fs) (hPk : ∀ H H1 : Heap, P H → (∀ q : Nat, q ≠ o → H1[q]? = H[q]?) → P H1) (hoF : ¬ F o) : Met l y_L_nameOn [Cond.codeWith y_L_nameOn b_L_nameOn 5 (some .int) [(0, 10, 13, 13), (0, 10, 17, 21)]] ({ frames := rm.frames + 1, cells := mc, slots := ms, locals := 8 + (3 + 11) + rm.locals }) (z_Pc s0 [.ref a, .int p0, .int p1, .ref o] (fun H => H.size = sz ∧ (B H ∧ z_L cL H o 1 f))) (z_Qw (fun r H => r = some (.int 0) ∧ (P H ∧ z_L cL H o 1 (vp_updL f 0 (v.toInt64)))) (z_fr (fun q => F q ∨ q = o) sz)) mc ms (z_fr (fun q => F q ∨ q = o) sz) := by
  refine z_ofWT (by decide +kernel) (Nat.le_of_ble_eq_true rfl) ?_
  intro p e s m below meth c hx hb hml hr hown hlocks htab hW0 hB ls hl
  have hts := z_hts (args := [.ref a, .int p0, .int p1, .ref o].toArray) G.1 hW0
  have hK := va_K.moved hW0.alike G.2.2.1
  have hl : lv_has ls 5 [(0, .ref a), (1, .int p0), (2, .int p1), (3, .ref o)] := hl
  obtain ⟨rfl, hB, hL0⟩ := hB
  obtain ⟨fs, hO⟩ := hOB _ hB
  have hS : va_S (z_fr (fun q => F q ∨ q = o) s.heap.size) s.heap s.heap [] := va_S.rf
  have hAL := arrOfT_moved hW0.alike hLX.1
  refine lv_aload_n hx hb d_L_nameOn_0 rfl (lv_at hl 3 rfl) ?_
  refine lv_iconst (v := 0) hx hb d_L_nameOn_1 (by decide) ?_
  refine lv_aload_n hx hb d_L_nameOn_2 rfl (lv_at hl 0 rfl) ?_
  refine lv_iload_n hx hb d_L_nameOn_3 rfl (lv_at hl 1 rfl) ?_
  refine lv_iload_n hx hb d_L_nameOn_4 rfl (lv_at hl 2 rfl) ?_
  refine z_wrV (n := 2) (C := R_B) (rest := [.int 0, .ref o]) ⟨hx, hb, hml, hown, hts⟩ hW0 hM w_463 w_460 w_461 w_462 w_1 (by decide +kernel) ⟨hrm.1, hrm.2, Nat.le_refl _, Nat.le_refl _⟩ (hO.recv hK rfl) ⟨rfl, hB⟩ rfl rfl hl.1 (Nat.le_of_ble_eq_true rfl) d_L_nameOn_5 ⟨Nat.le_of_eq (Nat.zero_add _), Nat.le_of_eq (Nat.zero_add _)⟩ hS (fun q h => h.elim (fun h => Or.inl (Or.inl h)) Or.inr) (fun H1 locs1 hP1 hz1 hk1 hS => ?_)
  rw [Nat.zero_add mc, Nat.zero_add ms]
  have hL1 := hL0.keep (hk1 _ hL0.lt (fun h => h.elim hoF (fun h => Nat.not_le.mpr hL0.lt h)))
  refine lv_i2l hx hb d_L_nameOn_8 rfl ?_
  refine z_last (x := v.toInt64) hx hb hAL hL1 hS (Or.inl (Or.inr rfl)) d_L_nameOn_9 (fun H1 locs1 hz2 hL1 ho2 hS => ?_)
  have hP1 := hPk _ _ hP1 ho2
  refine lv_goto (tgt := 21) hx hb d_L_nameOn_10 (by decide) ?_
  refine lv_iconst (v := 0) hx hb d_L_nameOn_21 (by decide) ?_
  exact z_wi hx hb hr hlocks ⟨rfl, hP1, hL1⟩ hS d_L_nameOn_22
set_option maxRecDepth 100000 in
set_option maxHeartbeats 4000000 in
theorem w_nameOn_t1 (G : z_G s0 (dC, dI) cI cS) (hLX : z_LX s0 cL) {rm : Room} {sz a o : Nat} {p0 p1 : Int32} {B K : Heap → Prop} (hM : xt_Met l y_B_nameOn [Cond.code y_B_nameOn b_B_nameOn 3 (some .int)] rm (z_Pc s0 [.ref a, .int p0, .int p1] B) "java/util/NoSuchElementException") (hrm : rm.cells = 1 ∧ rm.slots = 6) (hOB : ∀ H : Heap, B H → ∃ fs, z_O (dC, dI) H a 3 fs) (hKB : ∀ H : Heap, K H → B H) (hKs : ∀ H H1 : Heap, K H → H.size ≤ H1.size → (∀ q : Nat, q < H.size → H1[q]? = H[q]?) → K H1) : Met l y_L_nameOn [Cond.codeWith y_L_nameOn b_L_nameOn 5 (some .int) [(0, 10, 13, 13), (0, 10, 17, 21)]] ({ frames := rm.frames + 1, cells := 1, slots := 6, locals := 8 + (3 + 11) + rm.locals }) (z_Pc s0 [.ref a, .int p0, .int p1, .ref o] (fun H => H.size = sz ∧ K H)) (z_Qw (fun r H => r = some (.int 1) ∧ K H) (z_fr (fun _ => False) sz)) 1 6 (z_fr (fun _ => False) sz) := by
  refine z_ofWT (by decide +kernel) (Nat.le_of_ble_eq_true rfl) ?_
  intro p e s m below meth c hx hb hml hr hown hlocks htab hW0 hB ls hl
  have hts := z_hts (args := [.ref a, .int p0, .int p1, .ref o].toArray) G.1 hW0
  have hK := va_K.moved hW0.alike G.2.2.1
  have hl : lv_has ls 5 [(0, .ref a), (1, .int p0), (2, .int p1), (3, .ref o)] := hl
  obtain ⟨rfl, hK0⟩ := hB
  have hB := hKB _ hK0
  obtain ⟨fs, hO⟩ := hOB _ hB
  refine lv_aload_n hx hb d_L_nameOn_0 rfl (lv_at hl 3 rfl) ?_
  refine lv_iconst (v := 0) hx hb d_L_nameOn_1 (by decide) ?_
  refine lv_aload_n hx hb d_L_nameOn_2 rfl (lv_at hl 0 rfl) ?_
  refine lv_iload_n hx hb d_L_nameOn_3 rfl (lv_at hl 1 rfl) ?_
  refine lv_iload_n hx hb d_L_nameOn_4 rfl (lv_at hl 2 rfl) ?_
  refine xh_catch (X := "java/util/NoSuchElementException") (own := R_L) (xt_runV (C := R_B) (rest := [.int 0, .ref o]) (g := F0 m 5 ls _) ⟨hx, hb, hml, hown, hts⟩ hM ⟨z_callB (n := 2) hts w_463 w_460 w_1 (by decide +kernel) ⟨hrm.1, hrm.2, Nat.le_refl _, Nat.le_refl _⟩, hts _ w_461, hts _ w_462⟩ ⟨z_blind, hO.recv hK rfl, fun U hU hW => ⟨rfl, hW0.trans hW, by rw [hU]; exact hB⟩⟩ rfl rfl hl.1 rfl (Nat.le_of_ble_eq_true rfl) d_L_nameOn_5 ⟨Nat.le_of_ble_eq_true rfl, Nat.le_of_ble_eq_true rfl⟩) hown [] ⟨0, 10, 13, 13⟩ [⟨0, 10, 17, 21⟩] htab rfl (by decide) (hts _ w_93) (fun y hy => by cases hy) (fun x9 H1 hz1 ho1 => ?_)
  have hS : va_S (z_fr (fun _ => False) s.heap.size) s.heap H1 [] := ⟨hz1, fun q h1 _ => ho1 q h1, fun q hq => by cases hq⟩
  have hK1 := hKs _ _ hK0 hz1 ho1
  refine lv_astore (lv' := [(4, .ref x9), (0, .ref a), (1, .int p0), (2, .int p1), (3, .ref o)]) hx hb d_L_nameOn_13 hl (by decide) rfl (fun ls hl => ?_)
  refine lv_iconst (v := 1) hx hb d_L_nameOn_15 (by decide) ?_
  exact z_wi hx hb hr hlocks ⟨rfl, hK1⟩ hS d_L_nameOn_16
set_option maxRecDepth 100000 in
set_option maxHeartbeats 4000000 in
theorem w_nameOn_t2 (G : z_G s0 (dC, dI) cI cS) (hLX : z_LX s0 cL) {rm : Room} {sz a o : Nat} {p0 p1 : Int32} {B K : Heap → Prop} (hM : xt_Met l y_B_nameOn [Cond.code y_B_nameOn b_B_nameOn 3 (some .int)] rm (z_Pc s0 [.ref a, .int p0, .int p1] B) "java/lang/IllegalArgumentException") (hrm : rm.cells = 1 ∧ rm.slots = 6) (hOB : ∀ H : Heap, B H → ∃ fs, z_O (dC, dI) H a 3 fs) (hKB : ∀ H : Heap, K H → B H) (hKs : ∀ H H1 : Heap, K H → H.size ≤ H1.size → (∀ q : Nat, q < H.size → H1[q]? = H[q]?) → K H1) : Met l y_L_nameOn [Cond.codeWith y_L_nameOn b_L_nameOn 5 (some .int) [(0, 10, 13, 13), (0, 10, 17, 21)]] ({ frames := rm.frames + 1, cells := 1, slots := 6, locals := 8 + (3 + 11) + rm.locals }) (z_Pc s0 [.ref a, .int p0, .int p1, .ref o] (fun H => H.size = sz ∧ K H)) (z_Qw (fun r H => r = some (.int 2) ∧ K H) (z_fr (fun _ => False) sz)) 1 6 (z_fr (fun _ => False) sz) := by
  refine z_ofWT (by decide +kernel) (Nat.le_of_ble_eq_true rfl) ?_
  intro p e s m below meth c hx hb hml hr hown hlocks htab hW0 hB ls hl
  have hts := z_hts (args := [.ref a, .int p0, .int p1, .ref o].toArray) G.1 hW0
  have hK := va_K.moved hW0.alike G.2.2.1
  have hl : lv_has ls 5 [(0, .ref a), (1, .int p0), (2, .int p1), (3, .ref o)] := hl
  obtain ⟨rfl, hK0⟩ := hB
  have hB := hKB _ hK0
  obtain ⟨fs, hO⟩ := hOB _ hB
  refine lv_aload_n hx hb d_L_nameOn_0 rfl (lv_at hl 3 rfl) ?_
  refine lv_iconst (v := 0) hx hb d_L_nameOn_1 (by decide) ?_
  refine lv_aload_n hx hb d_L_nameOn_2 rfl (lv_at hl 0 rfl) ?_
  refine lv_iload_n hx hb d_L_nameOn_3 rfl (lv_at hl 1 rfl) ?_
  refine lv_iload_n hx hb d_L_nameOn_4 rfl (lv_at hl 2 rfl) ?_
  refine xh_catch (X := "java/lang/IllegalArgumentException") (own := R_L) (xt_runV (C := R_B) (rest := [.int 0, .ref o]) (g := F0 m 5 ls _) ⟨hx, hb, hml, hown, hts⟩ hM ⟨z_callB (n := 2) hts w_463 w_460 w_1 (by decide +kernel) ⟨hrm.1, hrm.2, Nat.le_refl _, Nat.le_refl _⟩, hts _ w_461, hts _ w_462⟩ ⟨z_blind, hO.recv hK rfl, fun U hU hW => ⟨rfl, hW0.trans hW, by rw [hU]; exact hB⟩⟩ rfl rfl hl.1 rfl (Nat.le_of_ble_eq_true rfl) d_L_nameOn_5 ⟨Nat.le_of_ble_eq_true rfl, Nat.le_of_ble_eq_true rfl⟩) hown [⟨0, 10, 13, 13⟩] ⟨0, 10, 17, 21⟩ [] htab rfl (by decide) (hts _ w_190) (fun y hy => by simp only [List.mem_cons, List.not_mem_nil, or_false] at hy; subst hy; exact ⟨rfl, by decide, _, hts _ w_93, va_Nc.moved hW0.alike hLX.2.2.1⟩) (fun x9 H1 hz1 ho1 => ?_)
  have hS : va_S (z_fr (fun _ => False) s.heap.size) s.heap H1 [] := ⟨hz1, fun q h1 _ => ho1 q h1, fun q hq => by cases hq⟩
  have hK1 := hKs _ _ hK0 hz1 ho1
  refine lv_astore (lv' := [(4, .ref x9), (0, .ref a), (1, .int p0), (2, .int p1), (3, .ref o)]) hx hb d_L_nameOn_17 hl (by decide) rfl (fun ls hl => ?_)
  refine lv_iconst (v := 2) hx hb d_L_nameOn_19 (by decide) ?_
  exact z_wi hx hb hr hlocks ⟨rfl, hK1⟩ hS d_L_nameOn_20
set_option maxRecDepth 100000 in
set_option maxHeartbeats 4000000 in
theorem w_mark (G : z_G s0 (dC, dI) cI cS) (hLX : z_LX s0 cL) {rm : Room} {mc ms sz a o : Nat} {p0 p1 p2 p3 : Int32} {B P : Heap → Prop} {F : Nat → Prop} {f : Nat → Int64} {v : Int32} (hM : Met l y_B_mark [Cond.code y_B_mark b_B_mark 5 (some .int)] rm (z_Pc s0 [.ref a, .int p0, .int p1, .int p2, .int p3] (fun H => H.size = sz ∧ B H)) (z_Qw (fun r H => r = some (.int v) ∧ P H) (z_fr F sz)) mc ms (z_fr F sz)) (hrm : rm.cells = mc ∧ rm.slots = ms) (hOB : ∀ H : Heap, B H → ∃ fs, z_O (dC, dI) H a 3 fs) (hPk : ∀ H H1 : Heap, P H → (∀ q : Nat, q ≠ o → H1[q]? = H[q]?) → P H1) (hoF : ¬ F o) : Met l y_L_mark [Cond.codeWith y_L_mark b_L_mark 7 (some .int) [(0, 14, 17, 21), (0, 14, 21, 15)]] ({ frames := rm.frames + 1, cells := mc, slots := ms, locals := 8 + (5 + 11) + rm.locals }) (z_Pc s0 [.ref a, .int p0, .int p1, .int p2, .int p3, .ref o] (fun H => H.size = sz ∧ (B H ∧ z_L cL H o 1 f))) (z_Qw (fun r H => r = some (.int 0) ∧ (P H ∧ z_L cL H o 1 (vp_updL f 0 (v.toInt64)))) (z_fr (fun q => F q ∨ q = o) sz)) mc ms (z_fr (fun q => F q ∨ q = o) sz) := by
  refine z_ofWT (by decide +kernel) (Nat.le_of_ble_eq_true rfl) ?_
  intro p e s m below meth c hx hb hml hr hown hlocks htab hW0 hB ls hl
  have hts := z_hts (args := [.ref a, .int p0, .int p1, .int p2, .int p3, .ref o].toArray) G.1 hW0
  have hK := va_K.moved hW0.alike G.2.2.1
  have hl : lv_has ls 7 [(0, .ref a), (1, .int p0), (2, .int p1), (3, .int p2), (4, .int p3), (5, .ref o)] := hl
  obtain ⟨rfl, hB, hL0⟩ := hB
  obtain ⟨fs, hO⟩ := hOB _ hB
  have hS : va_S (z_fr (fun q => F q ∨ q = o) s.heap.size) s.heap s.heap [] := va_S.rf
  have hAL := arrOfT_moved hW0.alike hLX.1
  refine lv_aload hx hb d_L_mark_0 (lv_at hl 5 rfl) ?_
  refine lv_iconst (v := 0) hx hb d_L_mark_2 (by decide) ?_
  refine lv_aload_n hx hb d_L_mark_3 rfl (lv_at hl 0 rfl) ?_
  refine lv_iload_n hx hb d_L_mark_4 rfl (lv_at hl 1 rfl) ?_
  refine lv_iload_n hx hb d_L_mark_5 rfl (lv_at hl 2 rfl) ?_
  refine lv_iload_n hx hb d_L_mark_6 rfl (lv_at hl 3 rfl) ?_
  refine lv_iload hx hb d_L_mark_7 (lv_at hl 4 rfl) ?_
  refine z_wrV (n := 4) (C := R_B) (rest := [.int 0, .ref o]) ⟨hx, hb, hml, hown, hts⟩ hW0 hM w_474 w_471 w_472 w_473 w_1 (by decide +kernel) ⟨hrm.1, hrm.2, Nat.le_refl _, Nat.le_refl _⟩ (hO.recv hK rfl) ⟨rfl, hB⟩ rfl rfl hl.1 (Nat.le_of_ble_eq_true rfl) d_L_mark_9 ⟨Nat.le_of_eq (Nat.zero_add _), Nat.le_of_eq (Nat.zero_add _)⟩ hS (fun q h => h.elim (fun h => Or.inl (Or.inl h)) Or.inr) (fun H1 locs1 hP1 hz1 hk1 hS => ?_)
  rw [Nat.zero_add mc, Nat.zero_add ms]
  have hL1 := hL0.keep (hk1 _ hL0.lt (fun h => h.elim hoF (fun h => Nat.not_le.mpr hL0.lt h)))
  refine lv_i2l hx hb d_L_mark_12 rfl ?_
  refine z_last (x := v.toInt64) hx hb hAL hL1 hS (Or.inl (Or.inr rfl)) d_L_mark_13 (fun H1 locs1 hz2 hL1 ho2 hS => ?_)
  have hP1 := hPk _ _ hP1 ho2
  refine lv_goto (tgt := 25) hx hb d_L_mark_14 (by decide) ?_
  refine lv_iconst (v := 0) hx hb d_L_mark_25 (by decide) ?_
  exact z_wi hx hb hr hlocks ⟨rfl, hP1, hL1⟩ hS d_L_mark_26
set_option maxRecDepth 100000 in
set_option maxHeartbeats 4000000 in
theorem w_mark_t1 (G : z_G s0 (dC, dI) cI cS) (hLX : z_LX s0 cL) {rm : Room} {sz a o : Nat} {p0 p1 p2 p3 : Int32} {B K : Heap → Prop} (hM : xt_Met l y_B_mark [Cond.code y_B_mark b_B_mark 5 (some .int)] rm (z_Pc s0 [.ref a, .int p0, .int p1, .int p2, .int p3] B) "java/lang/IllegalArgumentException") (hrm : rm.cells = 1 ∧ rm.slots = 6) (hOB : ∀ H : Heap, B H → ∃ fs, z_O (dC, dI) H a 3 fs) (hKB : ∀ H : Heap, K H → B H) (hKs : ∀ H H1 : Heap, K H → H.size ≤ H1.size → (∀ q : Nat, q < H.size → H1[q]? = H[q]?) → K H1) : Met l y_L_mark [Cond.codeWith y_L_mark b_L_mark 7 (some .int) [(0, 14, 17, 21), (0, 14, 21, 15)]] ({ frames := rm.frames + 1, cells := 1, slots := 6, locals := 8 + (5 + 11) + rm.locals }) (z_Pc s0 [.ref a, .int p0, .int p1, .int p2, .int p3, .ref o] (fun H => H.size = sz ∧ K H)) (z_Qw (fun r H => r = some (.int 1) ∧ K H) (z_fr (fun _ => False) sz)) 1 6 (z_fr (fun _ => False) sz) := by
  refine z_ofWT (by decide +kernel) (Nat.le_of_ble_eq_true rfl) ?_
  intro p e s m below meth c hx hb hml hr hown hlocks htab hW0 hB ls hl
  have hts := z_hts (args := [.ref a, .int p0, .int p1, .int p2, .int p3, .ref o].toArray) G.1 hW0
  have hK := va_K.moved hW0.alike G.2.2.1
  have hl : lv_has ls 7 [(0, .ref a), (1, .int p0), (2, .int p1), (3, .int p2), (4, .int p3), (5, .ref o)] := hl
  obtain ⟨rfl, hK0⟩ := hB
  have hB := hKB _ hK0
  obtain ⟨fs, hO⟩ := hOB _ hB
  refine lv_aload hx hb d_L_mark_0 (lv_at hl 5 rfl) ?_
  refine lv_iconst (v := 0) hx hb d_L_mark_2 (by decide) ?_
  refine lv_aload_n hx hb d_L_mark_3 rfl (lv_at hl 0 rfl) ?_
  refine lv_iload_n hx hb d_L_mark_4 rfl (lv_at hl 1 rfl) ?_
  refine lv_iload_n hx hb d_L_mark_5 rfl (lv_at hl 2 rfl) ?_
  refine lv_iload_n hx hb d_L_mark_6 rfl (lv_at hl 3 rfl) ?_
  refine lv_iload hx hb d_L_mark_7 (lv_at hl 4 rfl) ?_
  refine xh_catch (X := "java/lang/IllegalArgumentException") (own := R_L) (xt_runV (C := R_B) (rest := [.int 0, .ref o]) (g := F0 m 9 ls _) ⟨hx, hb, hml, hown, hts⟩ hM ⟨z_callB (n := 4) hts w_474 w_471 w_1 (by decide +kernel) ⟨hrm.1, hrm.2, Nat.le_refl _, Nat.le_refl _⟩, hts _ w_472, hts _ w_473⟩ ⟨z_blind, hO.recv hK rfl, fun U hU hW => ⟨rfl, hW0.trans hW, by rw [hU]; exact hB⟩⟩ rfl rfl hl.1 rfl (Nat.le_of_ble_eq_true rfl) d_L_mark_9 ⟨Nat.le_of_ble_eq_true rfl, Nat.le_of_ble_eq_true rfl⟩) hown [] ⟨0, 14, 17, 21⟩ [⟨0, 14, 21, 15⟩] htab rfl (by decide) (hts _ w_190) (fun y hy => by cases hy) (fun x9 H1 hz1 ho1 => ?_)
  have hS : va_S (z_fr (fun _ => False) s.heap.size) s.heap H1 [] := ⟨hz1, fun q h1 _ => ho1 q h1, fun q hq => by cases hq⟩
  have hK1 := hKs _ _ hK0 hz1 ho1
  refine lv_astore (lv' := [(6, .ref x9), (0, .ref a), (1, .int p0), (2, .int p1), (3, .int p2), (4, .int p3), (5, .ref o)]) hx hb d_L_mark_17 hl (by decide) rfl (fun ls hl => ?_)
  refine lv_iconst (v := 1) hx hb d_L_mark_19 (by decide) ?_
  exact z_wi hx hb hr hlocks ⟨rfl, hK1⟩ hS d_L_mark_20
set_option maxRecDepth 100000 in
set_option maxHeartbeats 4000000 in
theorem w_mark_t2 (G : z_G s0 (dC, dI) cI cS) (hLX : z_LX s0 cL) {rm : Room} {sz a o : Nat} {p0 p1 p2 p3 : Int32} {B K : Heap → Prop} (hM : xt_Met l y_B_mark [Cond.code y_B_mark b_B_mark 5 (some .int)] rm (z_Pc s0 [.ref a, .int p0, .int p1, .int p2, .int p3] B) "java/lang/IllegalStateException") (hrm : rm.cells = 1 ∧ rm.slots = 6) (hOB : ∀ H : Heap, B H → ∃ fs, z_O (dC, dI) H a 3 fs) (hKB : ∀ H : Heap, K H → B H) (hKs : ∀ H H1 : Heap, K H → H.size ≤ H1.size → (∀ q : Nat, q < H.size → H1[q]? = H[q]?) → K H1) : Met l y_L_mark [Cond.codeWith y_L_mark b_L_mark 7 (some .int) [(0, 14, 17, 21), (0, 14, 21, 15)]] ({ frames := rm.frames + 1, cells := 1, slots := 6, locals := 8 + (5 + 11) + rm.locals }) (z_Pc s0 [.ref a, .int p0, .int p1, .int p2, .int p3, .ref o] (fun H => H.size = sz ∧ K H)) (z_Qw (fun r H => r = some (.int 2) ∧ K H) (z_fr (fun _ => False) sz)) 1 6 (z_fr (fun _ => False) sz) := by
  refine z_ofWT (by decide +kernel) (Nat.le_of_ble_eq_true rfl) ?_
  intro p e s m below meth c hx hb hml hr hown hlocks htab hW0 hB ls hl
  have hts := z_hts (args := [.ref a, .int p0, .int p1, .int p2, .int p3, .ref o].toArray) G.1 hW0
  have hK := va_K.moved hW0.alike G.2.2.1
  have hl : lv_has ls 7 [(0, .ref a), (1, .int p0), (2, .int p1), (3, .int p2), (4, .int p3), (5, .ref o)] := hl
  obtain ⟨rfl, hK0⟩ := hB
  have hB := hKB _ hK0
  obtain ⟨fs, hO⟩ := hOB _ hB
  refine lv_aload hx hb d_L_mark_0 (lv_at hl 5 rfl) ?_
  refine lv_iconst (v := 0) hx hb d_L_mark_2 (by decide) ?_
  refine lv_aload_n hx hb d_L_mark_3 rfl (lv_at hl 0 rfl) ?_
  refine lv_iload_n hx hb d_L_mark_4 rfl (lv_at hl 1 rfl) ?_
  refine lv_iload_n hx hb d_L_mark_5 rfl (lv_at hl 2 rfl) ?_
  refine lv_iload_n hx hb d_L_mark_6 rfl (lv_at hl 3 rfl) ?_
  refine lv_iload hx hb d_L_mark_7 (lv_at hl 4 rfl) ?_
  refine xh_catch (X := "java/lang/IllegalStateException") (own := R_L) (xt_runV (C := R_B) (rest := [.int 0, .ref o]) (g := F0 m 9 ls _) ⟨hx, hb, hml, hown, hts⟩ hM ⟨z_callB (n := 4) hts w_474 w_471 w_1 (by decide +kernel) ⟨hrm.1, hrm.2, Nat.le_refl _, Nat.le_refl _⟩, hts _ w_472, hts _ w_473⟩ ⟨z_blind, hO.recv hK rfl, fun U hU hW => ⟨rfl, hW0.trans hW, by rw [hU]; exact hB⟩⟩ rfl rfl hl.1 rfl (Nat.le_of_ble_eq_true rfl) d_L_mark_9 ⟨Nat.le_of_ble_eq_true rfl, Nat.le_of_ble_eq_true rfl⟩) hown [⟨0, 14, 17, 21⟩] ⟨0, 14, 21, 15⟩ [] htab rfl (by decide) (hts _ w_94) (fun y hy => by simp only [List.mem_cons, List.not_mem_nil, or_false] at hy; subst hy; exact ⟨rfl, by decide, _, hts _ w_190, va_Nc.moved hW0.alike hLX.2.2.2⟩) (fun x9 H1 hz1 ho1 => ?_)
  have hS : va_S (z_fr (fun _ => False) s.heap.size) s.heap H1 [] := ⟨hz1, fun q h1 _ => ho1 q h1, fun q hq => by cases hq⟩
  have hK1 := hKs _ _ hK0 hz1 ho1
  refine lv_astore (lv' := [(6, .ref x9), (0, .ref a), (1, .int p0), (2, .int p1), (3, .int p2), (4, .int p3), (5, .ref o)]) hx hb d_L_mark_21 hl (by decide) rfl (fun ls hl => ?_)
  refine lv_iconst (v := 2) hx hb d_L_mark_23 (by decide) ?_
  exact z_wi hx hb hr hlocks ⟨rfl, hK1⟩ hS d_L_mark_24
set_option maxRecDepth 100000 in
set_option maxHeartbeats 4000000 in
theorem w_placed (G : z_G s0 (dC, dI) cI cS) (hLX : z_LX s0 cL) {rm : Room} {mc ms sz a o : Nat} {p0 p1 p2 : Int32} {B P : Heap → Prop} {F : Nat → Prop} {f : Nat → Int64} {v : Int32} (hM : Met l y_B_placed [Cond.code y_B_placed b_B_placed 4 (some .int)] rm (z_Pc s0 [.ref a, .int p0, .int p1, .int p2] (fun H => H.size = sz ∧ B H)) (z_Qw (fun r H => r = some (.int v) ∧ P H) (z_fr F sz)) mc ms (z_fr F sz)) (hrm : rm.cells = mc ∧ rm.slots = ms) (hOB : ∀ H : Heap, B H → ∃ fs, z_O (dC, dI) H a 3 fs) (hPk : ∀ H H1 : Heap, P H → (∀ q : Nat, q ≠ o → H1[q]? = H[q]?) → P H1) (hoF : ¬ F o) : Met l y_L_placed [Cond.codeWith y_L_placed b_L_placed 6 (some .int) [(0, 12, 15, 13), (0, 12, 19, 21), (0, 12, 23, 15)]] ({ frames := rm.frames + 1, cells := mc, slots := ms, locals := 8 + (4 + 11) + rm.locals }) (z_Pc s0 [.ref a, .int p0, .int p1, .int p2, .ref o] (fun H => H.size = sz ∧ (B H ∧ z_L cL H o 1 f))) (z_Qw (fun r H => r = some (.int 0) ∧ (P H ∧ z_L cL H o 1 (vp_updL f 0 (v.toInt64)))) (z_fr (fun q => F q ∨ q = o) sz)) mc ms (z_fr (fun q => F q ∨ q = o) sz) := by
  refine z_ofWT (by decide +kernel) (Nat.le_of_ble_eq_true rfl) ?_
  intro p e s m below meth c hx hb hml hr hown hlocks htab hW0 hB ls hl
  have hts := z_hts (args := [.ref a, .int p0, .int p1, .int p2, .ref o].toArray) G.1 hW0
  have hK := va_K.moved hW0.alike G.2.2.1
  have hl : lv_has ls 6 [(0, .ref a), (1, .int p0), (2, .int p1), (3, .int p2), (4, .ref o)] := hl
  obtain ⟨rfl, hB, hL0⟩ := hB
  obtain ⟨fs, hO⟩ := hOB _ hB
  have hS : va_S (z_fr (fun q => F q ∨ q = o) s.heap.size) s.heap s.heap [] := va_S.rf
  have hAL := arrOfT_moved hW0.alike hLX.1
  refine lv_aload hx hb d_L_placed_0 (lv_at hl 4 rfl) ?_
  refine lv_iconst (v := 0) hx hb d_L_placed_2 (by decide) ?_
  refine lv_aload_n hx hb d_L_placed_3 rfl (lv_at hl 0 rfl) ?_
  refine lv_iload_n hx hb d_L_placed_4 rfl (lv_at hl 1 rfl) ?_
  refine lv_iload_n hx hb d_L_placed_5 rfl (lv_at hl 2 rfl) ?_
  refine lv_iload_n hx hb d_L_placed_6 rfl (lv_at hl 3 rfl) ?_
  refine z_wrV (n := 3) (C := R_B) (rest := [.int 0, .ref o]) ⟨hx, hb, hml, hown, hts⟩ hW0 hM w_490 w_487 w_488 w_489 w_1 (by decide +kernel) ⟨hrm.1, hrm.2, Nat.le_refl _, Nat.le_refl _⟩ (hO.recv hK rfl) ⟨rfl, hB⟩ rfl rfl hl.1 (Nat.le_of_ble_eq_true rfl) d_L_placed_7 ⟨Nat.le_of_eq (Nat.zero_add _), Nat.le_of_eq (Nat.zero_add _)⟩ hS (fun q h => h.elim (fun h => Or.inl (Or.inl h)) Or.inr) (fun H1 locs1 hP1 hz1 hk1 hS => ?_)
  rw [Nat.zero_add mc, Nat.zero_add ms]
  have hL1 := hL0.keep (hk1 _ hL0.lt (fun h => h.elim hoF (fun h => Nat.not_le.mpr hL0.lt h)))
  refine lv_i2l hx hb d_L_placed_10 rfl ?_
  refine z_last (x := v.toInt64) hx hb hAL hL1 hS (Or.inl (Or.inr rfl)) d_L_placed_11 (fun H1 locs1 hz2 hL1 ho2 hS => ?_)
  have hP1 := hPk _ _ hP1 ho2
  refine lv_goto (tgt := 27) hx hb d_L_placed_12 (by decide) ?_
  refine lv_iconst (v := 0) hx hb d_L_placed_27 (by decide) ?_
  exact z_wi hx hb hr hlocks ⟨rfl, hP1, hL1⟩ hS d_L_placed_28
set_option maxRecDepth 100000 in
set_option maxHeartbeats 4000000 in
theorem w_placed_t1 (G : z_G s0 (dC, dI) cI cS) (hLX : z_LX s0 cL) {rm : Room} {sz a o : Nat} {p0 p1 p2 : Int32} {B K : Heap → Prop} (hM : xt_Met l y_B_placed [Cond.code y_B_placed b_B_placed 4 (some .int)] rm (z_Pc s0 [.ref a, .int p0, .int p1, .int p2] B) "java/util/NoSuchElementException") (hrm : rm.cells = 1 ∧ rm.slots = 6) (hOB : ∀ H : Heap, B H → ∃ fs, z_O (dC, dI) H a 3 fs) (hKB : ∀ H : Heap, K H → B H) (hKs : ∀ H H1 : Heap, K H → H.size ≤ H1.size → (∀ q : Nat, q < H.size → H1[q]? = H[q]?) → K H1) : Met l y_L_placed [Cond.codeWith y_L_placed b_L_placed 6 (some .int) [(0, 12, 15, 13), (0, 12, 19, 21), (0, 12, 23, 15)]] ({ frames := rm.frames + 1, cells := 1, slots := 6, locals := 8 + (4 + 11) + rm.locals }) (z_Pc s0 [.ref a, .int p0, .int p1, .int p2, .ref o] (fun H => H.size = sz ∧ K H)) (z_Qw (fun r H => r = some (.int 1) ∧ K H) (z_fr (fun _ => False) sz)) 1 6 (z_fr (fun _ => False) sz) := by
  refine z_ofWT (by decide +kernel) (Nat.le_of_ble_eq_true rfl) ?_
  intro p e s m below meth c hx hb hml hr hown hlocks htab hW0 hB ls hl
  have hts := z_hts (args := [.ref a, .int p0, .int p1, .int p2, .ref o].toArray) G.1 hW0
  have hK := va_K.moved hW0.alike G.2.2.1
  have hl : lv_has ls 6 [(0, .ref a), (1, .int p0), (2, .int p1), (3, .int p2), (4, .ref o)] := hl
  obtain ⟨rfl, hK0⟩ := hB
  have hB := hKB _ hK0
  obtain ⟨fs, hO⟩ := hOB _ hB
  refine lv_aload hx hb d_L_placed_0 (lv_at hl 4 rfl) ?_
  refine lv_iconst (v := 0) hx hb d_L_placed_2 (by decide) ?_
  refine lv_aload_n hx hb d_L_placed_3 rfl (lv_at hl 0 rfl) ?_
  refine lv_iload_n hx hb d_L_placed_4 rfl (lv_at hl 1 rfl) ?_
  refine lv_iload_n hx hb d_L_placed_5 rfl (lv_at hl 2 rfl) ?_
  refine lv_iload_n hx hb d_L_placed_6 rfl (lv_at hl 3 rfl) ?_
  refine xh_catch (X := "java/util/NoSuchElementException") (own := R_L) (xt_runV (C := R_B) (rest := [.int 0, .ref o]) (g := F0 m 7 ls _) ⟨hx, hb, hml, hown, hts⟩ hM ⟨z_callB (n := 3) hts w_490 w_487 w_1 (by decide +kernel) ⟨hrm.1, hrm.2, Nat.le_refl _, Nat.le_refl _⟩, hts _ w_488, hts _ w_489⟩ ⟨z_blind, hO.recv hK rfl, fun U hU hW => ⟨rfl, hW0.trans hW, by rw [hU]; exact hB⟩⟩ rfl rfl hl.1 rfl (Nat.le_of_ble_eq_true rfl) d_L_placed_7 ⟨Nat.le_of_ble_eq_true rfl, Nat.le_of_ble_eq_true rfl⟩) hown [] ⟨0, 12, 15, 13⟩ [⟨0, 12, 19, 21⟩, ⟨0, 12, 23, 15⟩] htab rfl (by decide) (hts _ w_93) (fun y hy => by cases hy) (fun x9 H1 hz1 ho1 => ?_)
  have hS : va_S (z_fr (fun _ => False) s.heap.size) s.heap H1 [] := ⟨hz1, fun q h1 _ => ho1 q h1, fun q hq => by cases hq⟩
  have hK1 := hKs _ _ hK0 hz1 ho1
  refine lv_astore (lv' := [(5, .ref x9), (0, .ref a), (1, .int p0), (2, .int p1), (3, .int p2), (4, .ref o)]) hx hb d_L_placed_15 hl (by decide) rfl (fun ls hl => ?_)
  refine lv_iconst (v := 1) hx hb d_L_placed_17 (by decide) ?_
  exact z_wi hx hb hr hlocks ⟨rfl, hK1⟩ hS d_L_placed_18
set_option maxRecDepth 100000 in
set_option maxHeartbeats 4000000 in
theorem w_placed_t2 (G : z_G s0 (dC, dI) cI cS) (hLX : z_LX s0 cL) {rm : Room} {sz a o : Nat} {p0 p1 p2 : Int32} {B K : Heap → Prop} (hM : xt_Met l y_B_placed [Cond.code y_B_placed b_B_placed 4 (some .int)] rm (z_Pc s0 [.ref a, .int p0, .int p1, .int p2] B) "java/lang/IllegalArgumentException") (hrm : rm.cells = 1 ∧ rm.slots = 6) (hOB : ∀ H : Heap, B H → ∃ fs, z_O (dC, dI) H a 3 fs) (hKB : ∀ H : Heap, K H → B H) (hKs : ∀ H H1 : Heap, K H → H.size ≤ H1.size → (∀ q : Nat, q < H.size → H1[q]? = H[q]?) → K H1) : Met l y_L_placed [Cond.codeWith y_L_placed b_L_placed 6 (some .int) [(0, 12, 15, 13), (0, 12, 19, 21), (0, 12, 23, 15)]] ({ frames := rm.frames + 1, cells := 1, slots := 6, locals := 8 + (4 + 11) + rm.locals }) (z_Pc s0 [.ref a, .int p0, .int p1, .int p2, .ref o] (fun H => H.size = sz ∧ K H)) (z_Qw (fun r H => r = some (.int 2) ∧ K H) (z_fr (fun _ => False) sz)) 1 6 (z_fr (fun _ => False) sz) := by
  refine z_ofWT (by decide +kernel) (Nat.le_of_ble_eq_true rfl) ?_
  intro p e s m below meth c hx hb hml hr hown hlocks htab hW0 hB ls hl
  have hts := z_hts (args := [.ref a, .int p0, .int p1, .int p2, .ref o].toArray) G.1 hW0
  have hK := va_K.moved hW0.alike G.2.2.1
  have hl : lv_has ls 6 [(0, .ref a), (1, .int p0), (2, .int p1), (3, .int p2), (4, .ref o)] := hl
  obtain ⟨rfl, hK0⟩ := hB
  have hB := hKB _ hK0
  obtain ⟨fs, hO⟩ := hOB _ hB
  refine lv_aload hx hb d_L_placed_0 (lv_at hl 4 rfl) ?_
  refine lv_iconst (v := 0) hx hb d_L_placed_2 (by decide) ?_
  refine lv_aload_n hx hb d_L_placed_3 rfl (lv_at hl 0 rfl) ?_
  refine lv_iload_n hx hb d_L_placed_4 rfl (lv_at hl 1 rfl) ?_
  refine lv_iload_n hx hb d_L_placed_5 rfl (lv_at hl 2 rfl) ?_
  refine lv_iload_n hx hb d_L_placed_6 rfl (lv_at hl 3 rfl) ?_
  refine xh_catch (X := "java/lang/IllegalArgumentException") (own := R_L) (xt_runV (C := R_B) (rest := [.int 0, .ref o]) (g := F0 m 7 ls _) ⟨hx, hb, hml, hown, hts⟩ hM ⟨z_callB (n := 3) hts w_490 w_487 w_1 (by decide +kernel) ⟨hrm.1, hrm.2, Nat.le_refl _, Nat.le_refl _⟩, hts _ w_488, hts _ w_489⟩ ⟨z_blind, hO.recv hK rfl, fun U hU hW => ⟨rfl, hW0.trans hW, by rw [hU]; exact hB⟩⟩ rfl rfl hl.1 rfl (Nat.le_of_ble_eq_true rfl) d_L_placed_7 ⟨Nat.le_of_ble_eq_true rfl, Nat.le_of_ble_eq_true rfl⟩) hown [⟨0, 12, 15, 13⟩] ⟨0, 12, 19, 21⟩ [⟨0, 12, 23, 15⟩] htab rfl (by decide) (hts _ w_190) (fun y hy => by simp only [List.mem_cons, List.not_mem_nil, or_false] at hy; subst hy; exact ⟨rfl, by decide, _, hts _ w_93, va_Nc.moved hW0.alike hLX.2.2.1⟩) (fun x9 H1 hz1 ho1 => ?_)
  have hS : va_S (z_fr (fun _ => False) s.heap.size) s.heap H1 [] := ⟨hz1, fun q h1 _ => ho1 q h1, fun q hq => by cases hq⟩
  have hK1 := hKs _ _ hK0 hz1 ho1
  refine lv_astore (lv' := [(5, .ref x9), (0, .ref a), (1, .int p0), (2, .int p1), (3, .int p2), (4, .ref o)]) hx hb d_L_placed_19 hl (by decide) rfl (fun ls hl => ?_)
  refine lv_iconst (v := 2) hx hb d_L_placed_21 (by decide) ?_
  exact z_wi hx hb hr hlocks ⟨rfl, hK1⟩ hS d_L_placed_22
set_option maxRecDepth 100000 in
set_option maxHeartbeats 4000000 in
theorem w_placed_t3 (G : z_G s0 (dC, dI) cI cS) (hLX : z_LX s0 cL) {rm : Room} {sz a o : Nat} {p0 p1 p2 : Int32} {B K : Heap → Prop} (hM : xt_Met l y_B_placed [Cond.code y_B_placed b_B_placed 4 (some .int)] rm (z_Pc s0 [.ref a, .int p0, .int p1, .int p2] B) "java/lang/IllegalStateException") (hrm : rm.cells = 1 ∧ rm.slots = 6) (hOB : ∀ H : Heap, B H → ∃ fs, z_O (dC, dI) H a 3 fs) (hKB : ∀ H : Heap, K H → B H) (hKs : ∀ H H1 : Heap, K H → H.size ≤ H1.size → (∀ q : Nat, q < H.size → H1[q]? = H[q]?) → K H1) : Met l y_L_placed [Cond.codeWith y_L_placed b_L_placed 6 (some .int) [(0, 12, 15, 13), (0, 12, 19, 21), (0, 12, 23, 15)]] ({ frames := rm.frames + 1, cells := 1, slots := 6, locals := 8 + (4 + 11) + rm.locals }) (z_Pc s0 [.ref a, .int p0, .int p1, .int p2, .ref o] (fun H => H.size = sz ∧ K H)) (z_Qw (fun r H => r = some (.int 3) ∧ K H) (z_fr (fun _ => False) sz)) 1 6 (z_fr (fun _ => False) sz) := by
  refine z_ofWT (by decide +kernel) (Nat.le_of_ble_eq_true rfl) ?_
  intro p e s m below meth c hx hb hml hr hown hlocks htab hW0 hB ls hl
  have hts := z_hts (args := [.ref a, .int p0, .int p1, .int p2, .ref o].toArray) G.1 hW0
  have hK := va_K.moved hW0.alike G.2.2.1
  have hl : lv_has ls 6 [(0, .ref a), (1, .int p0), (2, .int p1), (3, .int p2), (4, .ref o)] := hl
  obtain ⟨rfl, hK0⟩ := hB
  have hB := hKB _ hK0
  obtain ⟨fs, hO⟩ := hOB _ hB
  refine lv_aload hx hb d_L_placed_0 (lv_at hl 4 rfl) ?_
  refine lv_iconst (v := 0) hx hb d_L_placed_2 (by decide) ?_
  refine lv_aload_n hx hb d_L_placed_3 rfl (lv_at hl 0 rfl) ?_
  refine lv_iload_n hx hb d_L_placed_4 rfl (lv_at hl 1 rfl) ?_
  refine lv_iload_n hx hb d_L_placed_5 rfl (lv_at hl 2 rfl) ?_
  refine lv_iload_n hx hb d_L_placed_6 rfl (lv_at hl 3 rfl) ?_
  refine xh_catch (X := "java/lang/IllegalStateException") (own := R_L) (xt_runV (C := R_B) (rest := [.int 0, .ref o]) (g := F0 m 7 ls _) ⟨hx, hb, hml, hown, hts⟩ hM ⟨z_callB (n := 3) hts w_490 w_487 w_1 (by decide +kernel) ⟨hrm.1, hrm.2, Nat.le_refl _, Nat.le_refl _⟩, hts _ w_488, hts _ w_489⟩ ⟨z_blind, hO.recv hK rfl, fun U hU hW => ⟨rfl, hW0.trans hW, by rw [hU]; exact hB⟩⟩ rfl rfl hl.1 rfl (Nat.le_of_ble_eq_true rfl) d_L_placed_7 ⟨Nat.le_of_ble_eq_true rfl, Nat.le_of_ble_eq_true rfl⟩) hown [⟨0, 12, 15, 13⟩, ⟨0, 12, 19, 21⟩] ⟨0, 12, 23, 15⟩ [] htab rfl (by decide) (hts _ w_94) (fun y hy => by simp only [List.mem_cons, List.not_mem_nil, or_false] at hy; rcases hy with rfl | rfl; exact ⟨rfl, by decide, _, hts _ w_93, va_Nc.moved hW0.alike hLX.2.1⟩; exact ⟨rfl, by decide, _, hts _ w_190, va_Nc.moved hW0.alike hLX.2.2.2⟩) (fun x9 H1 hz1 ho1 => ?_)
  have hS : va_S (z_fr (fun _ => False) s.heap.size) s.heap H1 [] := ⟨hz1, fun q h1 _ => ho1 q h1, fun q hq => by cases hq⟩
  have hK1 := hKs _ _ hK0 hz1 ho1
  refine lv_astore (lv' := [(5, .ref x9), (0, .ref a), (1, .int p0), (2, .int p1), (3, .int p2), (4, .ref o)]) hx hb d_L_placed_23 hl (by decide) rfl (fun ls hl => ?_)
  refine lv_iconst (v := 3) hx hb d_L_placed_25 (by decide) ?_
  exact z_wi hx hb hr hlocks ⟨rfl, hK1⟩ hS d_L_placed_26
set_option maxRecDepth 100000 in
set_option maxHeartbeats 4000000 in
theorem w_masked (G : z_G s0 (dC, dI) cI cS) (hLX : z_LX s0 cL) {rm : Room} {mc ms sz a o : Nat} {p0 p1 p2 p3 : Int32} {B P : Heap → Prop} {F : Nat → Prop} {f : Nat → Int64} {v : Int32} (hM : Met l y_B_masked [Cond.code y_B_masked b_B_masked 5 (some .int)] rm (z_Pc s0 [.ref a, .int p0, .int p1, .int p2, .int p3] (fun H => H.size = sz ∧ B H)) (z_Qw (fun r H => r = some (.int v) ∧ P H) (z_fr F sz)) mc ms (z_fr F sz)) (hrm : rm.cells = mc ∧ rm.slots = ms) (hOB : ∀ H : Heap, B H → ∃ fs, z_O (dC, dI) H a 3 fs) (hPk : ∀ H H1 : Heap, P H → (∀ q : Nat, q ≠ o → H1[q]? = H[q]?) → P H1) (hoF : ¬ F o) : Met l y_L_masked [Cond.codeWith y_L_masked b_L_masked 7 (some .int) [(0, 14, 17, 13), (0, 14, 21, 21)]] ({ frames := rm.frames + 1, cells := mc, slots := ms, locals := 8 + (5 + 11) + rm.locals }) (z_Pc s0 [.ref a, .int p0, .int p1, .int p2, .int p3, .ref o] (fun H => H.size = sz ∧ (B H ∧ z_L cL H o 1 f))) (z_Qw (fun r H => r = some (.int 0) ∧ (P H ∧ z_L cL H o 1 (vp_updL f 0 (v.toInt64)))) (z_fr (fun q => F q ∨ q = o) sz)) mc ms (z_fr (fun q => F q ∨ q = o) sz) := by
  refine z_ofWT (by decide +kernel) (Nat.le_of_ble_eq_true rfl) ?_
  intro p e s m below meth c hx hb hml hr hown hlocks htab hW0 hB ls hl
  have hts := z_hts (args := [.ref a, .int p0, .int p1, .int p2, .int p3, .ref o].toArray) G.1 hW0
  have hK := va_K.moved hW0.alike G.2.2.1
  have hl : lv_has ls 7 [(0, .ref a), (1, .int p0), (2, .int p1), (3, .int p2), (4, .int p3), (5, .ref o)] := hl
  obtain ⟨rfl, hB, hL0⟩ := hB
  obtain ⟨fs, hO⟩ := hOB _ hB
  have hS : va_S (z_fr (fun q => F q ∨ q = o) s.heap.size) s.heap s.heap [] := va_S.rf
  have hAL := arrOfT_moved hW0.alike hLX.1
  refine lv_aload hx hb d_L_masked_0 (lv_at hl 5 rfl) ?_
  refine lv_iconst (v := 0) hx hb d_L_masked_2 (by decide) ?_
  refine lv_aload_n hx hb d_L_masked_3 rfl (lv_at hl 0 rfl) ?_
  refine lv_iload_n hx hb d_L_masked_4 rfl (lv_at hl 1 rfl) ?_
  refine lv_iload_n hx hb d_L_masked_5 rfl (lv_at hl 2 rfl) ?_
  refine lv_iload_n hx hb d_L_masked_6 rfl (lv_at hl 3 rfl) ?_
  refine lv_iload hx hb d_L_masked_7 (lv_at hl 4 rfl) ?_
  refine z_wrV (n := 4) (C := R_B) (rest := [.int 0, .ref o]) ⟨hx, hb, hml, hown, hts⟩ hW0 hM w_529 w_526 w_527 w_528 w_1 (by decide +kernel) ⟨hrm.1, hrm.2, Nat.le_refl _, Nat.le_refl _⟩ (hO.recv hK rfl) ⟨rfl, hB⟩ rfl rfl hl.1 (Nat.le_of_ble_eq_true rfl) d_L_masked_9 ⟨Nat.le_of_eq (Nat.zero_add _), Nat.le_of_eq (Nat.zero_add _)⟩ hS (fun q h => h.elim (fun h => Or.inl (Or.inl h)) Or.inr) (fun H1 locs1 hP1 hz1 hk1 hS => ?_)
  rw [Nat.zero_add mc, Nat.zero_add ms]
  have hL1 := hL0.keep (hk1 _ hL0.lt (fun h => h.elim hoF (fun h => Nat.not_le.mpr hL0.lt h)))
  refine lv_i2l hx hb d_L_masked_12 rfl ?_
  refine z_last (x := v.toInt64) hx hb hAL hL1 hS (Or.inl (Or.inr rfl)) d_L_masked_13 (fun H1 locs1 hz2 hL1 ho2 hS => ?_)
  have hP1 := hPk _ _ hP1 ho2
  refine lv_goto (tgt := 25) hx hb d_L_masked_14 (by decide) ?_
  refine lv_iconst (v := 0) hx hb d_L_masked_25 (by decide) ?_
  exact z_wi hx hb hr hlocks ⟨rfl, hP1, hL1⟩ hS d_L_masked_26
set_option maxRecDepth 100000 in
set_option maxHeartbeats 4000000 in
theorem w_masked_t1 (G : z_G s0 (dC, dI) cI cS) (hLX : z_LX s0 cL) {rm : Room} {sz a o : Nat} {p0 p1 p2 p3 : Int32} {B K : Heap → Prop} (hM : xt_Met l y_B_masked [Cond.code y_B_masked b_B_masked 5 (some .int)] rm (z_Pc s0 [.ref a, .int p0, .int p1, .int p2, .int p3] B) "java/util/NoSuchElementException") (hrm : rm.cells = 1 ∧ rm.slots = 6) (hOB : ∀ H : Heap, B H → ∃ fs, z_O (dC, dI) H a 3 fs) (hKB : ∀ H : Heap, K H → B H) (hKs : ∀ H H1 : Heap, K H → H.size ≤ H1.size → (∀ q : Nat, q < H.size → H1[q]? = H[q]?) → K H1) : Met l y_L_masked [Cond.codeWith y_L_masked b_L_masked 7 (some .int) [(0, 14, 17, 13), (0, 14, 21, 21)]] ({ frames := rm.frames + 1, cells := 1, slots := 6, locals := 8 + (5 + 11) + rm.locals }) (z_Pc s0 [.ref a, .int p0, .int p1, .int p2, .int p3, .ref o] (fun H => H.size = sz ∧ K H)) (z_Qw (fun r H => r = some (.int 1) ∧ K H) (z_fr (fun _ => False) sz)) 1 6 (z_fr (fun _ => False) sz) := by
  refine z_ofWT (by decide +kernel) (Nat.le_of_ble_eq_true rfl) ?_
  intro p e s m below meth c hx hb hml hr hown hlocks htab hW0 hB ls hl
  have hts := z_hts (args := [.ref a, .int p0, .int p1, .int p2, .int p3, .ref o].toArray) G.1 hW0
  have hK := va_K.moved hW0.alike G.2.2.1
  have hl : lv_has ls 7 [(0, .ref a), (1, .int p0), (2, .int p1), (3, .int p2), (4, .int p3), (5, .ref o)] := hl
  obtain ⟨rfl, hK0⟩ := hB
  have hB := hKB _ hK0
  obtain ⟨fs, hO⟩ := hOB _ hB
  refine lv_aload hx hb d_L_masked_0 (lv_at hl 5 rfl) ?_
  refine lv_iconst (v := 0) hx hb d_L_masked_2 (by decide) ?_
  refine lv_aload_n hx hb d_L_masked_3 rfl (lv_at hl 0 rfl) ?_
  refine lv_iload_n hx hb d_L_masked_4 rfl (lv_at hl 1 rfl) ?_
  refine lv_iload_n hx hb d_L_masked_5 rfl (lv_at hl 2 rfl) ?_
  refine lv_iload_n hx hb d_L_masked_6 rfl (lv_at hl 3 rfl) ?_
  refine lv_iload hx hb d_L_masked_7 (lv_at hl 4 rfl) ?_
  refine xh_catch (X := "java/util/NoSuchElementException") (own := R_L) (xt_runV (C := R_B) (rest := [.int 0, .ref o]) (g := F0 m 9 ls _) ⟨hx, hb, hml, hown, hts⟩ hM ⟨z_callB (n := 4) hts w_529 w_526 w_1 (by decide +kernel) ⟨hrm.1, hrm.2, Nat.le_refl _, Nat.le_refl _⟩, hts _ w_527, hts _ w_528⟩ ⟨z_blind, hO.recv hK rfl, fun U hU hW => ⟨rfl, hW0.trans hW, by rw [hU]; exact hB⟩⟩ rfl rfl hl.1 rfl (Nat.le_of_ble_eq_true rfl) d_L_masked_9 ⟨Nat.le_of_ble_eq_true rfl, Nat.le_of_ble_eq_true rfl⟩) hown [] ⟨0, 14, 17, 13⟩ [⟨0, 14, 21, 21⟩] htab rfl (by decide) (hts _ w_93) (fun y hy => by cases hy) (fun x9 H1 hz1 ho1 => ?_)
  have hS : va_S (z_fr (fun _ => False) s.heap.size) s.heap H1 [] := ⟨hz1, fun q h1 _ => ho1 q h1, fun q hq => by cases hq⟩
  have hK1 := hKs _ _ hK0 hz1 ho1
  refine lv_astore (lv' := [(6, .ref x9), (0, .ref a), (1, .int p0), (2, .int p1), (3, .int p2), (4, .int p3), (5, .ref o)]) hx hb d_L_masked_17 hl (by decide) rfl (fun ls hl => ?_)
  refine lv_iconst (v := 1) hx hb d_L_masked_19 (by decide) ?_
  exact z_wi hx hb hr hlocks ⟨rfl, hK1⟩ hS d_L_masked_20
set_option maxRecDepth 100000 in
set_option maxHeartbeats 4000000 in
theorem w_masked_t2 (G : z_G s0 (dC, dI) cI cS) (hLX : z_LX s0 cL) {rm : Room} {sz a o : Nat} {p0 p1 p2 p3 : Int32} {B K : Heap → Prop} (hM : xt_Met l y_B_masked [Cond.code y_B_masked b_B_masked 5 (some .int)] rm (z_Pc s0 [.ref a, .int p0, .int p1, .int p2, .int p3] B) "java/lang/IllegalArgumentException") (hrm : rm.cells = 1 ∧ rm.slots = 6) (hOB : ∀ H : Heap, B H → ∃ fs, z_O (dC, dI) H a 3 fs) (hKB : ∀ H : Heap, K H → B H) (hKs : ∀ H H1 : Heap, K H → H.size ≤ H1.size → (∀ q : Nat, q < H.size → H1[q]? = H[q]?) → K H1) : Met l y_L_masked [Cond.codeWith y_L_masked b_L_masked 7 (some .int) [(0, 14, 17, 13), (0, 14, 21, 21)]] ({ frames := rm.frames + 1, cells := 1, slots := 6, locals := 8 + (5 + 11) + rm.locals }) (z_Pc s0 [.ref a, .int p0, .int p1, .int p2, .int p3, .ref o] (fun H => H.size = sz ∧ K H)) (z_Qw (fun r H => r = some (.int 2) ∧ K H) (z_fr (fun _ => False) sz)) 1 6 (z_fr (fun _ => False) sz) := by
  refine z_ofWT (by decide +kernel) (Nat.le_of_ble_eq_true rfl) ?_
  intro p e s m below meth c hx hb hml hr hown hlocks htab hW0 hB ls hl
  have hts := z_hts (args := [.ref a, .int p0, .int p1, .int p2, .int p3, .ref o].toArray) G.1 hW0
  have hK := va_K.moved hW0.alike G.2.2.1
  have hl : lv_has ls 7 [(0, .ref a), (1, .int p0), (2, .int p1), (3, .int p2), (4, .int p3), (5, .ref o)] := hl
  obtain ⟨rfl, hK0⟩ := hB
  have hB := hKB _ hK0
  obtain ⟨fs, hO⟩ := hOB _ hB
  refine lv_aload hx hb d_L_masked_0 (lv_at hl 5 rfl) ?_
  refine lv_iconst (v := 0) hx hb d_L_masked_2 (by decide) ?_
  refine lv_aload_n hx hb d_L_masked_3 rfl (lv_at hl 0 rfl) ?_
  refine lv_iload_n hx hb d_L_masked_4 rfl (lv_at hl 1 rfl) ?_
  refine lv_iload_n hx hb d_L_masked_5 rfl (lv_at hl 2 rfl) ?_
  refine lv_iload_n hx hb d_L_masked_6 rfl (lv_at hl 3 rfl) ?_
  refine lv_iload hx hb d_L_masked_7 (lv_at hl 4 rfl) ?_
  refine xh_catch (X := "java/lang/IllegalArgumentException") (own := R_L) (xt_runV (C := R_B) (rest := [.int 0, .ref o]) (g := F0 m 9 ls _) ⟨hx, hb, hml, hown, hts⟩ hM ⟨z_callB (n := 4) hts w_529 w_526 w_1 (by decide +kernel) ⟨hrm.1, hrm.2, Nat.le_refl _, Nat.le_refl _⟩, hts _ w_527, hts _ w_528⟩ ⟨z_blind, hO.recv hK rfl, fun U hU hW => ⟨rfl, hW0.trans hW, by rw [hU]; exact hB⟩⟩ rfl rfl hl.1 rfl (Nat.le_of_ble_eq_true rfl) d_L_masked_9 ⟨Nat.le_of_ble_eq_true rfl, Nat.le_of_ble_eq_true rfl⟩) hown [⟨0, 14, 17, 13⟩] ⟨0, 14, 21, 21⟩ [] htab rfl (by decide) (hts _ w_190) (fun y hy => by simp only [List.mem_cons, List.not_mem_nil, or_false] at hy; subst hy; exact ⟨rfl, by decide, _, hts _ w_93, va_Nc.moved hW0.alike hLX.2.2.1⟩) (fun x9 H1 hz1 ho1 => ?_)
  have hS : va_S (z_fr (fun _ => False) s.heap.size) s.heap H1 [] := ⟨hz1, fun q h1 _ => ho1 q h1, fun q hq => by cases hq⟩
  have hK1 := hKs _ _ hK0 hz1 ho1
  refine lv_astore (lv' := [(6, .ref x9), (0, .ref a), (1, .int p0), (2, .int p1), (3, .int p2), (4, .int p3), (5, .ref o)]) hx hb d_L_masked_21 hl (by decide) rfl (fun ls hl => ?_)
  refine lv_iconst (v := 2) hx hb d_L_masked_23 (by decide) ?_
  exact z_wi hx hb hr hlocks ⟨rfl, hK1⟩ hS d_L_masked_24
end WRA
