section LCA
variable {s0 : State} {dC : Nat → ClassId} {dI : Nat → Nat → Nat} {cI cS cL : ClassId} {l : Launch}
set_option maxRecDepth 100000 in
set_option maxHeartbeats 4000000 in
theorem law_place {p : Program} {e : Env} {s : State} {m : MethodId} {below : List Frame} {meth : Method} {c : Code} {l : Launch} {b L : Nat} {xs : Nat → Int32} (C0 : lw_At p s m meth c b L xs) (hL : L ≤ 2560) (G : z_G s (dC, dI) cI cS) (hLX : z_LX s cL) {i a o : Nat} {E : Nat → Nat} {H : Heap} {locs : List Loc} {cells slots mc ms : Nat} {rw rm : Room} {K1 K2 K3 : Heap → Prop} {F1 : Nat → Prop} {kc : Int32} {f : Nat → Int64} {bv : Int32} {Q : State → Prop} (hi : i + 5 ≤ L) (hw : Met l y_L_place [Cond.codeWith y_L_place b_L_place 4 (some .int) [(0, 9, 12, 13), (0, 9, 15, 15)]] rw (z_Pc s [.ref a, .int (xs (i + 1)), .ref o] (fun H' => H'.size = H.size ∧ K1 H')) (z_Qw (fun r H => r = some (.int kc) ∧ K2 H) F1) mc ms F1) (hwr : z_rmk rw room_1 4 mc ms) (hm : ∀ sz, Met l y_M_place [Cond.code y_M_place b_M_place 2 (some .int)] rm (z_Pc s [.ref (E 0), .int (xs (i + 1))] (fun H => H.size = sz ∧ K2 H)) (z_Qw (fun r H => r = some (.int bv) ∧ K3 H) (z_fr (z_mF E) sz)) 0 0 (z_fr (z_mF E) sz)) (hmr : z_rmk rm room_1 2 0 0) (hK2 : ∀ H : Heap, K2 H → ∃ fs, z_O (dC, dI) H (E 0) 4 fs) (hK3_ : ∀ H : Heap, K3 H → (∃ mp ms mc mn mm gv, z_Md (dC, dI) cI H E kc mp ms mc mn mm gv) ∧ z_L cL H o 1 f) (hv : kc = 0 → f 0 = bv.toInt64) (hF1 : ∀ q, F1 q → s.heap.size ≤ q) (hE : ∀ k, k < 18 → s.heap.size ≤ E k) (hK1 : K1 H) (hS : va_S (fun q => s.heap.size ≤ q) s.heap H locs) (hcell : cells + mc ≤ room_1.cells ∧ slots + ms ≤ room_1.slots) (k : ∀ (H1 : Heap) (locs1 : List Loc), K3 H1 → va_S (fun q => s.heap.size ≤ q) s.heap H1 locs1 → ∀ ls : Array Slot, lv_has ls 7 [(0, .ref b), (1, .ref a), (2, .ref (E 0)), (3, .ref o), (4, .int (nI i))] → W p l e room_1 s m #[Value.ref b] below meth c H1 locs1 (cells + mc) (slots + ms) Q (F0 m 1342 ls [])) : ∀ ls : Array Slot, lv_has ls 7 [(0, .ref b), (1, .ref a), (2, .ref (E 0)), (3, .ref o), (4, .int (nI i))] → W p l e room_1 s m #[Value.ref b] below meth c H locs cells slots Q (F0 m 116 ls []) := by
  obtain ⟨hx, hb, hr, hml, hown, hts0, hX, hbl, hlocks, hgv⟩ := C0
  have hts : ∀ w ∈ z_tbl, w.before #[Value.ref b] s = true := fun w hw => hts0 w (List.mem_filter.mp hw).1
  have hK := G.2.2.1
  have hAL := hLX.1
  intro ls hl
  refine lv_aload_n hx hb d_L_law_116 rfl (lv_at hl 1 rfl) ?_
  refine lv_aload_n hx hb d_L_law_117 rfl (lv_at hl 0 rfl) ?_
  refine lv_iload hx hb d_L_law_118 (lv_at hl 4 rfl) ?_
  refine lv_iconst (v := 1) hx hb d_L_law_120 (by decide) ?_
  refine lv_iadd hx hb d_L_law_121 ?_
  refine z_topi (y := nI (i + 1)) (nI_add i 1) ?_
  refine z_sld (j := i + 1) hx hb hX hbl (Nat.not_le.mpr hbl) hS (by omega) (by omega) d_L_law_122 ?_
  refine lv_aload_n hx hb d_L_law_123 rfl (lv_at hl 3 rfl) ?_
  refine z_wrT (n := 3) (rest := []) ⟨hx, hb, hml, hown, hts⟩ (State.WarmedH.refl s) hw w_92 w_90 w_91 w_0 (by decide +kernel) hwr ⟨rfl, hK1⟩ rfl rfl hl.1 (Nat.le_of_ble_eq_true rfl) d_L_law_124 hcell hS hF1 (fun H1 locs1 hK2_ hz1 hk1 hS => ?_)
  obtain ⟨fs2, hO2⟩ := hK2 _ hK2_
  refine lv_istore (lv' := [(5, .int kc), (0, .ref b), (1, .ref a), (2, .ref (E 0)), (3, .ref o), (4, .int (nI i))]) hx hb d_L_law_127 hl (by decide) rfl (fun ls hl => ?_)
  refine lv_aload_n hx hb d_L_law_129 rfl (lv_at hl 3 rfl) ?_
  refine lv_aload_n hx hb d_L_law_130 rfl (lv_at hl 1 rfl) ?_
  refine lv_iload hx hb d_L_law_131 (lv_at hl 5 rfl) ?_
  refine lv_iconst (v := 1) hx hb d_L_law_133 (by decide) ?_
  refine lv_iadd hx hb d_L_law_134 ?_
  refine z_topi (y := nI (i + 1)) (nI_add i 1) ?_
  refine z_sld (j := i + 1) hx hb hX hbl (Nat.not_le.mpr hbl) hS (by omega) (by omega) d_L_law_135 ?_
  refine z_wrV (n := 1) (C := R_M) (rest := []) ⟨hx, hb, hml, hown, hts⟩ (State.WarmedH.refl s) (hm _) w_617 w_614 w_615 w_616 w_4 (by decide +kernel) hmr (hO2.recv hK rfl) ⟨rfl, hK2_⟩ rfl rfl hl.1 (Nat.le_of_ble_eq_true rfl) d_L_law_136 hcell hS (fun q h => h.elim (fun h => by obtain ⟨k9, h9, e9⟩ := h; rw [e9]; exact hE k9 h9) (fun h => Nat.le_trans hS.1 h)) (fun H1 locs1 hK3 hz2 hk2 hS => ?_)
  refine lv_istore (lv' := [(6, .int bv), (5, .int kc), (0, .ref b), (1, .ref a), (2, .ref (E 0)), (3, .ref o), (4, .int (nI i))]) hx hb d_L_law_139 hl (by decide) rfl (fun ls hl => ?_)
  refine lv_aload_n hx hb d_L_law_141 rfl (lv_at hl 4 rfl) ?_
  obtain ⟨⟨mp, ms_, mc_, mn, mm, gv, hMd⟩, hL3⟩ := hK3_ _ hK3
  refine z_rdV (n := 0) (C := R_M) (rest := []) ⟨hx, hb, hml, hown, hts⟩ (State.WarmedH.refl s) (c_M_thrown G E kc mp ms_ mc_ mn mm gv) w_613 w_610 w_611 w_612 w_4 (by decide +kernel) ⟨rfl, rfl, Nat.le_of_ble_eq_true rfl, Nat.le_of_ble_eq_true rfl⟩ (hMd.1.1.recv hK rfl) hMd rfl rfl hl.1 (Nat.le_of_ble_eq_true rfl) d_L_law_142 hcell ?_
  refine lv_iload hx hb d_L_law_145 (lv_at hl 1 rfl) ?_
  refine lv_icmp_eq (tgt := 152) hx hb d_L_law_147 (by decide) (fun c_1 => ?_) (fun c_1 => ?_)
  · skip
    refine lv_iload hx hb d_L_law_152 (lv_at hl 1 rfl) ?_
    refine lv_if_ne (tgt := 169) hx hb d_L_law_154 (by decide) (fun c_2 => ?_) (fun c_2 => ?_)
    · skip
      refine lv_goto (tgt := 1342) hx hb d_L_law_169 (by decide) ?_
      exact k H1 locs1 hK3 hS ls (lv_sub hl [2, 3, 4, 5, 6] rfl)
    · skip
      refine lv_aload_n hx hb d_L_law_157 rfl (lv_at hl 5 rfl) ?_
      refine lv_iconst (v := 0) hx hb d_L_law_158 (by decide) ?_
      refine z_lald hx hb hAL hL3 d_L_law_159 ?_
      refine lv_iload hx hb d_L_law_160 (lv_at hl 0 rfl) ?_
      refine lv_i2l hx hb d_L_law_162 rfl ?_
      refine W.lcmp hx hb d_L_law_163 ?_
      refine lv_if_eq (tgt := 169) hx hb d_L_law_164 (by decide) (fun c_3 => ?_) (fun c_3 => ?_)
      · skip
        have c_3 : (f 0) = bv.toInt64 := (lg_cmp_eq _ _).mp c_3
        refine lv_goto (tgt := 1342) hx hb d_L_law_169 (by decide) ?_
        exact k H1 locs1 hK3 hS ls (lv_sub hl [2, 3, 4, 5, 6] rfl)
      · skip
        have c_3 : ¬ ((f 0) = bv.toInt64) := fun h => c_3 ((lg_cmp_eq _ _).mpr h)
        exact absurd (hv c_2) c_3
  · skip
    exact absurd (rfl : kc = kc) c_1
set_option maxRecDepth 100000 in
set_option maxHeartbeats 4000000 in
theorem law_shape {p : Program} {e : Env} {s : State} {m : MethodId} {below : List Frame} {meth : Method} {c : Code} {l : Launch} {b L : Nat} {xs : Nat → Int32} (C0 : lw_At p s m meth c b L xs) (hL : L ≤ 2560) (G : z_G s (dC, dI) cI cS) (hLX : z_LX s cL) {i a o : Nat} {E : Nat → Nat} {H : Heap} {locs : List Loc} {cells slots mc ms : Nat} {rw rm : Room} {K1 K2 K3 : Heap → Prop} {F1 : Nat → Prop} {kc : Int32} {f : Nat → Int64} {bv : Int32} {Q : State → Prop} (hi : i + 5 ≤ L) (hw : Met l y_L_shape [Cond.codeWith y_L_shape b_L_shape 6 (some .int) [(0, 12, 15, 13), (0, 12, 19, 21), (0, 12, 23, 15)]] rw (z_Pc s [.ref a, .int (xs (i + 1)), .int (xs (i + 2)), .int (xs (i + 3)), .ref o] (fun H' => H'.size = H.size ∧ K1 H')) (z_Qw (fun r H => r = some (.int kc) ∧ K2 H) F1) mc ms F1) (hwr : z_rmk rw room_1 6 mc ms) (hm : ∀ sz, Met l y_M_shape [Cond.code y_M_shape b_M_shape 4 (some .int)] rm (z_Pc s [.ref (E 0), .int (xs (i + 1)), .int (xs (i + 2)), .int (xs (i + 3))] (fun H => H.size = sz ∧ K2 H)) (z_Qw (fun r H => r = some (.int bv) ∧ K3 H) (z_fr (z_mF E) sz)) 0 0 (z_fr (z_mF E) sz)) (hmr : z_rmk rm room_1 4 0 0) (hK2 : ∀ H : Heap, K2 H → ∃ fs, z_O (dC, dI) H (E 0) 4 fs) (hK3_ : ∀ H : Heap, K3 H → (∃ mp ms mc mn mm gv, z_Md (dC, dI) cI H E kc mp ms mc mn mm gv) ∧ z_L cL H o 1 f) (hv : kc = 0 → f 0 = bv.toInt64) (hF1 : ∀ q, F1 q → s.heap.size ≤ q) (hE : ∀ k, k < 18 → s.heap.size ≤ E k) (hK1 : K1 H) (hS : va_S (fun q => s.heap.size ≤ q) s.heap H locs) (hcell : cells + mc ≤ room_1.cells ∧ slots + ms ≤ room_1.slots) (k : ∀ (H1 : Heap) (locs1 : List Loc), K3 H1 → va_S (fun q => s.heap.size ≤ q) s.heap H1 locs1 → ∀ ls : Array Slot, lv_has ls 7 [(0, .ref b), (1, .ref a), (2, .ref (E 0)), (3, .ref o), (4, .int (nI i))] → W p l e room_1 s m #[Value.ref b] below meth c H1 locs1 (cells + mc) (slots + ms) Q (F0 m 1342 ls [])) : ∀ ls : Array Slot, lv_has ls 7 [(0, .ref b), (1, .ref a), (2, .ref (E 0)), (3, .ref o), (4, .int (nI i))] → W p l e room_1 s m #[Value.ref b] below meth c H locs cells slots Q (F0 m 172 ls []) := by
  obtain ⟨hx, hb, hr, hml, hown, hts0, hX, hbl, hlocks, hgv⟩ := C0
  have hts : ∀ w ∈ z_tbl, w.before #[Value.ref b] s = true := fun w hw => hts0 w (List.mem_filter.mp hw).1
  have hK := G.2.2.1
  have hAL := hLX.1
  intro ls hl
  refine lv_aload_n hx hb d_L_law_172 rfl (lv_at hl 1 rfl) ?_
  refine lv_aload_n hx hb d_L_law_173 rfl (lv_at hl 0 rfl) ?_
  refine lv_iload hx hb d_L_law_174 (lv_at hl 4 rfl) ?_
  refine lv_iconst (v := 1) hx hb d_L_law_176 (by decide) ?_
  refine lv_iadd hx hb d_L_law_177 ?_
  refine z_topi (y := nI (i + 1)) (nI_add i 1) ?_
  refine z_sld (j := i + 1) hx hb hX hbl (Nat.not_le.mpr hbl) hS (by omega) (by omega) d_L_law_178 ?_
  refine lv_aload_n hx hb d_L_law_179 rfl (lv_at hl 0 rfl) ?_
  refine lv_iload hx hb d_L_law_180 (lv_at hl 4 rfl) ?_
  refine lv_iconst (v := 2) hx hb d_L_law_182 (by decide) ?_
  refine lv_iadd hx hb d_L_law_183 ?_
  refine z_topi (y := nI (i + 2)) (nI_add i 2) ?_
  refine z_sld (j := i + 2) hx hb hX hbl (Nat.not_le.mpr hbl) hS (by omega) (by omega) d_L_law_184 ?_
  refine lv_aload_n hx hb d_L_law_185 rfl (lv_at hl 0 rfl) ?_
  refine lv_iload hx hb d_L_law_186 (lv_at hl 4 rfl) ?_
  refine lv_iconst (v := 3) hx hb d_L_law_188 (by decide) ?_
  refine lv_iadd hx hb d_L_law_189 ?_
  refine z_topi (y := nI (i + 3)) (nI_add i 3) ?_
  refine z_sld (j := i + 3) hx hb hX hbl (Nat.not_le.mpr hbl) hS (by omega) (by omega) d_L_law_190 ?_
  refine lv_aload_n hx hb d_L_law_191 rfl (lv_at hl 3 rfl) ?_
  refine z_wrT (n := 5) (rest := []) ⟨hx, hb, hml, hown, hts⟩ (State.WarmedH.refl s) hw w_189 w_187 w_188 w_0 (by decide +kernel) hwr ⟨rfl, hK1⟩ rfl rfl hl.1 (Nat.le_of_ble_eq_true rfl) d_L_law_192 hcell hS hF1 (fun H1 locs1 hK2_ hz1 hk1 hS => ?_)
  obtain ⟨fs2, hO2⟩ := hK2 _ hK2_
  refine lv_istore (lv' := [(5, .int kc), (0, .ref b), (1, .ref a), (2, .ref (E 0)), (3, .ref o), (4, .int (nI i))]) hx hb d_L_law_195 hl (by decide) rfl (fun ls hl => ?_)
  refine lv_aload_n hx hb d_L_law_197 rfl (lv_at hl 3 rfl) ?_
  refine lv_aload_n hx hb d_L_law_198 rfl (lv_at hl 1 rfl) ?_
  refine lv_iload hx hb d_L_law_199 (lv_at hl 5 rfl) ?_
  refine lv_iconst (v := 1) hx hb d_L_law_201 (by decide) ?_
  refine lv_iadd hx hb d_L_law_202 ?_
  refine z_topi (y := nI (i + 1)) (nI_add i 1) ?_
  refine z_sld (j := i + 1) hx hb hX hbl (Nat.not_le.mpr hbl) hS (by omega) (by omega) d_L_law_203 ?_
  refine lv_aload_n hx hb d_L_law_204 rfl (lv_at hl 1 rfl) ?_
  refine lv_iload hx hb d_L_law_205 (lv_at hl 5 rfl) ?_
  refine lv_iconst (v := 2) hx hb d_L_law_207 (by decide) ?_
  refine lv_iadd hx hb d_L_law_208 ?_
  refine z_topi (y := nI (i + 2)) (nI_add i 2) ?_
  refine z_sld (j := i + 2) hx hb hX hbl (Nat.not_le.mpr hbl) hS (by omega) (by omega) d_L_law_209 ?_
  refine lv_aload_n hx hb d_L_law_210 rfl (lv_at hl 1 rfl) ?_
  refine lv_iload hx hb d_L_law_211 (lv_at hl 5 rfl) ?_
  refine lv_iconst (v := 3) hx hb d_L_law_213 (by decide) ?_
  refine lv_iadd hx hb d_L_law_214 ?_
  refine z_topi (y := nI (i + 3)) (nI_add i 3) ?_
  refine z_sld (j := i + 3) hx hb hX hbl (Nat.not_le.mpr hbl) hS (by omega) (by omega) d_L_law_215 ?_
  refine z_wrV (n := 3) (C := R_M) (rest := []) ⟨hx, hb, hml, hown, hts⟩ (State.WarmedH.refl s) (hm _) w_629 w_626 w_627 w_628 w_4 (by decide +kernel) hmr (hO2.recv hK rfl) ⟨rfl, hK2_⟩ rfl rfl hl.1 (Nat.le_of_ble_eq_true rfl) d_L_law_216 hcell hS (fun q h => h.elim (fun h => by obtain ⟨k9, h9, e9⟩ := h; rw [e9]; exact hE k9 h9) (fun h => Nat.le_trans hS.1 h)) (fun H1 locs1 hK3 hz2 hk2 hS => ?_)
  refine lv_istore (lv' := [(6, .int bv), (5, .int kc), (0, .ref b), (1, .ref a), (2, .ref (E 0)), (3, .ref o), (4, .int (nI i))]) hx hb d_L_law_219 hl (by decide) rfl (fun ls hl => ?_)
  refine lv_aload_n hx hb d_L_law_221 rfl (lv_at hl 4 rfl) ?_
  obtain ⟨⟨mp, ms_, mc_, mn, mm, gv, hMd⟩, hL3⟩ := hK3_ _ hK3
  refine z_rdV (n := 0) (C := R_M) (rest := []) ⟨hx, hb, hml, hown, hts⟩ (State.WarmedH.refl s) (c_M_thrown G E kc mp ms_ mc_ mn mm gv) w_613 w_610 w_611 w_612 w_4 (by decide +kernel) ⟨rfl, rfl, Nat.le_of_ble_eq_true rfl, Nat.le_of_ble_eq_true rfl⟩ (hMd.1.1.recv hK rfl) hMd rfl rfl hl.1 (Nat.le_of_ble_eq_true rfl) d_L_law_222 hcell ?_
  refine lv_iload hx hb d_L_law_225 (lv_at hl 1 rfl) ?_
  refine lv_icmp_eq (tgt := 232) hx hb d_L_law_227 (by decide) (fun c_1 => ?_) (fun c_1 => ?_)
  · skip
    refine lv_iload hx hb d_L_law_232 (lv_at hl 1 rfl) ?_
    refine lv_if_ne (tgt := 249) hx hb d_L_law_234 (by decide) (fun c_2 => ?_) (fun c_2 => ?_)
    · skip
      refine lv_goto (tgt := 1342) hx hb d_L_law_249 (by decide) ?_
      exact k H1 locs1 hK3 hS ls (lv_sub hl [2, 3, 4, 5, 6] rfl)
    · skip
      refine lv_aload_n hx hb d_L_law_237 rfl (lv_at hl 5 rfl) ?_
      refine lv_iconst (v := 0) hx hb d_L_law_238 (by decide) ?_
      refine z_lald hx hb hAL hL3 d_L_law_239 ?_
      refine lv_iload hx hb d_L_law_240 (lv_at hl 0 rfl) ?_
      refine lv_i2l hx hb d_L_law_242 rfl ?_
      refine W.lcmp hx hb d_L_law_243 ?_
      refine lv_if_eq (tgt := 249) hx hb d_L_law_244 (by decide) (fun c_3 => ?_) (fun c_3 => ?_)
      · skip
        have c_3 : (f 0) = bv.toInt64 := (lg_cmp_eq _ _).mp c_3
        refine lv_goto (tgt := 1342) hx hb d_L_law_249 (by decide) ?_
        exact k H1 locs1 hK3 hS ls (lv_sub hl [2, 3, 4, 5, 6] rfl)
      · skip
        have c_3 : ¬ ((f 0) = bv.toInt64) := fun h => c_3 ((lg_cmp_eq _ _).mpr h)
        exact absurd (hv c_2) c_3
  · skip
    exact absurd (rfl : kc = kc) c_1
set_option maxRecDepth 100000 in
set_option maxHeartbeats 4000000 in
theorem law_corner {p : Program} {e : Env} {s : State} {m : MethodId} {below : List Frame} {meth : Method} {c : Code} {l : Launch} {b L : Nat} {xs : Nat → Int32} (C0 : lw_At p s m meth c b L xs) (hL : L ≤ 2560) (G : z_G s (dC, dI) cI cS) (hLX : z_LX s cL) {i a o : Nat} {E : Nat → Nat} {H : Heap} {locs : List Loc} {cells slots mc ms : Nat} {rw rm : Room} {K1 K2 K3 : Heap → Prop} {F1 : Nat → Prop} {kc : Int32} {f : Nat → Int64} {bv : Int32} {Q : State → Prop} (hi : i + 5 ≤ L) (hw : Met l y_L_corner [Cond.codeWith y_L_corner b_L_corner 6 (some .int) [(0, 12, 15, 13), (0, 12, 19, 21), (0, 12, 23, 15)]] rw (z_Pc s [.ref a, .int (xs (i + 1)), .int (xs (i + 2)), .int (xs (i + 3)), .ref o] (fun H' => H'.size = H.size ∧ K1 H')) (z_Qw (fun r H => r = some (.int kc) ∧ K2 H) F1) mc ms F1) (hwr : z_rmk rw room_1 6 mc ms) (hm : ∀ sz, Met l y_M_corner [Cond.code y_M_corner b_M_corner 5 (some .int)] rm (z_Pc s [.ref (E 0), .int (xs (i + 1)), .int (xs (i + 2)), .int (xs (i + 3))] (fun H => H.size = sz ∧ K2 H)) (z_Qw (fun r H => r = some (.int bv) ∧ K3 H) (z_fr (z_mF E) sz)) 0 0 (z_fr (z_mF E) sz)) (hmr : z_rmk rm room_1 5 0 0) (hK2 : ∀ H : Heap, K2 H → ∃ fs, z_O (dC, dI) H (E 0) 4 fs) (hK3_ : ∀ H : Heap, K3 H → (∃ mp ms mc mn mm gv, z_Md (dC, dI) cI H E kc mp ms mc mn mm gv) ∧ z_L cL H o 1 f) (hv : kc = 0 → f 0 = bv.toInt64) (hF1 : ∀ q, F1 q → s.heap.size ≤ q) (hE : ∀ k, k < 18 → s.heap.size ≤ E k) (hK1 : K1 H) (hS : va_S (fun q => s.heap.size ≤ q) s.heap H locs) (hcell : cells + mc ≤ room_1.cells ∧ slots + ms ≤ room_1.slots) (k : ∀ (H1 : Heap) (locs1 : List Loc), K3 H1 → va_S (fun q => s.heap.size ≤ q) s.heap H1 locs1 → ∀ ls : Array Slot, lv_has ls 7 [(0, .ref b), (1, .ref a), (2, .ref (E 0)), (3, .ref o), (4, .int (nI i))] → W p l e room_1 s m #[Value.ref b] below meth c H1 locs1 (cells + mc) (slots + ms) Q (F0 m 1342 ls [])) : ∀ ls : Array Slot, lv_has ls 7 [(0, .ref b), (1, .ref a), (2, .ref (E 0)), (3, .ref o), (4, .int (nI i))] → W p l e room_1 s m #[Value.ref b] below meth c H locs cells slots Q (F0 m 252 ls []) := by
  obtain ⟨hx, hb, hr, hml, hown, hts0, hX, hbl, hlocks, hgv⟩ := C0
  have hts : ∀ w ∈ z_tbl, w.before #[Value.ref b] s = true := fun w hw => hts0 w (List.mem_filter.mp hw).1
  have hK := G.2.2.1
  have hAL := hLX.1
  intro ls hl
  refine lv_aload_n hx hb d_L_law_252 rfl (lv_at hl 1 rfl) ?_
  refine lv_aload_n hx hb d_L_law_253 rfl (lv_at hl 0 rfl) ?_
  refine lv_iload hx hb d_L_law_254 (lv_at hl 4 rfl) ?_
  refine lv_iconst (v := 1) hx hb d_L_law_256 (by decide) ?_
  refine lv_iadd hx hb d_L_law_257 ?_
  refine z_topi (y := nI (i + 1)) (nI_add i 1) ?_
  refine z_sld (j := i + 1) hx hb hX hbl (Nat.not_le.mpr hbl) hS (by omega) (by omega) d_L_law_258 ?_
  refine lv_aload_n hx hb d_L_law_259 rfl (lv_at hl 0 rfl) ?_
  refine lv_iload hx hb d_L_law_260 (lv_at hl 4 rfl) ?_
  refine lv_iconst (v := 2) hx hb d_L_law_262 (by decide) ?_
  refine lv_iadd hx hb d_L_law_263 ?_
  refine z_topi (y := nI (i + 2)) (nI_add i 2) ?_
  refine z_sld (j := i + 2) hx hb hX hbl (Nat.not_le.mpr hbl) hS (by omega) (by omega) d_L_law_264 ?_
  refine lv_aload_n hx hb d_L_law_265 rfl (lv_at hl 0 rfl) ?_
  refine lv_iload hx hb d_L_law_266 (lv_at hl 4 rfl) ?_
  refine lv_iconst (v := 3) hx hb d_L_law_268 (by decide) ?_
  refine lv_iadd hx hb d_L_law_269 ?_
  refine z_topi (y := nI (i + 3)) (nI_add i 3) ?_
  refine z_sld (j := i + 3) hx hb hX hbl (Nat.not_le.mpr hbl) hS (by omega) (by omega) d_L_law_270 ?_
  refine lv_aload_n hx hb d_L_law_271 rfl (lv_at hl 3 rfl) ?_
  refine z_wrT (n := 5) (rest := []) ⟨hx, hb, hml, hown, hts⟩ (State.WarmedH.refl s) hw w_259 w_257 w_258 w_0 (by decide +kernel) hwr ⟨rfl, hK1⟩ rfl rfl hl.1 (Nat.le_of_ble_eq_true rfl) d_L_law_272 hcell hS hF1 (fun H1 locs1 hK2_ hz1 hk1 hS => ?_)
  obtain ⟨fs2, hO2⟩ := hK2 _ hK2_
  refine lv_istore (lv' := [(5, .int kc), (0, .ref b), (1, .ref a), (2, .ref (E 0)), (3, .ref o), (4, .int (nI i))]) hx hb d_L_law_275 hl (by decide) rfl (fun ls hl => ?_)
  refine lv_aload_n hx hb d_L_law_277 rfl (lv_at hl 3 rfl) ?_
  refine lv_aload_n hx hb d_L_law_278 rfl (lv_at hl 1 rfl) ?_
  refine lv_iload hx hb d_L_law_279 (lv_at hl 5 rfl) ?_
  refine lv_iconst (v := 1) hx hb d_L_law_281 (by decide) ?_
  refine lv_iadd hx hb d_L_law_282 ?_
  refine z_topi (y := nI (i + 1)) (nI_add i 1) ?_
  refine z_sld (j := i + 1) hx hb hX hbl (Nat.not_le.mpr hbl) hS (by omega) (by omega) d_L_law_283 ?_
  refine lv_aload_n hx hb d_L_law_284 rfl (lv_at hl 1 rfl) ?_
  refine lv_iload hx hb d_L_law_285 (lv_at hl 5 rfl) ?_
  refine lv_iconst (v := 2) hx hb d_L_law_287 (by decide) ?_
  refine lv_iadd hx hb d_L_law_288 ?_
  refine z_topi (y := nI (i + 2)) (nI_add i 2) ?_
  refine z_sld (j := i + 2) hx hb hX hbl (Nat.not_le.mpr hbl) hS (by omega) (by omega) d_L_law_289 ?_
  refine lv_aload_n hx hb d_L_law_290 rfl (lv_at hl 1 rfl) ?_
  refine lv_iload hx hb d_L_law_291 (lv_at hl 5 rfl) ?_
  refine lv_iconst (v := 3) hx hb d_L_law_293 (by decide) ?_
  refine lv_iadd hx hb d_L_law_294 ?_
  refine z_topi (y := nI (i + 3)) (nI_add i 3) ?_
  refine z_sld (j := i + 3) hx hb hX hbl (Nat.not_le.mpr hbl) hS (by omega) (by omega) d_L_law_295 ?_
  refine z_wrV (n := 3) (C := R_M) (rest := []) ⟨hx, hb, hml, hown, hts⟩ (State.WarmedH.refl s) (hm _) w_637 w_634 w_635 w_636 w_4 (by decide +kernel) hmr (hO2.recv hK rfl) ⟨rfl, hK2_⟩ rfl rfl hl.1 (Nat.le_of_ble_eq_true rfl) d_L_law_296 hcell hS (fun q h => h.elim (fun h => by obtain ⟨k9, h9, e9⟩ := h; rw [e9]; exact hE k9 h9) (fun h => Nat.le_trans hS.1 h)) (fun H1 locs1 hK3 hz2 hk2 hS => ?_)
  refine lv_istore (lv' := [(6, .int bv), (5, .int kc), (0, .ref b), (1, .ref a), (2, .ref (E 0)), (3, .ref o), (4, .int (nI i))]) hx hb d_L_law_299 hl (by decide) rfl (fun ls hl => ?_)
  refine lv_aload_n hx hb d_L_law_301 rfl (lv_at hl 4 rfl) ?_
  obtain ⟨⟨mp, ms_, mc_, mn, mm, gv, hMd⟩, hL3⟩ := hK3_ _ hK3
  refine z_rdV (n := 0) (C := R_M) (rest := []) ⟨hx, hb, hml, hown, hts⟩ (State.WarmedH.refl s) (c_M_thrown G E kc mp ms_ mc_ mn mm gv) w_613 w_610 w_611 w_612 w_4 (by decide +kernel) ⟨rfl, rfl, Nat.le_of_ble_eq_true rfl, Nat.le_of_ble_eq_true rfl⟩ (hMd.1.1.recv hK rfl) hMd rfl rfl hl.1 (Nat.le_of_ble_eq_true rfl) d_L_law_302 hcell ?_
  refine lv_iload hx hb d_L_law_305 (lv_at hl 1 rfl) ?_
  refine lv_icmp_eq (tgt := 312) hx hb d_L_law_307 (by decide) (fun c_1 => ?_) (fun c_1 => ?_)
  · skip
    refine lv_iload hx hb d_L_law_312 (lv_at hl 1 rfl) ?_
    refine lv_if_ne (tgt := 329) hx hb d_L_law_314 (by decide) (fun c_2 => ?_) (fun c_2 => ?_)
    · skip
      refine lv_goto (tgt := 1342) hx hb d_L_law_329 (by decide) ?_
      exact k H1 locs1 hK3 hS ls (lv_sub hl [2, 3, 4, 5, 6] rfl)
    · skip
      refine lv_aload_n hx hb d_L_law_317 rfl (lv_at hl 5 rfl) ?_
      refine lv_iconst (v := 0) hx hb d_L_law_318 (by decide) ?_
      refine z_lald hx hb hAL hL3 d_L_law_319 ?_
      refine lv_iload hx hb d_L_law_320 (lv_at hl 0 rfl) ?_
      refine lv_i2l hx hb d_L_law_322 rfl ?_
      refine W.lcmp hx hb d_L_law_323 ?_
      refine lv_if_eq (tgt := 329) hx hb d_L_law_324 (by decide) (fun c_3 => ?_) (fun c_3 => ?_)
      · skip
        have c_3 : (f 0) = bv.toInt64 := (lg_cmp_eq _ _).mp c_3
        refine lv_goto (tgt := 1342) hx hb d_L_law_329 (by decide) ?_
        exact k H1 locs1 hK3 hS ls (lv_sub hl [2, 3, 4, 5, 6] rfl)
      · skip
        have c_3 : ¬ ((f 0) = bv.toInt64) := fun h => c_3 ((lg_cmp_eq _ _).mpr h)
        exact absurd (hv c_2) c_3
  · skip
    exact absurd (rfl : kc = kc) c_1
set_option maxRecDepth 100000 in
set_option maxHeartbeats 4000000 in
theorem law_close {p : Program} {e : Env} {s : State} {m : MethodId} {below : List Frame} {meth : Method} {c : Code} {l : Launch} {b L : Nat} {xs : Nat → Int32} (C0 : lw_At p s m meth c b L xs) (hL : L ≤ 2560) (G : z_G s (dC, dI) cI cS) (hLX : z_LX s cL) {i a o : Nat} {E : Nat → Nat} {H : Heap} {locs : List Loc} {cells slots mc ms : Nat} {rw rm : Room} {K1 K2 K3 : Heap → Prop} {F1 : Nat → Prop} {kc : Int32} {f : Nat → Int64} {bv : Bool} {Q : State → Prop} (hi : i + 5 ≤ L) (hw : Met l y_L_close [Cond.codeWith y_L_close b_L_close 4 (some .int) [(0, 16, 19, 13)]] rw (z_Pc s [.ref a, .int (xs (i + 1)), .ref o] (fun H' => H'.size = H.size ∧ K1 H')) (z_Qw (fun r H => r = some (.int kc) ∧ K2 H) F1) mc ms F1) (hwr : z_rmk rw room_1 4 mc ms) (hm : ∀ sz, Met l y_M_close [Cond.code y_M_close b_M_close 2 (some .boolean)] rm (z_Pc s [.ref (E 0), .int (xs (i + 1))] (fun H => H.size = sz ∧ K2 H)) (z_Qw (fun r H => r = some (.int (pi_b bv)) ∧ K3 H) (z_fr (z_mF E) sz)) 0 0 (z_fr (z_mF E) sz)) (hmr : z_rmk rm room_1 2 0 0) (hK2 : ∀ H : Heap, K2 H → ∃ fs, z_O (dC, dI) H (E 0) 4 fs) (hK3_ : ∀ H : Heap, K3 H → (∃ mp ms mc mn mm gv, z_Md (dC, dI) cI H E kc mp ms mc mn mm gv) ∧ z_L cL H o 1 f) (hv : kc = 0 → f 0 = (pi_b bv).toInt64) (hF1 : ∀ q, F1 q → s.heap.size ≤ q) (hE : ∀ k, k < 18 → s.heap.size ≤ E k) (hK1 : K1 H) (hS : va_S (fun q => s.heap.size ≤ q) s.heap H locs) (hcell : cells + mc ≤ room_1.cells ∧ slots + ms ≤ room_1.slots) (k : ∀ (H1 : Heap) (locs1 : List Loc), K3 H1 → va_S (fun q => s.heap.size ≤ q) s.heap H1 locs1 → ∀ ls : Array Slot, lv_has ls 7 [(0, .ref b), (1, .ref a), (2, .ref (E 0)), (3, .ref o), (4, .int (nI i))] → W p l e room_1 s m #[Value.ref b] below meth c H1 locs1 (cells + mc) (slots + ms) Q (F0 m 1342 ls [])) : ∀ ls : Array Slot, lv_has ls 7 [(0, .ref b), (1, .ref a), (2, .ref (E 0)), (3, .ref o), (4, .int (nI i))] → W p l e room_1 s m #[Value.ref b] below meth c H locs cells slots Q (F0 m 332 ls []) := by
  obtain ⟨hx, hb, hr, hml, hown, hts0, hX, hbl, hlocks, hgv⟩ := C0
  have hts : ∀ w ∈ z_tbl, w.before #[Value.ref b] s = true := fun w hw => hts0 w (List.mem_filter.mp hw).1
  have hK := G.2.2.1
  have hAL := hLX.1
  intro ls hl
  refine lv_aload_n hx hb d_L_law_332 rfl (lv_at hl 1 rfl) ?_
  refine lv_aload_n hx hb d_L_law_333 rfl (lv_at hl 0 rfl) ?_
  refine lv_iload hx hb d_L_law_334 (lv_at hl 4 rfl) ?_
  refine lv_iconst (v := 1) hx hb d_L_law_336 (by decide) ?_
  refine lv_iadd hx hb d_L_law_337 ?_
  refine z_topi (y := nI (i + 1)) (nI_add i 1) ?_
  refine z_sld (j := i + 1) hx hb hX hbl (Nat.not_le.mpr hbl) hS (by omega) (by omega) d_L_law_338 ?_
  refine lv_aload_n hx hb d_L_law_339 rfl (lv_at hl 3 rfl) ?_
  refine z_wrT (n := 3) (rest := []) ⟨hx, hb, hml, hown, hts⟩ (State.WarmedH.refl s) hw w_288 w_286 w_287 w_0 (by decide +kernel) hwr ⟨rfl, hK1⟩ rfl rfl hl.1 (Nat.le_of_ble_eq_true rfl) d_L_law_340 hcell hS hF1 (fun H1 locs1 hK2_ hz1 hk1 hS => ?_)
  obtain ⟨fs2, hO2⟩ := hK2 _ hK2_
  refine lv_istore (lv' := [(5, .int kc), (0, .ref b), (1, .ref a), (2, .ref (E 0)), (3, .ref o), (4, .int (nI i))]) hx hb d_L_law_343 hl (by decide) rfl (fun ls hl => ?_)
  refine lv_aload_n hx hb d_L_law_345 rfl (lv_at hl 3 rfl) ?_
  refine lv_aload_n hx hb d_L_law_346 rfl (lv_at hl 1 rfl) ?_
  refine lv_iload hx hb d_L_law_347 (lv_at hl 5 rfl) ?_
  refine lv_iconst (v := 1) hx hb d_L_law_349 (by decide) ?_
  refine lv_iadd hx hb d_L_law_350 ?_
  refine z_topi (y := nI (i + 1)) (nI_add i 1) ?_
  refine z_sld (j := i + 1) hx hb hX hbl (Nat.not_le.mpr hbl) hS (by omega) (by omega) d_L_law_351 ?_
  refine z_wrV (n := 1) (C := R_M) (rest := []) ⟨hx, hb, hml, hown, hts⟩ (State.WarmedH.refl s) (hm _) w_648 w_645 w_646 w_647 w_4 (by decide +kernel) hmr (hO2.recv hK rfl) ⟨rfl, hK2_⟩ rfl rfl hl.1 (Nat.le_of_ble_eq_true rfl) d_L_law_352 hcell hS (fun q h => h.elim (fun h => by obtain ⟨k9, h9, e9⟩ := h; rw [e9]; exact hE k9 h9) (fun h => Nat.le_trans hS.1 h)) (fun H1 locs1 hK3 hz2 hk2 hS => ?_)
  refine lv_istore (lv' := [(6, .int (pi_b bv)), (5, .int kc), (0, .ref b), (1, .ref a), (2, .ref (E 0)), (3, .ref o), (4, .int (nI i))]) hx hb d_L_law_355 hl (by decide) rfl (fun ls hl => ?_)
  refine lv_aload_n hx hb d_L_law_357 rfl (lv_at hl 4 rfl) ?_
  obtain ⟨⟨mp, ms_, mc_, mn, mm, gv, hMd⟩, hL3⟩ := hK3_ _ hK3
  refine z_rdV (n := 0) (C := R_M) (rest := []) ⟨hx, hb, hml, hown, hts⟩ (State.WarmedH.refl s) (c_M_thrown G E kc mp ms_ mc_ mn mm gv) w_613 w_610 w_611 w_612 w_4 (by decide +kernel) ⟨rfl, rfl, Nat.le_of_ble_eq_true rfl, Nat.le_of_ble_eq_true rfl⟩ (hMd.1.1.recv hK rfl) hMd rfl rfl hl.1 (Nat.le_of_ble_eq_true rfl) d_L_law_358 hcell ?_
  refine lv_iload hx hb d_L_law_361 (lv_at hl 1 rfl) ?_
  refine lv_icmp_eq (tgt := 368) hx hb d_L_law_363 (by decide) (fun c_1 => ?_) (fun c_1 => ?_)
  · skip
    refine lv_iload hx hb d_L_law_368 (lv_at hl 1 rfl) ?_
    refine lv_if_ne (tgt := 392) hx hb d_L_law_370 (by decide) (fun c_2 => ?_) (fun c_2 => ?_)
    · skip
      refine lv_goto (tgt := 1342) hx hb d_L_law_392 (by decide) ?_
      exact k H1 locs1 hK3 hS ls (lv_sub hl [2, 3, 4, 5, 6] rfl)
    · skip
      refine lv_aload_n hx hb d_L_law_373 rfl (lv_at hl 5 rfl) ?_
      refine lv_iconst (v := 0) hx hb d_L_law_374 (by decide) ?_
      refine z_lald hx hb hAL hL3 d_L_law_375 ?_
      refine lv_iload hx hb d_L_law_376 (lv_at hl 0 rfl) ?_
      refine lv_if_eq (tgt := 385) hx hb d_L_law_378 (by decide) (fun c_3 => ?_) (fun c_3 => ?_)
      · skip
        have c_3 : bv = false := pi_b_0.mp c_3
        refine lv_lconst (v := 0) hx hb d_L_law_385 (by decide) ?_
        refine W.lcmp hx hb d_L_law_386 ?_
        refine lv_if_eq (tgt := 392) hx hb d_L_law_387 (by decide) (fun c_4 => ?_) (fun c_4 => ?_)
        · skip
          have c_4 : (f 0) = 0 := (lg_cmp_eq _ _).mp c_4
          refine lv_goto (tgt := 1342) hx hb d_L_law_392 (by decide) ?_
          exact k H1 locs1 hK3 hS ls (lv_sub hl [2, 3, 4, 5, 6] rfl)
        · skip
          have c_4 : ¬ ((f 0) = 0) := fun h => c_4 ((lg_cmp_eq _ _).mpr h)
          exact absurd ((hv c_2).trans (by rw [c_3]; decide)) c_4
      · skip
        have c_3 : bv = true := pi_b_1.mp c_3
        refine lv_lconst (v := 1) hx hb d_L_law_381 (by decide) ?_
        refine lv_goto (tgt := 386) hx hb d_L_law_382 (by decide) ?_
        refine W.lcmp hx hb d_L_law_386 ?_
        refine lv_if_eq (tgt := 392) hx hb d_L_law_387 (by decide) (fun c_5 => ?_) (fun c_5 => ?_)
        · skip
          have c_5 : (f 0) = 1 := (lg_cmp_eq _ _).mp c_5
          refine lv_goto (tgt := 1342) hx hb d_L_law_392 (by decide) ?_
          exact k H1 locs1 hK3 hS ls (lv_sub hl [2, 3, 4, 5, 6] rfl)
        · skip
          have c_5 : ¬ ((f 0) = 1) := fun h => c_5 ((lg_cmp_eq _ _).mpr h)
          exact absurd ((hv c_2).trans (by rw [c_3]; decide)) c_5
  · skip
    exact absurd (rfl : kc = kc) c_1
set_option maxRecDepth 100000 in
set_option maxHeartbeats 4000000 in
theorem law_unsure {p : Program} {e : Env} {s : State} {m : MethodId} {below : List Frame} {meth : Method} {c : Code} {l : Launch} {b L : Nat} {xs : Nat → Int32} (C0 : lw_At p s m meth c b L xs) (hL : L ≤ 2560) (G : z_G s (dC, dI) cI cS) (hLX : z_LX s cL) {i a o : Nat} {E : Nat → Nat} {H : Heap} {locs : List Loc} {cells slots mc ms : Nat} {rw rm : Room} {K1 K2 K3 : Heap → Prop} {F1 : Nat → Prop} {kc : Int32} {f : Nat → Int64} {bv : Bool} {Q : State → Prop} (hi : i + 5 ≤ L) (hw : Met l y_L_unsure [Cond.codeWith y_L_unsure b_L_unsure 5 (some .int) [(0, 17, 20, 13)]] rw (z_Pc s [.ref a, .int (xs (i + 1)), .int (xs (i + 2)), .ref o] (fun H' => H'.size = H.size ∧ K1 H')) (z_Qw (fun r H => r = some (.int kc) ∧ K2 H) F1) mc ms F1) (hwr : z_rmk rw room_1 5 mc ms) (hm : ∀ sz, Met l y_M_unsure [Cond.code y_M_unsure b_M_unsure 4 (some .boolean)] rm (z_Pc s [.ref (E 0), .int (xs (i + 1)), .int (xs (i + 2))] (fun H => H.size = sz ∧ K2 H)) (z_Qw (fun r H => r = some (.int (pi_b bv)) ∧ K3 H) (z_fr (z_mF E) sz)) 0 0 (z_fr (z_mF E) sz)) (hmr : z_rmk rm room_1 4 0 0) (hK2 : ∀ H : Heap, K2 H → ∃ fs, z_O (dC, dI) H (E 0) 4 fs) (hK3_ : ∀ H : Heap, K3 H → (∃ mp ms mc mn mm gv, z_Md (dC, dI) cI H E kc mp ms mc mn mm gv) ∧ z_L cL H o 1 f) (hv : kc = 0 → f 0 = (pi_b bv).toInt64) (hF1 : ∀ q, F1 q → s.heap.size ≤ q) (hE : ∀ k, k < 18 → s.heap.size ≤ E k) (hK1 : K1 H) (hS : va_S (fun q => s.heap.size ≤ q) s.heap H locs) (hcell : cells + mc ≤ room_1.cells ∧ slots + ms ≤ room_1.slots) (k : ∀ (H1 : Heap) (locs1 : List Loc), K3 H1 → va_S (fun q => s.heap.size ≤ q) s.heap H1 locs1 → ∀ ls : Array Slot, lv_has ls 7 [(0, .ref b), (1, .ref a), (2, .ref (E 0)), (3, .ref o), (4, .int (nI i))] → W p l e room_1 s m #[Value.ref b] below meth c H1 locs1 (cells + mc) (slots + ms) Q (F0 m 1342 ls [])) : ∀ ls : Array Slot, lv_has ls 7 [(0, .ref b), (1, .ref a), (2, .ref (E 0)), (3, .ref o), (4, .int (nI i))] → W p l e room_1 s m #[Value.ref b] below meth c H locs cells slots Q (F0 m 395 ls []) := by
  obtain ⟨hx, hb, hr, hml, hown, hts0, hX, hbl, hlocks, hgv⟩ := C0
  have hts : ∀ w ∈ z_tbl, w.before #[Value.ref b] s = true := fun w hw => hts0 w (List.mem_filter.mp hw).1
  have hK := G.2.2.1
  have hAL := hLX.1
  intro ls hl
  refine lv_aload_n hx hb d_L_law_395 rfl (lv_at hl 1 rfl) ?_
  refine lv_aload_n hx hb d_L_law_396 rfl (lv_at hl 0 rfl) ?_
  refine lv_iload hx hb d_L_law_397 (lv_at hl 4 rfl) ?_
  refine lv_iconst (v := 1) hx hb d_L_law_399 (by decide) ?_
  refine lv_iadd hx hb d_L_law_400 ?_
  refine z_topi (y := nI (i + 1)) (nI_add i 1) ?_
  refine z_sld (j := i + 1) hx hb hX hbl (Nat.not_le.mpr hbl) hS (by omega) (by omega) d_L_law_401 ?_
  refine lv_aload_n hx hb d_L_law_402 rfl (lv_at hl 0 rfl) ?_
  refine lv_iload hx hb d_L_law_403 (lv_at hl 4 rfl) ?_
  refine lv_iconst (v := 2) hx hb d_L_law_405 (by decide) ?_
  refine lv_iadd hx hb d_L_law_406 ?_
  refine z_topi (y := nI (i + 2)) (nI_add i 2) ?_
  refine z_sld (j := i + 2) hx hb hX hbl (Nat.not_le.mpr hbl) hS (by omega) (by omega) d_L_law_407 ?_
  refine lv_aload_n hx hb d_L_law_408 rfl (lv_at hl 3 rfl) ?_
  refine z_wrT (n := 4) (rest := []) ⟨hx, hb, hml, hown, hts⟩ (State.WarmedH.refl s) hw w_344 w_342 w_343 w_0 (by decide +kernel) hwr ⟨rfl, hK1⟩ rfl rfl hl.1 (Nat.le_of_ble_eq_true rfl) d_L_law_409 hcell hS hF1 (fun H1 locs1 hK2_ hz1 hk1 hS => ?_)
  obtain ⟨fs2, hO2⟩ := hK2 _ hK2_
  refine lv_istore (lv' := [(5, .int kc), (0, .ref b), (1, .ref a), (2, .ref (E 0)), (3, .ref o), (4, .int (nI i))]) hx hb d_L_law_412 hl (by decide) rfl (fun ls hl => ?_)
  refine lv_aload_n hx hb d_L_law_414 rfl (lv_at hl 3 rfl) ?_
  refine lv_aload_n hx hb d_L_law_415 rfl (lv_at hl 1 rfl) ?_
  refine lv_iload hx hb d_L_law_416 (lv_at hl 5 rfl) ?_
  refine lv_iconst (v := 1) hx hb d_L_law_418 (by decide) ?_
  refine lv_iadd hx hb d_L_law_419 ?_
  refine z_topi (y := nI (i + 1)) (nI_add i 1) ?_
  refine z_sld (j := i + 1) hx hb hX hbl (Nat.not_le.mpr hbl) hS (by omega) (by omega) d_L_law_420 ?_
  refine lv_aload_n hx hb d_L_law_421 rfl (lv_at hl 1 rfl) ?_
  refine lv_iload hx hb d_L_law_422 (lv_at hl 5 rfl) ?_
  refine lv_iconst (v := 2) hx hb d_L_law_424 (by decide) ?_
  refine lv_iadd hx hb d_L_law_425 ?_
  refine z_topi (y := nI (i + 2)) (nI_add i 2) ?_
  refine z_sld (j := i + 2) hx hb hX hbl (Nat.not_le.mpr hbl) hS (by omega) (by omega) d_L_law_426 ?_
  refine z_wrV (n := 2) (C := R_M) (rest := []) ⟨hx, hb, hml, hown, hts⟩ (State.WarmedH.refl s) (hm _) w_677 w_674 w_675 w_676 w_4 (by decide +kernel) hmr (hO2.recv hK rfl) ⟨rfl, hK2_⟩ rfl rfl hl.1 (Nat.le_of_ble_eq_true rfl) d_L_law_427 hcell hS (fun q h => h.elim (fun h => by obtain ⟨k9, h9, e9⟩ := h; rw [e9]; exact hE k9 h9) (fun h => Nat.le_trans hS.1 h)) (fun H1 locs1 hK3 hz2 hk2 hS => ?_)
  refine lv_istore (lv' := [(6, .int (pi_b bv)), (5, .int kc), (0, .ref b), (1, .ref a), (2, .ref (E 0)), (3, .ref o), (4, .int (nI i))]) hx hb d_L_law_430 hl (by decide) rfl (fun ls hl => ?_)
  refine lv_aload_n hx hb d_L_law_432 rfl (lv_at hl 4 rfl) ?_
  obtain ⟨⟨mp, ms_, mc_, mn, mm, gv, hMd⟩, hL3⟩ := hK3_ _ hK3
  refine z_rdV (n := 0) (C := R_M) (rest := []) ⟨hx, hb, hml, hown, hts⟩ (State.WarmedH.refl s) (c_M_thrown G E kc mp ms_ mc_ mn mm gv) w_613 w_610 w_611 w_612 w_4 (by decide +kernel) ⟨rfl, rfl, Nat.le_of_ble_eq_true rfl, Nat.le_of_ble_eq_true rfl⟩ (hMd.1.1.recv hK rfl) hMd rfl rfl hl.1 (Nat.le_of_ble_eq_true rfl) d_L_law_433 hcell ?_
  refine lv_iload hx hb d_L_law_436 (lv_at hl 1 rfl) ?_
  refine lv_icmp_eq (tgt := 443) hx hb d_L_law_438 (by decide) (fun c_1 => ?_) (fun c_1 => ?_)
  · skip
    refine lv_iload hx hb d_L_law_443 (lv_at hl 1 rfl) ?_
    refine lv_if_ne (tgt := 467) hx hb d_L_law_445 (by decide) (fun c_2 => ?_) (fun c_2 => ?_)
    · skip
      refine lv_goto (tgt := 1342) hx hb d_L_law_467 (by decide) ?_
      exact k H1 locs1 hK3 hS ls (lv_sub hl [2, 3, 4, 5, 6] rfl)
    · skip
      refine lv_aload_n hx hb d_L_law_448 rfl (lv_at hl 5 rfl) ?_
      refine lv_iconst (v := 0) hx hb d_L_law_449 (by decide) ?_
      refine z_lald hx hb hAL hL3 d_L_law_450 ?_
      refine lv_iload hx hb d_L_law_451 (lv_at hl 0 rfl) ?_
      refine lv_if_eq (tgt := 460) hx hb d_L_law_453 (by decide) (fun c_3 => ?_) (fun c_3 => ?_)
      · skip
        have c_3 : bv = false := pi_b_0.mp c_3
        refine lv_lconst (v := 0) hx hb d_L_law_460 (by decide) ?_
        refine W.lcmp hx hb d_L_law_461 ?_
        refine lv_if_eq (tgt := 467) hx hb d_L_law_462 (by decide) (fun c_4 => ?_) (fun c_4 => ?_)
        · skip
          have c_4 : (f 0) = 0 := (lg_cmp_eq _ _).mp c_4
          refine lv_goto (tgt := 1342) hx hb d_L_law_467 (by decide) ?_
          exact k H1 locs1 hK3 hS ls (lv_sub hl [2, 3, 4, 5, 6] rfl)
        · skip
          have c_4 : ¬ ((f 0) = 0) := fun h => c_4 ((lg_cmp_eq _ _).mpr h)
          exact absurd ((hv c_2).trans (by rw [c_3]; decide)) c_4
      · skip
        have c_3 : bv = true := pi_b_1.mp c_3
        refine lv_lconst (v := 1) hx hb d_L_law_456 (by decide) ?_
        refine lv_goto (tgt := 461) hx hb d_L_law_457 (by decide) ?_
        refine W.lcmp hx hb d_L_law_461 ?_
        refine lv_if_eq (tgt := 467) hx hb d_L_law_462 (by decide) (fun c_5 => ?_) (fun c_5 => ?_)
        · skip
          have c_5 : (f 0) = 1 := (lg_cmp_eq _ _).mp c_5
          refine lv_goto (tgt := 1342) hx hb d_L_law_467 (by decide) ?_
          exact k H1 locs1 hK3 hS ls (lv_sub hl [2, 3, 4, 5, 6] rfl)
        · skip
          have c_5 : ¬ ((f 0) = 1) := fun h => c_5 ((lg_cmp_eq _ _).mpr h)
          exact absurd ((hv c_2).trans (by rw [c_3]; decide)) c_5
  · skip
    exact absurd (rfl : kc = kc) c_1
set_option maxRecDepth 100000 in
set_option maxHeartbeats 4000000 in
theorem law_force {p : Program} {e : Env} {s : State} {m : MethodId} {below : List Frame} {meth : Method} {c : Code} {l : Launch} {b L : Nat} {xs : Nat → Int32} (C0 : lw_At p s m meth c b L xs) (hL : L ≤ 2560) (G : z_G s (dC, dI) cI cS) (hLX : z_LX s cL) {i a o : Nat} {E : Nat → Nat} {H : Heap} {locs : List Loc} {cells slots mc ms : Nat} {rw rm : Room} {K1 K2 K3 : Heap → Prop} {F1 : Nat → Prop} {kc : Int32} {f : Nat → Int64} {bv : Int32} {Q : State → Prop} (hi : i + 5 ≤ L) (hw : Met l y_L_force [Cond.codeWith y_L_force b_L_force 5 (some .int) [(0, 10, 13, 13), (0, 10, 17, 21)]] rw (z_Pc s [.ref a, .int (xs (i + 1)), .int (xs (i + 2)), .ref o] (fun H' => H'.size = H.size ∧ K1 H')) (z_Qw (fun r H => r = some (.int kc) ∧ K2 H) F1) mc ms F1) (hwr : z_rmk rw room_1 5 mc ms) (hm : ∀ sz, Met l y_M_force [Cond.code y_M_force b_M_force 3 (some .int)] rm (z_Pc s [.ref (E 0), .int (xs (i + 1)), .int (xs (i + 2))] (fun H => H.size = sz ∧ K2 H)) (z_Qw (fun r H => r = some (.int bv) ∧ K3 H) (z_fr (z_mF E) sz)) 0 0 (z_fr (z_mF E) sz)) (hmr : z_rmk rm room_1 3 0 0) (hK2 : ∀ H : Heap, K2 H → ∃ fs, z_O (dC, dI) H (E 0) 4 fs) (hK3_ : ∀ H : Heap, K3 H → (∃ mp ms mc mn mm gv, z_Md (dC, dI) cI H E kc mp ms mc mn mm gv) ∧ z_L cL H o 1 f) (hv : kc = 0 → f 0 = bv.toInt64) (hF1 : ∀ q, F1 q → s.heap.size ≤ q) (hE : ∀ k, k < 18 → s.heap.size ≤ E k) (hK1 : K1 H) (hS : va_S (fun q => s.heap.size ≤ q) s.heap H locs) (hcell : cells + mc ≤ room_1.cells ∧ slots + ms ≤ room_1.slots) (k : ∀ (H1 : Heap) (locs1 : List Loc), K3 H1 → va_S (fun q => s.heap.size ≤ q) s.heap H1 locs1 → ∀ ls : Array Slot, lv_has ls 7 [(0, .ref b), (1, .ref a), (2, .ref (E 0)), (3, .ref o), (4, .int (nI i))] → W p l e room_1 s m #[Value.ref b] below meth c H1 locs1 (cells + mc) (slots + ms) Q (F0 m 1342 ls [])) : ∀ ls : Array Slot, lv_has ls 7 [(0, .ref b), (1, .ref a), (2, .ref (E 0)), (3, .ref o), (4, .int (nI i))] → W p l e room_1 s m #[Value.ref b] below meth c H locs cells slots Q (F0 m 470 ls []) := by
  obtain ⟨hx, hb, hr, hml, hown, hts0, hX, hbl, hlocks, hgv⟩ := C0
  have hts : ∀ w ∈ z_tbl, w.before #[Value.ref b] s = true := fun w hw => hts0 w (List.mem_filter.mp hw).1
  have hK := G.2.2.1
  have hAL := hLX.1
  intro ls hl
  refine lv_aload_n hx hb d_L_law_470 rfl (lv_at hl 1 rfl) ?_
  refine lv_aload_n hx hb d_L_law_471 rfl (lv_at hl 0 rfl) ?_
  refine lv_iload hx hb d_L_law_472 (lv_at hl 4 rfl) ?_
  refine lv_iconst (v := 1) hx hb d_L_law_474 (by decide) ?_
  refine lv_iadd hx hb d_L_law_475 ?_
  refine z_topi (y := nI (i + 1)) (nI_add i 1) ?_
  refine z_sld (j := i + 1) hx hb hX hbl (Nat.not_le.mpr hbl) hS (by omega) (by omega) d_L_law_476 ?_
  refine lv_aload_n hx hb d_L_law_477 rfl (lv_at hl 0 rfl) ?_
  refine lv_iload hx hb d_L_law_478 (lv_at hl 4 rfl) ?_
  refine lv_iconst (v := 2) hx hb d_L_law_480 (by decide) ?_
  refine lv_iadd hx hb d_L_law_481 ?_
  refine z_topi (y := nI (i + 2)) (nI_add i 2) ?_
  refine z_sld (j := i + 2) hx hb hX hbl (Nat.not_le.mpr hbl) hS (by omega) (by omega) d_L_law_482 ?_
  refine lv_aload_n hx hb d_L_law_483 rfl (lv_at hl 3 rfl) ?_
  refine z_wrT (n := 4) (rest := []) ⟨hx, hb, hml, hown, hts⟩ (State.WarmedH.refl s) hw w_355 w_353 w_354 w_0 (by decide +kernel) hwr ⟨rfl, hK1⟩ rfl rfl hl.1 (Nat.le_of_ble_eq_true rfl) d_L_law_484 hcell hS hF1 (fun H1 locs1 hK2_ hz1 hk1 hS => ?_)
  obtain ⟨fs2, hO2⟩ := hK2 _ hK2_
  refine lv_istore (lv' := [(5, .int kc), (0, .ref b), (1, .ref a), (2, .ref (E 0)), (3, .ref o), (4, .int (nI i))]) hx hb d_L_law_487 hl (by decide) rfl (fun ls hl => ?_)
  refine lv_aload_n hx hb d_L_law_489 rfl (lv_at hl 3 rfl) ?_
  refine lv_aload_n hx hb d_L_law_490 rfl (lv_at hl 1 rfl) ?_
  refine lv_iload hx hb d_L_law_491 (lv_at hl 5 rfl) ?_
  refine lv_iconst (v := 1) hx hb d_L_law_493 (by decide) ?_
  refine lv_iadd hx hb d_L_law_494 ?_
  refine z_topi (y := nI (i + 1)) (nI_add i 1) ?_
  refine z_sld (j := i + 1) hx hb hX hbl (Nat.not_le.mpr hbl) hS (by omega) (by omega) d_L_law_495 ?_
  refine lv_aload_n hx hb d_L_law_496 rfl (lv_at hl 1 rfl) ?_
  refine lv_iload hx hb d_L_law_497 (lv_at hl 5 rfl) ?_
  refine lv_iconst (v := 2) hx hb d_L_law_499 (by decide) ?_
  refine lv_iadd hx hb d_L_law_500 ?_
  refine z_topi (y := nI (i + 2)) (nI_add i 2) ?_
  refine z_sld (j := i + 2) hx hb hX hbl (Nat.not_le.mpr hbl) hS (by omega) (by omega) d_L_law_501 ?_
  refine z_wrV (n := 2) (C := R_M) (rest := []) ⟨hx, hb, hml, hown, hts⟩ (State.WarmedH.refl s) (hm _) w_685 w_682 w_683 w_684 w_4 (by decide +kernel) hmr (hO2.recv hK rfl) ⟨rfl, hK2_⟩ rfl rfl hl.1 (Nat.le_of_ble_eq_true rfl) d_L_law_502 hcell hS (fun q h => h.elim (fun h => by obtain ⟨k9, h9, e9⟩ := h; rw [e9]; exact hE k9 h9) (fun h => Nat.le_trans hS.1 h)) (fun H1 locs1 hK3 hz2 hk2 hS => ?_)
  refine lv_istore (lv' := [(6, .int bv), (5, .int kc), (0, .ref b), (1, .ref a), (2, .ref (E 0)), (3, .ref o), (4, .int (nI i))]) hx hb d_L_law_505 hl (by decide) rfl (fun ls hl => ?_)
  refine lv_aload_n hx hb d_L_law_507 rfl (lv_at hl 4 rfl) ?_
  obtain ⟨⟨mp, ms_, mc_, mn, mm, gv, hMd⟩, hL3⟩ := hK3_ _ hK3
  refine z_rdV (n := 0) (C := R_M) (rest := []) ⟨hx, hb, hml, hown, hts⟩ (State.WarmedH.refl s) (c_M_thrown G E kc mp ms_ mc_ mn mm gv) w_613 w_610 w_611 w_612 w_4 (by decide +kernel) ⟨rfl, rfl, Nat.le_of_ble_eq_true rfl, Nat.le_of_ble_eq_true rfl⟩ (hMd.1.1.recv hK rfl) hMd rfl rfl hl.1 (Nat.le_of_ble_eq_true rfl) d_L_law_508 hcell ?_
  refine lv_iload hx hb d_L_law_511 (lv_at hl 1 rfl) ?_
  refine lv_icmp_eq (tgt := 518) hx hb d_L_law_513 (by decide) (fun c_1 => ?_) (fun c_1 => ?_)
  · skip
    refine lv_iload hx hb d_L_law_518 (lv_at hl 1 rfl) ?_
    refine lv_if_ne (tgt := 535) hx hb d_L_law_520 (by decide) (fun c_2 => ?_) (fun c_2 => ?_)
    · skip
      refine lv_goto (tgt := 1342) hx hb d_L_law_535 (by decide) ?_
      exact k H1 locs1 hK3 hS ls (lv_sub hl [2, 3, 4, 5, 6] rfl)
    · skip
      refine lv_aload_n hx hb d_L_law_523 rfl (lv_at hl 5 rfl) ?_
      refine lv_iconst (v := 0) hx hb d_L_law_524 (by decide) ?_
      refine z_lald hx hb hAL hL3 d_L_law_525 ?_
      refine lv_iload hx hb d_L_law_526 (lv_at hl 0 rfl) ?_
      refine lv_i2l hx hb d_L_law_528 rfl ?_
      refine W.lcmp hx hb d_L_law_529 ?_
      refine lv_if_eq (tgt := 535) hx hb d_L_law_530 (by decide) (fun c_3 => ?_) (fun c_3 => ?_)
      · skip
        have c_3 : (f 0) = bv.toInt64 := (lg_cmp_eq _ _).mp c_3
        refine lv_goto (tgt := 1342) hx hb d_L_law_535 (by decide) ?_
        exact k H1 locs1 hK3 hS ls (lv_sub hl [2, 3, 4, 5, 6] rfl)
      · skip
        have c_3 : ¬ ((f 0) = bv.toInt64) := fun h => c_3 ((lg_cmp_eq _ _).mpr h)
        exact absurd (hv c_2) c_3
  · skip
    exact absurd (rfl : kc = kc) c_1
set_option maxRecDepth 100000 in
set_option maxHeartbeats 4000000 in
theorem law_inside {p : Program} {e : Env} {s : State} {m : MethodId} {below : List Frame} {meth : Method} {c : Code} {l : Launch} {b L : Nat} {xs : Nat → Int32} (C0 : lw_At p s m meth c b L xs) (hL : L ≤ 2560) (G : z_G s (dC, dI) cI cS) (hLX : z_LX s cL) {i a o : Nat} {E : Nat → Nat} {H : Heap} {locs : List Loc} {cells slots mc ms : Nat} {rw rm : Room} {K1 K2 K3 : Heap → Prop} {F1 : Nat → Prop} {kc : Int32} {f : Nat → Int64} {bv : Int32} {Q : State → Prop} (hi : i + 5 ≤ L) (hw : Met l y_L_inside [Cond.codeWith y_L_inside b_L_inside 7 (some .int) [(0, 14, 17, 13), (0, 14, 21, 21)]] rw (z_Pc s [.ref a, .int (xs (i + 1)), .int (xs (i + 2)), .int (xs (i + 3)), .int (xs (i + 4)), .ref o] (fun H' => H'.size = H.size ∧ K1 H')) (z_Qw (fun r H => r = some (.int kc) ∧ K2 H) F1) mc ms F1) (hwr : z_rmk rw room_1 7 mc ms) (hm : ∀ sz, Met l y_M_inside [Cond.code y_M_inside b_M_inside 8 (some .int)] rm (z_Pc s [.ref (E 0), .int (xs (i + 1)), .int (xs (i + 2)), .int (xs (i + 3)), .int (xs (i + 4))] (fun H => H.size = sz ∧ K2 H)) (z_Qw (fun r H => r = some (.int bv) ∧ K3 H) (z_fr (z_mF E) sz)) 0 0 (z_fr (z_mF E) sz)) (hmr : z_rmk rm room_1 8 0 0) (hK2 : ∀ H : Heap, K2 H → ∃ fs, z_O (dC, dI) H (E 0) 4 fs) (hK3_ : ∀ H : Heap, K3 H → (∃ mp ms mc mn mm gv, z_Md (dC, dI) cI H E kc mp ms mc mn mm gv) ∧ z_L cL H o 1 f) (hv : kc = 0 → f 0 = bv.toInt64) (hF1 : ∀ q, F1 q → s.heap.size ≤ q) (hE : ∀ k, k < 18 → s.heap.size ≤ E k) (hK1 : K1 H) (hS : va_S (fun q => s.heap.size ≤ q) s.heap H locs) (hcell : cells + mc ≤ room_1.cells ∧ slots + ms ≤ room_1.slots) (k : ∀ (H1 : Heap) (locs1 : List Loc), K3 H1 → va_S (fun q => s.heap.size ≤ q) s.heap H1 locs1 → ∀ ls : Array Slot, lv_has ls 7 [(0, .ref b), (1, .ref a), (2, .ref (E 0)), (3, .ref o), (4, .int (nI i))] → W p l e room_1 s m #[Value.ref b] below meth c H1 locs1 (cells + mc) (slots + ms) Q (F0 m 1342 ls [])) : ∀ ls : Array Slot, lv_has ls 7 [(0, .ref b), (1, .ref a), (2, .ref (E 0)), (3, .ref o), (4, .int (nI i))] → W p l e room_1 s m #[Value.ref b] below meth c H locs cells slots Q (F0 m 538 ls []) := by
  obtain ⟨hx, hb, hr, hml, hown, hts0, hX, hbl, hlocks, hgv⟩ := C0
  have hts : ∀ w ∈ z_tbl, w.before #[Value.ref b] s = true := fun w hw => hts0 w (List.mem_filter.mp hw).1
  have hK := G.2.2.1
  have hAL := hLX.1
  intro ls hl
  refine lv_aload_n hx hb d_L_law_538 rfl (lv_at hl 1 rfl) ?_
  refine lv_aload_n hx hb d_L_law_539 rfl (lv_at hl 0 rfl) ?_
  refine lv_iload hx hb d_L_law_540 (lv_at hl 4 rfl) ?_
  refine lv_iconst (v := 1) hx hb d_L_law_542 (by decide) ?_
  refine lv_iadd hx hb d_L_law_543 ?_
  refine z_topi (y := nI (i + 1)) (nI_add i 1) ?_
  refine z_sld (j := i + 1) hx hb hX hbl (Nat.not_le.mpr hbl) hS (by omega) (by omega) d_L_law_544 ?_
  refine lv_aload_n hx hb d_L_law_545 rfl (lv_at hl 0 rfl) ?_
  refine lv_iload hx hb d_L_law_546 (lv_at hl 4 rfl) ?_
  refine lv_iconst (v := 2) hx hb d_L_law_548 (by decide) ?_
  refine lv_iadd hx hb d_L_law_549 ?_
  refine z_topi (y := nI (i + 2)) (nI_add i 2) ?_
  refine z_sld (j := i + 2) hx hb hX hbl (Nat.not_le.mpr hbl) hS (by omega) (by omega) d_L_law_550 ?_
  refine lv_aload_n hx hb d_L_law_551 rfl (lv_at hl 0 rfl) ?_
  refine lv_iload hx hb d_L_law_552 (lv_at hl 4 rfl) ?_
  refine lv_iconst (v := 3) hx hb d_L_law_554 (by decide) ?_
  refine lv_iadd hx hb d_L_law_555 ?_
  refine z_topi (y := nI (i + 3)) (nI_add i 3) ?_
  refine z_sld (j := i + 3) hx hb hX hbl (Nat.not_le.mpr hbl) hS (by omega) (by omega) d_L_law_556 ?_
  refine lv_aload_n hx hb d_L_law_557 rfl (lv_at hl 0 rfl) ?_
  refine lv_iload hx hb d_L_law_558 (lv_at hl 4 rfl) ?_
  refine lv_iconst (v := 4) hx hb d_L_law_560 (by decide) ?_
  refine lv_iadd hx hb d_L_law_561 ?_
  refine z_topi (y := nI (i + 4)) (nI_add i 4) ?_
  refine z_sld (j := i + 4) hx hb hX hbl (Nat.not_le.mpr hbl) hS (by omega) (by omega) d_L_law_562 ?_
  refine lv_aload_n hx hb d_L_law_563 rfl (lv_at hl 3 rfl) ?_
  refine z_wrT (n := 6) (rest := []) ⟨hx, hb, hml, hown, hts⟩ (State.WarmedH.refl s) hw w_370 w_368 w_369 w_0 (by decide +kernel) hwr ⟨rfl, hK1⟩ rfl rfl hl.1 (Nat.le_of_ble_eq_true rfl) d_L_law_564 hcell hS hF1 (fun H1 locs1 hK2_ hz1 hk1 hS => ?_)
  obtain ⟨fs2, hO2⟩ := hK2 _ hK2_
  refine lv_istore (lv' := [(5, .int kc), (0, .ref b), (1, .ref a), (2, .ref (E 0)), (3, .ref o), (4, .int (nI i))]) hx hb d_L_law_567 hl (by decide) rfl (fun ls hl => ?_)
  refine lv_aload_n hx hb d_L_law_569 rfl (lv_at hl 3 rfl) ?_
  refine lv_aload_n hx hb d_L_law_570 rfl (lv_at hl 1 rfl) ?_
  refine lv_iload hx hb d_L_law_571 (lv_at hl 5 rfl) ?_
  refine lv_iconst (v := 1) hx hb d_L_law_573 (by decide) ?_
  refine lv_iadd hx hb d_L_law_574 ?_
  refine z_topi (y := nI (i + 1)) (nI_add i 1) ?_
  refine z_sld (j := i + 1) hx hb hX hbl (Nat.not_le.mpr hbl) hS (by omega) (by omega) d_L_law_575 ?_
  refine lv_aload_n hx hb d_L_law_576 rfl (lv_at hl 1 rfl) ?_
  refine lv_iload hx hb d_L_law_577 (lv_at hl 5 rfl) ?_
  refine lv_iconst (v := 2) hx hb d_L_law_579 (by decide) ?_
  refine lv_iadd hx hb d_L_law_580 ?_
  refine z_topi (y := nI (i + 2)) (nI_add i 2) ?_
  refine z_sld (j := i + 2) hx hb hX hbl (Nat.not_le.mpr hbl) hS (by omega) (by omega) d_L_law_581 ?_
  refine lv_aload_n hx hb d_L_law_582 rfl (lv_at hl 1 rfl) ?_
  refine lv_iload hx hb d_L_law_583 (lv_at hl 5 rfl) ?_
  refine lv_iconst (v := 3) hx hb d_L_law_585 (by decide) ?_
  refine lv_iadd hx hb d_L_law_586 ?_
  refine z_topi (y := nI (i + 3)) (nI_add i 3) ?_
  refine z_sld (j := i + 3) hx hb hX hbl (Nat.not_le.mpr hbl) hS (by omega) (by omega) d_L_law_587 ?_
  refine lv_aload_n hx hb d_L_law_588 rfl (lv_at hl 1 rfl) ?_
  refine lv_iload hx hb d_L_law_589 (lv_at hl 5 rfl) ?_
  refine lv_iconst (v := 4) hx hb d_L_law_591 (by decide) ?_
  refine lv_iadd hx hb d_L_law_592 ?_
  refine z_topi (y := nI (i + 4)) (nI_add i 4) ?_
  refine z_sld (j := i + 4) hx hb hX hbl (Nat.not_le.mpr hbl) hS (by omega) (by omega) d_L_law_593 ?_
  refine z_wrV (n := 4) (C := R_M) (rest := []) ⟨hx, hb, hml, hown, hts⟩ (State.WarmedH.refl s) (hm _) w_693 w_690 w_691 w_692 w_4 (by decide +kernel) hmr (hO2.recv hK rfl) ⟨rfl, hK2_⟩ rfl rfl hl.1 (Nat.le_of_ble_eq_true rfl) d_L_law_594 hcell hS (fun q h => h.elim (fun h => by obtain ⟨k9, h9, e9⟩ := h; rw [e9]; exact hE k9 h9) (fun h => Nat.le_trans hS.1 h)) (fun H1 locs1 hK3 hz2 hk2 hS => ?_)
  refine lv_istore (lv' := [(6, .int bv), (5, .int kc), (0, .ref b), (1, .ref a), (2, .ref (E 0)), (3, .ref o), (4, .int (nI i))]) hx hb d_L_law_597 hl (by decide) rfl (fun ls hl => ?_)
  refine lv_aload_n hx hb d_L_law_599 rfl (lv_at hl 4 rfl) ?_
  obtain ⟨⟨mp, ms_, mc_, mn, mm, gv, hMd⟩, hL3⟩ := hK3_ _ hK3
  refine z_rdV (n := 0) (C := R_M) (rest := []) ⟨hx, hb, hml, hown, hts⟩ (State.WarmedH.refl s) (c_M_thrown G E kc mp ms_ mc_ mn mm gv) w_613 w_610 w_611 w_612 w_4 (by decide +kernel) ⟨rfl, rfl, Nat.le_of_ble_eq_true rfl, Nat.le_of_ble_eq_true rfl⟩ (hMd.1.1.recv hK rfl) hMd rfl rfl hl.1 (Nat.le_of_ble_eq_true rfl) d_L_law_600 hcell ?_
  refine lv_iload hx hb d_L_law_603 (lv_at hl 1 rfl) ?_
  refine lv_icmp_eq (tgt := 610) hx hb d_L_law_605 (by decide) (fun c_1 => ?_) (fun c_1 => ?_)
  · skip
    refine lv_iload hx hb d_L_law_610 (lv_at hl 1 rfl) ?_
    refine lv_if_ne (tgt := 627) hx hb d_L_law_612 (by decide) (fun c_2 => ?_) (fun c_2 => ?_)
    · skip
      refine lv_goto (tgt := 1342) hx hb d_L_law_627 (by decide) ?_
      exact k H1 locs1 hK3 hS ls (lv_sub hl [2, 3, 4, 5, 6] rfl)
    · skip
      refine lv_aload_n hx hb d_L_law_615 rfl (lv_at hl 5 rfl) ?_
      refine lv_iconst (v := 0) hx hb d_L_law_616 (by decide) ?_
      refine z_lald hx hb hAL hL3 d_L_law_617 ?_
      refine lv_iload hx hb d_L_law_618 (lv_at hl 0 rfl) ?_
      refine lv_i2l hx hb d_L_law_620 rfl ?_
      refine W.lcmp hx hb d_L_law_621 ?_
      refine lv_if_eq (tgt := 627) hx hb d_L_law_622 (by decide) (fun c_3 => ?_) (fun c_3 => ?_)
      · skip
        have c_3 : (f 0) = bv.toInt64 := (lg_cmp_eq _ _).mp c_3
        refine lv_goto (tgt := 1342) hx hb d_L_law_627 (by decide) ?_
        exact k H1 locs1 hK3 hS ls (lv_sub hl [2, 3, 4, 5, 6] rfl)
      · skip
        have c_3 : ¬ ((f 0) = bv.toInt64) := fun h => c_3 ((lg_cmp_eq _ _).mpr h)
        exact absurd (hv c_2) c_3
  · skip
    exact absurd (rfl : kc = kc) c_1
set_option maxRecDepth 100000 in
set_option maxHeartbeats 4000000 in
theorem law_threeWay {p : Program} {e : Env} {s : State} {m : MethodId} {below : List Frame} {meth : Method} {c : Code} {l : Launch} {b L : Nat} {xs : Nat → Int32} (C0 : lw_At p s m meth c b L xs) (hL : L ≤ 2560) (G : z_G s (dC, dI) cI cS) (hLX : z_LX s cL) {i a o : Nat} {E : Nat → Nat} {H : Heap} {locs : List Loc} {cells slots mc ms : Nat} {rw rm : Room} {K1 K2 K3 : Heap → Prop} {F1 : Nat → Prop} {kc : Int32} {f : Nat → Int64} {bv : Int32} {Q : State → Prop} (hi : i + 5 ≤ L) (hw : Met l y_L_threeWay [Cond.codeWith y_L_threeWay b_L_threeWay 7 (some .int) [(0, 14, 17, 13), (0, 14, 21, 21)]] rw (z_Pc s [.ref a, .int (xs (i + 1)), .int (xs (i + 2)), .int (xs (i + 3)), .int (xs (i + 4)), .ref o] (fun H' => H'.size = H.size ∧ K1 H')) (z_Qw (fun r H => r = some (.int kc) ∧ K2 H) F1) mc ms F1) (hwr : z_rmk rw room_1 7 mc ms) (hm : ∀ sz, Met l y_M_threeWay [Cond.code y_M_threeWay b_M_threeWay 8 (some .int)] rm (z_Pc s [.ref (E 0), .int (xs (i + 1)), .int (xs (i + 2)), .int (xs (i + 3)), .int (xs (i + 4))] (fun H => H.size = sz ∧ K2 H)) (z_Qw (fun r H => r = some (.int bv) ∧ K3 H) (z_fr (z_mF E) sz)) 0 0 (z_fr (z_mF E) sz)) (hmr : z_rmk rm room_1 8 0 0) (hK2 : ∀ H : Heap, K2 H → ∃ fs, z_O (dC, dI) H (E 0) 4 fs) (hK3_ : ∀ H : Heap, K3 H → (∃ mp ms mc mn mm gv, z_Md (dC, dI) cI H E kc mp ms mc mn mm gv) ∧ z_L cL H o 1 f) (hv : kc = 0 → f 0 = bv.toInt64) (hF1 : ∀ q, F1 q → s.heap.size ≤ q) (hE : ∀ k, k < 18 → s.heap.size ≤ E k) (hK1 : K1 H) (hS : va_S (fun q => s.heap.size ≤ q) s.heap H locs) (hcell : cells + mc ≤ room_1.cells ∧ slots + ms ≤ room_1.slots) (k : ∀ (H1 : Heap) (locs1 : List Loc), K3 H1 → va_S (fun q => s.heap.size ≤ q) s.heap H1 locs1 → ∀ ls : Array Slot, lv_has ls 7 [(0, .ref b), (1, .ref a), (2, .ref (E 0)), (3, .ref o), (4, .int (nI i))] → W p l e room_1 s m #[Value.ref b] below meth c H1 locs1 (cells + mc) (slots + ms) Q (F0 m 1342 ls [])) : ∀ ls : Array Slot, lv_has ls 7 [(0, .ref b), (1, .ref a), (2, .ref (E 0)), (3, .ref o), (4, .int (nI i))] → W p l e room_1 s m #[Value.ref b] below meth c H locs cells slots Q (F0 m 630 ls []) := by
  obtain ⟨hx, hb, hr, hml, hown, hts0, hX, hbl, hlocks, hgv⟩ := C0
  have hts : ∀ w ∈ z_tbl, w.before #[Value.ref b] s = true := fun w hw => hts0 w (List.mem_filter.mp hw).1
  have hK := G.2.2.1
  have hAL := hLX.1
  intro ls hl
  refine lv_aload_n hx hb d_L_law_630 rfl (lv_at hl 1 rfl) ?_
  refine lv_aload_n hx hb d_L_law_631 rfl (lv_at hl 0 rfl) ?_
  refine lv_iload hx hb d_L_law_632 (lv_at hl 4 rfl) ?_
  refine lv_iconst (v := 1) hx hb d_L_law_634 (by decide) ?_
  refine lv_iadd hx hb d_L_law_635 ?_
  refine z_topi (y := nI (i + 1)) (nI_add i 1) ?_
  refine z_sld (j := i + 1) hx hb hX hbl (Nat.not_le.mpr hbl) hS (by omega) (by omega) d_L_law_636 ?_
  refine lv_aload_n hx hb d_L_law_637 rfl (lv_at hl 0 rfl) ?_
  refine lv_iload hx hb d_L_law_638 (lv_at hl 4 rfl) ?_
  refine lv_iconst (v := 2) hx hb d_L_law_640 (by decide) ?_
  refine lv_iadd hx hb d_L_law_641 ?_
  refine z_topi (y := nI (i + 2)) (nI_add i 2) ?_
  refine z_sld (j := i + 2) hx hb hX hbl (Nat.not_le.mpr hbl) hS (by omega) (by omega) d_L_law_642 ?_
  refine lv_aload_n hx hb d_L_law_643 rfl (lv_at hl 0 rfl) ?_
  refine lv_iload hx hb d_L_law_644 (lv_at hl 4 rfl) ?_
  refine lv_iconst (v := 3) hx hb d_L_law_646 (by decide) ?_
  refine lv_iadd hx hb d_L_law_647 ?_
  refine z_topi (y := nI (i + 3)) (nI_add i 3) ?_
  refine z_sld (j := i + 3) hx hb hX hbl (Nat.not_le.mpr hbl) hS (by omega) (by omega) d_L_law_648 ?_
  refine lv_aload_n hx hb d_L_law_649 rfl (lv_at hl 0 rfl) ?_
  refine lv_iload hx hb d_L_law_650 (lv_at hl 4 rfl) ?_
  refine lv_iconst (v := 4) hx hb d_L_law_652 (by decide) ?_
  refine lv_iadd hx hb d_L_law_653 ?_
  refine z_topi (y := nI (i + 4)) (nI_add i 4) ?_
  refine z_sld (j := i + 4) hx hb hX hbl (Nat.not_le.mpr hbl) hS (by omega) (by omega) d_L_law_654 ?_
  refine lv_aload_n hx hb d_L_law_655 rfl (lv_at hl 3 rfl) ?_
  refine z_wrT (n := 6) (rest := []) ⟨hx, hb, hml, hown, hts⟩ (State.WarmedH.refl s) hw w_389 w_387 w_388 w_0 (by decide +kernel) hwr ⟨rfl, hK1⟩ rfl rfl hl.1 (Nat.le_of_ble_eq_true rfl) d_L_law_656 hcell hS hF1 (fun H1 locs1 hK2_ hz1 hk1 hS => ?_)
  obtain ⟨fs2, hO2⟩ := hK2 _ hK2_
  refine lv_istore (lv' := [(5, .int kc), (0, .ref b), (1, .ref a), (2, .ref (E 0)), (3, .ref o), (4, .int (nI i))]) hx hb d_L_law_659 hl (by decide) rfl (fun ls hl => ?_)
  refine lv_aload_n hx hb d_L_law_661 rfl (lv_at hl 3 rfl) ?_
  refine lv_aload_n hx hb d_L_law_662 rfl (lv_at hl 1 rfl) ?_
  refine lv_iload hx hb d_L_law_663 (lv_at hl 5 rfl) ?_
  refine lv_iconst (v := 1) hx hb d_L_law_665 (by decide) ?_
  refine lv_iadd hx hb d_L_law_666 ?_
  refine z_topi (y := nI (i + 1)) (nI_add i 1) ?_
  refine z_sld (j := i + 1) hx hb hX hbl (Nat.not_le.mpr hbl) hS (by omega) (by omega) d_L_law_667 ?_
  refine lv_aload_n hx hb d_L_law_668 rfl (lv_at hl 1 rfl) ?_
  refine lv_iload hx hb d_L_law_669 (lv_at hl 5 rfl) ?_
  refine lv_iconst (v := 2) hx hb d_L_law_671 (by decide) ?_
  refine lv_iadd hx hb d_L_law_672 ?_
  refine z_topi (y := nI (i + 2)) (nI_add i 2) ?_
  refine z_sld (j := i + 2) hx hb hX hbl (Nat.not_le.mpr hbl) hS (by omega) (by omega) d_L_law_673 ?_
  refine lv_aload_n hx hb d_L_law_674 rfl (lv_at hl 1 rfl) ?_
  refine lv_iload hx hb d_L_law_675 (lv_at hl 5 rfl) ?_
  refine lv_iconst (v := 3) hx hb d_L_law_677 (by decide) ?_
  refine lv_iadd hx hb d_L_law_678 ?_
  refine z_topi (y := nI (i + 3)) (nI_add i 3) ?_
  refine z_sld (j := i + 3) hx hb hX hbl (Nat.not_le.mpr hbl) hS (by omega) (by omega) d_L_law_679 ?_
  refine lv_aload_n hx hb d_L_law_680 rfl (lv_at hl 1 rfl) ?_
  refine lv_iload hx hb d_L_law_681 (lv_at hl 5 rfl) ?_
  refine lv_iconst (v := 4) hx hb d_L_law_683 (by decide) ?_
  refine lv_iadd hx hb d_L_law_684 ?_
  refine z_topi (y := nI (i + 4)) (nI_add i 4) ?_
  refine z_sld (j := i + 4) hx hb hX hbl (Nat.not_le.mpr hbl) hS (by omega) (by omega) d_L_law_685 ?_
  refine z_wrV (n := 4) (C := R_M) (rest := []) ⟨hx, hb, hml, hown, hts⟩ (State.WarmedH.refl s) (hm _) w_701 w_698 w_699 w_700 w_4 (by decide +kernel) hmr (hO2.recv hK rfl) ⟨rfl, hK2_⟩ rfl rfl hl.1 (Nat.le_of_ble_eq_true rfl) d_L_law_686 hcell hS (fun q h => h.elim (fun h => by obtain ⟨k9, h9, e9⟩ := h; rw [e9]; exact hE k9 h9) (fun h => Nat.le_trans hS.1 h)) (fun H1 locs1 hK3 hz2 hk2 hS => ?_)
  refine lv_istore (lv' := [(6, .int bv), (5, .int kc), (0, .ref b), (1, .ref a), (2, .ref (E 0)), (3, .ref o), (4, .int (nI i))]) hx hb d_L_law_689 hl (by decide) rfl (fun ls hl => ?_)
  refine lv_aload_n hx hb d_L_law_691 rfl (lv_at hl 4 rfl) ?_
  obtain ⟨⟨mp, ms_, mc_, mn, mm, gv, hMd⟩, hL3⟩ := hK3_ _ hK3
  refine z_rdV (n := 0) (C := R_M) (rest := []) ⟨hx, hb, hml, hown, hts⟩ (State.WarmedH.refl s) (c_M_thrown G E kc mp ms_ mc_ mn mm gv) w_613 w_610 w_611 w_612 w_4 (by decide +kernel) ⟨rfl, rfl, Nat.le_of_ble_eq_true rfl, Nat.le_of_ble_eq_true rfl⟩ (hMd.1.1.recv hK rfl) hMd rfl rfl hl.1 (Nat.le_of_ble_eq_true rfl) d_L_law_692 hcell ?_
  refine lv_iload hx hb d_L_law_695 (lv_at hl 1 rfl) ?_
  refine lv_icmp_eq (tgt := 702) hx hb d_L_law_697 (by decide) (fun c_1 => ?_) (fun c_1 => ?_)
  · skip
    refine lv_iload hx hb d_L_law_702 (lv_at hl 1 rfl) ?_
    refine lv_if_ne (tgt := 719) hx hb d_L_law_704 (by decide) (fun c_2 => ?_) (fun c_2 => ?_)
    · skip
      refine lv_goto (tgt := 1342) hx hb d_L_law_719 (by decide) ?_
      exact k H1 locs1 hK3 hS ls (lv_sub hl [2, 3, 4, 5, 6] rfl)
    · skip
      refine lv_aload_n hx hb d_L_law_707 rfl (lv_at hl 5 rfl) ?_
      refine lv_iconst (v := 0) hx hb d_L_law_708 (by decide) ?_
      refine z_lald hx hb hAL hL3 d_L_law_709 ?_
      refine lv_iload hx hb d_L_law_710 (lv_at hl 0 rfl) ?_
      refine lv_i2l hx hb d_L_law_712 rfl ?_
      refine W.lcmp hx hb d_L_law_713 ?_
      refine lv_if_eq (tgt := 719) hx hb d_L_law_714 (by decide) (fun c_3 => ?_) (fun c_3 => ?_)
      · skip
        have c_3 : (f 0) = bv.toInt64 := (lg_cmp_eq _ _).mp c_3
        refine lv_goto (tgt := 1342) hx hb d_L_law_719 (by decide) ?_
        exact k H1 locs1 hK3 hS ls (lv_sub hl [2, 3, 4, 5, 6] rfl)
      · skip
        have c_3 : ¬ ((f 0) = bv.toInt64) := fun h => c_3 ((lg_cmp_eq _ _).mpr h)
        exact absurd (hv c_2) c_3
  · skip
    exact absurd (rfl : kc = kc) c_1
set_option maxRecDepth 100000 in
set_option maxHeartbeats 4000000 in
theorem law_area {p : Program} {e : Env} {s : State} {m : MethodId} {below : List Frame} {meth : Method} {c : Code} {l : Launch} {b L : Nat} {xs : Nat → Int32} (C0 : lw_At p s m meth c b L xs) (hL : L ≤ 2560) (G : z_G s (dC, dI) cI cS) (hLX : z_LX s cL) {i a o : Nat} {E : Nat → Nat} {H : Heap} {locs : List Loc} {cells slots mc ms : Nat} {rw rm : Room} {K1 K2 K3 : Heap → Prop} {F1 : Nat → Prop} {kc : Int32} {f : Nat → Int64} {bv : Int32} {Q : State → Prop} (hi : i + 5 ≤ L) (hw : Met l y_L_area [Cond.codeWith y_L_area b_L_area 5 (some .int) [(0, 10, 13, 13), (0, 10, 17, 21)]] rw (z_Pc s [.ref a, .int (xs (i + 1)), .int (xs (i + 2)), .ref o] (fun H' => H'.size = H.size ∧ K1 H')) (z_Qw (fun r H => r = some (.int kc) ∧ K2 H) F1) mc ms F1) (hwr : z_rmk rw room_1 5 mc ms) (hm : ∀ sz, Met l y_M_area [Cond.code y_M_area b_M_area 9 (some .int)] rm (z_Pc s [.ref (E 0), .int (xs (i + 1)), .int (xs (i + 2))] (fun H => H.size = sz ∧ K2 H)) (z_Qw (fun r H => r = some (.int bv) ∧ K3 H) (z_fr (z_mF E) sz)) 0 0 (z_fr (z_mF E) sz)) (hmr : z_rmk rm room_1 9 0 0) (hK2 : ∀ H : Heap, K2 H → ∃ fs, z_O (dC, dI) H (E 0) 4 fs) (hK3_ : ∀ H : Heap, K3 H → (∃ mp ms mc mn mm gv, z_Md (dC, dI) cI H E kc mp ms mc mn mm gv) ∧ z_L cL H o 1 f) (hv : kc = 0 → f 0 = bv.toInt64) (hF1 : ∀ q, F1 q → s.heap.size ≤ q) (hE : ∀ k, k < 18 → s.heap.size ≤ E k) (hK1 : K1 H) (hS : va_S (fun q => s.heap.size ≤ q) s.heap H locs) (hcell : cells + mc ≤ room_1.cells ∧ slots + ms ≤ room_1.slots) (k : ∀ (H1 : Heap) (locs1 : List Loc), K3 H1 → va_S (fun q => s.heap.size ≤ q) s.heap H1 locs1 → ∀ ls : Array Slot, lv_has ls 7 [(0, .ref b), (1, .ref a), (2, .ref (E 0)), (3, .ref o), (4, .int (nI i))] → W p l e room_1 s m #[Value.ref b] below meth c H1 locs1 (cells + mc) (slots + ms) Q (F0 m 1342 ls [])) : ∀ ls : Array Slot, lv_has ls 7 [(0, .ref b), (1, .ref a), (2, .ref (E 0)), (3, .ref o), (4, .int (nI i))] → W p l e room_1 s m #[Value.ref b] below meth c H locs cells slots Q (F0 m 722 ls []) := by
  obtain ⟨hx, hb, hr, hml, hown, hts0, hX, hbl, hlocks, hgv⟩ := C0
  have hts : ∀ w ∈ z_tbl, w.before #[Value.ref b] s = true := fun w hw => hts0 w (List.mem_filter.mp hw).1
  have hK := G.2.2.1
  have hAL := hLX.1
  intro ls hl
  refine lv_aload_n hx hb d_L_law_722 rfl (lv_at hl 1 rfl) ?_
  refine lv_aload_n hx hb d_L_law_723 rfl (lv_at hl 0 rfl) ?_
  refine lv_iload hx hb d_L_law_724 (lv_at hl 4 rfl) ?_
  refine lv_iconst (v := 1) hx hb d_L_law_726 (by decide) ?_
  refine lv_iadd hx hb d_L_law_727 ?_
  refine z_topi (y := nI (i + 1)) (nI_add i 1) ?_
  refine z_sld (j := i + 1) hx hb hX hbl (Nat.not_le.mpr hbl) hS (by omega) (by omega) d_L_law_728 ?_
  refine lv_aload_n hx hb d_L_law_729 rfl (lv_at hl 0 rfl) ?_
  refine lv_iload hx hb d_L_law_730 (lv_at hl 4 rfl) ?_
  refine lv_iconst (v := 2) hx hb d_L_law_732 (by decide) ?_
  refine lv_iadd hx hb d_L_law_733 ?_
  refine z_topi (y := nI (i + 2)) (nI_add i 2) ?_
  refine z_sld (j := i + 2) hx hb hX hbl (Nat.not_le.mpr hbl) hS (by omega) (by omega) d_L_law_734 ?_
  refine lv_aload_n hx hb d_L_law_735 rfl (lv_at hl 3 rfl) ?_
  refine z_wrT (n := 4) (rest := []) ⟨hx, hb, hml, hown, hts⟩ (State.WarmedH.refl s) hw w_396 w_394 w_395 w_0 (by decide +kernel) hwr ⟨rfl, hK1⟩ rfl rfl hl.1 (Nat.le_of_ble_eq_true rfl) d_L_law_736 hcell hS hF1 (fun H1 locs1 hK2_ hz1 hk1 hS => ?_)
  obtain ⟨fs2, hO2⟩ := hK2 _ hK2_
  refine lv_istore (lv' := [(5, .int kc), (0, .ref b), (1, .ref a), (2, .ref (E 0)), (3, .ref o), (4, .int (nI i))]) hx hb d_L_law_739 hl (by decide) rfl (fun ls hl => ?_)
  refine lv_aload_n hx hb d_L_law_741 rfl (lv_at hl 3 rfl) ?_
  refine lv_aload_n hx hb d_L_law_742 rfl (lv_at hl 1 rfl) ?_
  refine lv_iload hx hb d_L_law_743 (lv_at hl 5 rfl) ?_
  refine lv_iconst (v := 1) hx hb d_L_law_745 (by decide) ?_
  refine lv_iadd hx hb d_L_law_746 ?_
  refine z_topi (y := nI (i + 1)) (nI_add i 1) ?_
  refine z_sld (j := i + 1) hx hb hX hbl (Nat.not_le.mpr hbl) hS (by omega) (by omega) d_L_law_747 ?_
  refine lv_aload_n hx hb d_L_law_748 rfl (lv_at hl 1 rfl) ?_
  refine lv_iload hx hb d_L_law_749 (lv_at hl 5 rfl) ?_
  refine lv_iconst (v := 2) hx hb d_L_law_751 (by decide) ?_
  refine lv_iadd hx hb d_L_law_752 ?_
  refine z_topi (y := nI (i + 2)) (nI_add i 2) ?_
  refine z_sld (j := i + 2) hx hb hX hbl (Nat.not_le.mpr hbl) hS (by omega) (by omega) d_L_law_753 ?_
  refine z_wrV (n := 2) (C := R_M) (rest := []) ⟨hx, hb, hml, hown, hts⟩ (State.WarmedH.refl s) (hm _) w_705 w_702 w_703 w_704 w_4 (by decide +kernel) hmr (hO2.recv hK rfl) ⟨rfl, hK2_⟩ rfl rfl hl.1 (Nat.le_of_ble_eq_true rfl) d_L_law_754 hcell hS (fun q h => h.elim (fun h => by obtain ⟨k9, h9, e9⟩ := h; rw [e9]; exact hE k9 h9) (fun h => Nat.le_trans hS.1 h)) (fun H1 locs1 hK3 hz2 hk2 hS => ?_)
  refine lv_istore (lv' := [(6, .int bv), (5, .int kc), (0, .ref b), (1, .ref a), (2, .ref (E 0)), (3, .ref o), (4, .int (nI i))]) hx hb d_L_law_757 hl (by decide) rfl (fun ls hl => ?_)
  refine lv_aload_n hx hb d_L_law_759 rfl (lv_at hl 4 rfl) ?_
  obtain ⟨⟨mp, ms_, mc_, mn, mm, gv, hMd⟩, hL3⟩ := hK3_ _ hK3
  refine z_rdV (n := 0) (C := R_M) (rest := []) ⟨hx, hb, hml, hown, hts⟩ (State.WarmedH.refl s) (c_M_thrown G E kc mp ms_ mc_ mn mm gv) w_613 w_610 w_611 w_612 w_4 (by decide +kernel) ⟨rfl, rfl, Nat.le_of_ble_eq_true rfl, Nat.le_of_ble_eq_true rfl⟩ (hMd.1.1.recv hK rfl) hMd rfl rfl hl.1 (Nat.le_of_ble_eq_true rfl) d_L_law_760 hcell ?_
  refine lv_iload hx hb d_L_law_763 (lv_at hl 1 rfl) ?_
  refine lv_icmp_eq (tgt := 770) hx hb d_L_law_765 (by decide) (fun c_1 => ?_) (fun c_1 => ?_)
  · skip
    refine lv_iload hx hb d_L_law_770 (lv_at hl 1 rfl) ?_
    refine lv_if_ne (tgt := 787) hx hb d_L_law_772 (by decide) (fun c_2 => ?_) (fun c_2 => ?_)
    · skip
      refine lv_goto (tgt := 1342) hx hb d_L_law_787 (by decide) ?_
      exact k H1 locs1 hK3 hS ls (lv_sub hl [2, 3, 4, 5, 6] rfl)
    · skip
      refine lv_aload_n hx hb d_L_law_775 rfl (lv_at hl 5 rfl) ?_
      refine lv_iconst (v := 0) hx hb d_L_law_776 (by decide) ?_
      refine z_lald hx hb hAL hL3 d_L_law_777 ?_
      refine lv_iload hx hb d_L_law_778 (lv_at hl 0 rfl) ?_
      refine lv_i2l hx hb d_L_law_780 rfl ?_
      refine W.lcmp hx hb d_L_law_781 ?_
      refine lv_if_eq (tgt := 787) hx hb d_L_law_782 (by decide) (fun c_3 => ?_) (fun c_3 => ?_)
      · skip
        have c_3 : (f 0) = bv.toInt64 := (lg_cmp_eq _ _).mp c_3
        refine lv_goto (tgt := 1342) hx hb d_L_law_787 (by decide) ?_
        exact k H1 locs1 hK3 hS ls (lv_sub hl [2, 3, 4, 5, 6] rfl)
      · skip
        have c_3 : ¬ ((f 0) = bv.toInt64) := fun h => c_3 ((lg_cmp_eq _ _).mpr h)
        exact absurd (hv c_2) c_3
  · skip
    exact absurd (rfl : kc = kc) c_1
set_option maxRecDepth 100000 in
set_option maxHeartbeats 4000000 in
theorem law_misfit {p : Program} {e : Env} {s : State} {m : MethodId} {below : List Frame} {meth : Method} {c : Code} {l : Launch} {b L : Nat} {xs : Nat → Int32} (C0 : lw_At p s m meth c b L xs) (hL : L ≤ 2560) (G : z_G s (dC, dI) cI cS) (hLX : z_LX s cL) {i a o : Nat} {E : Nat → Nat} {H : Heap} {locs : List Loc} {cells slots mc ms : Nat} {rw rm : Room} {K1 K2 K3 : Heap → Prop} {F1 : Nat → Prop} {kc : Int32} {f : Nat → Int64} {bv : Int32} {Q : State → Prop} (hi : i + 5 ≤ L) (hw : Met l y_L_misfit [Cond.codeWith y_L_misfit b_L_misfit 5 (some .int) [(0, 10, 13, 13), (0, 10, 17, 21)]] rw (z_Pc s [.ref a, .int (xs (i + 1)), .int (xs (i + 2)), .ref o] (fun H' => H'.size = H.size ∧ K1 H')) (z_Qw (fun r H => r = some (.int kc) ∧ K2 H) F1) mc ms F1) (hwr : z_rmk rw room_1 5 mc ms) (hm : ∀ sz, Met l y_M_misfit [Cond.code y_M_misfit b_M_misfit 5 (some .int)] rm (z_Pc s [.ref (E 0), .int (xs (i + 1)), .int (xs (i + 2))] (fun H => H.size = sz ∧ K2 H)) (z_Qw (fun r H => r = some (.int bv) ∧ K3 H) (z_fr (z_mF E) sz)) 0 0 (z_fr (z_mF E) sz)) (hmr : z_rmk rm room_1 5 0 0) (hK2 : ∀ H : Heap, K2 H → ∃ fs, z_O (dC, dI) H (E 0) 4 fs) (hK3_ : ∀ H : Heap, K3 H → (∃ mp ms mc mn mm gv, z_Md (dC, dI) cI H E kc mp ms mc mn mm gv) ∧ z_L cL H o 1 f) (hv : kc = 0 → f 0 = bv.toInt64) (hF1 : ∀ q, F1 q → s.heap.size ≤ q) (hE : ∀ k, k < 18 → s.heap.size ≤ E k) (hK1 : K1 H) (hS : va_S (fun q => s.heap.size ≤ q) s.heap H locs) (hcell : cells + mc ≤ room_1.cells ∧ slots + ms ≤ room_1.slots) (k : ∀ (H1 : Heap) (locs1 : List Loc), K3 H1 → va_S (fun q => s.heap.size ≤ q) s.heap H1 locs1 → ∀ ls : Array Slot, lv_has ls 7 [(0, .ref b), (1, .ref a), (2, .ref (E 0)), (3, .ref o), (4, .int (nI i))] → W p l e room_1 s m #[Value.ref b] below meth c H1 locs1 (cells + mc) (slots + ms) Q (F0 m 1342 ls [])) : ∀ ls : Array Slot, lv_has ls 7 [(0, .ref b), (1, .ref a), (2, .ref (E 0)), (3, .ref o), (4, .int (nI i))] → W p l e room_1 s m #[Value.ref b] below meth c H locs cells slots Q (F0 m 790 ls []) := by
  obtain ⟨hx, hb, hr, hml, hown, hts0, hX, hbl, hlocks, hgv⟩ := C0
  have hts : ∀ w ∈ z_tbl, w.before #[Value.ref b] s = true := fun w hw => hts0 w (List.mem_filter.mp hw).1
  have hK := G.2.2.1
  have hAL := hLX.1
  intro ls hl
  refine lv_aload_n hx hb d_L_law_790 rfl (lv_at hl 1 rfl) ?_
  refine lv_aload_n hx hb d_L_law_791 rfl (lv_at hl 0 rfl) ?_
  refine lv_iload hx hb d_L_law_792 (lv_at hl 4 rfl) ?_
  refine lv_iconst (v := 1) hx hb d_L_law_794 (by decide) ?_
  refine lv_iadd hx hb d_L_law_795 ?_
  refine z_topi (y := nI (i + 1)) (nI_add i 1) ?_
  refine z_sld (j := i + 1) hx hb hX hbl (Nat.not_le.mpr hbl) hS (by omega) (by omega) d_L_law_796 ?_
  refine lv_aload_n hx hb d_L_law_797 rfl (lv_at hl 0 rfl) ?_
  refine lv_iload hx hb d_L_law_798 (lv_at hl 4 rfl) ?_
  refine lv_iconst (v := 2) hx hb d_L_law_800 (by decide) ?_
  refine lv_iadd hx hb d_L_law_801 ?_
  refine z_topi (y := nI (i + 2)) (nI_add i 2) ?_
  refine z_sld (j := i + 2) hx hb hX hbl (Nat.not_le.mpr hbl) hS (by omega) (by omega) d_L_law_802 ?_
  refine lv_aload_n hx hb d_L_law_803 rfl (lv_at hl 3 rfl) ?_
  refine z_wrT (n := 4) (rest := []) ⟨hx, hb, hml, hown, hts⟩ (State.WarmedH.refl s) hw w_410 w_408 w_409 w_0 (by decide +kernel) hwr ⟨rfl, hK1⟩ rfl rfl hl.1 (Nat.le_of_ble_eq_true rfl) d_L_law_804 hcell hS hF1 (fun H1 locs1 hK2_ hz1 hk1 hS => ?_)
  obtain ⟨fs2, hO2⟩ := hK2 _ hK2_
  refine lv_istore (lv' := [(5, .int kc), (0, .ref b), (1, .ref a), (2, .ref (E 0)), (3, .ref o), (4, .int (nI i))]) hx hb d_L_law_807 hl (by decide) rfl (fun ls hl => ?_)
  refine lv_aload_n hx hb d_L_law_809 rfl (lv_at hl 3 rfl) ?_
  refine lv_aload_n hx hb d_L_law_810 rfl (lv_at hl 1 rfl) ?_
  refine lv_iload hx hb d_L_law_811 (lv_at hl 5 rfl) ?_
  refine lv_iconst (v := 1) hx hb d_L_law_813 (by decide) ?_
  refine lv_iadd hx hb d_L_law_814 ?_
  refine z_topi (y := nI (i + 1)) (nI_add i 1) ?_
  refine z_sld (j := i + 1) hx hb hX hbl (Nat.not_le.mpr hbl) hS (by omega) (by omega) d_L_law_815 ?_
  refine lv_aload_n hx hb d_L_law_816 rfl (lv_at hl 1 rfl) ?_
  refine lv_iload hx hb d_L_law_817 (lv_at hl 5 rfl) ?_
  refine lv_iconst (v := 2) hx hb d_L_law_819 (by decide) ?_
  refine lv_iadd hx hb d_L_law_820 ?_
  refine z_topi (y := nI (i + 2)) (nI_add i 2) ?_
  refine z_sld (j := i + 2) hx hb hX hbl (Nat.not_le.mpr hbl) hS (by omega) (by omega) d_L_law_821 ?_
  refine z_wrV (n := 2) (C := R_M) (rest := []) ⟨hx, hb, hml, hown, hts⟩ (State.WarmedH.refl s) (hm _) w_709 w_706 w_707 w_708 w_4 (by decide +kernel) hmr (hO2.recv hK rfl) ⟨rfl, hK2_⟩ rfl rfl hl.1 (Nat.le_of_ble_eq_true rfl) d_L_law_822 hcell hS (fun q h => h.elim (fun h => by obtain ⟨k9, h9, e9⟩ := h; rw [e9]; exact hE k9 h9) (fun h => Nat.le_trans hS.1 h)) (fun H1 locs1 hK3 hz2 hk2 hS => ?_)
  refine lv_istore (lv' := [(6, .int bv), (5, .int kc), (0, .ref b), (1, .ref a), (2, .ref (E 0)), (3, .ref o), (4, .int (nI i))]) hx hb d_L_law_825 hl (by decide) rfl (fun ls hl => ?_)
  refine lv_aload_n hx hb d_L_law_827 rfl (lv_at hl 4 rfl) ?_
  obtain ⟨⟨mp, ms_, mc_, mn, mm, gv, hMd⟩, hL3⟩ := hK3_ _ hK3
  refine z_rdV (n := 0) (C := R_M) (rest := []) ⟨hx, hb, hml, hown, hts⟩ (State.WarmedH.refl s) (c_M_thrown G E kc mp ms_ mc_ mn mm gv) w_613 w_610 w_611 w_612 w_4 (by decide +kernel) ⟨rfl, rfl, Nat.le_of_ble_eq_true rfl, Nat.le_of_ble_eq_true rfl⟩ (hMd.1.1.recv hK rfl) hMd rfl rfl hl.1 (Nat.le_of_ble_eq_true rfl) d_L_law_828 hcell ?_
  refine lv_iload hx hb d_L_law_831 (lv_at hl 1 rfl) ?_
  refine lv_icmp_eq (tgt := 838) hx hb d_L_law_833 (by decide) (fun c_1 => ?_) (fun c_1 => ?_)
  · skip
    refine lv_iload hx hb d_L_law_838 (lv_at hl 1 rfl) ?_
    refine lv_if_ne (tgt := 855) hx hb d_L_law_840 (by decide) (fun c_2 => ?_) (fun c_2 => ?_)
    · skip
      refine lv_goto (tgt := 1342) hx hb d_L_law_855 (by decide) ?_
      exact k H1 locs1 hK3 hS ls (lv_sub hl [2, 3, 4, 5, 6] rfl)
    · skip
      refine lv_aload_n hx hb d_L_law_843 rfl (lv_at hl 5 rfl) ?_
      refine lv_iconst (v := 0) hx hb d_L_law_844 (by decide) ?_
      refine z_lald hx hb hAL hL3 d_L_law_845 ?_
      refine lv_iload hx hb d_L_law_846 (lv_at hl 0 rfl) ?_
      refine lv_i2l hx hb d_L_law_848 rfl ?_
      refine W.lcmp hx hb d_L_law_849 ?_
      refine lv_if_eq (tgt := 855) hx hb d_L_law_850 (by decide) (fun c_3 => ?_) (fun c_3 => ?_)
      · skip
        have c_3 : (f 0) = bv.toInt64 := (lg_cmp_eq _ _).mp c_3
        refine lv_goto (tgt := 1342) hx hb d_L_law_855 (by decide) ?_
        exact k H1 locs1 hK3 hS ls (lv_sub hl [2, 3, 4, 5, 6] rfl)
      · skip
        have c_3 : ¬ ((f 0) = bv.toInt64) := fun h => c_3 ((lg_cmp_eq _ _).mpr h)
        exact absurd (hv c_2) c_3
  · skip
    exact absurd (rfl : kc = kc) c_1
set_option maxRecDepth 100000 in
set_option maxHeartbeats 4000000 in
theorem law_distance {p : Program} {e : Env} {s : State} {m : MethodId} {below : List Frame} {meth : Method} {c : Code} {l : Launch} {b L : Nat} {xs : Nat → Int32} (C0 : lw_At p s m meth c b L xs) (hL : L ≤ 2560) (G : z_G s (dC, dI) cI cS) (hLX : z_LX s cL) {i a o : Nat} {E : Nat → Nat} {H : Heap} {locs : List Loc} {cells slots mc ms : Nat} {rw rm : Room} {K1 K2 K3 : Heap → Prop} {F1 : Nat → Prop} {kc : Int32} {f : Nat → Int64} {bv : Int32} {Q : State → Prop} (hi : i + 5 ≤ L) (hw : Met l y_L_distance [Cond.codeWith y_L_distance b_L_distance 6 (some .int) [(0, 12, 15, 13), (0, 12, 19, 21)]] rw (z_Pc s [.ref a, .int (xs (i + 1)), .int (xs (i + 2)), .int (xs (i + 3)), .ref o] (fun H' => H'.size = H.size ∧ K1 H')) (z_Qw (fun r H => r = some (.int kc) ∧ K2 H) F1) mc ms F1) (hwr : z_rmk rw room_1 6 mc ms) (hm : ∀ sz, Met l y_M_distance [Cond.code y_M_distance b_M_distance 12 (some .int)] rm (z_Pc s [.ref (E 0), .int (xs (i + 1)), .int (xs (i + 2)), .int (xs (i + 3))] (fun H => H.size = sz ∧ K2 H)) (z_Qw (fun r H => r = some (.int bv) ∧ K3 H) (z_fr (z_mF E) sz)) 0 0 (z_fr (z_mF E) sz)) (hmr : z_rmk rm room_1 12 0 0) (hK2 : ∀ H : Heap, K2 H → ∃ fs, z_O (dC, dI) H (E 0) 4 fs) (hK3_ : ∀ H : Heap, K3 H → (∃ mp ms mc mn mm gv, z_Md (dC, dI) cI H E kc mp ms mc mn mm gv) ∧ z_L cL H o 1 f) (hv : kc = 0 → f 0 = bv.toInt64) (hF1 : ∀ q, F1 q → s.heap.size ≤ q) (hE : ∀ k, k < 18 → s.heap.size ≤ E k) (hK1 : K1 H) (hS : va_S (fun q => s.heap.size ≤ q) s.heap H locs) (hcell : cells + mc ≤ room_1.cells ∧ slots + ms ≤ room_1.slots) (k : ∀ (H1 : Heap) (locs1 : List Loc), K3 H1 → va_S (fun q => s.heap.size ≤ q) s.heap H1 locs1 → ∀ ls : Array Slot, lv_has ls 7 [(0, .ref b), (1, .ref a), (2, .ref (E 0)), (3, .ref o), (4, .int (nI i))] → W p l e room_1 s m #[Value.ref b] below meth c H1 locs1 (cells + mc) (slots + ms) Q (F0 m 1342 ls [])) : ∀ ls : Array Slot, lv_has ls 7 [(0, .ref b), (1, .ref a), (2, .ref (E 0)), (3, .ref o), (4, .int (nI i))] → W p l e room_1 s m #[Value.ref b] below meth c H locs cells slots Q (F0 m 858 ls []) := by
  obtain ⟨hx, hb, hr, hml, hown, hts0, hX, hbl, hlocks, hgv⟩ := C0
  have hts : ∀ w ∈ z_tbl, w.before #[Value.ref b] s = true := fun w hw => hts0 w (List.mem_filter.mp hw).1
  have hK := G.2.2.1
  have hAL := hLX.1
  intro ls hl
  refine lv_aload_n hx hb d_L_law_858 rfl (lv_at hl 1 rfl) ?_
  refine lv_aload_n hx hb d_L_law_859 rfl (lv_at hl 0 rfl) ?_
  refine lv_iload hx hb d_L_law_860 (lv_at hl 4 rfl) ?_
  refine lv_iconst (v := 1) hx hb d_L_law_862 (by decide) ?_
  refine lv_iadd hx hb d_L_law_863 ?_
  refine z_topi (y := nI (i + 1)) (nI_add i 1) ?_
  refine z_sld (j := i + 1) hx hb hX hbl (Nat.not_le.mpr hbl) hS (by omega) (by omega) d_L_law_864 ?_
  refine lv_aload_n hx hb d_L_law_865 rfl (lv_at hl 0 rfl) ?_
  refine lv_iload hx hb d_L_law_866 (lv_at hl 4 rfl) ?_
  refine lv_iconst (v := 2) hx hb d_L_law_868 (by decide) ?_
  refine lv_iadd hx hb d_L_law_869 ?_
  refine z_topi (y := nI (i + 2)) (nI_add i 2) ?_
  refine z_sld (j := i + 2) hx hb hX hbl (Nat.not_le.mpr hbl) hS (by omega) (by omega) d_L_law_870 ?_
  refine lv_aload_n hx hb d_L_law_871 rfl (lv_at hl 0 rfl) ?_
  refine lv_iload hx hb d_L_law_872 (lv_at hl 4 rfl) ?_
  refine lv_iconst (v := 3) hx hb d_L_law_874 (by decide) ?_
  refine lv_iadd hx hb d_L_law_875 ?_
  refine z_topi (y := nI (i + 3)) (nI_add i 3) ?_
  refine z_sld (j := i + 3) hx hb hX hbl (Nat.not_le.mpr hbl) hS (by omega) (by omega) d_L_law_876 ?_
  refine lv_aload_n hx hb d_L_law_877 rfl (lv_at hl 3 rfl) ?_
  refine z_wrT (n := 5) (rest := []) ⟨hx, hb, hml, hown, hts⟩ (State.WarmedH.refl s) hw w_426 w_424 w_425 w_0 (by decide +kernel) hwr ⟨rfl, hK1⟩ rfl rfl hl.1 (Nat.le_of_ble_eq_true rfl) d_L_law_878 hcell hS hF1 (fun H1 locs1 hK2_ hz1 hk1 hS => ?_)
  obtain ⟨fs2, hO2⟩ := hK2 _ hK2_
  refine lv_istore (lv' := [(5, .int kc), (0, .ref b), (1, .ref a), (2, .ref (E 0)), (3, .ref o), (4, .int (nI i))]) hx hb d_L_law_881 hl (by decide) rfl (fun ls hl => ?_)
  refine lv_aload_n hx hb d_L_law_883 rfl (lv_at hl 3 rfl) ?_
  refine lv_aload_n hx hb d_L_law_884 rfl (lv_at hl 1 rfl) ?_
  refine lv_iload hx hb d_L_law_885 (lv_at hl 5 rfl) ?_
  refine lv_iconst (v := 1) hx hb d_L_law_887 (by decide) ?_
  refine lv_iadd hx hb d_L_law_888 ?_
  refine z_topi (y := nI (i + 1)) (nI_add i 1) ?_
  refine z_sld (j := i + 1) hx hb hX hbl (Nat.not_le.mpr hbl) hS (by omega) (by omega) d_L_law_889 ?_
  refine lv_aload_n hx hb d_L_law_890 rfl (lv_at hl 1 rfl) ?_
  refine lv_iload hx hb d_L_law_891 (lv_at hl 5 rfl) ?_
  refine lv_iconst (v := 2) hx hb d_L_law_893 (by decide) ?_
  refine lv_iadd hx hb d_L_law_894 ?_
  refine z_topi (y := nI (i + 2)) (nI_add i 2) ?_
  refine z_sld (j := i + 2) hx hb hX hbl (Nat.not_le.mpr hbl) hS (by omega) (by omega) d_L_law_895 ?_
  refine lv_aload_n hx hb d_L_law_896 rfl (lv_at hl 1 rfl) ?_
  refine lv_iload hx hb d_L_law_897 (lv_at hl 5 rfl) ?_
  refine lv_iconst (v := 3) hx hb d_L_law_899 (by decide) ?_
  refine lv_iadd hx hb d_L_law_900 ?_
  refine z_topi (y := nI (i + 3)) (nI_add i 3) ?_
  refine z_sld (j := i + 3) hx hb hX hbl (Nat.not_le.mpr hbl) hS (by omega) (by omega) d_L_law_901 ?_
  refine z_wrV (n := 3) (C := R_M) (rest := []) ⟨hx, hb, hml, hown, hts⟩ (State.WarmedH.refl s) (hm _) w_717 w_714 w_715 w_716 w_4 (by decide +kernel) hmr (hO2.recv hK rfl) ⟨rfl, hK2_⟩ rfl rfl hl.1 (Nat.le_of_ble_eq_true rfl) d_L_law_902 hcell hS (fun q h => h.elim (fun h => by obtain ⟨k9, h9, e9⟩ := h; rw [e9]; exact hE k9 h9) (fun h => Nat.le_trans hS.1 h)) (fun H1 locs1 hK3 hz2 hk2 hS => ?_)
  refine lv_istore (lv' := [(6, .int bv), (5, .int kc), (0, .ref b), (1, .ref a), (2, .ref (E 0)), (3, .ref o), (4, .int (nI i))]) hx hb d_L_law_905 hl (by decide) rfl (fun ls hl => ?_)
  refine lv_aload_n hx hb d_L_law_907 rfl (lv_at hl 4 rfl) ?_
  obtain ⟨⟨mp, ms_, mc_, mn, mm, gv, hMd⟩, hL3⟩ := hK3_ _ hK3
  refine z_rdV (n := 0) (C := R_M) (rest := []) ⟨hx, hb, hml, hown, hts⟩ (State.WarmedH.refl s) (c_M_thrown G E kc mp ms_ mc_ mn mm gv) w_613 w_610 w_611 w_612 w_4 (by decide +kernel) ⟨rfl, rfl, Nat.le_of_ble_eq_true rfl, Nat.le_of_ble_eq_true rfl⟩ (hMd.1.1.recv hK rfl) hMd rfl rfl hl.1 (Nat.le_of_ble_eq_true rfl) d_L_law_908 hcell ?_
  refine lv_iload hx hb d_L_law_911 (lv_at hl 1 rfl) ?_
  refine lv_icmp_eq (tgt := 918) hx hb d_L_law_913 (by decide) (fun c_1 => ?_) (fun c_1 => ?_)
  · skip
    refine lv_iload hx hb d_L_law_918 (lv_at hl 1 rfl) ?_
    refine lv_if_ne (tgt := 935) hx hb d_L_law_920 (by decide) (fun c_2 => ?_) (fun c_2 => ?_)
    · skip
      refine lv_goto (tgt := 1342) hx hb d_L_law_935 (by decide) ?_
      exact k H1 locs1 hK3 hS ls (lv_sub hl [2, 3, 4, 5, 6] rfl)
    · skip
      refine lv_aload_n hx hb d_L_law_923 rfl (lv_at hl 5 rfl) ?_
      refine lv_iconst (v := 0) hx hb d_L_law_924 (by decide) ?_
      refine z_lald hx hb hAL hL3 d_L_law_925 ?_
      refine lv_iload hx hb d_L_law_926 (lv_at hl 0 rfl) ?_
      refine lv_i2l hx hb d_L_law_928 rfl ?_
      refine W.lcmp hx hb d_L_law_929 ?_
      refine lv_if_eq (tgt := 935) hx hb d_L_law_930 (by decide) (fun c_3 => ?_) (fun c_3 => ?_)
      · skip
        have c_3 : (f 0) = bv.toInt64 := (lg_cmp_eq _ _).mp c_3
        refine lv_goto (tgt := 1342) hx hb d_L_law_935 (by decide) ?_
        exact k H1 locs1 hK3 hS ls (lv_sub hl [2, 3, 4, 5, 6] rfl)
      · skip
        have c_3 : ¬ ((f 0) = bv.toInt64) := fun h => c_3 ((lg_cmp_eq _ _).mpr h)
        exact absurd (hv c_2) c_3
  · skip
    exact absurd (rfl : kc = kc) c_1
set_option maxRecDepth 100000 in
set_option maxHeartbeats 4000000 in
theorem law_name {p : Program} {e : Env} {s : State} {m : MethodId} {below : List Frame} {meth : Method} {c : Code} {l : Launch} {b L : Nat} {xs : Nat → Int32} (C0 : lw_At p s m meth c b L xs) (hL : L ≤ 2560) (G : z_G s (dC, dI) cI cS) (hLX : z_LX s cL) {i a o : Nat} {E : Nat → Nat} {H : Heap} {locs : List Loc} {cells slots mc ms : Nat} {rw rm : Room} {K1 K2 K3 : Heap → Prop} {F1 : Nat → Prop} {kc : Int32} {f : Nat → Int64} {Q : State → Prop} (hi : i + 5 ≤ L) (hw : Met l y_L_name [Cond.codeWith y_L_name b_L_name 6 (some .int) [(0, 9, 12, 13), (0, 9, 16, 21), (0, 9, 20, 15)]] rw (z_Pc s [.ref a, .int (xs (i + 1)), .int (xs (i + 2)), .int (xs (i + 3)), .int (xs (i + 4))] (fun H' => H'.size = H.size ∧ K1 H')) (z_Qw (fun r H => r = some (.int kc) ∧ K2 H) F1) mc ms F1) (hwr : z_rmk rw room_1 6 mc ms) (hm : ∀ sz, Met l y_M_name [Cond.code y_M_name b_M_name 5 none] rm (z_Pc s [.ref (E 0), .int (xs (i + 1)), .int (xs (i + 2)), .int (xs (i + 3)), .int (xs (i + 4))] (fun H => H.size = sz ∧ K2 H)) (z_Qw (fun r H => r = none ∧ K3 H) (z_fr (z_mF E) sz)) 0 0 (z_fr (z_mF E) sz)) (hmr : z_rmk rm room_1 5 0 0) (hK2 : ∀ H : Heap, K2 H → ∃ fs, z_O (dC, dI) H (E 0) 4 fs) (hK3_ : ∀ H : Heap, K3 H → (∃ mp ms mc mn mm gv, z_Md (dC, dI) cI H E kc mp ms mc mn mm gv) ∧ z_L cL H o 1 f) (hF1 : ∀ q, F1 q → s.heap.size ≤ q) (hE : ∀ k, k < 18 → s.heap.size ≤ E k) (hK1 : K1 H) (hS : va_S (fun q => s.heap.size ≤ q) s.heap H locs) (hcell : cells + mc ≤ room_1.cells ∧ slots + ms ≤ room_1.slots) (k : ∀ (H1 : Heap) (locs1 : List Loc), K3 H1 → va_S (fun q => s.heap.size ≤ q) s.heap H1 locs1 → ∀ ls : Array Slot, lv_has ls 7 [(0, .ref b), (1, .ref a), (2, .ref (E 0)), (3, .ref o), (4, .int (nI i))] → W p l e room_1 s m #[Value.ref b] below meth c H1 locs1 (cells + mc) (slots + ms) Q (F0 m 1342 ls [])) : ∀ ls : Array Slot, lv_has ls 7 [(0, .ref b), (1, .ref a), (2, .ref (E 0)), (3, .ref o), (4, .int (nI i))] → W p l e room_1 s m #[Value.ref b] below meth c H locs cells slots Q (F0 m 938 ls []) := by
  obtain ⟨hx, hb, hr, hml, hown, hts0, hX, hbl, hlocks, hgv⟩ := C0
  have hts : ∀ w ∈ z_tbl, w.before #[Value.ref b] s = true := fun w hw => hts0 w (List.mem_filter.mp hw).1
  have hK := G.2.2.1
  have hAL := hLX.1
  intro ls hl
  refine lv_aload_n hx hb d_L_law_938 rfl (lv_at hl 1 rfl) ?_
  refine lv_aload_n hx hb d_L_law_939 rfl (lv_at hl 0 rfl) ?_
  refine lv_iload hx hb d_L_law_940 (lv_at hl 4 rfl) ?_
  refine lv_iconst (v := 1) hx hb d_L_law_942 (by decide) ?_
  refine lv_iadd hx hb d_L_law_943 ?_
  refine z_topi (y := nI (i + 1)) (nI_add i 1) ?_
  refine z_sld (j := i + 1) hx hb hX hbl (Nat.not_le.mpr hbl) hS (by omega) (by omega) d_L_law_944 ?_
  refine lv_aload_n hx hb d_L_law_945 rfl (lv_at hl 0 rfl) ?_
  refine lv_iload hx hb d_L_law_946 (lv_at hl 4 rfl) ?_
  refine lv_iconst (v := 2) hx hb d_L_law_948 (by decide) ?_
  refine lv_iadd hx hb d_L_law_949 ?_
  refine z_topi (y := nI (i + 2)) (nI_add i 2) ?_
  refine z_sld (j := i + 2) hx hb hX hbl (Nat.not_le.mpr hbl) hS (by omega) (by omega) d_L_law_950 ?_
  refine lv_aload_n hx hb d_L_law_951 rfl (lv_at hl 0 rfl) ?_
  refine lv_iload hx hb d_L_law_952 (lv_at hl 4 rfl) ?_
  refine lv_iconst (v := 3) hx hb d_L_law_954 (by decide) ?_
  refine lv_iadd hx hb d_L_law_955 ?_
  refine z_topi (y := nI (i + 3)) (nI_add i 3) ?_
  refine z_sld (j := i + 3) hx hb hX hbl (Nat.not_le.mpr hbl) hS (by omega) (by omega) d_L_law_956 ?_
  refine lv_aload_n hx hb d_L_law_957 rfl (lv_at hl 0 rfl) ?_
  refine lv_iload hx hb d_L_law_958 (lv_at hl 4 rfl) ?_
  refine lv_iconst (v := 4) hx hb d_L_law_960 (by decide) ?_
  refine lv_iadd hx hb d_L_law_961 ?_
  refine z_topi (y := nI (i + 4)) (nI_add i 4) ?_
  refine z_sld (j := i + 4) hx hb hX hbl (Nat.not_le.mpr hbl) hS (by omega) (by omega) d_L_law_962 ?_
  refine z_wrT (n := 5) (rest := []) ⟨hx, hb, hml, hown, hts⟩ (State.WarmedH.refl s) hw w_442 w_440 w_441 w_0 (by decide +kernel) hwr ⟨rfl, hK1⟩ rfl rfl hl.1 (Nat.le_of_ble_eq_true rfl) d_L_law_963 hcell hS hF1 (fun H1 locs1 hK2_ hz1 hk1 hS => ?_)
  obtain ⟨fs2, hO2⟩ := hK2 _ hK2_
  refine lv_istore (lv' := [(5, .int kc), (0, .ref b), (1, .ref a), (2, .ref (E 0)), (3, .ref o), (4, .int (nI i))]) hx hb d_L_law_966 hl (by decide) rfl (fun ls hl => ?_)
  refine lv_aload_n hx hb d_L_law_968 rfl (lv_at hl 3 rfl) ?_
  refine lv_aload_n hx hb d_L_law_969 rfl (lv_at hl 1 rfl) ?_
  refine lv_iload hx hb d_L_law_970 (lv_at hl 5 rfl) ?_
  refine lv_iconst (v := 1) hx hb d_L_law_972 (by decide) ?_
  refine lv_iadd hx hb d_L_law_973 ?_
  refine z_topi (y := nI (i + 1)) (nI_add i 1) ?_
  refine z_sld (j := i + 1) hx hb hX hbl (Nat.not_le.mpr hbl) hS (by omega) (by omega) d_L_law_974 ?_
  refine lv_aload_n hx hb d_L_law_975 rfl (lv_at hl 1 rfl) ?_
  refine lv_iload hx hb d_L_law_976 (lv_at hl 5 rfl) ?_
  refine lv_iconst (v := 2) hx hb d_L_law_978 (by decide) ?_
  refine lv_iadd hx hb d_L_law_979 ?_
  refine z_topi (y := nI (i + 2)) (nI_add i 2) ?_
  refine z_sld (j := i + 2) hx hb hX hbl (Nat.not_le.mpr hbl) hS (by omega) (by omega) d_L_law_980 ?_
  refine lv_aload_n hx hb d_L_law_981 rfl (lv_at hl 1 rfl) ?_
  refine lv_iload hx hb d_L_law_982 (lv_at hl 5 rfl) ?_
  refine lv_iconst (v := 3) hx hb d_L_law_984 (by decide) ?_
  refine lv_iadd hx hb d_L_law_985 ?_
  refine z_topi (y := nI (i + 3)) (nI_add i 3) ?_
  refine z_sld (j := i + 3) hx hb hX hbl (Nat.not_le.mpr hbl) hS (by omega) (by omega) d_L_law_986 ?_
  refine lv_aload_n hx hb d_L_law_987 rfl (lv_at hl 1 rfl) ?_
  refine lv_iload hx hb d_L_law_988 (lv_at hl 5 rfl) ?_
  refine lv_iconst (v := 4) hx hb d_L_law_990 (by decide) ?_
  refine lv_iadd hx hb d_L_law_991 ?_
  refine z_topi (y := nI (i + 4)) (nI_add i 4) ?_
  refine z_sld (j := i + 4) hx hb hX hbl (Nat.not_le.mpr hbl) hS (by omega) (by omega) d_L_law_992 ?_
  refine z_wrVv (n := 4) (C := R_M) (rest := []) ⟨hx, hb, hml, hown, hts⟩ (State.WarmedH.refl s) (hm _) w_721 w_718 w_719 w_720 w_4 (by decide +kernel) hmr (hO2.recv hK rfl) ⟨rfl, hK2_⟩ rfl rfl hl.1 (Nat.le_of_ble_eq_true rfl) d_L_law_993 hcell hS (fun q h => h.elim (fun h => by obtain ⟨k9, h9, e9⟩ := h; rw [e9]; exact hE k9 h9) (fun h => Nat.le_trans hS.1 h)) (fun H1 locs1 hK3 hz2 hk2 hS => ?_)
  refine lv_aload_n hx hb d_L_law_996 rfl (lv_at hl 3 rfl) ?_
  obtain ⟨⟨mp, ms_, mc_, mn, mm, gv, hMd⟩, hL3⟩ := hK3_ _ hK3
  refine z_rdV (n := 0) (C := R_M) (rest := []) ⟨hx, hb, hml, hown, hts⟩ (State.WarmedH.refl s) (c_M_thrown G E kc mp ms_ mc_ mn mm gv) w_613 w_610 w_611 w_612 w_4 (by decide +kernel) ⟨rfl, rfl, Nat.le_of_ble_eq_true rfl, Nat.le_of_ble_eq_true rfl⟩ (hMd.1.1.recv hK rfl) hMd rfl rfl hl.1 (Nat.le_of_ble_eq_true rfl) d_L_law_997 hcell ?_
  refine lv_iload hx hb d_L_law_1000 (lv_at hl 0 rfl) ?_
  refine lv_icmp_eq (tgt := 1007) hx hb d_L_law_1002 (by decide) (fun c_1 => ?_) (fun c_1 => ?_)
  · skip
    refine lv_goto (tgt := 1342) hx hb d_L_law_1007 (by decide) ?_
    exact k H1 locs1 hK3 hS ls (lv_sub hl [1, 2, 3, 4, 5] rfl)
  · skip
    exact absurd (rfl : kc = kc) c_1
set_option maxRecDepth 100000 in
set_option maxHeartbeats 4000000 in
theorem law_nameOn {p : Program} {e : Env} {s : State} {m : MethodId} {below : List Frame} {meth : Method} {c : Code} {l : Launch} {b L : Nat} {xs : Nat → Int32} (C0 : lw_At p s m meth c b L xs) (hL : L ≤ 2560) (G : z_G s (dC, dI) cI cS) (hLX : z_LX s cL) {i a o : Nat} {E : Nat → Nat} {H : Heap} {locs : List Loc} {cells slots mc ms : Nat} {rw rm : Room} {K1 K2 K3 : Heap → Prop} {F1 : Nat → Prop} {kc : Int32} {f : Nat → Int64} {bv : Int32} {Q : State → Prop} (hi : i + 5 ≤ L) (hw : Met l y_L_nameOn [Cond.codeWith y_L_nameOn b_L_nameOn 5 (some .int) [(0, 10, 13, 13), (0, 10, 17, 21)]] rw (z_Pc s [.ref a, .int (xs (i + 1)), .int (xs (i + 2)), .ref o] (fun H' => H'.size = H.size ∧ K1 H')) (z_Qw (fun r H => r = some (.int kc) ∧ K2 H) F1) mc ms F1) (hwr : z_rmk rw room_1 5 mc ms) (hm : ∀ sz, Met l y_M_nameOn [Cond.code y_M_nameOn b_M_nameOn 5 (some .int)] rm (z_Pc s [.ref (E 0), .int (xs (i + 1)), .int (xs (i + 2))] (fun H => H.size = sz ∧ K2 H)) (z_Qw (fun r H => r = some (.int bv) ∧ K3 H) (z_fr (z_mF E) sz)) 0 0 (z_fr (z_mF E) sz)) (hmr : z_rmk rm room_1 5 0 0) (hK2 : ∀ H : Heap, K2 H → ∃ fs, z_O (dC, dI) H (E 0) 4 fs) (hK3_ : ∀ H : Heap, K3 H → (∃ mp ms mc mn mm gv, z_Md (dC, dI) cI H E kc mp ms mc mn mm gv) ∧ z_L cL H o 1 f) (hv : kc = 0 → f 0 = bv.toInt64) (hF1 : ∀ q, F1 q → s.heap.size ≤ q) (hE : ∀ k, k < 18 → s.heap.size ≤ E k) (hK1 : K1 H) (hS : va_S (fun q => s.heap.size ≤ q) s.heap H locs) (hcell : cells + mc ≤ room_1.cells ∧ slots + ms ≤ room_1.slots) (k : ∀ (H1 : Heap) (locs1 : List Loc), K3 H1 → va_S (fun q => s.heap.size ≤ q) s.heap H1 locs1 → ∀ ls : Array Slot, lv_has ls 7 [(0, .ref b), (1, .ref a), (2, .ref (E 0)), (3, .ref o), (4, .int (nI i))] → W p l e room_1 s m #[Value.ref b] below meth c H1 locs1 (cells + mc) (slots + ms) Q (F0 m 1342 ls [])) : ∀ ls : Array Slot, lv_has ls 7 [(0, .ref b), (1, .ref a), (2, .ref (E 0)), (3, .ref o), (4, .int (nI i))] → W p l e room_1 s m #[Value.ref b] below meth c H locs cells slots Q (F0 m 1010 ls []) := by
  obtain ⟨hx, hb, hr, hml, hown, hts0, hX, hbl, hlocks, hgv⟩ := C0
  have hts : ∀ w ∈ z_tbl, w.before #[Value.ref b] s = true := fun w hw => hts0 w (List.mem_filter.mp hw).1
  have hK := G.2.2.1
  have hAL := hLX.1
  intro ls hl
  refine lv_aload_n hx hb d_L_law_1010 rfl (lv_at hl 1 rfl) ?_
  refine lv_aload_n hx hb d_L_law_1011 rfl (lv_at hl 0 rfl) ?_
  refine lv_iload hx hb d_L_law_1012 (lv_at hl 4 rfl) ?_
  refine lv_iconst (v := 1) hx hb d_L_law_1014 (by decide) ?_
  refine lv_iadd hx hb d_L_law_1015 ?_
  refine z_topi (y := nI (i + 1)) (nI_add i 1) ?_
  refine z_sld (j := i + 1) hx hb hX hbl (Nat.not_le.mpr hbl) hS (by omega) (by omega) d_L_law_1016 ?_
  refine lv_aload_n hx hb d_L_law_1017 rfl (lv_at hl 0 rfl) ?_
  refine lv_iload hx hb d_L_law_1018 (lv_at hl 4 rfl) ?_
  refine lv_iconst (v := 2) hx hb d_L_law_1020 (by decide) ?_
  refine lv_iadd hx hb d_L_law_1021 ?_
  refine z_topi (y := nI (i + 2)) (nI_add i 2) ?_
  refine z_sld (j := i + 2) hx hb hX hbl (Nat.not_le.mpr hbl) hS (by omega) (by omega) d_L_law_1022 ?_
  refine lv_aload_n hx hb d_L_law_1023 rfl (lv_at hl 3 rfl) ?_
  refine z_wrT (n := 4) (rest := []) ⟨hx, hb, hml, hown, hts⟩ (State.WarmedH.refl s) hw w_459 w_457 w_458 w_0 (by decide +kernel) hwr ⟨rfl, hK1⟩ rfl rfl hl.1 (Nat.le_of_ble_eq_true rfl) d_L_law_1024 hcell hS hF1 (fun H1 locs1 hK2_ hz1 hk1 hS => ?_)
  obtain ⟨fs2, hO2⟩ := hK2 _ hK2_
  refine lv_istore (lv' := [(5, .int kc), (0, .ref b), (1, .ref a), (2, .ref (E 0)), (3, .ref o), (4, .int (nI i))]) hx hb d_L_law_1027 hl (by decide) rfl (fun ls hl => ?_)
  refine lv_aload_n hx hb d_L_law_1029 rfl (lv_at hl 3 rfl) ?_
  refine lv_aload_n hx hb d_L_law_1030 rfl (lv_at hl 1 rfl) ?_
  refine lv_iload hx hb d_L_law_1031 (lv_at hl 5 rfl) ?_
  refine lv_iconst (v := 1) hx hb d_L_law_1033 (by decide) ?_
  refine lv_iadd hx hb d_L_law_1034 ?_
  refine z_topi (y := nI (i + 1)) (nI_add i 1) ?_
  refine z_sld (j := i + 1) hx hb hX hbl (Nat.not_le.mpr hbl) hS (by omega) (by omega) d_L_law_1035 ?_
  refine lv_aload_n hx hb d_L_law_1036 rfl (lv_at hl 1 rfl) ?_
  refine lv_iload hx hb d_L_law_1037 (lv_at hl 5 rfl) ?_
  refine lv_iconst (v := 2) hx hb d_L_law_1039 (by decide) ?_
  refine lv_iadd hx hb d_L_law_1040 ?_
  refine z_topi (y := nI (i + 2)) (nI_add i 2) ?_
  refine z_sld (j := i + 2) hx hb hX hbl (Nat.not_le.mpr hbl) hS (by omega) (by omega) d_L_law_1041 ?_
  refine z_wrV (n := 2) (C := R_M) (rest := []) ⟨hx, hb, hml, hown, hts⟩ (State.WarmedH.refl s) (hm _) w_725 w_722 w_723 w_724 w_4 (by decide +kernel) hmr (hO2.recv hK rfl) ⟨rfl, hK2_⟩ rfl rfl hl.1 (Nat.le_of_ble_eq_true rfl) d_L_law_1042 hcell hS (fun q h => h.elim (fun h => by obtain ⟨k9, h9, e9⟩ := h; rw [e9]; exact hE k9 h9) (fun h => Nat.le_trans hS.1 h)) (fun H1 locs1 hK3 hz2 hk2 hS => ?_)
  refine lv_istore (lv' := [(6, .int bv), (5, .int kc), (0, .ref b), (1, .ref a), (2, .ref (E 0)), (3, .ref o), (4, .int (nI i))]) hx hb d_L_law_1045 hl (by decide) rfl (fun ls hl => ?_)
  refine lv_aload_n hx hb d_L_law_1047 rfl (lv_at hl 4 rfl) ?_
  obtain ⟨⟨mp, ms_, mc_, mn, mm, gv, hMd⟩, hL3⟩ := hK3_ _ hK3
  refine z_rdV (n := 0) (C := R_M) (rest := []) ⟨hx, hb, hml, hown, hts⟩ (State.WarmedH.refl s) (c_M_thrown G E kc mp ms_ mc_ mn mm gv) w_613 w_610 w_611 w_612 w_4 (by decide +kernel) ⟨rfl, rfl, Nat.le_of_ble_eq_true rfl, Nat.le_of_ble_eq_true rfl⟩ (hMd.1.1.recv hK rfl) hMd rfl rfl hl.1 (Nat.le_of_ble_eq_true rfl) d_L_law_1048 hcell ?_
  refine lv_iload hx hb d_L_law_1051 (lv_at hl 1 rfl) ?_
  refine lv_icmp_eq (tgt := 1058) hx hb d_L_law_1053 (by decide) (fun c_1 => ?_) (fun c_1 => ?_)
  · skip
    refine lv_iload hx hb d_L_law_1058 (lv_at hl 1 rfl) ?_
    refine lv_if_ne (tgt := 1075) hx hb d_L_law_1060 (by decide) (fun c_2 => ?_) (fun c_2 => ?_)
    · skip
      refine lv_goto (tgt := 1342) hx hb d_L_law_1075 (by decide) ?_
      exact k H1 locs1 hK3 hS ls (lv_sub hl [2, 3, 4, 5, 6] rfl)
    · skip
      refine lv_aload_n hx hb d_L_law_1063 rfl (lv_at hl 5 rfl) ?_
      refine lv_iconst (v := 0) hx hb d_L_law_1064 (by decide) ?_
      refine z_lald hx hb hAL hL3 d_L_law_1065 ?_
      refine lv_iload hx hb d_L_law_1066 (lv_at hl 0 rfl) ?_
      refine lv_i2l hx hb d_L_law_1068 rfl ?_
      refine W.lcmp hx hb d_L_law_1069 ?_
      refine lv_if_eq (tgt := 1075) hx hb d_L_law_1070 (by decide) (fun c_3 => ?_) (fun c_3 => ?_)
      · skip
        have c_3 : (f 0) = bv.toInt64 := (lg_cmp_eq _ _).mp c_3
        refine lv_goto (tgt := 1342) hx hb d_L_law_1075 (by decide) ?_
        exact k H1 locs1 hK3 hS ls (lv_sub hl [2, 3, 4, 5, 6] rfl)
      · skip
        have c_3 : ¬ ((f 0) = bv.toInt64) := fun h => c_3 ((lg_cmp_eq _ _).mpr h)
        exact absurd (hv c_2) c_3
  · skip
    exact absurd (rfl : kc = kc) c_1
set_option maxRecDepth 100000 in
set_option maxHeartbeats 4000000 in
theorem law_mark {p : Program} {e : Env} {s : State} {m : MethodId} {below : List Frame} {meth : Method} {c : Code} {l : Launch} {b L : Nat} {xs : Nat → Int32} (C0 : lw_At p s m meth c b L xs) (hL : L ≤ 2560) (G : z_G s (dC, dI) cI cS) (hLX : z_LX s cL) {i a o : Nat} {E : Nat → Nat} {H : Heap} {locs : List Loc} {cells slots mc ms : Nat} {rw rm : Room} {K1 K2 K3 : Heap → Prop} {F1 : Nat → Prop} {kc : Int32} {f : Nat → Int64} {bv : Int32} {Q : State → Prop} (hi : i + 5 ≤ L) (hw : Met l y_L_mark [Cond.codeWith y_L_mark b_L_mark 7 (some .int) [(0, 14, 17, 21), (0, 14, 21, 15)]] rw (z_Pc s [.ref a, .int (xs (i + 1)), .int (xs (i + 2)), .int (xs (i + 3)), .int (xs (i + 4)), .ref o] (fun H' => H'.size = H.size ∧ K1 H')) (z_Qw (fun r H => r = some (.int kc) ∧ K2 H) F1) mc ms F1) (hwr : z_rmk rw room_1 7 mc ms) (hm : ∀ sz, Met l y_M_mark [Cond.code y_M_mark b_M_mark 5 (some .int)] rm (z_Pc s [.ref (E 0), .int (xs (i + 1)), .int (xs (i + 2)), .int (xs (i + 3)), .int (xs (i + 4))] (fun H => H.size = sz ∧ K2 H)) (z_Qw (fun r H => r = some (.int bv) ∧ K3 H) (z_fr (z_mF E) sz)) 0 0 (z_fr (z_mF E) sz)) (hmr : z_rmk rm room_1 5 0 0) (hK2 : ∀ H : Heap, K2 H → ∃ fs, z_O (dC, dI) H (E 0) 4 fs) (hK3_ : ∀ H : Heap, K3 H → (∃ mp ms mc mn mm gv, z_Md (dC, dI) cI H E kc mp ms mc mn mm gv) ∧ z_L cL H o 1 f) (hv : kc = 0 → f 0 = bv.toInt64) (hF1 : ∀ q, F1 q → s.heap.size ≤ q) (hE : ∀ k, k < 18 → s.heap.size ≤ E k) (hK1 : K1 H) (hS : va_S (fun q => s.heap.size ≤ q) s.heap H locs) (hcell : cells + mc ≤ room_1.cells ∧ slots + ms ≤ room_1.slots) (k : ∀ (H1 : Heap) (locs1 : List Loc), K3 H1 → va_S (fun q => s.heap.size ≤ q) s.heap H1 locs1 → ∀ ls : Array Slot, lv_has ls 7 [(0, .ref b), (1, .ref a), (2, .ref (E 0)), (3, .ref o), (4, .int (nI i))] → W p l e room_1 s m #[Value.ref b] below meth c H1 locs1 (cells + mc) (slots + ms) Q (F0 m 1342 ls [])) : ∀ ls : Array Slot, lv_has ls 7 [(0, .ref b), (1, .ref a), (2, .ref (E 0)), (3, .ref o), (4, .int (nI i))] → W p l e room_1 s m #[Value.ref b] below meth c H locs cells slots Q (F0 m 1078 ls []) := by
  obtain ⟨hx, hb, hr, hml, hown, hts0, hX, hbl, hlocks, hgv⟩ := C0
  have hts : ∀ w ∈ z_tbl, w.before #[Value.ref b] s = true := fun w hw => hts0 w (List.mem_filter.mp hw).1
  have hK := G.2.2.1
  have hAL := hLX.1
  intro ls hl
  refine lv_aload_n hx hb d_L_law_1078 rfl (lv_at hl 1 rfl) ?_
  refine lv_aload_n hx hb d_L_law_1079 rfl (lv_at hl 0 rfl) ?_
  refine lv_iload hx hb d_L_law_1080 (lv_at hl 4 rfl) ?_
  refine lv_iconst (v := 1) hx hb d_L_law_1082 (by decide) ?_
  refine lv_iadd hx hb d_L_law_1083 ?_
  refine z_topi (y := nI (i + 1)) (nI_add i 1) ?_
  refine z_sld (j := i + 1) hx hb hX hbl (Nat.not_le.mpr hbl) hS (by omega) (by omega) d_L_law_1084 ?_
  refine lv_aload_n hx hb d_L_law_1085 rfl (lv_at hl 0 rfl) ?_
  refine lv_iload hx hb d_L_law_1086 (lv_at hl 4 rfl) ?_
  refine lv_iconst (v := 2) hx hb d_L_law_1088 (by decide) ?_
  refine lv_iadd hx hb d_L_law_1089 ?_
  refine z_topi (y := nI (i + 2)) (nI_add i 2) ?_
  refine z_sld (j := i + 2) hx hb hX hbl (Nat.not_le.mpr hbl) hS (by omega) (by omega) d_L_law_1090 ?_
  refine lv_aload_n hx hb d_L_law_1091 rfl (lv_at hl 0 rfl) ?_
  refine lv_iload hx hb d_L_law_1092 (lv_at hl 4 rfl) ?_
  refine lv_iconst (v := 3) hx hb d_L_law_1094 (by decide) ?_
  refine lv_iadd hx hb d_L_law_1095 ?_
  refine z_topi (y := nI (i + 3)) (nI_add i 3) ?_
  refine z_sld (j := i + 3) hx hb hX hbl (Nat.not_le.mpr hbl) hS (by omega) (by omega) d_L_law_1096 ?_
  refine lv_aload_n hx hb d_L_law_1097 rfl (lv_at hl 0 rfl) ?_
  refine lv_iload hx hb d_L_law_1098 (lv_at hl 4 rfl) ?_
  refine lv_iconst (v := 4) hx hb d_L_law_1100 (by decide) ?_
  refine lv_iadd hx hb d_L_law_1101 ?_
  refine z_topi (y := nI (i + 4)) (nI_add i 4) ?_
  refine z_sld (j := i + 4) hx hb hX hbl (Nat.not_le.mpr hbl) hS (by omega) (by omega) d_L_law_1102 ?_
  refine lv_aload_n hx hb d_L_law_1103 rfl (lv_at hl 3 rfl) ?_
  refine z_wrT (n := 6) (rest := []) ⟨hx, hb, hml, hown, hts⟩ (State.WarmedH.refl s) hw w_470 w_468 w_469 w_0 (by decide +kernel) hwr ⟨rfl, hK1⟩ rfl rfl hl.1 (Nat.le_of_ble_eq_true rfl) d_L_law_1104 hcell hS hF1 (fun H1 locs1 hK2_ hz1 hk1 hS => ?_)
  obtain ⟨fs2, hO2⟩ := hK2 _ hK2_
  refine lv_istore (lv' := [(5, .int kc), (0, .ref b), (1, .ref a), (2, .ref (E 0)), (3, .ref o), (4, .int (nI i))]) hx hb d_L_law_1107 hl (by decide) rfl (fun ls hl => ?_)
  refine lv_aload_n hx hb d_L_law_1109 rfl (lv_at hl 3 rfl) ?_
  refine lv_aload_n hx hb d_L_law_1110 rfl (lv_at hl 1 rfl) ?_
  refine lv_iload hx hb d_L_law_1111 (lv_at hl 5 rfl) ?_
  refine lv_iconst (v := 1) hx hb d_L_law_1113 (by decide) ?_
  refine lv_iadd hx hb d_L_law_1114 ?_
  refine z_topi (y := nI (i + 1)) (nI_add i 1) ?_
  refine z_sld (j := i + 1) hx hb hX hbl (Nat.not_le.mpr hbl) hS (by omega) (by omega) d_L_law_1115 ?_
  refine lv_aload_n hx hb d_L_law_1116 rfl (lv_at hl 1 rfl) ?_
  refine lv_iload hx hb d_L_law_1117 (lv_at hl 5 rfl) ?_
  refine lv_iconst (v := 2) hx hb d_L_law_1119 (by decide) ?_
  refine lv_iadd hx hb d_L_law_1120 ?_
  refine z_topi (y := nI (i + 2)) (nI_add i 2) ?_
  refine z_sld (j := i + 2) hx hb hX hbl (Nat.not_le.mpr hbl) hS (by omega) (by omega) d_L_law_1121 ?_
  refine lv_aload_n hx hb d_L_law_1122 rfl (lv_at hl 1 rfl) ?_
  refine lv_iload hx hb d_L_law_1123 (lv_at hl 5 rfl) ?_
  refine lv_iconst (v := 3) hx hb d_L_law_1125 (by decide) ?_
  refine lv_iadd hx hb d_L_law_1126 ?_
  refine z_topi (y := nI (i + 3)) (nI_add i 3) ?_
  refine z_sld (j := i + 3) hx hb hX hbl (Nat.not_le.mpr hbl) hS (by omega) (by omega) d_L_law_1127 ?_
  refine lv_aload_n hx hb d_L_law_1128 rfl (lv_at hl 1 rfl) ?_
  refine lv_iload hx hb d_L_law_1129 (lv_at hl 5 rfl) ?_
  refine lv_iconst (v := 4) hx hb d_L_law_1131 (by decide) ?_
  refine lv_iadd hx hb d_L_law_1132 ?_
  refine z_topi (y := nI (i + 4)) (nI_add i 4) ?_
  refine z_sld (j := i + 4) hx hb hX hbl (Nat.not_le.mpr hbl) hS (by omega) (by omega) d_L_law_1133 ?_
  refine z_wrV (n := 4) (C := R_M) (rest := []) ⟨hx, hb, hml, hown, hts⟩ (State.WarmedH.refl s) (hm _) w_729 w_726 w_727 w_728 w_4 (by decide +kernel) hmr (hO2.recv hK rfl) ⟨rfl, hK2_⟩ rfl rfl hl.1 (Nat.le_of_ble_eq_true rfl) d_L_law_1134 hcell hS (fun q h => h.elim (fun h => by obtain ⟨k9, h9, e9⟩ := h; rw [e9]; exact hE k9 h9) (fun h => Nat.le_trans hS.1 h)) (fun H1 locs1 hK3 hz2 hk2 hS => ?_)
  refine lv_istore (lv' := [(6, .int bv), (5, .int kc), (0, .ref b), (1, .ref a), (2, .ref (E 0)), (3, .ref o), (4, .int (nI i))]) hx hb d_L_law_1137 hl (by decide) rfl (fun ls hl => ?_)
  refine lv_aload_n hx hb d_L_law_1139 rfl (lv_at hl 4 rfl) ?_
  obtain ⟨⟨mp, ms_, mc_, mn, mm, gv, hMd⟩, hL3⟩ := hK3_ _ hK3
  refine z_rdV (n := 0) (C := R_M) (rest := []) ⟨hx, hb, hml, hown, hts⟩ (State.WarmedH.refl s) (c_M_thrown G E kc mp ms_ mc_ mn mm gv) w_613 w_610 w_611 w_612 w_4 (by decide +kernel) ⟨rfl, rfl, Nat.le_of_ble_eq_true rfl, Nat.le_of_ble_eq_true rfl⟩ (hMd.1.1.recv hK rfl) hMd rfl rfl hl.1 (Nat.le_of_ble_eq_true rfl) d_L_law_1140 hcell ?_
  refine lv_iload hx hb d_L_law_1143 (lv_at hl 1 rfl) ?_
  refine lv_icmp_eq (tgt := 1150) hx hb d_L_law_1145 (by decide) (fun c_1 => ?_) (fun c_1 => ?_)
  · skip
    refine lv_iload hx hb d_L_law_1150 (lv_at hl 1 rfl) ?_
    refine lv_if_ne (tgt := 1167) hx hb d_L_law_1152 (by decide) (fun c_2 => ?_) (fun c_2 => ?_)
    · skip
      refine lv_goto (tgt := 1342) hx hb d_L_law_1167 (by decide) ?_
      exact k H1 locs1 hK3 hS ls (lv_sub hl [2, 3, 4, 5, 6] rfl)
    · skip
      refine lv_aload_n hx hb d_L_law_1155 rfl (lv_at hl 5 rfl) ?_
      refine lv_iconst (v := 0) hx hb d_L_law_1156 (by decide) ?_
      refine z_lald hx hb hAL hL3 d_L_law_1157 ?_
      refine lv_iload hx hb d_L_law_1158 (lv_at hl 0 rfl) ?_
      refine lv_i2l hx hb d_L_law_1160 rfl ?_
      refine W.lcmp hx hb d_L_law_1161 ?_
      refine lv_if_eq (tgt := 1167) hx hb d_L_law_1162 (by decide) (fun c_3 => ?_) (fun c_3 => ?_)
      · skip
        have c_3 : (f 0) = bv.toInt64 := (lg_cmp_eq _ _).mp c_3
        refine lv_goto (tgt := 1342) hx hb d_L_law_1167 (by decide) ?_
        exact k H1 locs1 hK3 hS ls (lv_sub hl [2, 3, 4, 5, 6] rfl)
      · skip
        have c_3 : ¬ ((f 0) = bv.toInt64) := fun h => c_3 ((lg_cmp_eq _ _).mpr h)
        exact absurd (hv c_2) c_3
  · skip
    exact absurd (rfl : kc = kc) c_1
set_option maxRecDepth 100000 in
set_option maxHeartbeats 4000000 in
theorem law_placed {p : Program} {e : Env} {s : State} {m : MethodId} {below : List Frame} {meth : Method} {c : Code} {l : Launch} {b L : Nat} {xs : Nat → Int32} (C0 : lw_At p s m meth c b L xs) (hL : L ≤ 2560) (G : z_G s (dC, dI) cI cS) (hLX : z_LX s cL) {i a o : Nat} {E : Nat → Nat} {H : Heap} {locs : List Loc} {cells slots mc ms : Nat} {rw rm : Room} {K1 K2 K3 : Heap → Prop} {F1 : Nat → Prop} {kc : Int32} {f : Nat → Int64} {bv : Int32} {Q : State → Prop} (hi : i + 5 ≤ L) (hw : Met l y_L_placed [Cond.codeWith y_L_placed b_L_placed 6 (some .int) [(0, 12, 15, 13), (0, 12, 19, 21), (0, 12, 23, 15)]] rw (z_Pc s [.ref a, .int (xs (i + 1)), .int (xs (i + 2)), .int (xs (i + 3)), .ref o] (fun H' => H'.size = H.size ∧ K1 H')) (z_Qw (fun r H => r = some (.int kc) ∧ K2 H) F1) mc ms F1) (hwr : z_rmk rw room_1 6 mc ms) (hm : ∀ sz, Met l y_M_placed [Cond.code y_M_placed b_M_placed 17 (some .int)] rm (z_Pc s [.ref (E 0), .int (xs (i + 1)), .int (xs (i + 2)), .int (xs (i + 3))] (fun H => H.size = sz ∧ K2 H)) (z_Qw (fun r H => r = some (.int bv) ∧ K3 H) (z_fr (z_mF E) sz)) 0 0 (z_fr (z_mF E) sz)) (hmr : z_rmk rm room_1 17 0 0) (hK2 : ∀ H : Heap, K2 H → ∃ fs, z_O (dC, dI) H (E 0) 4 fs) (hK3_ : ∀ H : Heap, K3 H → (∃ mp ms mc mn mm gv, z_Md (dC, dI) cI H E kc mp ms mc mn mm gv) ∧ z_L cL H o 1 f) (hv : kc = 0 → f 0 = bv.toInt64) (hF1 : ∀ q, F1 q → s.heap.size ≤ q) (hE : ∀ k, k < 18 → s.heap.size ≤ E k) (hK1 : K1 H) (hS : va_S (fun q => s.heap.size ≤ q) s.heap H locs) (hcell : cells + mc ≤ room_1.cells ∧ slots + ms ≤ room_1.slots) (k : ∀ (H1 : Heap) (locs1 : List Loc), K3 H1 → va_S (fun q => s.heap.size ≤ q) s.heap H1 locs1 → ∀ ls : Array Slot, lv_has ls 7 [(0, .ref b), (1, .ref a), (2, .ref (E 0)), (3, .ref o), (4, .int (nI i))] → W p l e room_1 s m #[Value.ref b] below meth c H1 locs1 (cells + mc) (slots + ms) Q (F0 m 1342 ls [])) : ∀ ls : Array Slot, lv_has ls 7 [(0, .ref b), (1, .ref a), (2, .ref (E 0)), (3, .ref o), (4, .int (nI i))] → W p l e room_1 s m #[Value.ref b] below meth c H locs cells slots Q (F0 m 1170 ls []) := by
  obtain ⟨hx, hb, hr, hml, hown, hts0, hX, hbl, hlocks, hgv⟩ := C0
  have hts : ∀ w ∈ z_tbl, w.before #[Value.ref b] s = true := fun w hw => hts0 w (List.mem_filter.mp hw).1
  have hK := G.2.2.1
  have hAL := hLX.1
  intro ls hl
  refine lv_aload_n hx hb d_L_law_1170 rfl (lv_at hl 1 rfl) ?_
  refine lv_aload_n hx hb d_L_law_1171 rfl (lv_at hl 0 rfl) ?_
  refine lv_iload hx hb d_L_law_1172 (lv_at hl 4 rfl) ?_
  refine lv_iconst (v := 1) hx hb d_L_law_1174 (by decide) ?_
  refine lv_iadd hx hb d_L_law_1175 ?_
  refine z_topi (y := nI (i + 1)) (nI_add i 1) ?_
  refine z_sld (j := i + 1) hx hb hX hbl (Nat.not_le.mpr hbl) hS (by omega) (by omega) d_L_law_1176 ?_
  refine lv_aload_n hx hb d_L_law_1177 rfl (lv_at hl 0 rfl) ?_
  refine lv_iload hx hb d_L_law_1178 (lv_at hl 4 rfl) ?_
  refine lv_iconst (v := 2) hx hb d_L_law_1180 (by decide) ?_
  refine lv_iadd hx hb d_L_law_1181 ?_
  refine z_topi (y := nI (i + 2)) (nI_add i 2) ?_
  refine z_sld (j := i + 2) hx hb hX hbl (Nat.not_le.mpr hbl) hS (by omega) (by omega) d_L_law_1182 ?_
  refine lv_aload_n hx hb d_L_law_1183 rfl (lv_at hl 0 rfl) ?_
  refine lv_iload hx hb d_L_law_1184 (lv_at hl 4 rfl) ?_
  refine lv_iconst (v := 3) hx hb d_L_law_1186 (by decide) ?_
  refine lv_iadd hx hb d_L_law_1187 ?_
  refine z_topi (y := nI (i + 3)) (nI_add i 3) ?_
  refine z_sld (j := i + 3) hx hb hX hbl (Nat.not_le.mpr hbl) hS (by omega) (by omega) d_L_law_1188 ?_
  refine lv_aload_n hx hb d_L_law_1189 rfl (lv_at hl 3 rfl) ?_
  refine z_wrT (n := 5) (rest := []) ⟨hx, hb, hml, hown, hts⟩ (State.WarmedH.refl s) hw w_486 w_484 w_485 w_0 (by decide +kernel) hwr ⟨rfl, hK1⟩ rfl rfl hl.1 (Nat.le_of_ble_eq_true rfl) d_L_law_1190 hcell hS hF1 (fun H1 locs1 hK2_ hz1 hk1 hS => ?_)
  obtain ⟨fs2, hO2⟩ := hK2 _ hK2_
  refine lv_istore (lv' := [(5, .int kc), (0, .ref b), (1, .ref a), (2, .ref (E 0)), (3, .ref o), (4, .int (nI i))]) hx hb d_L_law_1193 hl (by decide) rfl (fun ls hl => ?_)
  refine lv_aload_n hx hb d_L_law_1195 rfl (lv_at hl 3 rfl) ?_
  refine lv_aload_n hx hb d_L_law_1196 rfl (lv_at hl 1 rfl) ?_
  refine lv_iload hx hb d_L_law_1197 (lv_at hl 5 rfl) ?_
  refine lv_iconst (v := 1) hx hb d_L_law_1199 (by decide) ?_
  refine lv_iadd hx hb d_L_law_1200 ?_
  refine z_topi (y := nI (i + 1)) (nI_add i 1) ?_
  refine z_sld (j := i + 1) hx hb hX hbl (Nat.not_le.mpr hbl) hS (by omega) (by omega) d_L_law_1201 ?_
  refine lv_aload_n hx hb d_L_law_1202 rfl (lv_at hl 1 rfl) ?_
  refine lv_iload hx hb d_L_law_1203 (lv_at hl 5 rfl) ?_
  refine lv_iconst (v := 2) hx hb d_L_law_1205 (by decide) ?_
  refine lv_iadd hx hb d_L_law_1206 ?_
  refine z_topi (y := nI (i + 2)) (nI_add i 2) ?_
  refine z_sld (j := i + 2) hx hb hX hbl (Nat.not_le.mpr hbl) hS (by omega) (by omega) d_L_law_1207 ?_
  refine lv_aload_n hx hb d_L_law_1208 rfl (lv_at hl 1 rfl) ?_
  refine lv_iload hx hb d_L_law_1209 (lv_at hl 5 rfl) ?_
  refine lv_iconst (v := 3) hx hb d_L_law_1211 (by decide) ?_
  refine lv_iadd hx hb d_L_law_1212 ?_
  refine z_topi (y := nI (i + 3)) (nI_add i 3) ?_
  refine z_sld (j := i + 3) hx hb hX hbl (Nat.not_le.mpr hbl) hS (by omega) (by omega) d_L_law_1213 ?_
  refine z_wrV (n := 3) (C := R_M) (rest := []) ⟨hx, hb, hml, hown, hts⟩ (State.WarmedH.refl s) (hm _) w_733 w_730 w_731 w_732 w_4 (by decide +kernel) hmr (hO2.recv hK rfl) ⟨rfl, hK2_⟩ rfl rfl hl.1 (Nat.le_of_ble_eq_true rfl) d_L_law_1214 hcell hS (fun q h => h.elim (fun h => by obtain ⟨k9, h9, e9⟩ := h; rw [e9]; exact hE k9 h9) (fun h => Nat.le_trans hS.1 h)) (fun H1 locs1 hK3 hz2 hk2 hS => ?_)
  refine lv_istore (lv' := [(6, .int bv), (5, .int kc), (0, .ref b), (1, .ref a), (2, .ref (E 0)), (3, .ref o), (4, .int (nI i))]) hx hb d_L_law_1217 hl (by decide) rfl (fun ls hl => ?_)
  refine lv_aload_n hx hb d_L_law_1219 rfl (lv_at hl 4 rfl) ?_
  obtain ⟨⟨mp, ms_, mc_, mn, mm, gv, hMd⟩, hL3⟩ := hK3_ _ hK3
  refine z_rdV (n := 0) (C := R_M) (rest := []) ⟨hx, hb, hml, hown, hts⟩ (State.WarmedH.refl s) (c_M_thrown G E kc mp ms_ mc_ mn mm gv) w_613 w_610 w_611 w_612 w_4 (by decide +kernel) ⟨rfl, rfl, Nat.le_of_ble_eq_true rfl, Nat.le_of_ble_eq_true rfl⟩ (hMd.1.1.recv hK rfl) hMd rfl rfl hl.1 (Nat.le_of_ble_eq_true rfl) d_L_law_1220 hcell ?_
  refine lv_iload hx hb d_L_law_1223 (lv_at hl 1 rfl) ?_
  refine lv_icmp_eq (tgt := 1230) hx hb d_L_law_1225 (by decide) (fun c_1 => ?_) (fun c_1 => ?_)
  · skip
    refine lv_iload hx hb d_L_law_1230 (lv_at hl 1 rfl) ?_
    refine lv_if_ne (tgt := 1247) hx hb d_L_law_1232 (by decide) (fun c_2 => ?_) (fun c_2 => ?_)
    · skip
      refine lv_goto (tgt := 1342) hx hb d_L_law_1247 (by decide) ?_
      exact k H1 locs1 hK3 hS ls (lv_sub hl [2, 3, 4, 5, 6] rfl)
    · skip
      refine lv_aload_n hx hb d_L_law_1235 rfl (lv_at hl 5 rfl) ?_
      refine lv_iconst (v := 0) hx hb d_L_law_1236 (by decide) ?_
      refine z_lald hx hb hAL hL3 d_L_law_1237 ?_
      refine lv_iload hx hb d_L_law_1238 (lv_at hl 0 rfl) ?_
      refine lv_i2l hx hb d_L_law_1240 rfl ?_
      refine W.lcmp hx hb d_L_law_1241 ?_
      refine lv_if_eq (tgt := 1247) hx hb d_L_law_1242 (by decide) (fun c_3 => ?_) (fun c_3 => ?_)
      · skip
        have c_3 : (f 0) = bv.toInt64 := (lg_cmp_eq _ _).mp c_3
        refine lv_goto (tgt := 1342) hx hb d_L_law_1247 (by decide) ?_
        exact k H1 locs1 hK3 hS ls (lv_sub hl [2, 3, 4, 5, 6] rfl)
      · skip
        have c_3 : ¬ ((f 0) = bv.toInt64) := fun h => c_3 ((lg_cmp_eq _ _).mpr h)
        exact absurd (hv c_2) c_3
  · skip
    exact absurd (rfl : kc = kc) c_1
set_option maxRecDepth 100000 in
set_option maxHeartbeats 4000000 in
theorem law_masked {p : Program} {e : Env} {s : State} {m : MethodId} {below : List Frame} {meth : Method} {c : Code} {l : Launch} {b L : Nat} {xs : Nat → Int32} (C0 : lw_At p s m meth c b L xs) (hL : L ≤ 2560) (G : z_G s (dC, dI) cI cS) (hLX : z_LX s cL) {i a o : Nat} {E : Nat → Nat} {H : Heap} {locs : List Loc} {cells slots mc ms : Nat} {rw rm : Room} {K1 K2 K3 : Heap → Prop} {F1 : Nat → Prop} {kc : Int32} {f : Nat → Int64} {bv : Int32} {Q : State → Prop} (hi : i + 5 ≤ L) (hw : Met l y_L_masked [Cond.codeWith y_L_masked b_L_masked 7 (some .int) [(0, 14, 17, 13), (0, 14, 21, 21)]] rw (z_Pc s [.ref a, .int (xs (i + 1)), .int (xs (i + 2)), .int (xs (i + 3)), .int (xs (i + 4)), .ref o] (fun H' => H'.size = H.size ∧ K1 H')) (z_Qw (fun r H => r = some (.int kc) ∧ K2 H) F1) mc ms F1) (hwr : z_rmk rw room_1 7 mc ms) (hm : ∀ sz, Met l y_M_masked [Cond.code y_M_masked b_M_masked 7 (some .int)] rm (z_Pc s [.ref (E 0), .int (xs (i + 1)), .int (xs (i + 2)), .int (xs (i + 3)), .int (xs (i + 4))] (fun H => H.size = sz ∧ K2 H)) (z_Qw (fun r H => r = some (.int bv) ∧ K3 H) (z_fr (z_mF E) sz)) 0 0 (z_fr (z_mF E) sz)) (hmr : z_rmk rm room_1 7 0 0) (hK2 : ∀ H : Heap, K2 H → ∃ fs, z_O (dC, dI) H (E 0) 4 fs) (hK3_ : ∀ H : Heap, K3 H → (∃ mp ms mc mn mm gv, z_Md (dC, dI) cI H E kc mp ms mc mn mm gv) ∧ z_L cL H o 1 f) (hv : kc = 0 → f 0 = bv.toInt64) (hF1 : ∀ q, F1 q → s.heap.size ≤ q) (hE : ∀ k, k < 18 → s.heap.size ≤ E k) (hK1 : K1 H) (hS : va_S (fun q => s.heap.size ≤ q) s.heap H locs) (hcell : cells + mc ≤ room_1.cells ∧ slots + ms ≤ room_1.slots) (k : ∀ (H1 : Heap) (locs1 : List Loc), K3 H1 → va_S (fun q => s.heap.size ≤ q) s.heap H1 locs1 → ∀ ls : Array Slot, lv_has ls 7 [(0, .ref b), (1, .ref a), (2, .ref (E 0)), (3, .ref o), (4, .int (nI i))] → W p l e room_1 s m #[Value.ref b] below meth c H1 locs1 (cells + mc) (slots + ms) Q (F0 m 1342 ls [])) : ∀ ls : Array Slot, lv_has ls 7 [(0, .ref b), (1, .ref a), (2, .ref (E 0)), (3, .ref o), (4, .int (nI i))] → W p l e room_1 s m #[Value.ref b] below meth c H locs cells slots Q (F0 m 1250 ls []) := by
  obtain ⟨hx, hb, hr, hml, hown, hts0, hX, hbl, hlocks, hgv⟩ := C0
  have hts : ∀ w ∈ z_tbl, w.before #[Value.ref b] s = true := fun w hw => hts0 w (List.mem_filter.mp hw).1
  have hK := G.2.2.1
  have hAL := hLX.1
  intro ls hl
  refine lv_aload_n hx hb d_L_law_1250 rfl (lv_at hl 1 rfl) ?_
  refine lv_aload_n hx hb d_L_law_1251 rfl (lv_at hl 0 rfl) ?_
  refine lv_iload hx hb d_L_law_1252 (lv_at hl 4 rfl) ?_
  refine lv_iconst (v := 1) hx hb d_L_law_1254 (by decide) ?_
  refine lv_iadd hx hb d_L_law_1255 ?_
  refine z_topi (y := nI (i + 1)) (nI_add i 1) ?_
  refine z_sld (j := i + 1) hx hb hX hbl (Nat.not_le.mpr hbl) hS (by omega) (by omega) d_L_law_1256 ?_
  refine lv_aload_n hx hb d_L_law_1257 rfl (lv_at hl 0 rfl) ?_
  refine lv_iload hx hb d_L_law_1258 (lv_at hl 4 rfl) ?_
  refine lv_iconst (v := 2) hx hb d_L_law_1260 (by decide) ?_
  refine lv_iadd hx hb d_L_law_1261 ?_
  refine z_topi (y := nI (i + 2)) (nI_add i 2) ?_
  refine z_sld (j := i + 2) hx hb hX hbl (Nat.not_le.mpr hbl) hS (by omega) (by omega) d_L_law_1262 ?_
  refine lv_aload_n hx hb d_L_law_1263 rfl (lv_at hl 0 rfl) ?_
  refine lv_iload hx hb d_L_law_1264 (lv_at hl 4 rfl) ?_
  refine lv_iconst (v := 3) hx hb d_L_law_1266 (by decide) ?_
  refine lv_iadd hx hb d_L_law_1267 ?_
  refine z_topi (y := nI (i + 3)) (nI_add i 3) ?_
  refine z_sld (j := i + 3) hx hb hX hbl (Nat.not_le.mpr hbl) hS (by omega) (by omega) d_L_law_1268 ?_
  refine lv_aload_n hx hb d_L_law_1269 rfl (lv_at hl 0 rfl) ?_
  refine lv_iload hx hb d_L_law_1270 (lv_at hl 4 rfl) ?_
  refine lv_iconst (v := 4) hx hb d_L_law_1272 (by decide) ?_
  refine lv_iadd hx hb d_L_law_1273 ?_
  refine z_topi (y := nI (i + 4)) (nI_add i 4) ?_
  refine z_sld (j := i + 4) hx hb hX hbl (Nat.not_le.mpr hbl) hS (by omega) (by omega) d_L_law_1274 ?_
  refine lv_aload_n hx hb d_L_law_1275 rfl (lv_at hl 3 rfl) ?_
  refine z_wrT (n := 6) (rest := []) ⟨hx, hb, hml, hown, hts⟩ (State.WarmedH.refl s) hw w_525 w_523 w_524 w_0 (by decide +kernel) hwr ⟨rfl, hK1⟩ rfl rfl hl.1 (Nat.le_of_ble_eq_true rfl) d_L_law_1276 hcell hS hF1 (fun H1 locs1 hK2_ hz1 hk1 hS => ?_)
  obtain ⟨fs2, hO2⟩ := hK2 _ hK2_
  refine lv_istore (lv' := [(5, .int kc), (0, .ref b), (1, .ref a), (2, .ref (E 0)), (3, .ref o), (4, .int (nI i))]) hx hb d_L_law_1279 hl (by decide) rfl (fun ls hl => ?_)
  refine lv_aload_n hx hb d_L_law_1281 rfl (lv_at hl 3 rfl) ?_
  refine lv_aload_n hx hb d_L_law_1282 rfl (lv_at hl 1 rfl) ?_
  refine lv_iload hx hb d_L_law_1283 (lv_at hl 5 rfl) ?_
  refine lv_iconst (v := 1) hx hb d_L_law_1285 (by decide) ?_
  refine lv_iadd hx hb d_L_law_1286 ?_
  refine z_topi (y := nI (i + 1)) (nI_add i 1) ?_
  refine z_sld (j := i + 1) hx hb hX hbl (Nat.not_le.mpr hbl) hS (by omega) (by omega) d_L_law_1287 ?_
  refine lv_aload_n hx hb d_L_law_1288 rfl (lv_at hl 1 rfl) ?_
  refine lv_iload hx hb d_L_law_1289 (lv_at hl 5 rfl) ?_
  refine lv_iconst (v := 2) hx hb d_L_law_1291 (by decide) ?_
  refine lv_iadd hx hb d_L_law_1292 ?_
  refine z_topi (y := nI (i + 2)) (nI_add i 2) ?_
  refine z_sld (j := i + 2) hx hb hX hbl (Nat.not_le.mpr hbl) hS (by omega) (by omega) d_L_law_1293 ?_
  refine lv_aload_n hx hb d_L_law_1294 rfl (lv_at hl 1 rfl) ?_
  refine lv_iload hx hb d_L_law_1295 (lv_at hl 5 rfl) ?_
  refine lv_iconst (v := 3) hx hb d_L_law_1297 (by decide) ?_
  refine lv_iadd hx hb d_L_law_1298 ?_
  refine z_topi (y := nI (i + 3)) (nI_add i 3) ?_
  refine z_sld (j := i + 3) hx hb hX hbl (Nat.not_le.mpr hbl) hS (by omega) (by omega) d_L_law_1299 ?_
  refine lv_aload_n hx hb d_L_law_1300 rfl (lv_at hl 1 rfl) ?_
  refine lv_iload hx hb d_L_law_1301 (lv_at hl 5 rfl) ?_
  refine lv_iconst (v := 4) hx hb d_L_law_1303 (by decide) ?_
  refine lv_iadd hx hb d_L_law_1304 ?_
  refine z_topi (y := nI (i + 4)) (nI_add i 4) ?_
  refine z_sld (j := i + 4) hx hb hX hbl (Nat.not_le.mpr hbl) hS (by omega) (by omega) d_L_law_1305 ?_
  refine z_wrV (n := 4) (C := R_M) (rest := []) ⟨hx, hb, hml, hown, hts⟩ (State.WarmedH.refl s) (hm _) w_749 w_746 w_747 w_748 w_4 (by decide +kernel) hmr (hO2.recv hK rfl) ⟨rfl, hK2_⟩ rfl rfl hl.1 (Nat.le_of_ble_eq_true rfl) d_L_law_1306 hcell hS (fun q h => h.elim (fun h => by obtain ⟨k9, h9, e9⟩ := h; rw [e9]; exact hE k9 h9) (fun h => Nat.le_trans hS.1 h)) (fun H1 locs1 hK3 hz2 hk2 hS => ?_)
  refine lv_istore (lv' := [(6, .int bv), (5, .int kc), (0, .ref b), (1, .ref a), (2, .ref (E 0)), (3, .ref o), (4, .int (nI i))]) hx hb d_L_law_1309 hl (by decide) rfl (fun ls hl => ?_)
  refine lv_aload_n hx hb d_L_law_1311 rfl (lv_at hl 4 rfl) ?_
  obtain ⟨⟨mp, ms_, mc_, mn, mm, gv, hMd⟩, hL3⟩ := hK3_ _ hK3
  refine z_rdV (n := 0) (C := R_M) (rest := []) ⟨hx, hb, hml, hown, hts⟩ (State.WarmedH.refl s) (c_M_thrown G E kc mp ms_ mc_ mn mm gv) w_613 w_610 w_611 w_612 w_4 (by decide +kernel) ⟨rfl, rfl, Nat.le_of_ble_eq_true rfl, Nat.le_of_ble_eq_true rfl⟩ (hMd.1.1.recv hK rfl) hMd rfl rfl hl.1 (Nat.le_of_ble_eq_true rfl) d_L_law_1312 hcell ?_
  refine lv_iload hx hb d_L_law_1315 (lv_at hl 1 rfl) ?_
  refine lv_icmp_eq (tgt := 1322) hx hb d_L_law_1317 (by decide) (fun c_1 => ?_) (fun c_1 => ?_)
  · skip
    refine lv_iload hx hb d_L_law_1322 (lv_at hl 1 rfl) ?_
    refine lv_if_ne (tgt := 1339) hx hb d_L_law_1324 (by decide) (fun c_2 => ?_) (fun c_2 => ?_)
    · skip
      refine lv_goto (tgt := 1342) hx hb d_L_law_1339 (by decide) ?_
      exact k H1 locs1 hK3 hS ls (lv_sub hl [2, 3, 4, 5, 6] rfl)
    · skip
      refine lv_aload_n hx hb d_L_law_1327 rfl (lv_at hl 5 rfl) ?_
      refine lv_iconst (v := 0) hx hb d_L_law_1328 (by decide) ?_
      refine z_lald hx hb hAL hL3 d_L_law_1329 ?_
      refine lv_iload hx hb d_L_law_1330 (lv_at hl 0 rfl) ?_
      refine lv_i2l hx hb d_L_law_1332 rfl ?_
      refine W.lcmp hx hb d_L_law_1333 ?_
      refine lv_if_eq (tgt := 1339) hx hb d_L_law_1334 (by decide) (fun c_3 => ?_) (fun c_3 => ?_)
      · skip
        have c_3 : (f 0) = bv.toInt64 := (lg_cmp_eq _ _).mp c_3
        refine lv_goto (tgt := 1342) hx hb d_L_law_1339 (by decide) ?_
        exact k H1 locs1 hK3 hS ls (lv_sub hl [2, 3, 4, 5, 6] rfl)
      · skip
        have c_3 : ¬ ((f 0) = bv.toInt64) := fun h => c_3 ((lg_cmp_eq _ _).mpr h)
        exact absurd (hv c_2) c_3
  · skip
    exact absurd (rfl : kc = kc) c_1
end LCA
