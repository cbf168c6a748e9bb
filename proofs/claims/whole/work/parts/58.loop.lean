theorem z_and15 (x : Int32) : ∃ j, j < 16 ∧ x &&& 15 = nI j := by
  refine ⟨(x &&& 15).toBitVec.toNat, ?_, ?_⟩
  · rw [Int32.toBitVec_and, BitVec.toNat_and]
    have : (15 : Int32).toBitVec.toNat = 15 := rfl
    rw [this]
    exact Nat.lt_succ_of_le Nat.and_le_right
  · apply Int32.toBitVec_inj.mp
    show _ = BitVec.ofNat 32 _
    rw [BitVec.ofNat_toNat]; simp
theorem z_A0_ge {a : Nat} (k : Nat) : a ≤ z_A0 a (a + 1) k := by
  unfold z_A0
  repeat' split
  all_goals omega
theorem z_E0_ge {a : Nat} (k : Nat) : a + 13 ≤ z_E0 (a + 13) (a + 14) k := by
  unfold z_E0
  split
  all_goals omega
section LOO
variable {s0 : State} {dC : Nat → ClassId} {dI : Nat → Nat → Nat} {cI cS cL : ClassId} {l : Launch}
set_option maxRecDepth 100000 in
set_option maxHeartbeats 4000000 in
theorem whole_loop {p : Program} {e : Env} {s : State} {m : MethodId} {below : List Frame} {meth : Method} {c : Code} {l : Launch} {b L : Nat} {xs : Nat → Int32} (C0 : lw_At p s m meth c b L xs) (hL : L ≤ 2560) (G : z_G s (dC, dI) cI cS) (hGI : z_GI s cI) (hT : z_T s l) (hLX : z_LX s cL) {E : Nat → Nat} {o : Nat} : ∀ (n i : Nat) (A : Nat → Nat) (th : Int32) (np ns nc nn nm : Nat) (fv : Nat → Nat → Int32) (so sf st : Nat → Int32) (sn sc : Nat → Nat) (sp : Nat → Option Nat) (sx sy gv : Nat → Nat → Int32) (f : Nat → Int64) (H : Heap) (locs : List Loc) (cells slots : Nat), L - i < n → i ≤ L → 5 * nc ≤ i → cells ≤ 40 + i → slots ≤ 2000 + 7 * i → z_LS s (dC, dI) cI cS cL A E o th np ns nc nn nm fv so sf st sn sc sp sx sy gv f H → z_Ap s A ns E o → z_Cp np ns nn nm fv so sf st sn sc sp sx sy gv → va_S (fun q => s.heap.size ≤ q) s.heap H locs → ∀ ls : Array Slot, lv_has ls 7 [(0, .ref b), (1, .ref (A 0)), (2, .ref (E 0)), (3, .ref o), (4, .int (nI i))] → W p l e room_1 s m #[Value.ref b] below meth c H locs cells slots (lw_Z below #[Value.ref b] s) (F0 m 23 ls []) := by
  have C1 := C0
  obtain ⟨hx, hb, hr, hml, hown, hts0, hX, hbl, hlocks, hgv⟩ := C1
  intro n
  induction n with
  | zero => intro i A th np ns nc nn nm fv so sf st sn sc sp sx sy gv f H locs cells slots hmu; exact absurd hmu (Nat.not_lt_zero _)
  | succ n ih =>
    intro i A th np ns nc nn nm fv so sf st sn sc sp sx sy gv f H locs cells slots hmu hiL hnc5 hc hs hLS hAp hCp hS ls hl
    refine lv_iload hx hb d_L_law_23 (lv_at hl 4 rfl) ?_
    refine lv_aload_n hx hb d_L_law_25 rfl (lv_at hl 0 rfl) ?_
    refine va_slen hx hb hX hbl (Nat.not_le.mpr hbl) hS d_L_law_26 ?_
    refine lv_iconst (v := 5) hx hb d_L_law_27 (by decide) ?_
    refine lv_isub hx hb d_L_law_28 ?_
    refine lv_icmp_gt (tgt := 1348) hx hb d_L_law_29 (by decide) (fun c_1 => ?_) (fun c_1 => ?_)
    · refine va_forget hS.2.2 ?_
      refine lv_iconst (v := 1) hx hb d_L_law_1348 (by decide) ?_
      refine W.widen (k := 601024) (n := 7293034) (by omega) (by omega) ?_
      exact lw_ret hx hb hr hlocks d_L_law_1349
    · have hi : i + 5 ≤ L := by
        have e1 : (Int32.ofNat L - 5).toInt = (L : Int) - ((5 : Nat) : Int) := pk_sub_toInt (a := L) (b := 5) (by omega) (by omega)
        have e2 : (nI i).toInt = (i : Int) := nI_toInt (by omega)
        have c2 : ¬ (Int32.ofNat L - 5).toInt < (nI i).toInt := fun h => c_1 (Int32.lt_iff_toInt_lt.mpr h)
        omega
      refine lv_aload_n hx hb d_L_law_32 rfl (lv_at hl 0 rfl) ?_
      refine lv_iload hx hb d_L_law_33 (lv_at hl 4 rfl) ?_
      refine z_sld (j := i) hx hb hX hbl (Nat.not_le.mpr hbl) hS (by omega) (by omega) d_L_law_35 ?_
      refine lv_bipush (v := 15) hx hb d_L_law_36 (by decide) ?_
      refine lv_iand hx hb d_L_law_38 ?_
      obtain ⟨j, hj, ej⟩ := z_and15 (xs i)
      refine z_topi (y := nI j) ej ?_
      have hcell : cells + 3 ≤ room_1.cells ∧ slots + 33 ≤ room_1.slots := ⟨by show _ ≤ 601024; omega, by show _ ≤ 7293034; omega⟩
      have next : ∀ (A' : Nat → Nat) (th' : Int32) (np' ns' nc' nn' nm' : Nat) (fv' : Nat → Nat → Int32) (so' sf' st' : Nat → Int32) (sn' sc' : Nat → Nat) (sp' : Nat → Option Nat) (sx' sy' gv' : Nat → Nat → Int32) (f' : Nat → Int64) (H1 : Heap) (locs1 : List Loc) (cells1 slots1 : Nat), cells1 ≤ cells + 3 → slots1 ≤ slots + 33 → z_LS s (dC, dI) cI cS cL A' E o th' np' ns' nc' nn' nm' fv' so' sf' st' sn' sc' sp' sx' sy' gv' f' H1 → z_Ap s A' ns' E o → z_Cp np' ns' nn' nm' fv' so' sf' st' sn' sc' sp' sx' sy' gv' → nc' ≤ nc + 1 → A' 0 = A 0 → va_S (fun q => s.heap.size ≤ q) s.heap H1 locs1 → ∀ ls : Array Slot, lv_has ls 7 [(0, .ref b), (1, .ref (A 0)), (2, .ref (E 0)), (3, .ref o), (4, .int (nI i))] → W p l e room_1 s m #[Value.ref b] below meth c H1 locs1 cells1 slots1 (lw_Z below #[Value.ref b] s) (F0 m 1342 ls []) := by
        intro A' th' np' ns' nc' nn' nm' fv' so' sf' st' sn' sc' sp' sx' sy' gv' f' H1 locs1 cells1 slots1 h1 h2 hLS1 hAp1 hCp1 hn1 hA0 hS1 ls hl
        refine lv_iinc (v := nI (i + 5)) (lv' := [(4, .int (nI (i + 5))), (0, .ref b), (1, .ref (A 0)), (2, .ref (E 0)), (3, .ref o)]) hx hb d_L_law_1342 hl (k := 4) rfl (nI_add i 5) (by decide) rfl (fun ls hl => ?_)
        refine lv_goto (tgt := 23) hx hb d_L_law_1345 (by decide) ?_
        rw [← hA0] at hl
        exact ih (i + 5) A' th' np' ns' nc' nn' nm' fv' so' sf' st' sn' sc' sp' sx' sy' gv' f' H1 locs1 cells1 slots1 (by omega) (by omega) (by omega) (by omega) (by omega) hLS1 hAp1 hCp1 hS1 ls (lv_sub hl [1, 2, 3, 4, 0] rfl)
      have js : j = 0 ∨ j = 1 ∨ j = 2 ∨ j = 3 ∨ j = 4 ∨ j = 5 ∨ j = 6 ∨ j = 7 ∨ j = 8 ∨ j = 9 ∨ j = 10 ∨ j = 11 ∨ j = 12 ∨ j = 13 ∨ j = 14 ∨ j = 15 := by omega
      rcases js with rfl | rfl | rfl | rfl | rfl | rfl | rfl | rfl | rfl | rfl | rfl | rfl | rfl | rfl | rfl | rfl
      · refine lv_tableIn (off := 77) (tgt := 116) hx hb d_L_law_39 (by decide) (by decide) rfl (by decide) ?_
        exact step_place C0 hL G hLX hi hAp hLS hS hcell hGI hT hCp (by omega) next ls hl
      · refine lv_tableIn (off := 133) (tgt := 172) hx hb d_L_law_39 (by decide) (by decide) rfl (by decide) ?_
        exact step_shape C0 hL G hLX hi hAp hLS hS hcell hGI hT hCp (by omega) next ls hl
      · refine lv_tableIn (off := 213) (tgt := 252) hx hb d_L_law_39 (by decide) (by decide) rfl (by decide) ?_
        exact step_corner C0 hL G hLX hi hAp hLS hS hcell hGI hT hCp (by omega) next ls hl
      · refine lv_tableIn (off := 293) (tgt := 332) hx hb d_L_law_39 (by decide) (by decide) rfl (by decide) ?_
        exact step_close C0 hL G hLX hi hAp hLS hS hcell hGI hT hCp (by omega) next ls hl
      · refine lv_tableIn (off := 356) (tgt := 395) hx hb d_L_law_39 (by decide) (by decide) rfl (by decide) ?_
        exact step_unsure C0 hL G hLX hi hAp hLS hS hcell hGI hT hCp (by omega) next ls hl
      · refine lv_tableIn (off := 431) (tgt := 470) hx hb d_L_law_39 (by decide) (by decide) rfl (by decide) ?_
        exact step_force C0 hL G hLX hi hAp hLS hS hcell hGI hT hCp (by omega) next ls hl
      · refine lv_tableIn (off := 499) (tgt := 538) hx hb d_L_law_39 (by decide) (by decide) rfl (by decide) ?_
        exact step_inside C0 hL G hLX hi hAp hLS hS hcell hGI hT hCp (by omega) next ls hl
      · refine lv_tableIn (off := 591) (tgt := 630) hx hb d_L_law_39 (by decide) (by decide) rfl (by decide) ?_
        exact step_threeWay C0 hL G hLX hi hAp hLS hS hcell hGI hT hCp (by omega) next ls hl
      · refine lv_tableIn (off := 683) (tgt := 722) hx hb d_L_law_39 (by decide) (by decide) rfl (by decide) ?_
        exact step_area C0 hL G hLX hi hAp hLS hS hcell hGI hT hCp (by omega) next ls hl
      · refine lv_tableIn (off := 751) (tgt := 790) hx hb d_L_law_39 (by decide) (by decide) rfl (by decide) ?_
        exact step_misfit C0 hL G hLX hi hAp hLS hS hcell hGI hT hCp (by omega) next ls hl
      · refine lv_tableIn (off := 819) (tgt := 858) hx hb d_L_law_39 (by decide) (by decide) rfl (by decide) ?_
        exact step_distance C0 hL G hLX hi hAp hLS hS hcell hGI hT hCp (by omega) next ls hl
      · refine lv_tableIn (off := 899) (tgt := 938) hx hb d_L_law_39 (by decide) (by decide) rfl (by decide) ?_
        exact step_name C0 hL G hLX hi hAp hLS hS hcell hGI hT hCp (by omega) next ls hl
      · refine lv_tableIn (off := 971) (tgt := 1010) hx hb d_L_law_39 (by decide) (by decide) rfl (by decide) ?_
        exact step_nameOn C0 hL G hLX hi hAp hLS hS hcell hGI hT hCp (by omega) next ls hl
      · refine lv_tableIn (off := 1039) (tgt := 1078) hx hb d_L_law_39 (by decide) (by decide) rfl (by decide) ?_
        exact step_mark C0 hL G hLX hi hAp hLS hS hcell hGI hT hCp (by omega) next ls hl
      · refine lv_tableIn (off := 1131) (tgt := 1170) hx hb d_L_law_39 (by decide) (by decide) rfl (by decide) ?_
        exact step_placed C0 hL G hLX hi hAp hLS hS hcell hGI hT hCp (by omega) next ls hl
      · refine lv_tableIn (off := 1211) (tgt := 1250) hx hb d_L_law_39 (by decide) (by decide) rfl (by decide) ?_
        exact step_masked C0 hL G hLX hi hAp hLS hS hcell hGI hT hCp (by omega) next ls hl
set_option maxRecDepth 100000 in
set_option maxHeartbeats 4000000 in
theorem whole_start {p : Program} {e : Env} {s : State} {m : MethodId} {below : List Frame} {meth : Method} {c : Code} (l : Launch) (hst : l.stackTraces = false) {b L : Nat} {xs : Nat → Int32} (hL : L ≤ 2560) (C0 : lw_At p s m meth c b L xs) : W p l e room_1 s m #[Value.ref b] below meth c s.heap [] 0 0 (lw_Z below #[Value.ref b] s) (entryFrame m ([Value.ref b] : List Value).toArray 7) := by
  obtain ⟨dC, dI, cI, cS, cL, G, hGI, hT, hLX, hcL⟩ := z_setup C0 hst
  have C1 := C0
  obtain ⟨hx, hb, hr, hml, hown, hts0, hX, hbl, hlocks, hgv⟩ := C1
  have hts : ∀ w ∈ z_tbl, w.before #[Value.ref b] s = true := fun w hw => hts0 w (List.mem_filter.mp hw).1
  have hK := G.2.2.1
  have hW0 := State.WarmedH.refl s
  have main : ∀ ls : Array Slot, lv_has ls 7 (lv_args 0 [Value.ref b]) → W p l e room_1 s m #[Value.ref b] below meth c s.heap [] 0 0 (lw_Z below #[Value.ref b] s) (F0 m 0 ls []) := by
    intro ls hl
    have hl : lv_has ls 7 [(0, .ref b)] := hl
    have hS : va_S (fun q => s.heap.size ≤ q) s.heap s.heap [] := va_S.rf
    refine z_new (D := (dC, dI)) (ci := 3) (C := R_B) (T := T_B) (N := 7) (h := s.heap.size) (fs := [.null, .int 0, .null, .int 0, .int 0, .null, .null]) hx hb hts in_B t_B t_B_ok hown (hts _ w_13) (hts _ w_14) (hts _ w_1) hK rfl hS rfl (by decide +kernel) (Nat.le_of_ble_eq_true rfl) (Nat.le_of_ble_eq_true rfl) d_L_law_0 (fun H1 hz1 hO1 ho1 hS => ?_)
    refine lv_dup hx hb d_L_law_3 rfl ?_
    refine z_wrI (n := 0) (rest := [.ref s.heap.size]) ⟨hx, hb, hml, hown, hts⟩ hW0 (c_B_init G hGI (s.heap.size + 1) (s.heap.size)) w_17 w_15 w_16 w_1 rfl (by decide +kernel) ⟨rfl, rfl, (Nat.le_of_ble_eq_true rfl), (Nat.le_of_ble_eq_true rfl)⟩ ⟨hz1, hO1⟩ rfl rfl hl.1 (Nat.le_of_ble_eq_true rfl) d_L_law_4 ⟨(Nat.le_of_ble_eq_true rfl), (Nat.le_of_ble_eq_true rfl)⟩ hS (fun q h => h.elim (fun h => by omega) (fun h => by omega)) (fun H2 locs2 hP2 hz2 hk2 hS => ?_)
    obtain ⟨hs2, hBD⟩ := hP2
    have hs2 : H2.size = s.heap.size + 13 := hs2
    refine lv_astore_n (lv' := [(1, .ref s.heap.size), (0, .ref b)]) hx hb d_L_law_7 rfl hl (by decide) rfl (fun ls hl => ?_)
    refine z_new (D := (dC, dI)) (ci := 4) (C := R_M) (T := T_M) (N := 23) (h := s.heap.size + 13) (fs := [.int 0, .int 0, .null, .int 0, .null, .null, .null, .null, .null, .null, .null, .int 0, .null, .int 0, .null, .null, .null, .null, .int 0, .null, .null, .null, .null]) hx hb hts in_M t_M t_M_ok hown (hts _ w_534) (hts _ w_535) (hts _ w_4) hK hs2 hS rfl (by decide +kernel) (Nat.le_of_ble_eq_true rfl) (Nat.le_of_ble_eq_true rfl) d_L_law_8 (fun H3 hz3 hO3 ho3 hS => ?_)
    refine lv_dup hx hb d_L_law_11 rfl ?_
    have hAlt : ∀ k, k < 13 + 3 * 0 → z_A0 s.heap.size (s.heap.size + 1) k < s.heap.size + 13 := fun k hk => by have := hBD.lt hk; omega
    have hBD := hBD.keep (fun k hk => ho3 _ (hAlt k hk))
    refine z_wrI (n := 0) (rest := [.ref (s.heap.size + 13)]) ⟨hx, hb, hml, hown, hts⟩ hW0 (c_M_init G hGI (s.heap.size + 14) (s.heap.size + 13)) w_538 w_536 w_537 w_4 rfl (by decide +kernel) ⟨rfl, rfl, (Nat.le_of_ble_eq_true rfl), (Nat.le_of_ble_eq_true rfl)⟩ ⟨hz3, hO3⟩ rfl rfl hl.1 (Nat.le_of_ble_eq_true rfl) d_L_law_12 ⟨(Nat.le_of_ble_eq_true rfl), (Nat.le_of_ble_eq_true rfl)⟩ hS (fun q h => h.elim (fun h => by omega) (fun h => by omega)) (fun H4 locs4 hP4 hz4 hk4 hS => ?_)
    obtain ⟨hs4, hMd⟩ := hP4
    have hs4 : H4.size = s.heap.size + 31 := hs4
    have hBD := hBD.keep (fun k hk => hk4 _ (by have := hAlt k hk; omega) (fun h => h.elim (fun h => by have := hAlt k hk; omega) (fun h => by have := hAlt k hk; omega)))
    refine lv_astore_n (lv' := [(2, .ref (s.heap.size + 13)), (1, .ref s.heap.size), (0, .ref b)]) hx hb d_L_law_15 rfl hl (by decide) rfl (fun ls hl => ?_)
    refine lv_iconst (v := 1) hx hb d_L_law_16 (by decide) ?_
    refine va_newaK (atype := .long) (g := F0 m 17 ls [.int 1]) (n := 1) (N := 1) (rest := []) (h := s.heap.size + 31) hx hb (hts _ w_750) rfl d_L_law_17 rfl (by decide) (by decide) (by decide) (Nat.le_of_ble_eq_true rfl) (Nat.le_of_ble_eq_true rfl) hs4 fun H5 cA e5 z5 o5 hAr hNm => ?_
    have hcA : cL = cA := Option.some.inj (hcL.symm.trans hNm)
    subst hcA
    have hL5 : z_L cL H5 (s.heap.size + 31) 1 (fun _ => 0) := by
      show H5[s.heap.size + 31]? = some (vp_cell _ _)
      rw [vp_cell_l]; exact e5
    have hS := hS.add hs4 z5 o5
    have hMlt : ∀ k, k < 18 → z_E0 (s.heap.size + 13) (s.heap.size + 14) k < s.heap.size + 31 := fun k hk => by have := hMd.lt hk; omega
    have hMd := hMd.keep (fun k hk => o5 _ (hMlt k hk))
    have hBD := hBD.keep (fun k hk => o5 _ (by have := hAlt k hk; omega))
    refine W.eq (g2 := F0 m 19 ls [.ref (s.heap.size + 31)]) rfl ?_
    refine lv_astore_n (lv' := [(3, .ref (s.heap.size + 31)), (2, .ref (s.heap.size + 13)), (1, .ref s.heap.size), (0, .ref b)]) hx hb d_L_law_19 rfl hl (by decide) rfl (fun ls hl => ?_)
    refine lv_iconst (v := 0) hx hb d_L_law_20 (by decide) ?_
    refine lv_istore (lv' := [(4, .int 0), (3, .ref (s.heap.size + 31)), (2, .ref (s.heap.size + 13)), (1, .ref s.heap.size), (0, .ref b)]) hx hb d_L_law_21 hl (by decide) rfl (fun ls hl => ?_)
    have hAp : z_Ap s (z_A0 s.heap.size (s.heap.size + 1)) 0 (z_E0 (s.heap.size + 13) (s.heap.size + 14)) (s.heap.size + 31) := ⟨fun i hi => ⟨fun j hj e => by have := hAlt i hi; have := z_E0_ge (a := s.heap.size) j; omega, by have := hAlt i hi; omega, z_A0_ge i⟩, fun j hj => ⟨by have := hMlt j hj; omega, by have := z_E0_ge (a := s.heap.size) j; omega⟩, by omega⟩
    exact whole_loop C0 hL G hGI hT hLX (L + 1) 0 _ _ _ _ _ _ _ _ _ _ _ _ _ _ _ _ _ _ H5 _ _ _ (by omega) (by omega) (by omega) (by omega) (by omega) ⟨⟨hBD, hL5⟩, ⟨hS.1, fun q hq => hS.2.1 q hq (Nat.not_le.mpr hq)⟩, hMd⟩ hAp z_Cp.zero hS ls (lv_sub hl [4, 3, 2, 1, 0] rfl)
  have hl := lv_entry [Value.ref b] (n := 7) (Nat.le_of_ble_eq_true rfl)
  rw [lg_entry_eq]
  exact main _ hl
end LOO
