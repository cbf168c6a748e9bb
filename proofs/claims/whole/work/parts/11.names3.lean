theorem z_ofWF {l : Launch} {s0 : State} {y : MethodName} {rm : Room} {av : List Value} {B : Heap → Prop} {Qc : Array Value → State → Outcome → State → Prop} {mc ms : Nat} {free : Addr → Prop} {cc : ByteArray} {nL : Nat} {ret : Option FieldType}
    (hy : plainFor y = true) (hn : (lg_sl av).length ≤ nL)
    (body : ∀ (p : Program) (e : Env) (s : State) (m : MethodId) (below : List Frame) (meth : Method) (c : Code), p.tables.exec = Jvm.exec → c.code = cc → c.maxLocals = nL → meth.sig.returnType = ret → s.vm.findClass y.cls = some m.cls → meth.locks = false → meth.name = y.name → s0.WarmedH s.vm → B s.heap →
      ∀ ls : Array Slot, lv_has ls nL (lv_args 0 av) → W p l e rm s m av.toArray below meth c s.heap [] 0 0 (MQ below Qc av.toArray s mc ms free) (F0 m 0 ls [])) :
    Met l y [Cond.code y cc nL ret] rm (z_Pc s0 av B) Qc mc ms free := by
  refine va_MetF (cc := cc) (maxL := nL) (ret := ret) hy rfl ?_
  intro p e s m args below meth c s₁ H hml hv
  obtain ⟨rfl, hW, hB⟩ := hv
  have hl := lv_entry av (n := nL) hn
  rw [lg_entry_eq]
  exact body p e s m below meth c H.exec H.bytes hml H.returns (findClass_of_methodNamed H.named) H.notSynchronized (name_of_methodNamed H.named H.method).1 hW hB _ hl
/-- a Names, and its four arrays -/
def z_Nm (D : va_G) (cI : ClassId) (H : Heap) (a b1 b2 b3 b4 n : Nat) (ow nu fs ts : Nat → Int32) : Prop :=
  z_O D H a 0 [.ref b1, .ref b2, .ref b3, .ref b4, .int (nI n)] ∧ z_A cI H b1 40 ow ∧ z_A cI H b2 40 nu ∧ z_A cI H b3 40 fs ∧ z_A cI H b4 40 ts
/-- an OldMap, and its four arrays -/
def z_Om (D : va_G) (cI : ClassId) (H : Heap) (a b1 b2 b3 b4 n : Nat) (mx my px py : Nat → Int32) : Prop :=
  z_O D H a 1 [.ref b1, .ref b2, .ref b3, .ref b4, .int (nI n)] ∧ z_A cI H b1 12 mx ∧ z_A cI H b2 12 my ∧ z_A cI H b3 12 px ∧ z_A cI H b4 12 py
section S3
variable {s0 : State} {dC : Nat → ClassId} {dI : Nat → Nat → Nat} {cI cS : ClassId} {l : Launch}
set_option maxRecDepth 100000 in
set_option maxHeartbeats 4000000 in
theorem c_J_floorDiv_JJ (G : z_G s0 (dC, dI) cI cS) (x y : Int64) (hy : ¬ y = 0) : Met l y_J_floorDiv_JJ [Cond.code y_J_floorDiv_JJ b_J_floorDiv_JJ 6 (some .long)] ({ frames := 0, cells := 0, slots := 0, locals := 0 }) (z_Pc s0 [.long x, .long y] (fun H => True)) (z_Qr (some (.long (pl_fd x y)))) 0 0 z_no := by
  refine z_ofWF (by decide +kernel) (Nat.le_of_ble_eq_true rfl) ?_
  intro p e s m below meth c hx hb hml hr hown hlocks hnm hW0 hB ls hl
  have hts := z_hts (args := [.long x, .long y].toArray) G.1 hW0
  have hl : lv_has ls 6 [(0, .long x), (2, .long y)] := hl
  refine lv_lload_n hx hb d_J_floorDiv_JJ_0 rfl (lv_at hl 0 rfl) ?_
  refine lv_lload_n hx hb d_J_floorDiv_JJ_1 rfl (lv_at hl 1 rfl) ?_
  refine lv_ldiv hx hb d_J_floorDiv_JJ_2 (by assumption) ?_
  refine lv_lstore (lv' := [(4, .long (x / y)), (0, .long x), (2, .long y)]) hx hb d_J_floorDiv_JJ_3 hl (by decide) rfl (fun ls hl => ?_)
  refine lv_lload_n hx hb d_J_floorDiv_JJ_5 rfl (lv_at hl 1 rfl) ?_
  refine lv_lload_n hx hb d_J_floorDiv_JJ_6 rfl (lv_at hl 2 rfl) ?_
  refine lv_lxor hx hb d_J_floorDiv_JJ_7 ?_
  refine lv_lconst (v := 0) hx hb d_J_floorDiv_JJ_8 (by decide) ?_
  refine W.lcmp hx hb d_J_floorDiv_JJ_9 ?_
  refine lv_if_ge (tgt := 27) hx hb d_J_floorDiv_JJ_10 (by decide) (fun c_1 => ?_) (fun c_1 => ?_)
  · skip
    have c_1 : 0 ≤ (x ^^^ y) := (lg_cmp_ge _ _).mp c_1
    have c_1' : ¬ ((x ^^^ y) < 0) := Int64.not_lt.mpr c_1
    refine lv_lload hx hb d_J_floorDiv_JJ_27 (lv_at hl 0 rfl) ?_
    exact z_lret hx hb hr hlocks (by simp [pl_fd, c_1, c_1']) d_J_floorDiv_JJ_29
  · skip
    have c_1 : ¬ (0 ≤ (x ^^^ y)) := fun h => c_1 ((lg_cmp_ge _ _).mpr h)
    have c_1' : (x ^^^ y) < 0 := Int64.not_le.mp c_1
    refine lv_lload hx hb d_J_floorDiv_JJ_13 (lv_at hl 0 rfl) ?_
    refine lv_lload_n hx hb d_J_floorDiv_JJ_15 rfl (lv_at hl 2 rfl) ?_
    refine lv_lmul hx hb d_J_floorDiv_JJ_16 ?_
    refine lv_lload_n hx hb d_J_floorDiv_JJ_17 rfl (lv_at hl 1 rfl) ?_
    refine W.lcmp hx hb d_J_floorDiv_JJ_18 ?_
    refine lv_if_eq (tgt := 27) hx hb d_J_floorDiv_JJ_19 (by decide) (fun c_2 => ?_) (fun c_2 => ?_)
    · skip
      have c_2 : ((x / y) * y) = x := (lg_cmp_eq _ _).mp c_2
      refine lv_lload hx hb d_J_floorDiv_JJ_27 (lv_at hl 0 rfl) ?_
      exact z_lret hx hb hr hlocks (by simp [pl_fd, c_1, c_1', c_2]) d_J_floorDiv_JJ_29
    · skip
      have c_2 : ¬ (((x / y) * y) = x) := fun h => c_2 ((lg_cmp_eq _ _).mpr h)
      refine lv_lload hx hb d_J_floorDiv_JJ_22 (lv_at hl 0 rfl) ?_
      refine lv_lconst (v := 1) hx hb d_J_floorDiv_JJ_24 (by decide) ?_
      refine lv_lsub hx hb d_J_floorDiv_JJ_25 ?_
      exact z_lret hx hb hr hlocks (by simp [pl_fd, c_1, c_1', c_2]) d_J_floorDiv_JJ_26
set_option maxRecDepth 100000 in
set_option maxHeartbeats 4000000 in
theorem c_J_floorDiv_II (G : z_G s0 (dC, dI) cI cS) (x y : Int32) (hy : ¬ y = 0) : Met l y_J_floorDiv_II [Cond.code y_J_floorDiv_II b_J_floorDiv_II 3 (some .int)] ({ frames := 0, cells := 0, slots := 0, locals := 0 }) (z_Pc s0 [.int x, .int y] (fun H => True)) (z_Qr (some (.int (pl_fdi x y)))) 0 0 z_no := by
  refine z_ofWF (by decide +kernel) (Nat.le_of_ble_eq_true rfl) ?_
  intro p e s m below meth c hx hb hml hr hown hlocks hnm hW0 hB ls hl
  have hts := z_hts (args := [.int x, .int y].toArray) G.1 hW0
  have hl : lv_has ls 3 [(0, .int x), (1, .int y)] := hl
  refine lv_iload_n hx hb d_J_floorDiv_II_0 rfl (lv_at hl 0 rfl) ?_
  refine lv_iload_n hx hb d_J_floorDiv_II_1 rfl (lv_at hl 1 rfl) ?_
  refine lv_idiv hx hb d_J_floorDiv_II_2 (by assumption) ?_
  refine lv_istore_n (lv' := [(2, .int (x / y)), (0, .int x), (1, .int y)]) hx hb d_J_floorDiv_II_3 rfl hl (by decide) rfl (fun ls hl => ?_)
  refine lv_iload_n hx hb d_J_floorDiv_II_4 rfl (lv_at hl 1 rfl) ?_
  refine lv_iload_n hx hb d_J_floorDiv_II_5 rfl (lv_at hl 2 rfl) ?_
  refine lv_ixor hx hb d_J_floorDiv_II_6 ?_
  refine lv_if_ge (tgt := 21) hx hb d_J_floorDiv_II_7 (by decide) (fun c_1 => ?_) (fun c_1 => ?_)
  · skip
    have c_1' : ¬ ((x ^^^ y) < (0 : Int32)) := Int32.not_lt.mpr c_1
    refine lv_iload_n hx hb d_J_floorDiv_II_21 rfl (lv_at hl 0 rfl) ?_
    exact z_iret hx hb hr hlocks (by simp [pl_fdi, c_1, c_1']) d_J_floorDiv_II_22
  · skip
    have c_1' : (x ^^^ y) < (0 : Int32) := Int32.not_le.mp c_1
    refine lv_iload_n hx hb d_J_floorDiv_II_10 rfl (lv_at hl 0 rfl) ?_
    refine lv_iload_n hx hb d_J_floorDiv_II_11 rfl (lv_at hl 2 rfl) ?_
    refine lv_imul hx hb d_J_floorDiv_II_12 ?_
    refine lv_iload_n hx hb d_J_floorDiv_II_13 rfl (lv_at hl 1 rfl) ?_
    refine lv_icmp_eq (tgt := 21) hx hb d_J_floorDiv_II_14 (by decide) (fun c_2 => ?_) (fun c_2 => ?_)
    · skip
      refine lv_iload_n hx hb d_J_floorDiv_II_21 rfl (lv_at hl 0 rfl) ?_
      exact z_iret hx hb hr hlocks (by simp [pl_fdi, c_1, c_1', c_2]) d_J_floorDiv_II_22
    · skip
      refine lv_iload_n hx hb d_J_floorDiv_II_17 rfl (lv_at hl 0 rfl) ?_
      refine lv_iconst (v := 1) hx hb d_J_floorDiv_II_18 (by decide) ?_
      refine lv_isub hx hb d_J_floorDiv_II_19 ?_
      exact z_iret hx hb hr hlocks (by simp [pl_fdi, c_1, c_1', c_2]) d_J_floorDiv_II_20
set_option maxRecDepth 100000 in
set_option maxHeartbeats 4000000 in
theorem c_N_isFull (G : z_G s0 (dC, dI) cI cS) (a b1 b2 b3 b4 n : Nat) (ow nu fs ts : Nat → Int32) (hn : n ≤ 40) : Met l y_N_isFull [Cond.code y_N_isFull b_N_isFull 1 (some .boolean)] ({ frames := 0, cells := 0, slots := 0, locals := 0 }) (z_Pc s0 [.ref a] (fun H => z_Nm (dC, dI) cI H a b1 b2 b3 b4 n ow nu fs ts)) (z_Qr (some (.int (pi_b (decide (40 ≤ n)))))) 0 0 z_no := by
  refine z_ofW (by decide +kernel) (Nat.le_of_ble_eq_true rfl) ?_
  intro p e s m below meth c hx hb hml hr hown hlocks hnm hW0 hB ls hl
  have hts := z_hts (args := [.ref a].toArray) G.1 hW0
  have hN := z_nstW G.2.1 hW0
  have hK := va_K.moved hW0.alike G.2.2.1
  have hAI := arrOfT_moved hW0.alike G.2.2.2.1
  have hl : lv_has ls 1 [(0, .ref a)] := hl
  obtain ⟨hO, hA1, hA2, hA3, hA4⟩ := id hB
  refine lv_aload_n hx hb d_N_isFull_0 rfl (lv_at hl 0 rfl) ?_
  refine va_get (D := (dC, dI)) (ci := 0) (v := .int (nI n)) (C := R_N) (T := T_N) (N := 5) hx hb hts in_N hown hK hO.P 0 rfl rfl 4 (by decide) (hts _ w_33) (fun _ h9 => h9) rfl d_N_isFull_1 ?_
  refine lv_bipush (v := 40) hx hb d_N_isFull_4 (by decide) ?_
  refine lv_icmp_lt (tgt := 13) hx hb d_N_isFull_6 (by decide) (fun c_1 => ?_) (fun c_1 => ?_)
  · skip
    have c_1 : n < 40 := (nI_ltI (a := n) (b := 40) (by omega) (by omega)).mp c_1
    refine lv_iconst (v := 0) hx hb d_N_isFull_13 (by decide) ?_
    exact z_zret hx hb hr hlocks (by simp only [pi_b, decide_eq_true_eq]; first | rw [if_pos (by omega)] | rw [if_neg (by omega)]) d_N_isFull_14
  · skip
    have c_1 : ¬ (n < 40) := fun h => c_1 ((nI_ltI (a := n) (b := 40) (by omega) (by omega)).mpr h)
    refine lv_iconst (v := 1) hx hb d_N_isFull_9 (by decide) ?_
    refine lv_goto (tgt := 14) hx hb d_N_isFull_10 (by decide) ?_
    exact z_zret hx hb hr hlocks (by simp only [pi_b, decide_eq_true_eq]; first | rw [if_pos (by omega)] | rw [if_neg (by omega)]) d_N_isFull_14
set_option maxRecDepth 100000 in
set_option maxHeartbeats 4000000 in
theorem c_N_find (G : z_G s0 (dC, dI) cI cS) (a b1 b2 b3 b4 n : Nat) (ow nu fs ts : Nat → Int32) (p1 d1 : Int32) (hn : n ≤ 40) : Met l y_N_find [Cond.code y_N_find b_N_find 4 (some .int)] ({ frames := 0, cells := 0, slots := 0, locals := 0 }) (z_Pc s0 [.ref a, .int p1, .int d1] (fun H => z_Nm (dC, dI) cI H a b1 b2 b3 b4 n ow nu fs ts)) (z_Qr (some (.int (pn_find ow nu fs ts p1 d1 n)))) 0 0 z_no := by
  refine z_ofW (by decide +kernel) (Nat.le_of_ble_eq_true rfl) ?_
  intro p e s m below meth c hx hb hml hr hown hlocks hnm hW0 hB ls hl
  have hts := z_hts (args := [.ref a, .int p1, .int d1].toArray) G.1 hW0
  have hN := z_nstW G.2.1 hW0
  have hK := va_K.moved hW0.alike G.2.2.1
  have hAI := arrOfT_moved hW0.alike G.2.2.2.1
  have hl : lv_has ls 4 [(0, .ref a), (1, .int p1), (2, .int d1)] := hl
  obtain ⟨hO, hA1, hA2, hA3, hA4⟩ := id hB
  have loops : ∀ f : Nat, (∀ (k : Nat), k < f → (k ≤ n) → (pn_find ow nu fs ts p1 d1 k = pn_find ow nu fs ts p1 d1 n) → ∀ ls : Array Slot, lv_has ls 4 [(0, .ref a), (1, .int p1), (2, .int d1), (3, .int (nI k - 1))] → W p l e ({ frames := 0, cells := 0, slots := 0, locals := 0 }) s m [.ref a, .int p1, .int d1].toArray below meth c s.heap [] 0 0 (MQ below (z_Qr (some (.int (pn_find ow nu fs ts p1 d1 n)))) [.ref a, .int p1, .int d1].toArray s 0 0 z_no) (F0 m 7 ls [])) := by
    intro f
    induction f with
    | zero => exact fun _ h => absurd h (Nat.not_lt_zero _)
    | succ f ih =>
      intro k hmu hk hres ls hl
      refine lv_iload_n hx hb d_N_find_7 rfl (lv_at hl 3 rfl) ?_
      refine lv_if_lt (tgt := 54) hx hb d_N_find_8 (by decide) (fun c_101 => ?_) (fun c_101 => ?_)
      · skip
        have c_101' : ¬ ((0 : Int32) ≤ (nI k - 1)) := Int32.not_le.mpr c_101
        refine lv_iconst (v := (-1)) hx hb d_N_find_54 (by decide) ?_
        exact z_iret hx hb hr hlocks (by rw [z_m1 (by omega) c_101] at hres; simpa [pn_find] using hres) d_N_find_55
      · skip
        have c_101' : (0 : Int32) ≤ (nI k - 1) := Int32.not_lt.mp c_101
        obtain ⟨q, rfl⟩ := z_m0 c_101
        rw [nI_pred] at hl
        refine lv_aload_n hx hb d_N_find_11 rfl (lv_at hl 0 rfl) ?_
        refine va_get (D := (dC, dI)) (ci := 0) (v := .ref b1) (C := R_N) (T := T_N) (N := 5) hx hb hts in_N hown hK hO.P 0 rfl rfl 0 (by decide) (hts _ w_29) (fun _ h9 => h9) rfl d_N_find_12 ?_
        refine lv_iload_n hx hb d_N_find_15 rfl (lv_at hl 3 rfl) ?_
        refine z_iald hx hb hAI hA1 (by omega) (by decide) d_N_find_16 ?_
        refine lv_iload_n hx hb d_N_find_17 rfl (lv_at hl 1 rfl) ?_
        refine lv_icmp_ne (tgt := 48) hx hb d_N_find_18 (by decide) (fun c_102 => ?_) (fun c_102 => ?_)
        · skip
          refine lv_iinc (v := nI q - 1) (lv' := [(3, .int (nI q - 1)), (0, .ref a), (1, .int p1), (2, .int d1)]) hx hb d_N_find_48 hl (k := 3) rfl (by rw [Int32.sub_eq_add_neg]; rfl) (by decide) rfl (fun ls hl => ?_)
          refine lv_goto (tgt := 7) hx hb d_N_find_51 (by decide) ?_
          exact ih q (by omega) (by omega) (by simpa [pn_find, c_102] using hres) ls (lv_sub hl [1, 2, 3, 0] rfl)
        · skip
          refine lv_aload_n hx hb d_N_find_21 rfl (lv_at hl 0 rfl) ?_
          refine va_get (D := (dC, dI)) (ci := 0) (v := .ref b3) (C := R_N) (T := T_N) (N := 5) hx hb hts in_N hown hK hO.P 0 rfl rfl 2 (by decide) (hts _ w_31) (fun _ h9 => h9) rfl d_N_find_22 ?_
          refine lv_iload_n hx hb d_N_find_25 rfl (lv_at hl 3 rfl) ?_
          refine z_iald hx hb hAI hA3 (by omega) (by decide) d_N_find_26 ?_
          refine lv_iload_n hx hb d_N_find_27 rfl (lv_at hl 2 rfl) ?_
          refine lv_icmp_gt (tgt := 48) hx hb d_N_find_28 (by decide) (fun c_103 => ?_) (fun c_103 => ?_)
          · skip
            have c_103' : ¬ ((fs q) ≤ d1) := Int32.not_le.mpr c_103
            refine lv_iinc (v := nI q - 1) (lv' := [(3, .int (nI q - 1)), (0, .ref a), (1, .int p1), (2, .int d1)]) hx hb d_N_find_48 hl (k := 3) rfl (by rw [Int32.sub_eq_add_neg]; rfl) (by decide) rfl (fun ls hl => ?_)
            refine lv_goto (tgt := 7) hx hb d_N_find_51 (by decide) ?_
            exact ih q (by omega) (by omega) (by simpa [pn_find, c_102, c_103, c_103'] using hres) ls (lv_sub hl [1, 2, 3, 0] rfl)
          · skip
            have c_103' : (fs q) ≤ d1 := Int32.not_lt.mp c_103
            refine lv_iload_n hx hb d_N_find_31 rfl (lv_at hl 2 rfl) ?_
            refine lv_aload_n hx hb d_N_find_32 rfl (lv_at hl 0 rfl) ?_
            refine va_get (D := (dC, dI)) (ci := 0) (v := .ref b4) (C := R_N) (T := T_N) (N := 5) hx hb hts in_N hown hK hO.P 0 rfl rfl 3 (by decide) (hts _ w_32) (fun _ h9 => h9) rfl d_N_find_33 ?_
            refine lv_iload_n hx hb d_N_find_36 rfl (lv_at hl 3 rfl) ?_
            refine z_iald hx hb hAI hA4 (by omega) (by decide) d_N_find_37 ?_
            refine lv_icmp_gt (tgt := 48) hx hb d_N_find_38 (by decide) (fun c_104 => ?_) (fun c_104 => ?_)
            · skip
              have c_104' : ¬ (d1 ≤ (ts q)) := Int32.not_le.mpr c_104
              refine lv_iinc (v := nI q - 1) (lv' := [(3, .int (nI q - 1)), (0, .ref a), (1, .int p1), (2, .int d1)]) hx hb d_N_find_48 hl (k := 3) rfl (by rw [Int32.sub_eq_add_neg]; rfl) (by decide) rfl (fun ls hl => ?_)
              refine lv_goto (tgt := 7) hx hb d_N_find_51 (by decide) ?_
              exact ih q (by omega) (by omega) (by simpa [pn_find, c_102, c_103, c_103', c_104, c_104'] using hres) ls (lv_sub hl [1, 2, 3, 0] rfl)
            · skip
              have c_104' : d1 ≤ (ts q) := Int32.not_lt.mp c_104
              refine lv_aload_n hx hb d_N_find_41 rfl (lv_at hl 0 rfl) ?_
              refine va_get (D := (dC, dI)) (ci := 0) (v := .ref b2) (C := R_N) (T := T_N) (N := 5) hx hb hts in_N hown hK hO.P 0 rfl rfl 1 (by decide) (hts _ w_30) (fun _ h9 => h9) rfl d_N_find_42 ?_
              refine lv_iload_n hx hb d_N_find_45 rfl (lv_at hl 3 rfl) ?_
              refine z_iald hx hb hAI hA2 (by omega) (by decide) d_N_find_46 ?_
              exact z_iret hx hb hr hlocks (by simpa [pn_find, c_102, c_103, c_103', c_104, c_104'] using hres) d_N_find_47
  refine lv_aload_n hx hb d_N_find_0 rfl (lv_at hl 0 rfl) ?_
  refine va_get (D := (dC, dI)) (ci := 0) (v := .int (nI n)) (C := R_N) (T := T_N) (N := 5) hx hb hts in_N hown hK hO.P 0 rfl rfl 4 (by decide) (hts _ w_33) (fun _ h9 => h9) rfl d_N_find_1 ?_
  refine lv_iconst (v := 1) hx hb d_N_find_4 (by decide) ?_
  refine lv_isub hx hb d_N_find_5 ?_
  refine lv_istore_n (lv' := [(3, .int ((nI n) - 1)), (0, .ref a), (1, .int p1), (2, .int d1)]) hx hb d_N_find_6 rfl hl (by decide) rfl (fun ls hl => ?_)
  exact (loops (n + 1)) n (by omega) (by omega) (by rfl) ls (lv_sub hl [1, 2, 3, 0] rfl)
set_option maxRecDepth 100000 in
set_option maxHeartbeats 4000000 in
theorem c_O_isFull (G : z_G s0 (dC, dI) cI cS) (a b1 b2 b3 b4 n : Nat) (mx my px py : Nat → Int32) (hn : n ≤ 12) : Met l y_O_isFull [Cond.code y_O_isFull b_O_isFull 1 (some .boolean)] ({ frames := 0, cells := 0, slots := 0, locals := 0 }) (z_Pc s0 [.ref a] (fun H => z_Om (dC, dI) cI H a b1 b2 b3 b4 n mx my px py)) (z_Qr (some (.int (pi_b (decide (12 ≤ n)))))) 0 0 z_no := by
  refine z_ofW (by decide +kernel) (Nat.le_of_ble_eq_true rfl) ?_
  intro p e s m below meth c hx hb hml hr hown hlocks hnm hW0 hB ls hl
  have hts := z_hts (args := [.ref a].toArray) G.1 hW0
  have hN := z_nstW G.2.1 hW0
  have hK := va_K.moved hW0.alike G.2.2.1
  have hAI := arrOfT_moved hW0.alike G.2.2.2.1
  have hl : lv_has ls 1 [(0, .ref a)] := hl
  obtain ⟨hO, hA1, hA2, hA3, hA4⟩ := id hB
  refine lv_aload_n hx hb d_O_isFull_0 rfl (lv_at hl 0 rfl) ?_
  refine va_get (D := (dC, dI)) (ci := 1) (v := .int (nI n)) (C := R_O) (T := T_O) (N := 5) hx hb hts in_O hown hK hO.P 0 rfl rfl 4 (by decide) (hts _ w_56) (fun _ h9 => h9) rfl d_O_isFull_1 ?_
  refine lv_bipush (v := 12) hx hb d_O_isFull_4 (by decide) ?_
  refine lv_icmp_lt (tgt := 13) hx hb d_O_isFull_6 (by decide) (fun c_1 => ?_) (fun c_1 => ?_)
  · skip
    have c_1 : n < 12 := (nI_ltI (a := n) (b := 12) (by omega) (by omega)).mp c_1
    refine lv_iconst (v := 0) hx hb d_O_isFull_13 (by decide) ?_
    exact z_zret hx hb hr hlocks (by simp only [pi_b, decide_eq_true_eq]; first | rw [if_pos (by omega)] | rw [if_neg (by omega)]) d_O_isFull_14
  · skip
    have c_1 : ¬ (n < 12) := fun h => c_1 ((nI_ltI (a := n) (b := 12) (by omega) (by omega)).mpr h)
    refine lv_iconst (v := 1) hx hb d_O_isFull_9 (by decide) ?_
    refine lv_goto (tgt := 14) hx hb d_O_isFull_10 (by decide) ?_
    exact z_zret hx hb hr hlocks (by simp only [pi_b, decide_eq_true_eq]; first | rw [if_pos (by omega)] | rw [if_neg (by omega)]) d_O_isFull_14
set_option maxRecDepth 100000 in
set_option maxHeartbeats 4000000 in
theorem c_O_share (G : z_G s0 (dC, dI) cI cS) (a b1 b2 b3 b4 n : Nat) (mx my px py : Nat → Int32) (i j : Nat) (x y : Int32) (hi : i < 12) (hj : j < 12) : Met l y_O_share [Cond.code y_O_share b_O_share 5 (some .long)] ({ frames := 1, cells := 0, slots := 0, locals := 25 }) (z_Pc s0 [.ref a, .int (nI i), .int (nI j), .int x, .int y] (fun H => z_Om (dC, dI) cI H a b1 b2 b3 b4 n mx my px py)) (z_Qr (some (.long (po_sh mx my i j x y)))) 0 0 z_no := by
  refine z_ofW (by decide +kernel) (Nat.le_of_ble_eq_true rfl) ?_
  intro p e s m below meth c hx hb hml hr hown hlocks hnm hW0 hB ls hl
  have hts := z_hts (args := [.ref a, .int (nI i), .int (nI j), .int x, .int y].toArray) G.1 hW0
  have hN := z_nstW G.2.1 hW0
  have hK := va_K.moved hW0.alike G.2.2.1
  have hAI := arrOfT_moved hW0.alike G.2.2.2.1
  have hl : lv_has ls 5 [(0, .ref a), (1, .int (nI i)), (2, .int (nI j)), (3, .int x), (4, .int y)] := hl
  obtain ⟨hO, hA1, hA2, hA3, hA4⟩ := id hB
  refine lv_aload_n hx hb d_O_share_0 rfl (lv_at hl 0 rfl) ?_
  refine va_get (D := (dC, dI)) (ci := 1) (v := .ref b1) (C := R_O) (T := T_O) (N := 5) hx hb hts in_O hown hK hO.P 0 rfl rfl 0 (by decide) (hts _ w_52) (fun _ h9 => h9) rfl d_O_share_1 ?_
  refine lv_iload_n hx hb d_O_share_4 rfl (lv_at hl 1 rfl) ?_
  refine z_iald hx hb hAI hA1 (by omega) (by decide) d_O_share_5 ?_
  refine lv_aload_n hx hb d_O_share_6 rfl (lv_at hl 0 rfl) ?_
  refine va_get (D := (dC, dI)) (ci := 1) (v := .ref b2) (C := R_O) (T := T_O) (N := 5) hx hb hts in_O hown hK hO.P 0 rfl rfl 1 (by decide) (hts _ w_53) (fun _ h9 => h9) rfl d_O_share_7 ?_
  refine lv_iload_n hx hb d_O_share_10 rfl (lv_at hl 1 rfl) ?_
  refine z_iald hx hb hAI hA2 (by omega) (by decide) d_O_share_11 ?_
  refine lv_aload_n hx hb d_O_share_12 rfl (lv_at hl 0 rfl) ?_
  refine va_get (D := (dC, dI)) (ci := 1) (v := .ref b1) (C := R_O) (T := T_O) (N := 5) hx hb hts in_O hown hK hO.P 0 rfl rfl 0 (by decide) (hts _ w_52) (fun _ h9 => h9) rfl d_O_share_13 ?_
  refine lv_iload_n hx hb d_O_share_16 rfl (lv_at hl 2 rfl) ?_
  refine z_iald hx hb hAI hA1 (by omega) (by decide) d_O_share_17 ?_
  refine lv_aload_n hx hb d_O_share_18 rfl (lv_at hl 0 rfl) ?_
  refine va_get (D := (dC, dI)) (ci := 1) (v := .ref b2) (C := R_O) (T := T_O) (N := 5) hx hb hts in_O hown hK hO.P 0 rfl rfl 1 (by decide) (hts _ w_53) (fun _ h9 => h9) rfl d_O_share_19 ?_
  refine lv_iload_n hx hb d_O_share_22 rfl (lv_at hl 2 rfl) ?_
  refine z_iald hx hb hAI hA2 (by omega) (by decide) d_O_share_23 ?_
  refine lv_iload_n hx hb d_O_share_24 rfl (lv_at hl 3 rfl) ?_
  refine lv_iload hx hb d_O_share_25 (lv_at hl 4 rfl) ?_
  refine z_rdSN (n := 6) (rest := []) (host := R_B) ⟨hx, hb, hml, hown, hts⟩ hW0 (c_B_turn G (mx i) (my i) (mx j) (my j) x y) w_337 (hN _ (List.mem_of_getElem? (i := 2) rfl)) w_336 w_1 (by decide +kernel) ⟨rfl, rfl, Nat.le_of_ble_eq_true rfl, Nat.le_of_ble_eq_true rfl⟩ (trivial) rfl rfl hl.1 (Nat.le_of_ble_eq_true rfl) d_O_share_27 ⟨Nat.zero_le _, Nat.zero_le _⟩ ?_
  exact z_lret hx hb hr hlocks (by rfl) d_O_share_30
set_option maxRecDepth 100000 in
set_option maxHeartbeats 4000000 in
theorem c_O_haveBetween (G : z_G s0 (dC, dI) cI cS) (a b1 b2 b3 b4 n : Nat) (mx my px py : Nat → Int32) (i j k : Nat) (x y : Int32) (hi : i < 12) (hj : j < 12) (hk : k < 12) : Met l y_O_haveBetween [Cond.code y_O_haveBetween b_O_haveBetween 14 (some .boolean)] ({ frames := 2, cells := 0, slots := 0, locals := 49 }) (z_Pc s0 [.ref a, .int (nI i), .int (nI j), .int (nI k), .int x, .int y] (fun H => z_Om (dC, dI) cI H a b1 b2 b3 b4 n mx my px py)) (z_Qr (some (.int (pi_b (po_hb mx my i j k x y))))) 0 0 z_no := by
  refine z_ofW (by decide +kernel) (Nat.le_of_ble_eq_true rfl) ?_
  intro p e s m below meth c hx hb hml hr hown hlocks hnm hW0 hB ls hl
  have hts := z_hts (args := [.ref a, .int (nI i), .int (nI j), .int (nI k), .int x, .int y].toArray) G.1 hW0
  have hN := z_nstW G.2.1 hW0
  have hK := va_K.moved hW0.alike G.2.2.1
  have hAI := arrOfT_moved hW0.alike G.2.2.2.1
  have hl : lv_has ls 14 [(0, .ref a), (1, .int (nI i)), (2, .int (nI j)), (3, .int (nI k)), (4, .int x), (5, .int y)] := hl
  obtain ⟨hO, hA1, hA2, hA3, hA4⟩ := id hB
  refine lv_aload_n hx hb d_O_haveBetween_0 rfl (lv_at hl 0 rfl) ?_
  refine va_get (D := (dC, dI)) (ci := 1) (v := .ref b1) (C := R_O) (T := T_O) (N := 5) hx hb hts in_O hown hK hO.P 0 rfl rfl 0 (by decide) (hts _ w_52) (fun _ h9 => h9) rfl d_O_haveBetween_1 ?_
  refine lv_iload_n hx hb d_O_haveBetween_4 rfl (lv_at hl 1 rfl) ?_
  refine z_iald hx hb hAI hA1 (by omega) (by decide) d_O_haveBetween_5 ?_
  refine lv_aload_n hx hb d_O_haveBetween_6 rfl (lv_at hl 0 rfl) ?_
  refine va_get (D := (dC, dI)) (ci := 1) (v := .ref b2) (C := R_O) (T := T_O) (N := 5) hx hb hts in_O hown hK hO.P 0 rfl rfl 1 (by decide) (hts _ w_53) (fun _ h9 => h9) rfl d_O_haveBetween_7 ?_
  refine lv_iload_n hx hb d_O_haveBetween_10 rfl (lv_at hl 1 rfl) ?_
  refine z_iald hx hb hAI hA2 (by omega) (by decide) d_O_haveBetween_11 ?_
  refine lv_aload_n hx hb d_O_haveBetween_12 rfl (lv_at hl 0 rfl) ?_
  refine va_get (D := (dC, dI)) (ci := 1) (v := .ref b1) (C := R_O) (T := T_O) (N := 5) hx hb hts in_O hown hK hO.P 0 rfl rfl 0 (by decide) (hts _ w_52) (fun _ h9 => h9) rfl d_O_haveBetween_13 ?_
  refine lv_iload_n hx hb d_O_haveBetween_16 rfl (lv_at hl 2 rfl) ?_
  refine z_iald hx hb hAI hA1 (by omega) (by decide) d_O_haveBetween_17 ?_
  refine lv_aload_n hx hb d_O_haveBetween_18 rfl (lv_at hl 0 rfl) ?_
  refine va_get (D := (dC, dI)) (ci := 1) (v := .ref b2) (C := R_O) (T := T_O) (N := 5) hx hb hts in_O hown hK hO.P 0 rfl rfl 1 (by decide) (hts _ w_53) (fun _ h9 => h9) rfl d_O_haveBetween_19 ?_
  refine lv_iload_n hx hb d_O_haveBetween_22 rfl (lv_at hl 2 rfl) ?_
  refine z_iald hx hb hAI hA2 (by omega) (by decide) d_O_haveBetween_23 ?_
  refine lv_aload_n hx hb d_O_haveBetween_24 rfl (lv_at hl 0 rfl) ?_
  refine va_get (D := (dC, dI)) (ci := 1) (v := .ref b1) (C := R_O) (T := T_O) (N := 5) hx hb hts in_O hown hK hO.P 0 rfl rfl 0 (by decide) (hts _ w_52) (fun _ h9 => h9) rfl d_O_haveBetween_25 ?_
  refine lv_iload_n hx hb d_O_haveBetween_28 rfl (lv_at hl 3 rfl) ?_
  refine z_iald hx hb hAI hA1 (by omega) (by decide) d_O_haveBetween_29 ?_
  refine lv_aload_n hx hb d_O_haveBetween_30 rfl (lv_at hl 0 rfl) ?_
  refine va_get (D := (dC, dI)) (ci := 1) (v := .ref b2) (C := R_O) (T := T_O) (N := 5) hx hb hts in_O hown hK hO.P 0 rfl rfl 1 (by decide) (hts _ w_53) (fun _ h9 => h9) rfl d_O_haveBetween_31 ?_
  refine lv_iload_n hx hb d_O_haveBetween_34 rfl (lv_at hl 3 rfl) ?_
  refine z_iald hx hb hAI hA2 (by omega) (by decide) d_O_haveBetween_35 ?_
  refine z_rdSN (n := 6) (rest := []) (host := R_B) ⟨hx, hb, hml, hown, hts⟩ hW0 (c_B_turn G (mx i) (my i) (mx j) (my j) (mx k) (my k)) w_337 (hN _ (List.mem_of_getElem? (i := 2) rfl)) w_336 w_1 (by decide +kernel) ⟨rfl, rfl, Nat.le_of_ble_eq_true rfl, Nat.le_of_ble_eq_true rfl⟩ (trivial) rfl rfl hl.1 (Nat.le_of_ble_eq_true rfl) d_O_haveBetween_36 ⟨Nat.zero_le _, Nat.zero_le _⟩ ?_
  refine lv_lstore (lv' := [(6, .long (po_sh mx my i j (mx k) (my k))), (0, .ref a), (1, .int (nI i)), (2, .int (nI j)), (3, .int (nI k)), (4, .int x), (5, .int y)]) hx hb d_O_haveBetween_39 hl (by decide) rfl (fun ls hl => ?_)
  refine lv_aload_n hx hb d_O_haveBetween_41 rfl (lv_at hl 1 rfl) ?_
  refine lv_iload_n hx hb d_O_haveBetween_42 rfl (lv_at hl 3 rfl) ?_
  refine lv_iload_n hx hb d_O_haveBetween_43 rfl (lv_at hl 4 rfl) ?_
  refine lv_iload hx hb d_O_haveBetween_44 (lv_at hl 5 rfl) ?_
  refine lv_iload hx hb d_O_haveBetween_46 (lv_at hl 6 rfl) ?_
  refine z_rdV (n := 4) (C := R_O) (rest := []) ⟨hx, hb, hml, hown, hts⟩ hW0 (c_O_share G a b1 b2 b3 b4 n mx my px py j k x y (by omega) (by omega)) w_507 w_504 w_506 wp_16 w_3 (by decide +kernel) ⟨rfl, rfl, Nat.le_of_ble_eq_true rfl, Nat.le_of_ble_eq_true rfl⟩ (hO.recv hK rfl) (hB) rfl rfl hl.1 (Nat.le_of_ble_eq_true rfl) d_O_haveBetween_48 ⟨Nat.zero_le _, Nat.zero_le _⟩ ?_
  refine lv_lstore (lv' := [(8, .long (po_sh mx my j k x y)), (6, .long (po_sh mx my i j (mx k) (my k))), (0, .ref a), (1, .int (nI i)), (2, .int (nI j)), (3, .int (nI k)), (4, .int x), (5, .int y)]) hx hb d_O_haveBetween_51 hl (by decide) rfl (fun ls hl => ?_)
  refine lv_aload_n hx hb d_O_haveBetween_53 rfl (lv_at hl 2 rfl) ?_
  refine lv_iload_n hx hb d_O_haveBetween_54 rfl (lv_at hl 5 rfl) ?_
  refine lv_iload_n hx hb d_O_haveBetween_55 rfl (lv_at hl 3 rfl) ?_
  refine lv_iload hx hb d_O_haveBetween_56 (lv_at hl 6 rfl) ?_
  refine lv_iload hx hb d_O_haveBetween_58 (lv_at hl 7 rfl) ?_
  refine z_rdV (n := 4) (C := R_O) (rest := []) ⟨hx, hb, hml, hown, hts⟩ hW0 (c_O_share G a b1 b2 b3 b4 n mx my px py k i x y (by omega) (by omega)) w_507 w_504 w_506 wp_16 w_3 (by decide +kernel) ⟨rfl, rfl, Nat.le_of_ble_eq_true rfl, Nat.le_of_ble_eq_true rfl⟩ (hO.recv hK rfl) (hB) rfl rfl hl.1 (Nat.le_of_ble_eq_true rfl) d_O_haveBetween_60 ⟨Nat.zero_le _, Nat.zero_le _⟩ ?_
  refine lv_lstore (lv' := [(10, .long (po_sh mx my k i x y)), (8, .long (po_sh mx my j k x y)), (6, .long (po_sh mx my i j (mx k) (my k))), (0, .ref a), (1, .int (nI i)), (2, .int (nI j)), (3, .int (nI k)), (4, .int x), (5, .int y)]) hx hb d_O_haveBetween_63 hl (by decide) rfl (fun ls hl => ?_)
  refine lv_aload_n hx hb d_O_haveBetween_65 rfl (lv_at hl 3 rfl) ?_
  refine lv_iload_n hx hb d_O_haveBetween_66 rfl (lv_at hl 4 rfl) ?_
  refine lv_iload_n hx hb d_O_haveBetween_67 rfl (lv_at hl 5 rfl) ?_
  refine lv_iload hx hb d_O_haveBetween_68 (lv_at hl 7 rfl) ?_
  refine lv_iload hx hb d_O_haveBetween_70 (lv_at hl 8 rfl) ?_
  refine z_rdV (n := 4) (C := R_O) (rest := []) ⟨hx, hb, hml, hown, hts⟩ hW0 (c_O_share G a b1 b2 b3 b4 n mx my px py i j x y (by omega) (by omega)) w_507 w_504 w_506 wp_16 w_3 (by decide +kernel) ⟨rfl, rfl, Nat.le_of_ble_eq_true rfl, Nat.le_of_ble_eq_true rfl⟩ (hO.recv hK rfl) (hB) rfl rfl hl.1 (Nat.le_of_ble_eq_true rfl) d_O_haveBetween_72 ⟨Nat.zero_le _, Nat.zero_le _⟩ ?_
  refine lv_lstore (lv' := [(12, .long (po_sh mx my i j x y)), (10, .long (po_sh mx my k i x y)), (8, .long (po_sh mx my j k x y)), (6, .long (po_sh mx my i j (mx k) (my k))), (0, .ref a), (1, .int (nI i)), (2, .int (nI j)), (3, .int (nI k)), (4, .int x), (5, .int y)]) hx hb d_O_haveBetween_75 hl (by decide) rfl (fun ls hl => ?_)
  refine lv_lload hx hb d_O_haveBetween_77 (lv_at hl 3 rfl) ?_
  refine lv_lconst (v := 0) hx hb d_O_haveBetween_79 (by decide) ?_
  refine W.lcmp hx hb d_O_haveBetween_80 ?_
  refine lv_if_le (tgt := 105) hx hb d_O_haveBetween_81 (by decide) (fun c_1 => ?_) (fun c_1 => ?_)
  · skip
    have c_1 : (po_sh mx my i j (mx k) (my k)) ≤ 0 := (lg_cmp_le _ _).mp c_1
    have c_1' : ¬ (0 < (po_sh mx my i j (mx k) (my k))) := Int64.not_lt.mpr c_1
    refine lv_lload hx hb d_O_haveBetween_105 (lv_at hl 3 rfl) ?_
    refine lv_lconst (v := 0) hx hb d_O_haveBetween_107 (by decide) ?_
    refine W.lcmp hx hb d_O_haveBetween_108 ?_
    refine lv_if_ge (tgt := 137) hx hb d_O_haveBetween_109 (by decide) (fun c_2 => ?_) (fun c_2 => ?_)
    · skip
      have c_2 : 0 ≤ (po_sh mx my i j (mx k) (my k)) := (lg_cmp_ge _ _).mp c_2
      have c_2' : ¬ ((po_sh mx my i j (mx k) (my k)) < 0) := Int64.not_lt.mpr c_2
      refine lv_iconst (v := 0) hx hb d_O_haveBetween_137 (by decide) ?_
      exact z_zret hx hb hr hlocks (by simp [pi_b, po_hb, c_1, c_1', c_2, c_2']) d_O_haveBetween_138
    · skip
      have c_2 : ¬ (0 ≤ (po_sh mx my i j (mx k) (my k))) := fun h => c_2 ((lg_cmp_ge _ _).mpr h)
      have c_2' : (po_sh mx my i j (mx k) (my k)) < 0 := Int64.not_le.mp c_2
      refine lv_lload hx hb d_O_haveBetween_112 (lv_at hl 2 rfl) ?_
      refine lv_lconst (v := 0) hx hb d_O_haveBetween_114 (by decide) ?_
      refine W.lcmp hx hb d_O_haveBetween_115 ?_
      refine lv_if_gt (tgt := 137) hx hb d_O_haveBetween_116 (by decide) (fun c_3 => ?_) (fun c_3 => ?_)
      · skip
        have c_3 : 0 < (po_sh mx my j k x y) := (lg_cmp_gt _ _).mp c_3
        have c_3' : ¬ ((po_sh mx my j k x y) ≤ 0) := Int64.not_le.mpr c_3
        refine lv_iconst (v := 0) hx hb d_O_haveBetween_137 (by decide) ?_
        exact z_zret hx hb hr hlocks (by simp [pi_b, po_hb, c_1, c_1', c_2, c_2', c_3, c_3']) d_O_haveBetween_138
      · skip
        have c_3 : ¬ (0 < (po_sh mx my j k x y)) := fun h => c_3 ((lg_cmp_gt _ _).mpr h)
        have c_3' : (po_sh mx my j k x y) ≤ 0 := Int64.not_lt.mp c_3
        refine lv_lload hx hb d_O_haveBetween_119 (lv_at hl 1 rfl) ?_
        refine lv_lconst (v := 0) hx hb d_O_haveBetween_121 (by decide) ?_
        refine W.lcmp hx hb d_O_haveBetween_122 ?_
        refine lv_if_gt (tgt := 137) hx hb d_O_haveBetween_123 (by decide) (fun c_4 => ?_) (fun c_4 => ?_)
        · skip
          have c_4 : 0 < (po_sh mx my k i x y) := (lg_cmp_gt _ _).mp c_4
          have c_4' : ¬ ((po_sh mx my k i x y) ≤ 0) := Int64.not_le.mpr c_4
          refine lv_iconst (v := 0) hx hb d_O_haveBetween_137 (by decide) ?_
          exact z_zret hx hb hr hlocks (by simp [pi_b, po_hb, c_1, c_1', c_2, c_2', c_3, c_3', c_4, c_4']) d_O_haveBetween_138
        · skip
          have c_4 : ¬ (0 < (po_sh mx my k i x y)) := fun h => c_4 ((lg_cmp_gt _ _).mpr h)
          have c_4' : (po_sh mx my k i x y) ≤ 0 := Int64.not_lt.mp c_4
          refine lv_lload hx hb d_O_haveBetween_126 (lv_at hl 0 rfl) ?_
          refine lv_lconst (v := 0) hx hb d_O_haveBetween_128 (by decide) ?_
          refine W.lcmp hx hb d_O_haveBetween_129 ?_
          refine lv_if_gt (tgt := 137) hx hb d_O_haveBetween_130 (by decide) (fun c_5 => ?_) (fun c_5 => ?_)
          · skip
            have c_5 : 0 < (po_sh mx my i j x y) := (lg_cmp_gt _ _).mp c_5
            have c_5' : ¬ ((po_sh mx my i j x y) ≤ 0) := Int64.not_le.mpr c_5
            refine lv_iconst (v := 0) hx hb d_O_haveBetween_137 (by decide) ?_
            exact z_zret hx hb hr hlocks (by simp [pi_b, po_hb, c_1, c_1', c_2, c_2', c_3, c_3', c_4, c_4', c_5, c_5']) d_O_haveBetween_138
          · skip
            have c_5 : ¬ (0 < (po_sh mx my i j x y)) := fun h => c_5 ((lg_cmp_gt _ _).mpr h)
            have c_5' : (po_sh mx my i j x y) ≤ 0 := Int64.not_lt.mp c_5
            refine lv_iconst (v := 1) hx hb d_O_haveBetween_133 (by decide) ?_
            refine lv_goto (tgt := 138) hx hb d_O_haveBetween_134 (by decide) ?_
            exact z_zret hx hb hr hlocks (by simp [pi_b, po_hb, c_1, c_1', c_2, c_2', c_3, c_3', c_4, c_4', c_5, c_5']) d_O_haveBetween_138
  · skip
    have c_1 : ¬ ((po_sh mx my i j (mx k) (my k)) ≤ 0) := fun h => c_1 ((lg_cmp_le _ _).mpr h)
    have c_1' : 0 < (po_sh mx my i j (mx k) (my k)) := Int64.not_le.mp c_1
    refine lv_lload hx hb d_O_haveBetween_84 (lv_at hl 2 rfl) ?_
    refine lv_lconst (v := 0) hx hb d_O_haveBetween_86 (by decide) ?_
    refine W.lcmp hx hb d_O_haveBetween_87 ?_
    refine lv_if_lt (tgt := 105) hx hb d_O_haveBetween_88 (by decide) (fun c_6 => ?_) (fun c_6 => ?_)
    · skip
      have c_6 : (po_sh mx my j k x y) < 0 := (lg_cmp_lt _ _).mp c_6
      have c_6' : ¬ (0 ≤ (po_sh mx my j k x y)) := Int64.not_le.mpr c_6
      refine lv_lload hx hb d_O_haveBetween_105 (lv_at hl 3 rfl) ?_
      refine lv_lconst (v := 0) hx hb d_O_haveBetween_107 (by decide) ?_
      refine W.lcmp hx hb d_O_haveBetween_108 ?_
      refine lv_if_ge (tgt := 137) hx hb d_O_haveBetween_109 (by decide) (fun c_7 => ?_) (fun c_7 => ?_)
      · skip
        have c_7 : 0 ≤ (po_sh mx my i j (mx k) (my k)) := (lg_cmp_ge _ _).mp c_7
        have c_7' : ¬ ((po_sh mx my i j (mx k) (my k)) < 0) := Int64.not_lt.mpr c_7
        refine lv_iconst (v := 0) hx hb d_O_haveBetween_137 (by decide) ?_
        exact z_zret hx hb hr hlocks (by simp [pi_b, po_hb, c_1, c_1', c_6, c_6', c_7, c_7']) d_O_haveBetween_138
      · skip
        have c_7 : ¬ (0 ≤ (po_sh mx my i j (mx k) (my k))) := fun h => c_7 ((lg_cmp_ge _ _).mpr h)
        have c_7' : (po_sh mx my i j (mx k) (my k)) < 0 := Int64.not_le.mp c_7
        refine lv_lload hx hb d_O_haveBetween_112 (lv_at hl 2 rfl) ?_
        refine lv_lconst (v := 0) hx hb d_O_haveBetween_114 (by decide) ?_
        refine W.lcmp hx hb d_O_haveBetween_115 ?_
        refine lv_if_gt (tgt := 137) hx hb d_O_haveBetween_116 (by decide) (fun c_8 => ?_) (fun c_8 => ?_)
        · skip
          have c_8 : 0 < (po_sh mx my j k x y) := (lg_cmp_gt _ _).mp c_8
          have c_8' : ¬ ((po_sh mx my j k x y) ≤ 0) := Int64.not_le.mpr c_8
          refine lv_iconst (v := 0) hx hb d_O_haveBetween_137 (by decide) ?_
          exact z_zret hx hb hr hlocks (by simp [pi_b, po_hb, c_1, c_1', c_6, c_6', c_7, c_7', c_8, c_8']) d_O_haveBetween_138
        · skip
          have c_8 : ¬ (0 < (po_sh mx my j k x y)) := fun h => c_8 ((lg_cmp_gt _ _).mpr h)
          have c_8' : (po_sh mx my j k x y) ≤ 0 := Int64.not_lt.mp c_8
          refine lv_lload hx hb d_O_haveBetween_119 (lv_at hl 1 rfl) ?_
          refine lv_lconst (v := 0) hx hb d_O_haveBetween_121 (by decide) ?_
          refine W.lcmp hx hb d_O_haveBetween_122 ?_
          refine lv_if_gt (tgt := 137) hx hb d_O_haveBetween_123 (by decide) (fun c_9 => ?_) (fun c_9 => ?_)
          · skip
            have c_9 : 0 < (po_sh mx my k i x y) := (lg_cmp_gt _ _).mp c_9
            have c_9' : ¬ ((po_sh mx my k i x y) ≤ 0) := Int64.not_le.mpr c_9
            refine lv_iconst (v := 0) hx hb d_O_haveBetween_137 (by decide) ?_
            exact z_zret hx hb hr hlocks (by simp [pi_b, po_hb, c_1, c_1', c_6, c_6', c_7, c_7', c_8, c_8', c_9, c_9']) d_O_haveBetween_138
          · skip
            have c_9 : ¬ (0 < (po_sh mx my k i x y)) := fun h => c_9 ((lg_cmp_gt _ _).mpr h)
            have c_9' : (po_sh mx my k i x y) ≤ 0 := Int64.not_lt.mp c_9
            refine lv_lload hx hb d_O_haveBetween_126 (lv_at hl 0 rfl) ?_
            refine lv_lconst (v := 0) hx hb d_O_haveBetween_128 (by decide) ?_
            refine W.lcmp hx hb d_O_haveBetween_129 ?_
            refine lv_if_gt (tgt := 137) hx hb d_O_haveBetween_130 (by decide) (fun c_10 => ?_) (fun c_10 => ?_)
            · skip
              have c_10 : 0 < (po_sh mx my i j x y) := (lg_cmp_gt _ _).mp c_10
              have c_10' : ¬ ((po_sh mx my i j x y) ≤ 0) := Int64.not_le.mpr c_10
              refine lv_iconst (v := 0) hx hb d_O_haveBetween_137 (by decide) ?_
              exact z_zret hx hb hr hlocks (by simp [pi_b, po_hb, c_1, c_1', c_6, c_6', c_7, c_7', c_8, c_8', c_9, c_9', c_10, c_10']) d_O_haveBetween_138
            · skip
              have c_10 : ¬ (0 < (po_sh mx my i j x y)) := fun h => c_10 ((lg_cmp_gt _ _).mpr h)
              have c_10' : (po_sh mx my i j x y) ≤ 0 := Int64.not_lt.mp c_10
              refine lv_iconst (v := 1) hx hb d_O_haveBetween_133 (by decide) ?_
              refine lv_goto (tgt := 138) hx hb d_O_haveBetween_134 (by decide) ?_
              exact z_zret hx hb hr hlocks (by simp [pi_b, po_hb, c_1, c_1', c_6, c_6', c_7, c_7', c_8, c_8', c_9, c_9', c_10, c_10']) d_O_haveBetween_138
    · skip
      have c_6 : ¬ ((po_sh mx my j k x y) < 0) := fun h => c_6 ((lg_cmp_lt _ _).mpr h)
      have c_6' : 0 ≤ (po_sh mx my j k x y) := Int64.not_lt.mp c_6
      refine lv_lload hx hb d_O_haveBetween_91 (lv_at hl 1 rfl) ?_
      refine lv_lconst (v := 0) hx hb d_O_haveBetween_93 (by decide) ?_
      refine W.lcmp hx hb d_O_haveBetween_94 ?_
      refine lv_if_lt (tgt := 105) hx hb d_O_haveBetween_95 (by decide) (fun c_11 => ?_) (fun c_11 => ?_)
      · skip
        have c_11 : (po_sh mx my k i x y) < 0 := (lg_cmp_lt _ _).mp c_11
        have c_11' : ¬ (0 ≤ (po_sh mx my k i x y)) := Int64.not_le.mpr c_11
        refine lv_lload hx hb d_O_haveBetween_105 (lv_at hl 3 rfl) ?_
        refine lv_lconst (v := 0) hx hb d_O_haveBetween_107 (by decide) ?_
        refine W.lcmp hx hb d_O_haveBetween_108 ?_
        refine lv_if_ge (tgt := 137) hx hb d_O_haveBetween_109 (by decide) (fun c_12 => ?_) (fun c_12 => ?_)
        · skip
          have c_12 : 0 ≤ (po_sh mx my i j (mx k) (my k)) := (lg_cmp_ge _ _).mp c_12
          have c_12' : ¬ ((po_sh mx my i j (mx k) (my k)) < 0) := Int64.not_lt.mpr c_12
          refine lv_iconst (v := 0) hx hb d_O_haveBetween_137 (by decide) ?_
          exact z_zret hx hb hr hlocks (by simp [pi_b, po_hb, c_1, c_1', c_6, c_6', c_11, c_11', c_12, c_12']) d_O_haveBetween_138
        · skip
          have c_12 : ¬ (0 ≤ (po_sh mx my i j (mx k) (my k))) := fun h => c_12 ((lg_cmp_ge _ _).mpr h)
          have c_12' : (po_sh mx my i j (mx k) (my k)) < 0 := Int64.not_le.mp c_12
          refine lv_lload hx hb d_O_haveBetween_112 (lv_at hl 2 rfl) ?_
          refine lv_lconst (v := 0) hx hb d_O_haveBetween_114 (by decide) ?_
          refine W.lcmp hx hb d_O_haveBetween_115 ?_
          refine lv_if_gt (tgt := 137) hx hb d_O_haveBetween_116 (by decide) (fun c_13 => ?_) (fun c_13 => ?_)
          · skip
            have c_13 : 0 < (po_sh mx my j k x y) := (lg_cmp_gt _ _).mp c_13
            have c_13' : ¬ ((po_sh mx my j k x y) ≤ 0) := Int64.not_le.mpr c_13
            refine lv_iconst (v := 0) hx hb d_O_haveBetween_137 (by decide) ?_
            exact z_zret hx hb hr hlocks (by simp [pi_b, po_hb, c_1, c_1', c_6, c_6', c_11, c_11', c_12, c_12', c_13, c_13']) d_O_haveBetween_138
          · skip
            have c_13 : ¬ (0 < (po_sh mx my j k x y)) := fun h => c_13 ((lg_cmp_gt _ _).mpr h)
            have c_13' : (po_sh mx my j k x y) ≤ 0 := Int64.not_lt.mp c_13
            refine lv_lload hx hb d_O_haveBetween_119 (lv_at hl 1 rfl) ?_
            refine lv_lconst (v := 0) hx hb d_O_haveBetween_121 (by decide) ?_
            refine W.lcmp hx hb d_O_haveBetween_122 ?_
            refine lv_if_gt (tgt := 137) hx hb d_O_haveBetween_123 (by decide) (fun c_14 => ?_) (fun c_14 => ?_)
            · skip
              have c_14 : 0 < (po_sh mx my k i x y) := (lg_cmp_gt _ _).mp c_14
              have c_14' : ¬ ((po_sh mx my k i x y) ≤ 0) := Int64.not_le.mpr c_14
              refine lv_iconst (v := 0) hx hb d_O_haveBetween_137 (by decide) ?_
              exact z_zret hx hb hr hlocks (by simp [pi_b, po_hb, c_1, c_1', c_6, c_6', c_11, c_11', c_12, c_12', c_13, c_13', c_14, c_14']) d_O_haveBetween_138
            · skip
              have c_14 : ¬ (0 < (po_sh mx my k i x y)) := fun h => c_14 ((lg_cmp_gt _ _).mpr h)
              have c_14' : (po_sh mx my k i x y) ≤ 0 := Int64.not_lt.mp c_14
              refine lv_lload hx hb d_O_haveBetween_126 (lv_at hl 0 rfl) ?_
              refine lv_lconst (v := 0) hx hb d_O_haveBetween_128 (by decide) ?_
              refine W.lcmp hx hb d_O_haveBetween_129 ?_
              refine lv_if_gt (tgt := 137) hx hb d_O_haveBetween_130 (by decide) (fun c_15 => ?_) (fun c_15 => ?_)
              · skip
                have c_15 : 0 < (po_sh mx my i j x y) := (lg_cmp_gt _ _).mp c_15
                have c_15' : ¬ ((po_sh mx my i j x y) ≤ 0) := Int64.not_le.mpr c_15
                refine lv_iconst (v := 0) hx hb d_O_haveBetween_137 (by decide) ?_
                exact z_zret hx hb hr hlocks (by simp [pi_b, po_hb, c_1, c_1', c_6, c_6', c_11, c_11', c_12, c_12', c_13, c_13', c_14, c_14', c_15, c_15']) d_O_haveBetween_138
              · skip
                have c_15 : ¬ (0 < (po_sh mx my i j x y)) := fun h => c_15 ((lg_cmp_gt _ _).mpr h)
                have c_15' : (po_sh mx my i j x y) ≤ 0 := Int64.not_lt.mp c_15
                refine lv_iconst (v := 1) hx hb d_O_haveBetween_133 (by decide) ?_
                refine lv_goto (tgt := 138) hx hb d_O_haveBetween_134 (by decide) ?_
                exact z_zret hx hb hr hlocks (by simp [pi_b, po_hb, c_1, c_1', c_6, c_6', c_11, c_11', c_12, c_12', c_13, c_13', c_14, c_14', c_15, c_15']) d_O_haveBetween_138
      · skip
        have c_11 : ¬ ((po_sh mx my k i x y) < 0) := fun h => c_11 ((lg_cmp_lt _ _).mpr h)
        have c_11' : 0 ≤ (po_sh mx my k i x y) := Int64.not_lt.mp c_11
        refine lv_lload hx hb d_O_haveBetween_98 (lv_at hl 0 rfl) ?_
        refine lv_lconst (v := 0) hx hb d_O_haveBetween_100 (by decide) ?_
        refine W.lcmp hx hb d_O_haveBetween_101 ?_
        refine lv_if_ge (tgt := 133) hx hb d_O_haveBetween_102 (by decide) (fun c_16 => ?_) (fun c_16 => ?_)
        · skip
          have c_16 : 0 ≤ (po_sh mx my i j x y) := (lg_cmp_ge _ _).mp c_16
          have c_16' : ¬ ((po_sh mx my i j x y) < 0) := Int64.not_lt.mpr c_16
          refine lv_iconst (v := 1) hx hb d_O_haveBetween_133 (by decide) ?_
          refine lv_goto (tgt := 138) hx hb d_O_haveBetween_134 (by decide) ?_
          exact z_zret hx hb hr hlocks (by simp [pi_b, po_hb, c_1, c_1', c_6, c_6', c_11, c_11', c_16, c_16']) d_O_haveBetween_138
        · skip
          have c_16 : ¬ (0 ≤ (po_sh mx my i j x y)) := fun h => c_16 ((lg_cmp_ge _ _).mpr h)
          have c_16' : (po_sh mx my i j x y) < 0 := Int64.not_le.mp c_16
          refine lv_lload hx hb d_O_haveBetween_105 (lv_at hl 3 rfl) ?_
          refine lv_lconst (v := 0) hx hb d_O_haveBetween_107 (by decide) ?_
          refine W.lcmp hx hb d_O_haveBetween_108 ?_
          refine lv_if_ge (tgt := 137) hx hb d_O_haveBetween_109 (by decide) (fun c_17 => ?_) (fun c_17 => ?_)
          · skip
            have c_17 : 0 ≤ (po_sh mx my i j (mx k) (my k)) := (lg_cmp_ge _ _).mp c_17
            have c_17' : ¬ ((po_sh mx my i j (mx k) (my k)) < 0) := Int64.not_lt.mpr c_17
            refine lv_iconst (v := 0) hx hb d_O_haveBetween_137 (by decide) ?_
            exact z_zret hx hb hr hlocks (by simp [pi_b, po_hb, c_1, c_1', c_6, c_6', c_11, c_11', c_16, c_16', c_17, c_17']) d_O_haveBetween_138
          · skip
            have c_17 : ¬ (0 ≤ (po_sh mx my i j (mx k) (my k))) := fun h => c_17 ((lg_cmp_ge _ _).mpr h)
            have c_17' : (po_sh mx my i j (mx k) (my k)) < 0 := Int64.not_le.mp c_17
            refine lv_lload hx hb d_O_haveBetween_112 (lv_at hl 2 rfl) ?_
            refine lv_lconst (v := 0) hx hb d_O_haveBetween_114 (by decide) ?_
            refine W.lcmp hx hb d_O_haveBetween_115 ?_
            refine lv_if_gt (tgt := 137) hx hb d_O_haveBetween_116 (by decide) (fun c_18 => ?_) (fun c_18 => ?_)
            · skip
              have c_18 : 0 < (po_sh mx my j k x y) := (lg_cmp_gt _ _).mp c_18
              have c_18' : ¬ ((po_sh mx my j k x y) ≤ 0) := Int64.not_le.mpr c_18
              refine lv_iconst (v := 0) hx hb d_O_haveBetween_137 (by decide) ?_
              exact z_zret hx hb hr hlocks (by simp [pi_b, po_hb, c_1, c_1', c_6, c_6', c_11, c_11', c_16, c_16', c_17, c_17', c_18, c_18']) d_O_haveBetween_138
            · skip
              have c_18 : ¬ (0 < (po_sh mx my j k x y)) := fun h => c_18 ((lg_cmp_gt _ _).mpr h)
              have c_18' : (po_sh mx my j k x y) ≤ 0 := Int64.not_lt.mp c_18
              refine lv_lload hx hb d_O_haveBetween_119 (lv_at hl 1 rfl) ?_
              refine lv_lconst (v := 0) hx hb d_O_haveBetween_121 (by decide) ?_
              refine W.lcmp hx hb d_O_haveBetween_122 ?_
              refine lv_if_gt (tgt := 137) hx hb d_O_haveBetween_123 (by decide) (fun c_19 => ?_) (fun c_19 => ?_)
              · skip
                have c_19 : 0 < (po_sh mx my k i x y) := (lg_cmp_gt _ _).mp c_19
                have c_19' : ¬ ((po_sh mx my k i x y) ≤ 0) := Int64.not_le.mpr c_19
                refine lv_iconst (v := 0) hx hb d_O_haveBetween_137 (by decide) ?_
                exact z_zret hx hb hr hlocks (by simp [pi_b, po_hb, c_1, c_1', c_6, c_6', c_11, c_11', c_16, c_16', c_17, c_17', c_18, c_18', c_19, c_19']) d_O_haveBetween_138
              · skip
                have c_19 : ¬ (0 < (po_sh mx my k i x y)) := fun h => c_19 ((lg_cmp_gt _ _).mpr h)
                have c_19' : (po_sh mx my k i x y) ≤ 0 := Int64.not_lt.mp c_19
                refine lv_lload hx hb d_O_haveBetween_126 (lv_at hl 0 rfl) ?_
                refine lv_lconst (v := 0) hx hb d_O_haveBetween_128 (by decide) ?_
                refine W.lcmp hx hb d_O_haveBetween_129 ?_
                refine lv_if_gt (tgt := 137) hx hb d_O_haveBetween_130 (by decide) (fun c_20 => ?_) (fun c_20 => ?_)
                · skip
                  have c_20 : 0 < (po_sh mx my i j x y) := (lg_cmp_gt _ _).mp c_20
                  have c_20' : ¬ ((po_sh mx my i j x y) ≤ 0) := Int64.not_le.mpr c_20
                  refine lv_iconst (v := 0) hx hb d_O_haveBetween_137 (by decide) ?_
                  exact z_zret hx hb hr hlocks (by simp [pi_b, po_hb, c_1, c_1', c_6, c_6', c_11, c_11', c_16, c_16', c_17, c_17', c_18, c_18', c_19, c_19', c_20, c_20']) d_O_haveBetween_138
                · skip
                  have c_20 : ¬ (0 < (po_sh mx my i j x y)) := fun h => c_20 ((lg_cmp_gt _ _).mpr h)
                  have c_20' : (po_sh mx my i j x y) ≤ 0 := Int64.not_lt.mp c_20
                  refine lv_iconst (v := 1) hx hb d_O_haveBetween_133 (by decide) ?_
                  refine lv_goto (tgt := 138) hx hb d_O_haveBetween_134 (by decide) ?_
                  exact z_zret hx hb hr hlocks (by simp [pi_b, po_hb, c_1, c_1', c_6, c_6', c_11, c_11', c_16, c_16', c_17, c_17', c_18, c_18', c_19, c_19', c_20, c_20']) d_O_haveBetween_138
set_option maxRecDepth 100000 in
set_option maxHeartbeats 4000000 in
theorem c_O_roundedQuotient (G : z_G s0 (dC, dI) cI cS) (p1 w1 : Int64) (hq : ¬ w1 = 0 → ¬ 2 * (if 0 < w1 then w1 else -w1) = 0) : Met l y_O_roundedQuotient [Cond.code y_O_roundedQuotient b_O_roundedQuotient 8 (some .int)] ({ frames := 1, cells := 0, slots := 0, locals := 25 }) (z_Pc s0 [.long p1, .long w1] (fun H => True)) (z_Qr (some (.int (po_rq p1 w1)))) 0 0 z_no := by
  refine z_ofW (by decide +kernel) (Nat.le_of_ble_eq_true rfl) ?_
  intro p e s m below meth c hx hb hml hr hown hlocks hnm hW0 hB ls hl
  have hts := z_hts (args := [.long p1, .long w1].toArray) G.1 hW0
  have hN := z_nstW G.2.1 hW0
  have hK := va_K.moved hW0.alike G.2.2.1
  have hAI := arrOfT_moved hW0.alike G.2.2.2.1
  have hl : lv_has ls 8 [(0, .long p1), (2, .long w1)] := hl
  refine lv_lload_n hx hb d_O_roundedQuotient_0 rfl (lv_at hl 1 rfl) ?_
  refine lv_lconst (v := 0) hx hb d_O_roundedQuotient_1 (by decide) ?_
  refine W.lcmp hx hb d_O_roundedQuotient_2 ?_
  refine lv_if_ne (tgt := 8) hx hb d_O_roundedQuotient_3 (by decide) (fun c_1 => ?_) (fun c_1 => ?_)
  · skip
    have c_1 : ¬ (w1 = 0) := fun h => c_1 ((lg_cmp_eq _ _).mpr h)
    refine lv_lload_n hx hb d_O_roundedQuotient_8 rfl (lv_at hl 1 rfl) ?_
    refine lv_lconst (v := 0) hx hb d_O_roundedQuotient_9 (by decide) ?_
    refine W.lcmp hx hb d_O_roundedQuotient_10 ?_
    refine lv_if_le (tgt := 18) hx hb d_O_roundedQuotient_11 (by decide) (fun c_2 => ?_) (fun c_2 => ?_)
    · skip
      have c_2 : w1 ≤ 0 := (lg_cmp_le _ _).mp c_2
      have c_2' : ¬ (0 < w1) := Int64.not_lt.mpr c_2
      refine lv_lload_n hx hb d_O_roundedQuotient_18 rfl (lv_at hl 0 rfl) ?_
      refine lv_lneg hx hb d_O_roundedQuotient_19 ?_
      refine lv_lstore (lv' := [(4, .long (-p1)), (0, .long p1), (2, .long w1)]) hx hb d_O_roundedQuotient_20 hl (by decide) rfl (fun ls hl => ?_)
      refine lv_lload_n hx hb d_O_roundedQuotient_22 rfl (lv_at hl 2 rfl) ?_
      refine va_mabs_long hx hb (hml.trans hl.1.symm) hown (hts _ w_515) (hts _ w_406) (hts _ w_12) (hts _ w_407) (Nat.le_of_ble_eq_true rfl) (Nat.le_of_ble_eq_true rfl) (Nat.zero_le _) (Nat.zero_le _) d_O_roundedQuotient_23 ?_
      refine lv_lstore (lv' := [(6, .long (if 0 < w1 then w1 else -w1)), (4, .long (-p1)), (0, .long p1), (2, .long w1)]) hx hb d_O_roundedQuotient_26 hl (by decide) rfl (fun ls hl => ?_)
      refine lv_ldc2 hx hb hown (hts _ w_516) d_O_roundedQuotient_28 ?_
      refine lv_lload hx hb d_O_roundedQuotient_31 (lv_at hl 1 rfl) ?_
      refine lv_lmul hx hb d_O_roundedQuotient_33 ?_
      refine lv_lload hx hb d_O_roundedQuotient_34 (lv_at hl 0 rfl) ?_
      refine lv_ladd hx hb d_O_roundedQuotient_36 ?_
      refine lv_ldc2 hx hb hown (hts _ w_516) d_O_roundedQuotient_37 ?_
      refine lv_lload hx hb d_O_roundedQuotient_40 (lv_at hl 0 rfl) ?_
      refine lv_lmul hx hb d_O_roundedQuotient_42 ?_
      refine z_rdS (n := 2) (rest := []) ⟨hx, hb, hml, hown, hts⟩ hW0 (c_J_floorDiv_JJ G ((2 * (-p1)) + (if 0 < w1 then w1 else -w1)) (2 * (if 0 < w1 then w1 else -w1)) (hq c_1)) w_519 w_517 w_518 w_12 (by decide +kernel) ⟨rfl, rfl, Nat.le_of_ble_eq_true rfl, Nat.le_of_ble_eq_true rfl⟩ (trivial) rfl rfl hl.1 (Nat.le_of_ble_eq_true rfl) d_O_roundedQuotient_43 ⟨Nat.zero_le _, Nat.zero_le _⟩ ?_
      refine lv_l2i hx hb d_O_roundedQuotient_46 rfl ?_
      exact z_iret hx hb hr hlocks (by simp [po_rq, pl_abs, c_1, c_2, c_2']) d_O_roundedQuotient_47
    · skip
      have c_2 : ¬ (w1 ≤ 0) := fun h => c_2 ((lg_cmp_le _ _).mpr h)
      have c_2' : 0 < w1 := Int64.not_le.mp c_2
      refine lv_lload_n hx hb d_O_roundedQuotient_14 rfl (lv_at hl 0 rfl) ?_
      refine lv_goto (tgt := 20) hx hb d_O_roundedQuotient_15 (by decide) ?_
      refine lv_lstore (lv' := [(4, .long p1), (0, .long p1), (2, .long w1)]) hx hb d_O_roundedQuotient_20 hl (by decide) rfl (fun ls hl => ?_)
      refine lv_lload_n hx hb d_O_roundedQuotient_22 rfl (lv_at hl 2 rfl) ?_
      refine va_mabs_long hx hb (hml.trans hl.1.symm) hown (hts _ w_515) (hts _ w_406) (hts _ w_12) (hts _ w_407) (Nat.le_of_ble_eq_true rfl) (Nat.le_of_ble_eq_true rfl) (Nat.zero_le _) (Nat.zero_le _) d_O_roundedQuotient_23 ?_
      refine lv_lstore (lv' := [(6, .long (if 0 < w1 then w1 else -w1)), (4, .long p1), (0, .long p1), (2, .long w1)]) hx hb d_O_roundedQuotient_26 hl (by decide) rfl (fun ls hl => ?_)
      refine lv_ldc2 hx hb hown (hts _ w_516) d_O_roundedQuotient_28 ?_
      refine lv_lload hx hb d_O_roundedQuotient_31 (lv_at hl 1 rfl) ?_
      refine lv_lmul hx hb d_O_roundedQuotient_33 ?_
      refine lv_lload hx hb d_O_roundedQuotient_34 (lv_at hl 0 rfl) ?_
      refine lv_ladd hx hb d_O_roundedQuotient_36 ?_
      refine lv_ldc2 hx hb hown (hts _ w_516) d_O_roundedQuotient_37 ?_
      refine lv_lload hx hb d_O_roundedQuotient_40 (lv_at hl 0 rfl) ?_
      refine lv_lmul hx hb d_O_roundedQuotient_42 ?_
      refine z_rdS (n := 2) (rest := []) ⟨hx, hb, hml, hown, hts⟩ hW0 (c_J_floorDiv_JJ G ((2 * p1) + (if 0 < w1 then w1 else -w1)) (2 * (if 0 < w1 then w1 else -w1)) (hq c_1)) w_519 w_517 w_518 w_12 (by decide +kernel) ⟨rfl, rfl, Nat.le_of_ble_eq_true rfl, Nat.le_of_ble_eq_true rfl⟩ (trivial) rfl rfl hl.1 (Nat.le_of_ble_eq_true rfl) d_O_roundedQuotient_43 ⟨Nat.zero_le _, Nat.zero_le _⟩ ?_
      refine lv_l2i hx hb d_O_roundedQuotient_46 rfl ?_
      exact z_iret hx hb hr hlocks (by simp [po_rq, pl_abs, c_1, c_2, c_2']) d_O_roundedQuotient_47
  · skip
    have c_1 : w1 = 0 := (lg_cmp_eq _ _).mp c_1
    refine lv_iconst (v := 0) hx hb d_O_roundedQuotient_6 (by decide) ?_
    exact z_iret hx hb hr hlocks (by simp [po_rq, pl_abs, c_1]) d_O_roundedQuotient_7
set_option maxRecDepth 100000 in
set_option maxHeartbeats 4000000 in
theorem c_O_valueBetween (G : z_G s0 (dC, dI) cI cS) (a b1 b2 b3 b4 n : Nat) (mx my px py : Nat → Int32) (bv : Nat) (vs : Nat → Int32) (i j k : Nat) (x y : Int32) (hi : i < 12) (hj : j < 12) (hk : k < 12) (hq : ¬ po_sh mx my j k x y + po_sh mx my k i x y + po_sh mx my i j x y = 0 → ¬ 2 * (if 0 < po_sh mx my j k x y + po_sh mx my k i x y + po_sh mx my i j x y then po_sh mx my j k x y + po_sh mx my k i x y + po_sh mx my i j x y else -(po_sh mx my j k x y + po_sh mx my k i x y + po_sh mx my i j x y)) = 0) : Met l y_O_valueBetween [Cond.code y_O_valueBetween b_O_valueBetween 13 (some .int)] ({ frames := 2, cells := 0, slots := 0, locals := 52 }) (z_Pc s0 [.ref a, .int (nI i), .int (nI j), .int (nI k), .int x, .int y, .ref bv] (fun H => z_Om (dC, dI) cI H a b1 b2 b3 b4 n mx my px py ∧ z_A cI H bv 12 vs)) (z_Qr (some (.int (po_val mx my vs i j k x y)))) 0 0 z_no := by
  refine z_ofW (by decide +kernel) (Nat.le_of_ble_eq_true rfl) ?_
  intro p e s m below meth c hx hb hml hr hown hlocks hnm hW0 hB ls hl
  have hts := z_hts (args := [.ref a, .int (nI i), .int (nI j), .int (nI k), .int x, .int y, .ref bv].toArray) G.1 hW0
  have hN := z_nstW G.2.1 hW0
  have hK := va_K.moved hW0.alike G.2.2.1
  have hAI := arrOfT_moved hW0.alike G.2.2.2.1
  have hl : lv_has ls 13 [(0, .ref a), (1, .int (nI i)), (2, .int (nI j)), (3, .int (nI k)), (4, .int x), (5, .int y), (6, .ref bv)] := hl
  obtain ⟨⟨hO, hA1, hA2, hA3, hA4⟩, hV⟩ := id hB
  refine lv_aload_n hx hb d_O_valueBetween_0 rfl (lv_at hl 0 rfl) ?_
  refine lv_iload_n hx hb d_O_valueBetween_1 rfl (lv_at hl 2 rfl) ?_
  refine lv_iload_n hx hb d_O_valueBetween_2 rfl (lv_at hl 3 rfl) ?_
  refine lv_iload hx hb d_O_valueBetween_3 (lv_at hl 4 rfl) ?_
  refine lv_iload hx hb d_O_valueBetween_5 (lv_at hl 5 rfl) ?_
  refine z_rdV (n := 4) (C := R_O) (rest := []) ⟨hx, hb, hml, hown, hts⟩ hW0 (c_O_share G a b1 b2 b3 b4 n mx my px py j k x y (by omega) (by omega)) w_507 w_504 w_506 wp_16 w_3 (by decide +kernel) ⟨rfl, rfl, Nat.le_of_ble_eq_true rfl, Nat.le_of_ble_eq_true rfl⟩ (hO.recv hK rfl) (hB.1) rfl rfl hl.1 (Nat.le_of_ble_eq_true rfl) d_O_valueBetween_7 ⟨Nat.zero_le _, Nat.zero_le _⟩ ?_
  refine lv_lstore (lv' := [(7, .long (po_sh mx my j k x y)), (0, .ref a), (1, .int (nI i)), (2, .int (nI j)), (3, .int (nI k)), (4, .int x), (5, .int y), (6, .ref bv)]) hx hb d_O_valueBetween_10 hl (by decide) rfl (fun ls hl => ?_)
  refine lv_aload_n hx hb d_O_valueBetween_12 rfl (lv_at hl 1 rfl) ?_
  refine lv_iload_n hx hb d_O_valueBetween_13 rfl (lv_at hl 4 rfl) ?_
  refine lv_iload_n hx hb d_O_valueBetween_14 rfl (lv_at hl 2 rfl) ?_
  refine lv_iload hx hb d_O_valueBetween_15 (lv_at hl 5 rfl) ?_
  refine lv_iload hx hb d_O_valueBetween_17 (lv_at hl 6 rfl) ?_
  refine z_rdV (n := 4) (C := R_O) (rest := []) ⟨hx, hb, hml, hown, hts⟩ hW0 (c_O_share G a b1 b2 b3 b4 n mx my px py k i x y (by omega) (by omega)) w_507 w_504 w_506 wp_16 w_3 (by decide +kernel) ⟨rfl, rfl, Nat.le_of_ble_eq_true rfl, Nat.le_of_ble_eq_true rfl⟩ (hO.recv hK rfl) (hB.1) rfl rfl hl.1 (Nat.le_of_ble_eq_true rfl) d_O_valueBetween_19 ⟨Nat.zero_le _, Nat.zero_le _⟩ ?_
  refine lv_lstore (lv' := [(9, .long (po_sh mx my k i x y)), (7, .long (po_sh mx my j k x y)), (0, .ref a), (1, .int (nI i)), (2, .int (nI j)), (3, .int (nI k)), (4, .int x), (5, .int y), (6, .ref bv)]) hx hb d_O_valueBetween_22 hl (by decide) rfl (fun ls hl => ?_)
  refine lv_aload_n hx hb d_O_valueBetween_24 rfl (lv_at hl 2 rfl) ?_
  refine lv_iload_n hx hb d_O_valueBetween_25 rfl (lv_at hl 3 rfl) ?_
  refine lv_iload_n hx hb d_O_valueBetween_26 rfl (lv_at hl 4 rfl) ?_
  refine lv_iload hx hb d_O_valueBetween_27 (lv_at hl 6 rfl) ?_
  refine lv_iload hx hb d_O_valueBetween_29 (lv_at hl 7 rfl) ?_
  refine z_rdV (n := 4) (C := R_O) (rest := []) ⟨hx, hb, hml, hown, hts⟩ hW0 (c_O_share G a b1 b2 b3 b4 n mx my px py i j x y (by omega) (by omega)) w_507 w_504 w_506 wp_16 w_3 (by decide +kernel) ⟨rfl, rfl, Nat.le_of_ble_eq_true rfl, Nat.le_of_ble_eq_true rfl⟩ (hO.recv hK rfl) (hB.1) rfl rfl hl.1 (Nat.le_of_ble_eq_true rfl) d_O_valueBetween_31 ⟨Nat.zero_le _, Nat.zero_le _⟩ ?_
  refine lv_lstore (lv' := [(11, .long (po_sh mx my i j x y)), (9, .long (po_sh mx my k i x y)), (7, .long (po_sh mx my j k x y)), (0, .ref a), (1, .int (nI i)), (2, .int (nI j)), (3, .int (nI k)), (4, .int x), (5, .int y), (6, .ref bv)]) hx hb d_O_valueBetween_34 hl (by decide) rfl (fun ls hl => ?_)
  refine lv_lload hx hb d_O_valueBetween_36 (lv_at hl 2 rfl) ?_
  refine lv_aload hx hb d_O_valueBetween_38 (lv_at hl 9 rfl) ?_
  refine lv_iload_n hx hb d_O_valueBetween_40 rfl (lv_at hl 4 rfl) ?_
  refine z_iald hx hb hAI hV (by omega) (by decide) d_O_valueBetween_41 ?_
  refine lv_i2l hx hb d_O_valueBetween_42 rfl ?_
  refine lv_lmul hx hb d_O_valueBetween_43 ?_
  refine lv_lload hx hb d_O_valueBetween_44 (lv_at hl 1 rfl) ?_
  refine lv_aload hx hb d_O_valueBetween_46 (lv_at hl 9 rfl) ?_
  refine lv_iload_n hx hb d_O_valueBetween_48 rfl (lv_at hl 5 rfl) ?_
  refine z_iald hx hb hAI hV (by omega) (by decide) d_O_valueBetween_49 ?_
  refine lv_i2l hx hb d_O_valueBetween_50 rfl ?_
  refine lv_lmul hx hb d_O_valueBetween_51 ?_
  refine lv_ladd hx hb d_O_valueBetween_52 ?_
  refine lv_lload hx hb d_O_valueBetween_53 (lv_at hl 0 rfl) ?_
  refine lv_aload hx hb d_O_valueBetween_55 (lv_at hl 9 rfl) ?_
  refine lv_iload_n hx hb d_O_valueBetween_57 rfl (lv_at hl 6 rfl) ?_
  refine z_iald hx hb hAI hV (by omega) (by decide) d_O_valueBetween_58 ?_
  refine lv_i2l hx hb d_O_valueBetween_59 rfl ?_
  refine lv_lmul hx hb d_O_valueBetween_60 ?_
  refine lv_ladd hx hb d_O_valueBetween_61 ?_
  refine lv_lload hx hb d_O_valueBetween_62 (lv_at hl 2 rfl) ?_
  refine lv_lload hx hb d_O_valueBetween_64 (lv_at hl 1 rfl) ?_
  refine lv_ladd hx hb d_O_valueBetween_66 ?_
  refine lv_lload hx hb d_O_valueBetween_67 (lv_at hl 0 rfl) ?_
  refine lv_ladd hx hb d_O_valueBetween_69 ?_
  refine z_rdS (n := 2) (rest := []) ⟨hx, hb, hml, hown, hts⟩ hW0 (c_O_roundedQuotient G ((((po_sh mx my j k x y) * ((vs i).toInt64)) + ((po_sh mx my k i x y) * ((vs j).toInt64))) + ((po_sh mx my i j x y) * ((vs k).toInt64))) (((po_sh mx my j k x y) + (po_sh mx my k i x y)) + (po_sh mx my i j x y)) hq) w_514 w_512 w_513 w_3 (by decide +kernel) ⟨rfl, rfl, Nat.le_of_ble_eq_true rfl, Nat.le_of_ble_eq_true rfl⟩ (trivial) rfl rfl hl.1 (Nat.le_of_ble_eq_true rfl) d_O_valueBetween_70 ⟨Nat.zero_le _, Nat.zero_le _⟩ ?_
  exact z_iret hx hb hr hlocks (by rfl) d_O_valueBetween_73
end S3
