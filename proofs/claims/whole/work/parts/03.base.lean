/-- a boolean's int -/
def pi_b (b : Bool) : Int32 := if b = true then 1 else 0
theorem pi_b_0 {b : Bool} : pi_b b = 0 ↔ b = false := by cases b <;> decide
theorem pi_b_1 {b : Bool} : ¬ pi_b b = 0 ↔ b = true := by cases b <;> decide
/-! THE BASE: what every contract here rests on (own text over the kit's rows).
s0: the law's own start. Nothing that stood there is ever written; its tables only grow warmer. -/
/-- the steady words -/
def z_tbl : List Cond := lw_tbl.filter goodWord
theorem z_in {w : Cond} (i : Nat) (h : lw_tbl[i]? = some w) (g : goodWord w = true) : w ∈ z_tbl := List.mem_filter.mpr ⟨List.mem_of_getElem? h, g⟩
theorem z_ins {ws : List Cond} (ps : List Nat) (h : ws = ps.filterMap (fun i => lw_tbl[i]?)) (g : ws.all goodWord = true) : ∀ w ∈ ws, w ∈ z_tbl := fun w hw => by
  have h1 := List.all_eq_true.mp g w hw
  rw [h] at hw
  obtain ⟨i, -, hi⟩ := List.mem_filterMap.mp hw
  exact List.mem_filter.mpr ⟨List.mem_of_getElem? hi, h1⟩
/-- the links of nest mates -/
def z_nst : List Cond := [Cond.methodLinkNest R_S 97 y_B_isBetween R_B, Cond.methodLinkNest R_S 66 y_B_turn R_B, Cond.methodLinkNest R_O 43 y_B_turn R_B]
/-- a method's start: its arguments, the tables warmer than s0's, the heap holds B -/
def z_Pc (s0 : State) (av : List Value) (B : Heap → Prop) : Array Value → State → Prop := fun v U => v = av.toArray ∧ s0.WarmedH U.vm ∧ B U.heap
theorem z_blind {s0 : State} {av : List Value} {B : Heap → Prop} : FrameBlind (z_Pc s0 av B) := fun _ _ _ _ h => h
/-- a reader's end: its answer, the heap as it was -/
def z_Qr (r : Option Value) : Array Value → State → Outcome → State → Prop := fun _ st o t => o = .returned r ∧ t.heap = st.heap
abbrev z_no : Addr → Prop := fun _ => False
theorem z_nil {free : Addr → Prop} : ∀ q ∈ ([] : List Loc), free q.base := fun _ h => by cases h
theorem z_hts {s0 s : State} {args : Array Value} (G : ∀ w ∈ z_tbl, w.before #[] s0 = true) (hW : s0.WarmedH s.vm) : ∀ w ∈ z_tbl, w.before args s = true :=
  fun w hw => word_at hW (good_of_word (List.mem_filter.mp hw).2) (G w hw)
/-- what the whole run rests on, at s0: the steady words, the nest mates' links, the classes' numbers and slots, the array classes -/
def z_G (s0 : State) (D : va_G) (cI cS : ClassId) : Prop := (∀ w ∈ z_tbl, w.before #[] s0 = true) ∧ (∀ w ∈ z_nst, va_Nw w s0) ∧ va_K D vwCl [] s0 ∧ ArrOfT s0 cI .int ∧ ArrOfT s0 cS (.object "BorderDays$Shape") ∧ va_RA s0 cS (.object "BorderDays$Shape")
theorem z_nstW {s0 s : State} (h : ∀ w ∈ z_nst, va_Nw w s0) (hW : s0.WarmedH s.vm) : ∀ w ∈ z_nst, va_Nw w s := fun w hw => by
  have h0 := h w hw
  simp only [z_nst, List.mem_cons, List.not_mem_nil, or_false] at hw
  rcases hw with rfl | rfl | rfl <;> exact va_Nw.warmM hW h0
theorem z_ofW {l : Launch} {s0 : State} {y : MethodName} {rm : Room} {av : List Value} {B : Heap → Prop} {Qc : Array Value → State → Outcome → State → Prop} {mc ms : Nat} {free : Addr → Prop} {cc : ByteArray} {nL : Nat} {ret : Option FieldType}
    (hy : plainName y.cls = true) (hn : (lg_sl av).length ≤ nL)
    (body : ∀ (p : Program) (e : Env) (s : State) (m : MethodId) (below : List Frame) (meth : Method) (c : Code), p.tables.exec = Jvm.exec → c.code = cc → c.maxLocals = nL → meth.sig.returnType = ret → s.vm.findClass y.cls = some m.cls → meth.locks = false → meth.name = y.name → s0.WarmedH s.vm → B s.heap →
      ∀ ls : Array Slot, lv_has ls nL (lv_args 0 av) → W p l e rm s m av.toArray below meth c s.heap [] 0 0 (MQ below Qc av.toArray s mc ms free) (F0 m 0 ls [])) :
    Met l y [Cond.code y cc nL ret] rm (z_Pc s0 av B) Qc mc ms free := by
  refine Met.ofW (cc := cc) (maxL := nL) (ret := ret) hy rfl ?_
  intro p e s m args below meth c s₁ H hml hv
  obtain ⟨rfl, hW, hB⟩ := hv
  have hl := lv_entry av (n := nL) hn
  rw [lg_entry_eq]
  exact body p e s m below meth c H.exec H.bytes hml H.returns (findClass_of_methodNamed H.named) H.notSynchronized (name_of_methodNamed H.named H.method).1 hW hB _ hl
theorem z_ofWX {l : Launch} {s0 : State} {y : MethodName} {rm : Room} {av : List Value} {B : Heap → Prop} {X : String} {cc : ByteArray} {nL : Nat} {ret : Option FieldType}
    (hy : plainName y.cls = true) (hn : (lg_sl av).length ≤ nL)
    (body : ∀ (p : Program) (e : Env) (s : State) (m : MethodId) (below : List Frame) (meth : Method) (c : Code), p.tables.exec = Jvm.exec → c.code = cc → c.maxLocals = nL → l.admits e → s.vm.findClass y.cls = some m.cls → meth.locks = false → c.exceptionTable.isEmpty = true → s0.WarmedH s.vm → B s.heap →
      ∀ ls : Array Slot, lv_has ls nL (lv_args 0 av) → W p l e rm s m av.toArray below meth c s.heap [] 0 0 (xt_Z below X av.toArray s) (F0 m 0 ls [])) :
    xt_Met l y [Cond.code y cc nL ret] rm (z_Pc s0 av B) X := by
  refine xt_ofW (cc := cc) (maxL := nL) (ret := ret) hy rfl ?_
  intro p e s m args below meth c s₁ H hml hv
  obtain ⟨rfl, hW, hB⟩ := hv
  have hl := lv_entry av (n := nL) hn
  rw [lg_entry_eq]
  exact body p e s m below meth c H.exec H.bytes hml H.admits (findClass_of_methodNamed H.named) H.notSynchronized (H.noHandlers (atoms_spec (ws := [Cond.code y cc nL ret]) H.pre _ List.mem_cons_self)) hW hB _ hl
section ZR
variable {p : Program} {l : Launch} {e : Env} {R : Room} {s : State} {m : MethodId} {args : Array Value} {below : List Frame} {meth : Method} {c : Code} {H : Heap} {locs : List Loc} {cells slots : Nat} {Q : State → Prop}
variable {cc : ByteArray} {pc : Nat} {ls : Array Slot} {rest : List Value}
theorem z_topi {x y : Int32} (h : x = y) (k : W p l e R s m args below meth c H locs cells slots Q (F0 m pc ls (.int y :: rest))) : W p l e R s m args below meth c H locs cells slots Q (F0 m pc ls (.int x :: rest)) := h ▸ k
theorem z_topl {x y : Int64} (h : x = y) (k : W p l e R s m args below meth c H locs cells slots Q (F0 m pc ls (.long y :: rest))) : W p l e R s m args below meth c H locs cells slots Q (F0 m pc ls (.long x :: rest)) := h ▸ k
/-- an object: its class's number in vwCl, its fields -/
def z_O (D : va_G) (H : Heap) (a ci : Nat) (fs : List Value) : Prop := va_at D vwCl (a, .inr (ci, fs)) H
/-- an int array of n places -/
def z_A (cI : ClassId) (H : Heap) (a n : Nat) (f : Nat → Int32) : Prop := H[a]? = some (vp_cell cI (n, .inl f))
/-- an array of n references -/
def z_B (cS : ClassId) (H : Heap) (a n : Nat) (f : Nat → Option Nat) : Prop := H[a]? = some (vp_cell cS (n, .inr (.inr (.inr (.inr f)))))
theorem z_O.P {D : va_G} {a ci : Nat} {fs : List Value} (h : z_O D H a ci fs) : va_P D vwCl [(a, .inr (ci, fs))] H := fun k q hq => by
  have hk : k < 1 := (List.getElem?_eq_some_iff.mp hq).1
  rw [show k = 0 by omega] at hq
  cases hq; exact h
theorem z_O.recv {D : va_G} {tys : List (ClassId × FieldType)} {a ci : Nat} {fs : List Value} {q : vw_C} (h : z_O D H a ci fs) (hK : va_K D vwCl tys s) (hc : vwCl[ci]? = some q) : ∃ cell : Cell, H[a]? = some cell ∧ cell.vm.isStatics = false ∧ s.vm.findClass q.1 = some cell.cls :=
  va_recv hK h.P hc (q0 := 0) rfl
theorem z_iald {cI : ClassId} {a n k : Nat} {f : Nat → Int32} (hx : p.tables.exec = Jvm.exec) (hb : c.code = cc) (hAI : ArrOfT s cI .int) (hA : z_A cI H a n f) (hk : k < n) (hn : n < 2 ^ 31) (hdg : decode cc pc = .ok (.iaload, 1))
    (kk : W p l e R s m args below meth c H locs cells slots Q (F0 m (pc + 1) ls (.int (f k) :: rest))) : W p l e R s m args below meth c H locs cells slots Q (F0 m pc ls (.int (nI k) :: .ref a :: rest)) := by
  have hc : (nI k).toNatClampNeg = k := nI_clamp (by omega)
  refine W.iald (v := .int (f k)) hx hb hA (hAI n (fun j => .int (f j))) (fun q => by cases q) ?_ ?_ rfl rfl hdg kk
  · show ¬ (nI k < 0 ∨ (arrV _ _ _).slots.size ≤ _)
    rw [arrV_size]; exact nI_in hk hn
  · show (arrV _ _ _).slots[_]? = _
    rw [hc, arrV_read _ _ hk]
theorem z_rdC {r : Option Value} {a : Array Value} {stk : List Value} (hr : va_Run p l e R s m args below meth c H locs cells slots 0 0 (F0 m pc ls stk) rest (z_Qr r a) z_no)
    (k : W p l e R s m args below meth c H locs cells slots Q (F0 m (pc + 3) ls (r.toList ++ rest))) : W p l e R s m args below meth c H locs cells slots Q (F0 m pc ls stk) := by
  intro T hT X
  obtain ⟨v, st₀, t, T', L, h0, X', hL, e1, -, ⟨hv, hh⟩, stp⟩ := hr T hT X
  have hv : v = r := Outcome.returned.inj hv
  subst hv
  obtain ⟨t2, a1, b1⟩ := k T' (by rw [e1, hh, h0]) (Stand.forget X' (fun q h => (hL q h).elim))
  exact ⟨t2, stp t2 a1, b1⟩
theorem z_st (hts : ∀ w ∈ z_tbl, w.before args s = true) : ∀ w ∈ z_tbl, ∀ (a' : Array Value) (U : State), s.WarmedH U.vm → w.before a' U = true := fun w hw a' U hW => word_at hW (good_of_word (List.mem_filter.mp hw).2) (hts w hw)
section ZC
variable {s0 : State} {y : MethodName} {bytes : ByteArray} {maxL nL n index : Nat} {ret : Option FieldType} {rm : Room} {own C host : String} {a : Nat} {As stk : List Value} {B : Heap → Prop} {r : Option Value} {v : Value}
abbrev z_dsc (y : MethodName) (n : Nat) : Prop := y.cls ≠ "java/lang/invoke/MethodHandle" ∧ y.cls ≠ "java/lang/invoke/VarHandle" ∧ (parseMethodDescriptor y.desc).map (fun d => d.parameters.length) = some n
abbrev z_rmk (rm R : Room) (maxL mc ms : Nat) : Prop := rm.cells = mc ∧ rm.slots = ms ∧ rm.frames + 1 ≤ R.frames ∧ 8 + (maxL + 11) + rm.locals ≤ R.locals
theorem z_callB {mc ms : Nat} (hts : ∀ w ∈ z_tbl, w.before args s = true) (w1 : Cond.code y bytes maxL ret ∈ z_tbl) (w2 : Cond.methodLink own index y ∈ z_tbl) (w5 : Cond.initialized y.cls ∈ z_tbl) (hd : z_dsc y n) (hR : z_rmk rm R maxL mc ms) : CallB R s args own index y bytes maxL ret [Cond.code y bytes maxL ret] rm mc ms n :=
  ⟨hR.1, hR.2.1, hR.2.2.1, hR.2.2.2, fun w hw => by rw [List.mem_singleton.mp hw]; exact z_st hts _ w1, List.mem_cons_self, hts _ w1, hts _ w5, ⟨hd.1, hd.2.1⟩, fun sig h => by have h2 := hd.2.2; rw [h] at h2; exact (Option.some.inj h2).symm, hts _ w2⟩
theorem z_callN {mc ms : Nat} (hts : ∀ w ∈ z_tbl, w.before args s = true) (w1 : Cond.code y bytes maxL ret ∈ z_tbl) (w2 : va_Nw (.methodLinkNest own index y host) s) (w5 : Cond.initialized y.cls ∈ z_tbl) (hd : z_dsc y n) (hR : z_rmk rm R maxL mc ms) : va_CN R s args own index y host bytes maxL ret [Cond.code y bytes maxL ret] rm mc ms n :=
  ⟨⟨hR.1, hR.2.1, hR.2.2.1, hR.2.2.2, fun w hw => by rw [List.mem_singleton.mp hw]; exact z_st hts _ w1, List.mem_cons_self⟩, hts _ w1, hts _ w5, ⟨hd.1, hd.2.1⟩, fun sig h => by have h2 := hd.2.2; rw [h] at h2; exact (Option.some.inj h2).symm, va_Nw.use rfl w2⟩
/-- a reader is called: virtual, by a plain link -/
theorem z_rdV (S : CallFix p m c cc nL s args z_tbl own) (hW0 : s0.WarmedH s.vm) (hM : Met l y [Cond.code y bytes maxL ret] rm (z_Pc s0 (.ref a :: As) B) (z_Qr (some v)) 0 0 z_no)
    (w1 : Cond.code y bytes maxL ret ∈ z_tbl) (w2 : Cond.methodLink own index y ∈ z_tbl) (w3 : Cond.instanceMethod y ∈ z_tbl) (w4 : Cond.selects C y y ∈ z_tbl) (w5 : Cond.initialized y.cls ∈ z_tbl)
    (hd : z_dsc y n) (hR : z_rmk rm R maxL 0 0)
    (hrecv : ∃ cell : Cell, H[a]? = some cell ∧ cell.vm.isStatics = false ∧ s.vm.findClass C = some cell.cls) (hB : B H) (hn : As.length = n) (hstk : stk = As.reverse ++ .ref a :: rest) (hsize : ls.size = nL) (hst : (rest.map fun v => v.category).sum ≤ 8)
    (hdg : decode cc pc = .ok (.invokevirtual index, 3)) (hf : cells ≤ R.cells ∧ slots ≤ R.slots)
    (k : W p l e R s m args below meth c H locs cells slots Q (F0 m (pc + 3) ls (v :: rest))) : W p l e R s m args below meth c H locs cells slots Q (F0 m pc ls stk) :=
  z_rdC (va_runV (C := C) (g := F0 m pc ls stk) S hM ⟨z_callB S.2.2.2.2 w1 w2 w5 hd hR, S.2.2.2.2 _ w3, S.2.2.2.2 _ w4⟩
    ⟨z_blind, hrecv, fun U hU hW => ⟨rfl, hW0.trans hW, by rw [hU]; exact hB⟩⟩ rfl hn hsize hstk (by show 2 * 0 + _ ≤ 8; omega) hdg hf) k
theorem z_rdVv (S : CallFix p m c cc nL s args z_tbl own) (hW0 : s0.WarmedH s.vm) (hM : Met l y [Cond.code y bytes maxL ret] rm (z_Pc s0 (.ref a :: As) B) (z_Qr none) 0 0 z_no)
    (w1 : Cond.code y bytes maxL ret ∈ z_tbl) (w2 : Cond.methodLink own index y ∈ z_tbl) (w3 : Cond.instanceMethod y ∈ z_tbl) (w4 : Cond.selects C y y ∈ z_tbl) (w5 : Cond.initialized y.cls ∈ z_tbl)
    (hd : z_dsc y n) (hR : z_rmk rm R maxL 0 0)
    (hrecv : ∃ cell : Cell, H[a]? = some cell ∧ cell.vm.isStatics = false ∧ s.vm.findClass C = some cell.cls) (hB : B H) (hn : As.length = n) (hstk : stk = As.reverse ++ .ref a :: rest) (hsize : ls.size = nL) (hst : (rest.map fun v => v.category).sum ≤ 8)
    (hdg : decode cc pc = .ok (.invokevirtual index, 3)) (hf : cells ≤ R.cells ∧ slots ≤ R.slots)
    (k : W p l e R s m args below meth c H locs cells slots Q (F0 m (pc + 3) ls rest)) : W p l e R s m args below meth c H locs cells slots Q (F0 m pc ls stk) :=
  z_rdC (va_runV (C := C) (g := F0 m pc ls stk) S hM ⟨z_callB S.2.2.2.2 w1 w2 w5 hd hR, S.2.2.2.2 _ w3, S.2.2.2.2 _ w4⟩
    ⟨z_blind, hrecv, fun U hU hW => ⟨rfl, hW0.trans hW, by rw [hU]; exact hB⟩⟩ rfl hn hsize hstk (by show 2 * 0 + _ ≤ 8; omega) hdg hf) k
/-- .. static, by a plain link -/
theorem z_rdS (S : CallFix p m c cc nL s args z_tbl own) (hW0 : s0.WarmedH s.vm) (hM : Met l y [Cond.code y bytes maxL ret] rm (z_Pc s0 As B) (z_Qr (some v)) 0 0 z_no)
    (w1 : Cond.code y bytes maxL ret ∈ z_tbl) (w2 : Cond.methodLink own index y ∈ z_tbl) (w3 : Cond.static y ∈ z_tbl) (w5 : Cond.initialized y.cls ∈ z_tbl)
    (hd : z_dsc y n) (hR : z_rmk rm R maxL 0 0) (hB : B H) (hn : As.length = n) (hstk : stk = As.reverse ++ rest) (hsize : ls.size = nL) (hst : (rest.map fun v => v.category).sum ≤ 8)
    (hdg : decode cc pc = .ok (.invokestatic index, 3)) (hf : cells ≤ R.cells ∧ slots ≤ R.slots)
    (k : W p l e R s m args below meth c H locs cells slots Q (F0 m (pc + 3) ls (v :: rest))) : W p l e R s m args below meth c H locs cells slots Q (F0 m pc ls stk) :=
  z_rdC (va_runS (g := F0 m pc ls stk) S hM ⟨z_callB S.2.2.2.2 w1 w2 w5 hd hR, S.2.2.2.2 _ w3⟩
    ⟨z_blind, fun U hU hW => ⟨rfl, hW0.trans hW, by rw [hU]; exact hB⟩⟩ rfl hn hsize hstk (by show 2 * 0 + _ ≤ 8; omega) hdg hf) k
theorem z_rdSv (S : CallFix p m c cc nL s args z_tbl own) (hW0 : s0.WarmedH s.vm) (hM : Met l y [Cond.code y bytes maxL ret] rm (z_Pc s0 As B) (z_Qr none) 0 0 z_no)
    (w1 : Cond.code y bytes maxL ret ∈ z_tbl) (w2 : Cond.methodLink own index y ∈ z_tbl) (w3 : Cond.static y ∈ z_tbl) (w5 : Cond.initialized y.cls ∈ z_tbl)
    (hd : z_dsc y n) (hR : z_rmk rm R maxL 0 0) (hB : B H) (hn : As.length = n) (hstk : stk = As.reverse ++ rest) (hsize : ls.size = nL) (hst : (rest.map fun v => v.category).sum ≤ 8)
    (hdg : decode cc pc = .ok (.invokestatic index, 3)) (hf : cells ≤ R.cells ∧ slots ≤ R.slots)
    (k : W p l e R s m args below meth c H locs cells slots Q (F0 m (pc + 3) ls rest)) : W p l e R s m args below meth c H locs cells slots Q (F0 m pc ls stk) :=
  z_rdC (va_runS (g := F0 m pc ls stk) S hM ⟨z_callB S.2.2.2.2 w1 w2 w5 hd hR, S.2.2.2.2 _ w3⟩
    ⟨z_blind, fun U hU hW => ⟨rfl, hW0.trans hW, by rw [hU]; exact hB⟩⟩ rfl hn hsize hstk (by show 2 * 0 + _ ≤ 8; omega) hdg hf) k
/-- .. static, of a nest mate -/
theorem z_rdSN (S : CallFix p m c cc nL s args z_tbl own) (hW0 : s0.WarmedH s.vm) (hM : Met l y [Cond.code y bytes maxL ret] rm (z_Pc s0 As B) (z_Qr (some v)) 0 0 z_no)
    (w1 : Cond.code y bytes maxL ret ∈ z_tbl) (w2 : va_Nw (.methodLinkNest own index y host) s) (w3 : Cond.static y ∈ z_tbl) (w5 : Cond.initialized y.cls ∈ z_tbl)
    (hd : z_dsc y n) (hR : z_rmk rm R maxL 0 0) (hB : B H) (hn : As.length = n) (hstk : stk = As.reverse ++ rest) (hsize : ls.size = nL) (hst : (rest.map fun v => v.category).sum ≤ 8)
    (hdg : decode cc pc = .ok (.invokestatic index, 3)) (hf : cells ≤ R.cells ∧ slots ≤ R.slots)
    (k : W p l e R s m args below meth c H locs cells slots Q (F0 m (pc + 3) ls (v :: rest))) : W p l e R s m args below meth c H locs cells slots Q (F0 m pc ls stk) :=
  z_rdC (va_runSN (g := F0 m pc ls stk) S hM ⟨z_callN S.2.2.2.2 w1 w2 w5 hd hR, S.2.2.2.2 _ w3, trivial⟩
    ⟨z_blind, fun U hU hW => ⟨rfl, hW0.trans hW, by rw [hU]; exact hB⟩⟩ rfl hn hsize hstk (by show 2 * 0 + _ ≤ 8; omega) hdg hf) k
end ZC
/-- a reader's returns -/
theorem z_iret {v r : Int32} (hx : p.tables.exec = Jvm.exec) (hb : c.code = cc) (hr : meth.sig.returnType = some .int) (hlocks : meth.locks = false) (h : v = r) (hdg : decode cc pc = .ok (.ireturn, 1)) :
    W p l e R s m args below meth c s.heap [] 0 0 (MQ below (z_Qr (some (.int r))) args s 0 0 z_no) (F0 m pc ls [.int v]) :=
  W.iret hx hb hr (fun t ht _ => ⟨by rw [h], ht⟩) z_nil hdg hlocks
theorem z_zret {v : Int32} {r : Bool} (hx : p.tables.exec = Jvm.exec) (hb : c.code = cc) (hr : meth.sig.returnType = some .boolean) (hlocks : meth.locks = false) (h : v = pi_b r) (hdg : decode cc pc = .ok (.ireturn, 1)) :
    W p l e R s m args below meth c s.heap [] 0 0 (MQ below (z_Qr (some (.int (pi_b r)))) args s 0 0 z_no) (F0 m pc ls [.int v]) :=
  W.zret hx hb hr (by rw [h]; cases r <;> rfl) (fun t ht _ => ⟨by rw [h], ht⟩) z_nil hdg hlocks
theorem z_lret {v r : Int64} (hx : p.tables.exec = Jvm.exec) (hb : c.code = cc) (hr : meth.sig.returnType = some .long) (hlocks : meth.locks = false) (h : v = r) (hdg : decode cc pc = .ok (.lreturn, 1)) :
    W p l e R s m args below meth c s.heap [] 0 0 (MQ below (z_Qr (some (.long r))) args s 0 0 z_no) (F0 m pc ls [.long v]) :=
  W.lret hx hb hr (fun t ht _ => ⟨by rw [h], ht⟩) z_nil hdg hlocks
theorem z_vret (hx : p.tables.exec = Jvm.exec) (hb : c.code = cc) (hr : meth.sig.returnType = none) (hlocks : meth.locks = false) (hdg : decode cc pc = .ok (.return_, 1)) :
    W p l e R s m args below meth c s.heap [] 0 0 (MQ below (z_Qr none) args s 0 0 z_no) (F0 m pc ls []) :=
  W.vret hx hb hr (fun t ht _ => ⟨rfl, ht⟩) z_nil hdg hlocks
theorem z_aret {v r : Value} {rt : FieldType} (hx : p.tables.exec = Jvm.exec) (hb : c.code = cc) (hr : meth.sig.returnType = some rt) (hlocks : meth.locks = false) (hrt : (∃ n, rt = .object n) ∨ ∃ t, rt = .array t) (hv : v = .null ∨ ∃ a, v = .ref a) (h : v = r) (hdg : decode cc pc = .ok (.areturn, 1)) :
    W p l e R s m args below meth c s.heap [] 0 0 (MQ below (z_Qr (some r)) args s 0 0 z_no) (F0 m pc ls [v]) :=
  W.aret hx hb hr hrt hv (fun t ht _ => ⟨by rw [h], ht⟩) z_nil hdg hlocks
end ZR
