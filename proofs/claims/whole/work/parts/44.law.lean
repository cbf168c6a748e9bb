/-! CATCHING (own text): rows of a table whose classes are named by links -/
section XH
variable {e : Env} {s0 : State} {f : JFrame} {a : Addr} {cell : Cell}
/-- a row that is asked and passed -/
def xh_P (pl : Platform) (s0 : State) (d : ClassId) (pc : Nat) (th : ClassId) (y : ExceptionTableEntry) : Prop := covers y pc = true ∧ y.catchType ≠ 0 ∧ ∃ c, s0.vm.ClassLinks pl d y.catchType c ∧ s0.vm.assignable th c = false
theorem xh_rows (hobj : ∀ k, cell.vm ≠ .statics k) (hk0 : ∃ k, s0.vm.classes[cell.cls]? = some k) (x : ExceptionTableEntry) (rest : List ExceptionTableEntry) (hx : covers x f.pc = true) (h0 : x.catchType ≠ 0) {cT : ClassId} (hl : s0.vm.ClassLinks e.platform f.method.cls x.catchType cT) (hfit : s0.vm.assignable cell.cls cT = true) :
    ∀ (pre : List ExceptionTableEntry) (S : State), s0.WarmedH S.vm → S.heap[a]? = some cell → (∀ y ∈ pre, xh_P e.platform s0 f.method.cls f.pc cell.cls y) →
      ∃ vm', s0.WarmedH vm' ∧ ∀ (Q : Handler → Pre) (E : CtlPost) (d : Bool) (acts : List Action), wp (findHandler.go f a (pre ++ x :: rest)) Q E e d acts S ↔ Q (.found x.handlerPc) d acts (S.setVm vm') := by
  obtain ⟨k0, hk0⟩ := hk0
  have one : ∀ (y : ExceptionTableEntry) (t : List ExceptionTableEntry) (c : ClassId) (S : State), covers y f.pc = true → y.catchType ≠ 0 → s0.vm.ClassLinks e.platform f.method.cls y.catchType c → s0.WarmedH S.vm → S.heap[a]? = some cell →
      s0.WarmedH (S.vm.noted f.method.cls y.catchType (.cls c)) ∧ ∀ (Q : Handler → Pre) (E : CtlPost) (d : Bool) (acts : List Action), wp (findHandler.go f a (y :: t)) Q E e d acts S ↔
        if s0.vm.assignable cell.cls c = true then Q (.found y.handlerPc) d acts (S.setVm (S.vm.noted f.method.cls y.catchType (.cls c))) else wp (findHandler.go f a t) Q E e d acts (S.setVm (S.vm.noted f.method.cls y.catchType (.cls c))) := by
    intro y t c S hy hy0 hyl hW hcell
    obtain ⟨dk, _, _, kt, hd, _, _, _, _, hkt, _, hopen⟩ := hyl.here
    have hW' := hW.noted hd hopen (State.rightAt_cls hyl)
    refine ⟨hW', fun Q E d acts => ?_⟩
    obtain ⟨k1, hk1, -⟩ := hW'.alike.2.2 _ _ hk0
    obtain ⟨k2, hk2, -⟩ := hW'.alike.2.2 _ _ hkt
    obtain ⟨ha, ht⟩ := (resolveClass_links e.toSetting (hW.classLinks hyl)).op (op := VmOp.resolveClass f.method.cls y.catchType) rfl
    have has : (S.vm.noted f.method.cls y.catchType (.cls c)).assignable cell.cls c = s0.vm.assignable cell.cls c := hW'.alike.assignable _ _
    simp only [covers] at hy
    cases hq : s0.vm.assignable cell.cls c <;> rw [hq] at has <;> simp [findHandler.go, hy, hy0, ha, ht, hcell, hobj, hk1, hk2, has, VmOp.dirties, VmOp.acts]
  intro pre
  induction pre with
  | nil =>
    intro S hW hcell _
    obtain ⟨hW', hq⟩ := one x rest cT S hx h0 hl hW hcell
    exact ⟨_, hW', fun Q E d acts => by rw [List.nil_append, hq, if_pos hfit]⟩
  | cons y ys ih =>
    intro S hW hcell hpass
    obtain ⟨y1, y2, c, y3, y4⟩ := hpass y List.mem_cons_self
    obtain ⟨hW', hq⟩ := one y (ys ++ x :: rest) c S y1 y2 y3 hW hcell
    obtain ⟨vm', hW2, hq2⟩ := ih (S.setVm (S.vm.noted f.method.cls y.catchType (.cls c))) hW' hcell (fun z hz => hpass z (List.mem_cons_of_mem _ hz))
    exact ⟨vm', hW2, fun Q E d acts => by
      rw [List.cons_append, hq, if_neg (by rw [y4]; decide)]
      exact hq2 Q E d acts⟩
end XH
section XK
variable {p : Program} {l : Launch} {e : Env} {R : Room} {s : State} {m : MethodId} {args : Array Value} {below : List Frame} {meth : Method} {c : Code} {locs : List Loc} {cells slots : Nat} {H : Heap} {Q : State → Prop}
/-- a throw of an X comes to the row that names X; the rows before it are passed -/
theorem xh_catch {pc : Nat} {ls : Array Slot} {st rest : List Value} {X own : String} (hr : xt_Run p l e R s m args below meth c H locs cells slots (F0 m pc ls st) rest X) (hown : s.vm.findClass own = some m.cls)
    (pre : List ExceptionTableEntry) (x : ExceptionTableEntry) (post : List ExceptionTableEntry) (ht : c.exceptionTable.toList = pre ++ x :: post) (hx : covers x pc = true) (h0 : x.catchType ≠ 0) (hlink : (Cond.classLink own x.catchType X).before args s = true)
    (hpass : ∀ y ∈ pre, covers y pc = true ∧ y.catchType ≠ 0 ∧ ∃ nm, (Cond.classLink own y.catchType nm).before args s = true ∧ va_Nc X nm s)
    (k : ∀ (x' : Addr) (H1 : Heap), H.size ≤ H1.size → (∀ q : Nat, q < H.size → H1[q]? = H[q]?) → W p l e R s m args below meth c H1 locs (cells + 1) (slots + 6) Q (F0 m x.handlerPc ls [.ref x'])) :
    W p l e R s m args below meth c H locs cells slots Q (F0 m pc ls st) := by
  refine xt_catch (pcH := x.handlerPc) hr (fun T' xa ce X' z1 z2 z3 => ?_) k
  have hpl : e.platform.magicAccessors = ({} : Platform).magicAccessors := by rw [X'.admits.platform]
  obtain ⟨cT, hcT, hcl⟩ := Cond.classLink_spec hown hlink e.platform hpl
  have hce : cT = ce.cls := Option.some.inj (hcT.symm.trans z3)
  subst hce
  obtain ⟨kx, hkx⟩ := Vm.classAt_of_findClass z3
  have hself : s.vm.assignable ce.cls ce.cls = true := by
    show s.vm.assignableAux (255 + 1) ce.cls ce.cls = true
    rw [Vm.assignableAux, Bool.or_eq_true, beq_iff_eq]
    exact Or.inl rfl
  obtain ⟨vm', hW', hq⟩ := xh_rows (e := e) (s0 := s) (f := F0 m pc ls rest) (a := xa) (cell := ce) (fun k h => by rw [z2] at h; cases h) ⟨kx, hkx⟩ x post hx h0 hcl hself pre ((T'.setTop (F0 m pc ls rest)).pushFrame (.throwing xa)) (by rw [Stand.throwing_vm]; exact X'.warmed) (by rw [Stand.throwing_heap]; exact z1) (fun y hy => by
    obtain ⟨y1, y2, nm, y3, y4⟩ := hpass y hy
    obtain ⟨cN, hcN, hcl2⟩ := Cond.classLink_spec hown y3 e.platform hpl
    obtain ⟨c1, t1, g1, g2, g3⟩ := y4
    cases z3.symm.trans g1
    cases hcN.symm.trans g2
    exact ⟨y1, y2, cN, hcl2, g3⟩)
  refine ⟨T'.setVm vm', X'.noted hW', rfl, fun target hrest => ?_⟩
  have hAt : At T' (F0 m pc ls rest).method c below := X'.here
  obtain ⟨hgo, hw⟩ := hAt.throwing xa
  refine Steps.head hgo hw ?_
  have hfind : ∀ (Q : Handler → Pre) (E : CtlPost) (d : Bool) (acts : List Action), wp (findHandler (F0 m pc ls rest) xa) Q E e d acts ((T'.setTop (F0 m pc ls rest)).pushFrame (.throwing xa)) ↔ Q (.found x.handlerPc) d acts (((T'.setTop (F0 m pc ls rest)).pushFrame (.throwing xa)).setVm vm') := fun Q E d acts => by
    rw [W.findHandler_eq (meth := meth) (code := c) X'.method' X'.code, ht]; exact hq Q E d acts
  have hstep : (stepThrowing e ((T'.setTop (F0 m pc ls rest)).pushFrame (.throwing xa)) xa (.java (F0 m pc ls rest) :: T'.frames.tail)).Is ((((T'.setTop (F0 m pc ls rest)).pushFrame (.throwing xa)).setVm vm').setFrames (.java (F0 m x.handlerPc ls [.ref xa]) :: T'.frames.tail)) [] := by
    simp only [stepThrowing, searchFrame, vmDo]
    generalize hr2 : Sem.go _ e false [] _ = res
    obtain ⟨as, rfl, ha⟩ := Sem.eq_ok_of hr2 (a := Handler.found x.handlerPc) (s' := ((T'.setTop (F0 m pc ls rest)).pushFrame (.throwing xa)).setVm vm') (acts' := []) (by simp [hfind _ _ _ _])
    exact ⟨rfl, ha⟩
  rw [stepThread_throwing (frames_entered hAt.top _), hstep.1]
  obtain ⟨g0, hg⟩ := Option.isSome_iff_exists.mp hAt.top
  obtain ⟨r, hr'⟩ := State.topJava?_eq_some.mp hg
  have hr2 : (T'.setVm vm').frames = .java g0 :: r := hr'
  rw [State.setTop_of_frames _ hr2] at hrest
  have e1 : ∀ (u : State) (F G : List Frame), ((u.setFrames F).setVm vm').setFrames G = (u.setVm vm').setFrames G := fun u F G => by
    rw [show (u.setFrames F).setVm vm' = (u.setVm vm').setFrames F from rfl, State.setFrames_setFrames]
  rw [hr', List.tail_cons, State.pushFrame, e1, State.setTop_of_frames _ hr', e1]
  exact hrest
end XK
/-! METHODS WITH A TABLE: their start, their calls -/
theorem z_ofWT {l : Launch} {s0 : State} {y : MethodName} {rm : Room} {av : List Value} {B : Heap → Prop} {Qc : Array Value → State → Outcome → State → Prop} {mc ms : Nat} {free : Addr → Prop} {cc : ByteArray} {nL : Nat} {ret : Option FieldType} {hh : List (Nat × Nat × Nat × Nat)}
    (hy : plainName y.cls = true) (hn : (lg_sl av).length ≤ nL)
    (body : ∀ (p : Program) (e : Env) (s : State) (m : MethodId) (below : List Frame) (meth : Method) (c : Code), p.tables.exec = Jvm.exec → c.code = cc → c.maxLocals = nL → meth.sig.returnType = ret → s.vm.findClass y.cls = some m.cls → meth.locks = false → c.exceptionTable.toList = tableOf hh → s0.WarmedH s.vm → B s.heap →
      ∀ ls : Array Slot, lv_has ls nL (lv_args 0 av) → W p l e rm s m av.toArray below meth c s.heap [] 0 0 (MQ below Qc av.toArray s mc ms free) (F0 m 0 ls [])) :
    Met l y [Cond.codeWith y cc nL ret hh] rm (z_Pc s0 av B) Qc mc ms free := by
  refine va_MetW (cc := cc) (maxL := nL) (ret := ret) (hh := hh) hy rfl ?_
  intro p e s m args below meth c s₁ H hml hv
  obtain ⟨rfl, hW, hB⟩ := hv
  have hl := lv_entry av (n := nL) hn
  rw [lg_entry_eq]
  obtain ⟨m9, methY, cY, hn9, hmY, hcY, -, -, htab, -⟩ := Cond.codeWith_spec (atoms_spec (ws := [Cond.codeWith y cc nL ret hh]) H.pre _ List.mem_cons_self)
  have X0 : Stand p l e _ s m av.toArray below meth c s₁ [] 0 0 := Stand.of_body H
  cases H.named.symm.trans hn9
  cases X0.method.symm.trans hmY
  cases X0.code.symm.trans hcY
  exact body p e s m below meth c H.exec H.bytes hml H.returns (findClass_of_methodNamed H.named) H.notSynchronized (by rw [← htab, table_eq]) hW hB _ hl
section ZT
variable {p : Program} {l : Launch} {e : Env} {R : Room} {s s0 : State} {m : MethodId} {args : Array Value} {below : List Frame} {meth : Method} {c : Code} {H H0 : Heap} {locs : List Loc} {cells slots : Nat} {Q : State → Prop}
variable {cc : ByteArray} {pc : Nat} {ls : Array Slot} {rest : List Value} {A : Nat → Prop}
theorem z_wrT {y : MethodName} {bytes : ByteArray} {maxL nL n index mc ms : Nat} {ret : Option FieldType} {hh : List (Nat × Nat × Nat × Nat)} {rm : Room} {own : String} {As stk : List Value} {B P : Heap → Prop} {v : Value} {A1 : Nat → Prop} (S : CallFix p m c cc nL s args z_tbl own) (hW0 : s0.WarmedH s.vm) (hM : Met l y [Cond.codeWith y bytes maxL ret hh] rm (z_Pc s0 As B) (z_Qw (fun r H => r = some v ∧ P H) A1) mc ms A1)
    (w1 : Cond.codeWith y bytes maxL ret hh ∈ z_tbl) (w2 : Cond.methodLink own index y ∈ z_tbl) (w3 : Cond.static y ∈ z_tbl) (w5 : Cond.initialized y.cls ∈ z_tbl)
    (hd : z_dsc y n) (hR : z_rmk rm R maxL mc ms) (hB : B H) (hn : As.length = n) (hstk : stk = As.reverse ++ rest) (hsize : ls.size = nL) (hst : (rest.map fun v => v.category).sum ≤ 8)
    (hdg : decode cc pc = .ok (.invokestatic index, 3)) (hf : cells + mc ≤ R.cells ∧ slots + ms ≤ R.slots) (hS : va_S A H0 H locs) (hsub : ∀ q, A1 q → A q)
    (k : ∀ (H1 : Heap) (locs1 : List Loc), P H1 → H.size ≤ H1.size → (∀ q : Nat, q < H.size → ¬ A1 q → H1[q]? = H[q]?) → va_S A H0 H1 locs1 → W p l e R s m args below meth c H1 locs1 (cells + mc) (slots + ms) Q (F0 m (pc + 3) ls (v :: rest))) : W p l e R s m args below meth c H locs cells slots Q (F0 m pc ls stk) := by
  refine z_wrC (mc := mc) (ms := ms) (A1 := A1) (post := fun r H => r = some v ∧ P H) (a := As.toArray) ?_ hS hsub (fun r H1 locs1 hp hz hk hS1 => by obtain ⟨rfl, hp⟩ := hp; exact k H1 locs1 hp hz hk hS1)
  obtain ⟨hx, hb, hml, ho, hts⟩ := S
  have hst1 := z_st hts
  have hK : Back l R p e below s args y 3 8 (PreOf R mc ms (z_Pc s0 As B)) (PostOf (z_Qw (fun r H => r = some v ∧ P H) A1) mc ms A1) :=
    va_backW hM z_blind hR.1 hR.2.1 hR.2.2.1 hR.2.2.2 (fun w hw => by rw [List.mem_singleton.mp hw]; exact hst1 _ w1) List.mem_cons_self (fun a' U hW => hst1 _ w5 a' U hW)
  intro T hT X
  obtain ⟨mk, methM, cM, hnamed, hmethM, -, -, -, -, -, -, hsigM⟩ := Cond.codeWith_spec (hts _ w1)
  have hstatic : methM.isStatic = true := Cond.static_spec hnamed hmethM (hts _ w3)
  obtain ⟨kP, hkP, -⟩ := className_of_methodNamed hnamed
  have hinitP : kP.init = .initialized := Cond.initialized_spec (findClass_of_methodNamed hnamed) hkP (hts _ w5)
  subst hb
  have hlen : As.length = methM.sig.parameters.length := by
    have h2 := hd.2.2
    rw [hsigM] at h2
    exact hn.trans (Option.some.inj h2).symm
  obtain ⟨vm₁, X₁, hstep₁⟩ := X.invokestatic hx ho (hts _ w2) hnamed hmethM hstatic hkP hinitP ⟨hd.1, hd.2.1⟩ (g := F0 m pc ls stk) rfl (argsL := As) (rest := rest) hlen hstk hdg
  obtain ⟨v', ⟨U', l2, c2, s2⟩, X', ⟨g', mk', t, L, e1, e2, hq, h1, hL, h2, h3⟩, st⟩ := hK m meth c ⟨T.setVm vm₁, locs, cells, slots⟩ { F0 m pc ls stk with stack := rest } (.invokestatic index) mk As.toArray X₁ rfl (hsize.trans hml.symm) hdg (by show 2 * 0 + (rest.map fun v => v.category).sum ≤ 8; omega) (X₁.named hnamed) ⟨hf.1, hf.2, rfl, hW0.trans X₁.warmed, by show B T.heap; rw [hT]; exact hB⟩
  dsimp only [Pt.U, Pt.locs, Pt.cells, Pt.slots] at X' e1 e2 h1 h2 h3 st
  subst h1; subst h2; subst h3
  exact ⟨v', (T.setVm vm₁).calling g' mk' As.toArray, t, U', L, hT, X', hL, e1, e2, hq, fun target h => hstep₁ _ fun acts => by rw [doInvoke_state]; exact st.trans h⟩
/-- an array of longs -/
def z_L (cL : ClassId) (H : Heap) (a n : Nat) (f : Nat → Int64) : Prop := H[a]? = some (vp_cell cL (n, .inr (.inl f)))
theorem z_L.keep {cL : ClassId} {H H1 : Heap} {a n : Nat} {f : Nat → Int64} (h : z_L cL H a n f) (e : H1[a]? = H[a]?) : z_L cL H1 a n f := e.trans h
theorem z_L.lt {cL : ClassId} {H : Heap} {a n : Nat} {f : Nat → Int64} (h : z_L cL H a n f) : a < H.size := (Array.getElem?_eq_some_iff.mp h).1
theorem z_last {cL : ClassId} {a : Nat} {f : Nat → Int64} {x : Int64} (hx : p.tables.exec = Jvm.exec) (hb : c.code = cc) (hAL : ArrOfT s cL .long) (hA : z_L cL H a 1 f) (hS : va_S A H0 H locs) (ha : A a) (hdg : decode cc pc = .ok (.lastore, 1))
    (kk : ∀ (H1 : Heap) (locs1 : List Loc), H1.size = H.size → z_L cL H1 a 1 (vp_updL f 0 x) → (∀ q : Nat, q ≠ a → H1[q]? = H[q]?) → va_S A H0 H1 locs1 → W p l e R s m args below meth c H1 locs1 cells slots Q (F0 m (pc + 1) ls rest)) : W p l e R s m args below meth c H locs cells slots Q (F0 m pc ls (.long x :: .int 0 :: .ref a :: rest)) := by
  have hc : (0 : Int32).toNatClampNeg = 0 := by decide
  refine W.last hx hb hA (hAL 1 (fun j => .long (f j))) (fun q => by cases q) (by show ¬ ((0 : Int32) < 0 ∨ (arrV _ _ _).slots.size ≤ _); rw [arrV_size]; show ¬ ((0 : Int32) < 0 ∨ 1 ≤ (0 : Int32).toNatClampNeg); decide) rfl rfl hdg fun H1 e z oq => ?_
  refine kk H1 _ z ?_ oq (hS.put z oq ha)
  show H1[a]? = some (vp_cell _ _)
  rw [e, hc, vp_cell_l, vp_cell_l, arrV_store]
  congr 2
  funext q
  by_cases hq : q = 0
  · subst hq; simp [updV, vp_updL]
  · simp [updV, vp_updL, hq]
theorem z_lald {cL : ClassId} {a : Nat} {f : Nat → Int64} (hx : p.tables.exec = Jvm.exec) (hb : c.code = cc) (hAL : ArrOfT s cL .long) (hA : z_L cL H a 1 f) (hdg : decode cc pc = .ok (.laload, 1))
    (kk : W p l e R s m args below meth c H locs cells slots Q (F0 m (pc + 1) ls (.long (f 0) :: rest))) : W p l e R s m args below meth c H locs cells slots Q (F0 m pc ls (.int 0 :: .ref a :: rest)) := by
  have hc : (0 : Int32).toNatClampNeg = 0 := by decide
  refine W.lald (v := .long (f 0)) hx hb hA (hAL 1 (fun j => .long (f j))) (fun q => by cases q) ?_ ?_ rfl rfl hdg kk
  · show ¬ ((0 : Int32) < 0 ∨ (arrV _ _ _).slots.size ≤ _)
    rw [arrV_size]; show ¬ ((0 : Int32) < 0 ∨ 1 ≤ (0 : Int32).toNatClampNeg); decide
  · show (arrV _ _ _).slots[_]? = _
    rw [hc, arrV_read _ _ (show 0 < 1 from Nat.one_pos)]
end ZT
/-- a reader is a writer that writes nothing -/
theorem z_rdw {l : Launch} {s0 : State} {y : MethodName} {ws : List Cond} {rm : Room} {av : List Value} {B : Heap → Prop} {r : Option Value} {sz : Nat} {F : Nat → Prop} (hM : Met l y ws rm (z_Pc s0 av B) (z_Qr r) 0 0 z_no) :
    Met l y ws rm (z_Pc s0 av (fun H => H.size = sz ∧ B H)) (z_Qw (fun r' H => r' = r ∧ B H) F) 0 0 F := by
  intro p e ha hc hk s m args below hf happ hP hK
  obtain ⟨k, o, h1, h2, h3, ⟨h4, h5⟩, L, h6, h7⟩ := hM p e ha hc hk s m args below hf happ ⟨hP.1, hP.2.1, hP.2.2.2⟩ hK
  exact ⟨k, o, h1, h2, h3, ⟨r, h4, ⟨rfl, by rw [h5]; exact hP.2.2.2⟩, by rw [h5]; exact Nat.le_refl _, fun q _ _ => by rw [h5]⟩, L, h6, fun q hq => (h7 q hq).elim⟩
/-- what the law's own methods rest on, at s0: its array of longs; which exceptions aren't which -/
def z_LX (s0 : State) (cL : ClassId) : Prop := ArrOfT s0 cL .long ∧ va_Nc "java/lang/IllegalStateException" "java/util/NoSuchElementException" s0 ∧ va_Nc "java/lang/IllegalArgumentException" "java/util/NoSuchElementException" s0 ∧ va_Nc "java/lang/IllegalStateException" "java/lang/IllegalArgumentException" s0
/-- what a writer does not touch stays -/
theorem z_frame {l : Launch} {s0 : State} {y : MethodName} {ws : List Cond} {rm : Room} {av : List Value} {B P R : Heap → Prop} {v : Option Value} {sz mc ms : Nat} {F : Nat → Prop} (hM : Met l y ws rm (z_Pc s0 av (fun H => H.size = sz ∧ B H)) (z_Qw (fun r H => r = v ∧ P H) F) mc ms F)
    (hR : ∀ H H1 : Heap, R H → H.size = sz → H.size ≤ H1.size → (∀ q : Nat, q < H.size → ¬ F q → H1[q]? = H[q]?) → R H1) : Met l y ws rm (z_Pc s0 av (fun H => H.size = sz ∧ (B H ∧ R H))) (z_Qw (fun r H => r = v ∧ (P H ∧ R H)) F) mc ms F := by
  intro p e ha hc hk s m args below hf happ hP hK
  obtain ⟨k, o, h1, h2, h3, ⟨r, h4, ⟨h5, h6⟩, h7, h8⟩, L, h9, h10⟩ := hM p e ha hc hk s m args below hf happ ⟨hP.1, hP.2.1, hP.2.2.1, hP.2.2.2.1⟩ hK
  exact ⟨k, o, h1, h2, h3, ⟨r, h4, ⟨h5, h6, hR _ _ hP.2.2.2.2 hP.2.2.1 h7 h8⟩, h7, h8⟩, L, h9, h10⟩
/-- another start, another end -/
theorem z_mono {l : Launch} {s0 : State} {y : MethodName} {ws : List Cond} {rm : Room} {av : List Value} {B B' P P' : Heap → Prop} {v : Option Value} {mc ms : Nat} {F : Nat → Prop} (hM : Met l y ws rm (z_Pc s0 av B) (z_Qw (fun r H => r = v ∧ P H) F) mc ms F)
    (hB : ∀ H : Heap, B' H → B H) (hP : ∀ H : Heap, P H → P' H) : Met l y ws rm (z_Pc s0 av B') (z_Qw (fun r H => r = v ∧ P' H) F) mc ms F := by
  intro p e ha hc hk s m args below hf happ hp hK
  obtain ⟨k, o, h1, h2, h3, ⟨r, h4, ⟨h5, h6⟩, h7⟩, L, h9⟩ := hM p e ha hc hk s m args below hf happ ⟨hp.1, hp.2.1, hB _ hp.2.2⟩ hK
  exact ⟨k, o, h1, h2, h3, ⟨r, h4, ⟨h5, hP _ h6⟩, h7⟩, L, h9⟩
