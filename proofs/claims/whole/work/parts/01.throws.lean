/-! THROWS: contracts of methods that end in a throw, calls of them, their catching (own text). -/
/-- nothing old has moved where no place may have been written -/
theorem xt_old {s s' : State} {k n : Nat} (h : s.sameButNew s' [] k n) : ∀ q : Nat, q < s.heap.size → s'.heap[q]? = s.heap[q]? := by
  intro q hq
  obtain ⟨-, -, -, -, -, h6⟩ := h
  have hc : s.heap[q]? = some s.heap[q] := Array.getElem?_eq_getElem hq
  obtain ⟨c', h1, h2, h3, h4⟩ := h6 q _ hc
  have h5 : c'.slots = (s.heap[q]).slots := Array.ext_getElem? (fun i => h4 i (by simp))
  have h7 : c' = s.heap[q] := h2.trans (by rw [h5])
  rw [h1, hc, h7]
/-- an object of the class called X was thrown -/
def xt_Of (X : String) (o : Outcome) (t : State) : Prop := ∃ (x : Addr) (ce : Cell), o = .threw x ∧ t.heap[x]? = some ce ∧ ce.vm = .none ∧ t.vm.findClass X = some ce.cls
/-- a method's end by a throw of an X: one new cell of six slots, nothing old changed -/
def xt_Q (X : String) : Array Value → State → Outcome → State → Prop := fun _ st o t => xt_Of X o t ∧ FramedT st o t [] 1 6
def xt_Met (l : Launch) (y : MethodName) (ws : List Cond) (rm : Room) (Pc : Array Value → State → Prop) (X : String) : Prop :=
  MetFree l y (headSpec ws rm) Pc (fun _ _ _ _ _ => True) (xt_Q X)
def xt_Z (below : List Frame) (X : String) (a : Array Value) (s : State) : State → Prop := fun t => ∃ o, t.status = .running ∧ Ended t below o ∧ xt_Q X a s o t
theorem xt_ofW {l : Launch} {y : MethodName} {ws ws' : List Cond} {rm : Room} {Pc : Array Value → State → Prop} {X : String} {cc : ByteArray} {maxL : Nat} {ret : Option FieldType}
    (hy : plainName y.cls = true) (hw : ws = Cond.code y cc maxL ret :: ws')
    (body : ∀ p e s m args below meth c s₁, BodyLoose p l y (headSpec ws rm) cc maxL ret e s m args below meth c s₁ → c.maxLocals = maxL → Pc args s →
      W p l e (headSpec ws rm).room s m args below meth c s.heap [] 0 0 (xt_Z below X args s) (entryFrame m args maxL)) : xt_Met l y ws rm Pc X := by
  refine MetFree.of_bodyS (code := cc) (maxLocals := maxL) (ret := ret) hy ?_ ?_
  · intro args s m h hn
    obtain ⟨meth, c, h1, h2, h3, h4, h5, h6, -, -⟩ := Cond.code_spec hn (atoms_spec (ws := ws) h _ (by rw [hw]; exact List.mem_cons_self))
    exact ⟨meth, c, h1, h2, h3, h4, h5, h6⟩
  · intro p e s m args below meth c s₁ B hml hP _
    have hh0 : s₁.heap = s.heap := by rw [B.state]; rfl
    obtain ⟨t, a1, o, b1, b2, b3⟩ := body p e s m args below meth c s₁ B hml hP s₁ hh0 (Stand.of_body B)
    exact ⟨t, o, a1, b1, b2, b3⟩
section XT
variable {p : Program} {l : Launch} {e : Env} {R : Room} {s : State} {m : MethodId} {args : Array Value} {below : List Frame} {meth : Method} {c : Code} {locs : List Loc} {cells slots : Nat}
/-- the call of a method that throws, behind the linking: it comes back as a note over the caller's frame -/
theorem xt_back {y : MethodName} {ws : List Cond} {rm : Room} {Pc : Array Value → State → Prop} {X : String} {bytes : ByteArray} {maxL : Nat} {ret : Option FieldType} {W : Nat}
    (hM : xt_Met l y ws rm Pc X) (hblind : FrameBlind Pc) (hrc : rm.cells = 1) (hrs : rm.slots = 6)
    (hframes : rm.frames + 1 ≤ R.frames) (hlocals : W + (maxL + 11) + rm.locals ≤ R.locals)
    (hws : ∀ w ∈ ws, ∀ (a' : Array Value) (U : State), s.WarmedH U.vm → w.before a' U = true) (hcode : Cond.code y bytes maxL ret ∈ ws) (hini : (Cond.initialized y.cls).before args s = true)
    {T : State} (Xs : Stand p l e R s m args below meth c T locs cells slots) {g : JFrame} {ig : Instr} {len : Nat} {mk : MethodId} {a : Array Value}
    (hg : g.method = m) (hsize : g.locals.size = c.maxLocals) (hdg : decode c.code g.pc = .ok (ig, len)) (hn : T.methodNamed? y = some mk)
    (hW : 2 * g.monitorRoom + (g.stack.map fun v => v.category).sum ≤ W) (hc1 : cells + 1 ≤ R.cells) (hs6 : slots + 6 ≤ R.slots) (hp : Pc a T) :
    ∃ (x : Addr) (ce : Cell) (T' : State), Stand p l e R s m args below meth c T' locs (cells + 1) (slots + 6) ∧ T.heap.size ≤ T'.heap.size ∧ (∀ q : Nat, q < T.heap.size → T'.heap[q]? = T.heap[q]?) ∧
      T'.heap[x]? = some ce ∧ ce.vm = .none ∧ s.vm.findClass X = some ce.cls ∧ Steps p.tables e below (doInvoke e (T.setTop g) [] mk a).1 ((T'.setTop g).pushFrame (.throwing x)) := by
  have hini' : (Cond.initialized y.cls).before a T = true := word_at Xs.warmed (Or.inl (by first | rfl | simp [Cond.onTables, Cond.keeps, Cond.steady])) hini
  have h2 : (Cond.code y bytes maxL ret).before a T = true := hws _ hcode a T Xs.warmed
  obtain ⟨methY, cY, hmY, hcY, -, hlY, -, -, -, -⟩ := Cond.code_spec hn h2
  obtain ⟨kY, hkY, -⟩ := className_of_methodNamed hn
  have hinitY : kY.init = .initialized := Cond.initialized_spec (findClass_of_methodNamed hn) hkY hini'
  have h : At T g.method c below := by rw [hg]; exact Xs.here
  have happ : (headSpec ws rm).appliesLoose y e.platform (T.calling g mk a) = true :=
    Spec.appliesLoose_calling (g := g) h hdg hn hkY hinitY
      (Xs.room_calling (g := g) (R' := rm) hsize hmY hcY hframes (by rw [hlY]; omega) (by rw [hrc]; exact hc1) (by rw [hrs]; exact hs6)) (atoms_intro fun w hw => hws w hw _ _ Xs.warmed)
  obtain ⟨mid, hmid⟩ := h.above
  have hfr : (T.setTop g).frames = (.java g :: mid) ++ below := by rw [State.frames_setTop' g h.top, hmid]; rfl
  obtain ⟨o, t, hsteps, -, hend, hq⟩ := Steps.callFree hM p Xs.admits Xs.cas Xs.clock (acts := []) hfr happ (hblind _ _ _ _ hp) trivial
  obtain ⟨⟨x, ce, rfl, hce, hvm, hcl⟩, -, hW₂, hsame⟩ := hq
  have hend' : Ended t (.java g :: below) (.threw x) := by
    rw [State.frames_setTop' g h.top, Xs.tail] at hend
    exact hend
  obtain ⟨T', X', hW', hS', rfl⟩ := Xs.outOfThrown hg (mk := mk) (a := a) hend' hW₂ hsame
  rw [Stand.throwing_heap] at hce
  rw [Stand.throwing_vm] at hcl
  rw [List.append_nil] at X'
  refine ⟨x, ce, T', X', hS'.2.1, fun q hq => xt_old hS' q hq, hce, hvm, ?_, hsteps⟩
  rw [X'.warmed.alike.findClass] at hcl
  exact hcl
/-- a call that throws, seen from the caller's frame g (the arguments still on its stack) -/
def xt_Run (p : Program) (l : Launch) (e : Env) (R : Room) (s : State) (m : MethodId) (args : Array Value) (below : List Frame) (meth : Method) (c : Code) (H : Heap) (locs : List Loc) (cells slots : Nat) (g : JFrame) (rest : List Value) (X : String) : Prop :=
  ∀ T : State, T.heap = H → Stand p l e R s m args below meth c T locs cells slots → ∃ (x : Addr) (ce : Cell) (T' : State), Stand p l e R s m args below meth c T' locs (cells + 1) (slots + 6) ∧ H.size ≤ T'.heap.size ∧ (∀ q : Nat, q < H.size → T'.heap[q]? = H[q]?) ∧
    T'.heap[x]? = some ce ∧ ce.vm = .none ∧ s.vm.findClass X = some ce.cls ∧ Steps p.tables e below (T.setTop g) ((T'.setTop { g with stack := rest }).pushFrame (.throwing x))
variable {y : MethodName} {ws : List Cond} {rm : Room} {Pc : Array Value → State → Prop} {X : String} {bytes cc : ByteArray} {maxL nL n index : Nat} {ret : Option FieldType} {Ts : List Cond} {own C host : String} {b : Addr} {As rest : List Value} {g : JFrame} {H : Heap}
theorem xt_runV (S : CallFix p m c cc nL s args Ts own) (hM : xt_Met l y ws rm Pc X) (cw : CallW R s args own C index y bytes maxL ret ws rm 1 6 n) (hp : PreV s H C b Pc As)
    (hg : g.method = m) (hn : As.length = n) (hsize : g.locals.size = nL) (hstack : g.stack = As.reverse ++ .ref b :: rest) (hW : 2 * g.monitorRoom + (rest.map fun v => v.category).sum ≤ 8) (hdg : decode cc g.pc = .ok (.invokevirtual index, 3)) (hf : cells + 1 ≤ R.cells ∧ slots + 6 ≤ R.slots) :
    xt_Run p l e R s m args below meth c H locs cells slots g rest X := by
  obtain ⟨⟨hrc, hrs, hfr, hlo, hws, hcw, hcode, hini, hy, hlen, hl⟩, hinst, hsel⟩ := cw
  obtain ⟨hx, hb, hml, ho, -⟩ := S
  obtain ⟨hbl, ⟨cellB, hcB, hoB, hclB⟩, hPc⟩ := hp
  intro T hT Xs
  obtain ⟨mk, methM, hnamed, hmethM, hstM, habM⟩ := Cond.instanceMethod_spec hinst
  obtain ⟨methM', cM, hmethM', -, -, -, -, -, -, hsigM⟩ := Cond.code_spec hnamed hcode
  cases hmethM.symm.trans hmethM'
  obtain ⟨c2, r2, m2, q1, q2, q3, q4, kP, hkP, hkPi⟩ := Cond.selects_spec hsel
  cases hclB.symm.trans q1
  cases (State.methodFound?_of_named hnamed hy).symm.trans q2
  cases hnamed.symm.trans q3
  have hselP : selectMethod e.platform s.vm cellB.cls mk = .method mk := by rw [Launch.admits_selectMethod Xs.admits]; exact q4
  subst hb
  obtain ⟨vm₁, X₁, hstep₁⟩ := Xs.invokevirtual hx ho hl hnamed hmethM hstM hkP hkPi hy (a := b) (cell := cellB) (by rw [hT]; exact hcB)
    (fun z h => by rw [h] at hoB; cases hoB) hselP hmethM habM hkP hkPi (g := g) hg (argsL := As) (rest := rest) (hn.trans (hlen _ hsigM)) hstack hdg
  obtain ⟨x, ce, T', X', z1, z2, z3, z4, z5, st⟩ := xt_back (W := 8) hM hbl hrc hrs hfr hlo hws hcw hini X₁ (g := { g with stack := rest }) (a := (Value.ref b :: As).toArray) hg (hsize.trans hml.symm) hdg (X₁.named hnamed) hW hf.1 hf.2 (hPc (T.setVm vm₁) hT X₁.warmed)
  refine ⟨x, ce, T', X', by rw [← hT]; exact z1, by rw [← hT]; exact z2, z3, z4, z5, hstep₁ _ fun acts => ?_⟩
  rw [doInvoke_state]; exact st
theorem xt_runS (S : CallFix p m c cc nL s args Ts own) (hM : xt_Met l y ws rm Pc X) (cw : CallB R s args own index y bytes maxL ret ws rm 1 6 n ∧ (Cond.static y).before args s = true) (hp : PreS s H Pc As)
    (hg : g.method = m) (hn : As.length = n) (hsize : g.locals.size = nL) (hstack : g.stack = As.reverse ++ rest) (hW : 2 * g.monitorRoom + (rest.map fun v => v.category).sum ≤ 8) (hdg : decode cc g.pc = .ok (.invokestatic index, 3)) (hf : cells + 1 ≤ R.cells ∧ slots + 6 ≤ R.slots) :
    xt_Run p l e R s m args below meth c H locs cells slots g rest X := by
  obtain ⟨⟨hrc, hrs, hfr, hlo, hws, hcw, hcode, hini, hy, hlen, hl⟩, hstat⟩ := cw
  obtain ⟨hx, hb, hml, ho, -⟩ := S
  obtain ⟨hbl, hPc⟩ := hp
  intro T hT Xs
  obtain ⟨mk, hnamed⟩ := Cond.code_named hcode
  obtain ⟨methM, cM, hmethM, -, -, -, -, -, -, hsigM⟩ := Cond.code_spec hnamed hcode
  have hstatic : methM.isStatic = true := Cond.static_spec hnamed hmethM hstat
  obtain ⟨kP, hkP, -⟩ := className_of_methodNamed hnamed
  have hinitP : kP.init = .initialized := Cond.initialized_spec (findClass_of_methodNamed hnamed) hkP hini
  subst hb
  obtain ⟨vm₁, X₁, hstep₁⟩ := Xs.invokestatic hx ho hl hnamed hmethM hstatic hkP hinitP hy (g := g) hg (argsL := As) (rest := rest) (hn.trans (hlen _ hsigM)) hstack hdg
  obtain ⟨x, ce, T', X', z1, z2, z3, z4, z5, st⟩ := xt_back (W := 8) hM hbl hrc hrs hfr hlo hws hcw hini X₁ (g := { g with stack := rest }) (a := As.toArray) hg (hsize.trans hml.symm) hdg (X₁.named hnamed) hW hf.1 hf.2 (hPc (T.setVm vm₁) hT X₁.warmed)
  refine ⟨x, ce, T', X', by rw [← hT]; exact z1, by rw [← hT]; exact z2, z3, z4, z5, hstep₁ _ fun acts => ?_⟩
  rw [doInvoke_state]; exact st
theorem xt_runVN (S : CallFix p m c cc nL s args Ts own) (hM : xt_Met l y ws rm Pc X) (cw : va_CN R s args own index y host bytes maxL ret ws rm 1 6 n ∧ (Cond.instanceMethod y).before args s = true ∧ (Cond.selects C y y).before args s = true) (hp : PreV s H C b Pc As)
    (hg : g.method = m) (hn : As.length = n) (hsize : g.locals.size = nL) (hstack : g.stack = As.reverse ++ .ref b :: rest) (hW : 2 * g.monitorRoom + (rest.map fun v => v.category).sum ≤ 8) (hdg : decode cc g.pc = .ok (.invokevirtual index, 3)) (hf : cells + 1 ≤ R.cells ∧ slots + 6 ≤ R.slots) :
    xt_Run p l e R s m args below meth c H locs cells slots g rest X := by
  obtain ⟨⟨⟨hrc, hrs, hfr, hlo, hws, hcw⟩, hcode, hini, hy, hlen, hl⟩, hinst, hsel⟩ := cw
  obtain ⟨hx, hb, hml, ho, -⟩ := S
  obtain ⟨hbl, ⟨cellB, hcB, hoB, hclB⟩, hPc⟩ := hp
  intro T hT Xs
  obtain ⟨mk, methM, hnamed, hmethM, hstM, habM⟩ := Cond.instanceMethod_spec hinst
  obtain ⟨methM', cM, hmethM', -, -, -, -, -, -, hsigM⟩ := Cond.code_spec hnamed hcode
  cases hmethM.symm.trans hmethM'
  obtain ⟨c2, r2, m2, q1, q2, q3, q4, kP, hkP, hkPi⟩ := Cond.selects_spec hsel
  cases hclB.symm.trans q1
  cases (State.methodFound?_of_named hnamed hy).symm.trans q2
  cases hnamed.symm.trans q3
  have hselP : selectMethod e.platform s.vm cellB.cls mk = .method mk := by rw [Launch.admits_selectMethod Xs.admits]; exact q4
  subst hb
  obtain ⟨vm₁, X₁, hstep₁⟩ := Xs.invokevirtualNest hx ho hl hnamed hmethM hstM hkP hkPi hy (a := b) (cell := cellB) (by rw [hT]; exact hcB)
    (fun z h => by rw [h] at hoB; cases hoB) hselP hmethM habM hkP hkPi (g := g) hg (argsL := As) (rest := rest) (hn.trans (hlen _ hsigM)) hstack hdg
  obtain ⟨x, ce, T', X', z1, z2, z3, z4, z5, st⟩ := xt_back (W := 8) hM hbl hrc hrs hfr hlo hws hcw hini X₁ (g := { g with stack := rest }) (a := (Value.ref b :: As).toArray) hg (hsize.trans hml.symm) hdg (X₁.named hnamed) hW hf.1 hf.2 (hPc (T.setVm vm₁) hT X₁.warmed)
  refine ⟨x, ce, T', X', by rw [← hT]; exact z1, by rw [← hT]; exact z2, z3, z4, z5, hstep₁ _ fun acts => ?_⟩
  rw [doInvoke_state]; exact st
/-- the caller has no handler there: it throws on -/
theorem xt_leave {pc : Nat} {ls : Array Slot} {st : List Value} (hr : xt_Run p l e R s m args below meth c H [] 0 0 (F0 m pc ls st) rest X) (hno : c.exceptionTable.isEmpty = true) (hlocks : meth.locks = false) :
    W p l e R s m args below meth c H [] 0 0 (xt_Z below X args s) (F0 m pc ls st) := by
  intro T hT Xs
  obtain ⟨x, ce, T', X', z1, z2, z3, z4, z5, stp⟩ := hr T hT Xs
  have hout : ∀ z ∈ c.exceptionTable.toList, covers z (F0 m pc ls rest).pc = false := fun z hz => by
    have : c.exceptionTable = #[] := Array.isEmpty_iff.mp hno
    rw [this] at hz; cases hz
  obtain ⟨a1, a2, a3, a4, a5⟩ := X'.leaveThrown x (g := { F0 m pc ls st with stack := rest }) rfl rfl rfl hout hlocks
  exact ⟨_, stp.trans a1, .threw x, a2, a3, ⟨x, ce, rfl, z3, z4, by
    show T'.vm.findClass X = _
    rw [X'.warmed.alike.findClass]; exact z5⟩, ⟨_, rfl⟩, a4, a5⟩
/-- the caller catches it: the walk goes on at the handler -/
theorem xt_catch {Q : State → Prop} {pc pcH : Nat} {ls : Array Slot} {st : List Value} (hr : xt_Run p l e R s m args below meth c H locs cells slots (F0 m pc ls st) rest X)
    (hfind : ∀ (T' : State) (x : Addr) (ce : Cell), Stand p l e R s m args below meth c T' locs (cells + 1) (slots + 6) → T'.heap[x]? = some ce → ce.vm = .none → s.vm.findClass X = some ce.cls →
      ∃ T2 : State, Stand p l e R s m args below meth c T2 locs (cells + 1) (slots + 6) ∧ T2.heap = T'.heap ∧ ∀ target, Steps p.tables e below (T2.setTop (F0 m pcH ls [.ref x])) target → Steps p.tables e below ((T'.setTop (F0 m pc ls rest)).pushFrame (.throwing x)) target)
    (k : ∀ (x : Addr) (H1 : Heap), H.size ≤ H1.size → (∀ q : Nat, q < H.size → H1[q]? = H[q]?) → W p l e R s m args below meth c H1 locs (cells + 1) (slots + 6) Q (F0 m pcH ls [.ref x])) :
    W p l e R s m args below meth c H locs cells slots Q (F0 m pc ls st) := by
  intro T hT Xs
  obtain ⟨x, ce, T', X', z1, z2, z3, z4, z5, stp⟩ := hr T hT Xs
  obtain ⟨T2, X2, h2, st2⟩ := hfind T' x ce X' z3 z4 z5
  obtain ⟨t, a1, b1⟩ := k x T'.heap z1 z2 T2 h2 X2
  exact ⟨t, stp.trans (st2 t a1), b1⟩
end XT
