section
-- ===== PART A: goes FIRST, ahead of the names: the tables' words, and 'selects' of the private methods out of them =====
/-- a private method of a class that the tables say can be made, by its rows of tables_1 -/
def lw_okq (q : MethodName × Nat) : Prop := (q.1.cls ≠ "java/lang/invoke/MethodHandle" ∧ q.1.cls ≠ "java/lang/invoke/VarHandle") ∧ Cond.instantiable q.1.cls q.2 ∈ tables_1 ∧ Cond.privateMethod q.1 ∈ tables_1 ∧ Cond.instanceMethod q.1 ∈ tables_1
theorem lw_p0 : lw_okq (⟨"BorderDays", "requirePlace", "(I)V"⟩, 7) := ⟨⟨by decide +kernel, by decide +kernel⟩, List.mem_of_getElem? (i := 14) (by decide +kernel), List.mem_of_getElem? (i := 100) (by decide +kernel), List.mem_of_getElem? (i := 101) (by decide +kernel)⟩
theorem lw_p1 : lw_okq (⟨"java/lang/Throwable", "fillInStackTrace", "(I)Ljava/lang/Throwable;"⟩, 6) := ⟨⟨by decide +kernel, by decide +kernel⟩, List.mem_of_getElem? (i := 142) (by decide +kernel), List.mem_of_getElem? (i := 140) (by decide +kernel), List.mem_of_getElem? (i := 141) (by decide +kernel)⟩
theorem lw_p2 : lw_okq (⟨"BorderDays", "shapeNumbered", "(I)LBorderDays$Shape;"⟩, 7) := ⟨⟨by decide +kernel, by decide +kernel⟩, List.mem_of_getElem? (i := 14) (by decide +kernel), List.mem_of_getElem? (i := 265) (by decide +kernel), List.mem_of_getElem? (i := 266) (by decide +kernel)⟩
theorem lw_p3 : lw_okq (⟨"BorderDays$Shape", "sameCorner", "(II)Z"⟩, 9) := ⟨⟨by decide +kernel, by decide +kernel⟩, List.mem_of_getElem? (i := 220) (by decide +kernel), List.mem_of_getElem? (i := 299) (by decide +kernel), List.mem_of_getElem? (i := 300) (by decide +kernel)⟩
theorem lw_p4 : lw_okq (⟨"BorderDays$Shape", "linesClash", "(II)Z"⟩, 9) := ⟨⟨by decide +kernel, by decide +kernel⟩, List.mem_of_getElem? (i := 220) (by decide +kernel), List.mem_of_getElem? (i := 303) (by decide +kernel), List.mem_of_getElem? (i := 304) (by decide +kernel)⟩
theorem lw_p5 : lw_okq (⟨"BorderDays$Shape", "next", "(I)I"⟩, 9) := ⟨⟨by decide +kernel, by decide +kernel⟩, List.mem_of_getElem? (i := 220) (by decide +kernel), List.mem_of_getElem? (i := 307) (by decide +kernel), List.mem_of_getElem? (i := 308) (by decide +kernel)⟩
theorem lw_p6 : lw_okq (⟨"BorderDays$Shape", "foldsBack", "(II)Z"⟩, 9) := ⟨⟨by decide +kernel, by decide +kernel⟩, List.mem_of_getElem? (i := 220) (by decide +kernel), List.mem_of_getElem? (i := 311) (by decide +kernel), List.mem_of_getElem? (i := 312) (by decide +kernel)⟩
theorem lw_p7 : lw_okq (⟨"BorderDays$Shape", "hasCorner", "(II)Z"⟩, 9) := ⟨⟨by decide +kernel, by decide +kernel⟩, List.mem_of_getElem? (i := 220) (by decide +kernel), List.mem_of_getElem? (i := 315) (by decide +kernel), List.mem_of_getElem? (i := 316) (by decide +kernel)⟩
theorem lw_p8 : lw_okq (⟨"BorderDays$Shape", "isOnLine", "(III)Z"⟩, 9) := ⟨⟨by decide +kernel, by decide +kernel⟩, List.mem_of_getElem? (i := 220) (by decide +kernel), List.mem_of_getElem? (i := 319) (by decide +kernel), List.mem_of_getElem? (i := 320) (by decide +kernel)⟩
theorem lw_p9 : lw_okq (⟨"BorderDays$Shape", "side", "(III)J"⟩, 9) := ⟨⟨by decide +kernel, by decide +kernel⟩, List.mem_of_getElem? (i := 220) (by decide +kernel), List.mem_of_getElem? (i := 332) (by decide +kernel), List.mem_of_getElem? (i := 333) (by decide +kernel)⟩
theorem lw_p10 : lw_okq (⟨"BorderDays$Shape", "parts", "(II)Z"⟩, 9) := ⟨⟨by decide +kernel, by decide +kernel⟩, List.mem_of_getElem? (i := 220) (by decide +kernel), List.mem_of_getElem? (i := 339) (by decide +kernel), List.mem_of_getElem? (i := 340) (by decide +kernel)⟩
theorem lw_p11 : lw_okq (⟨"BorderDays", "shapeOn", "(II)LBorderDays$Shape;"⟩, 7) := ⟨⟨by decide +kernel, by decide +kernel⟩, List.mem_of_getElem? (i := 14) (by decide +kernel), List.mem_of_getElem? (i := 361) (by decide +kernel), List.mem_of_getElem? (i := 362) (by decide +kernel)⟩
theorem lw_p12 : lw_okq (⟨"BorderDays$Shape", "isLineRightOf", "(III)Z"⟩, 9) := ⟨⟨by decide +kernel, by decide +kernel⟩, List.mem_of_getElem? (i := 220) (by decide +kernel), List.mem_of_getElem? (i := 384) (by decide +kernel), List.mem_of_getElem? (i := 385) (by decide +kernel)⟩
theorem lw_p13 : lw_okq (⟨"BorderDays", "misfitsOn", "(II)Z"⟩, 7) := ⟨⟨by decide +kernel, by decide +kernel⟩, List.mem_of_getElem? (i := 14) (by decide +kernel), List.mem_of_getElem? (i := 416) (by decide +kernel), List.mem_of_getElem? (i := 417) (by decide +kernel)⟩
theorem lw_p14 : lw_okq (⟨"BorderDays$Shape", "squareBetween", "(ILBorderDays$Shape;I)I"⟩, 9) := ⟨⟨by decide +kernel, by decide +kernel⟩, List.mem_of_getElem? (i := 220) (by decide +kernel), List.mem_of_getElem? (i := 436) (by decide +kernel), List.mem_of_getElem? (i := 437) (by decide +kernel)⟩
theorem lw_p15 : lw_okq (⟨"BorderDays$OldMap", "haveBetween", "(IIIII)Z"⟩, 5) := ⟨⟨by decide +kernel, by decide +kernel⟩, List.mem_of_getElem? (i := 47) (by decide +kernel), List.mem_of_getElem? (i := 500) (by decide +kernel), List.mem_of_getElem? (i := 501) (by decide +kernel)⟩
def lw_privs_1 : List (MethodName × Nat) := [(⟨"BorderDays", "requirePlace", "(I)V"⟩, 7), (⟨"java/lang/Throwable", "fillInStackTrace", "(I)Ljava/lang/Throwable;"⟩, 6), (⟨"BorderDays", "shapeNumbered", "(I)LBorderDays$Shape;"⟩, 7), (⟨"BorderDays$Shape", "sameCorner", "(II)Z"⟩, 9), (⟨"BorderDays$Shape", "linesClash", "(II)Z"⟩, 9), (⟨"BorderDays$Shape", "next", "(I)I"⟩, 9), (⟨"BorderDays$Shape", "foldsBack", "(II)Z"⟩, 9), (⟨"BorderDays$Shape", "hasCorner", "(II)Z"⟩, 9), (⟨"BorderDays$Shape", "isOnLine", "(III)Z"⟩, 9), (⟨"BorderDays$Shape", "side", "(III)J"⟩, 9), (⟨"BorderDays$Shape", "parts", "(II)Z"⟩, 9), (⟨"BorderDays", "shapeOn", "(II)LBorderDays$Shape;"⟩, 7), (⟨"BorderDays$Shape", "isLineRightOf", "(III)Z"⟩, 9), (⟨"BorderDays", "misfitsOn", "(II)Z"⟩, 7), (⟨"BorderDays$Shape", "squareBetween", "(ILBorderDays$Shape;I)I"⟩, 9), (⟨"BorderDays$OldMap", "haveBetween", "(IIIII)Z"⟩, 5)]
theorem lw_r1 : ∀ q ∈ lw_privs_1, lw_okq q := List.forall_mem_cons.mpr ⟨lw_p0, List.forall_mem_cons.mpr ⟨lw_p1, List.forall_mem_cons.mpr ⟨lw_p2, List.forall_mem_cons.mpr ⟨lw_p3, List.forall_mem_cons.mpr ⟨lw_p4, List.forall_mem_cons.mpr ⟨lw_p5, List.forall_mem_cons.mpr ⟨lw_p6, List.forall_mem_cons.mpr ⟨lw_p7, List.forall_mem_cons.mpr ⟨lw_p8, List.forall_mem_cons.mpr ⟨lw_p9, List.forall_mem_cons.mpr ⟨lw_p10, List.forall_mem_cons.mpr ⟨lw_p11, List.forall_mem_cons.mpr ⟨lw_p12, List.forall_mem_cons.mpr ⟨lw_p13, List.forall_mem_cons.mpr ⟨lw_p14, List.forall_mem_cons.mpr ⟨lw_p15, fun _ h => absurd h List.not_mem_nil⟩⟩⟩⟩⟩⟩⟩⟩⟩⟩⟩⟩⟩⟩⟩⟩
theorem lw_p16 : lw_okq (⟨"BorderDays$OldMap", "share", "(IIII)J"⟩, 5) := ⟨⟨by decide +kernel, by decide +kernel⟩, List.mem_of_getElem? (i := 47) (by decide +kernel), List.mem_of_getElem? (i := 505) (by decide +kernel), List.mem_of_getElem? (i := 506) (by decide +kernel)⟩
theorem lw_p17 : lw_okq (⟨"BorderDays$OldMap", "valueBetween", "(IIIII[I)I"⟩, 5) := ⟨⟨by decide +kernel, by decide +kernel⟩, List.mem_of_getElem? (i := 47) (by decide +kernel), List.mem_of_getElem? (i := 509) (by decide +kernel), List.mem_of_getElem? (i := 510) (by decide +kernel)⟩
theorem lw_p18 : lw_okq (⟨"BorderDaysModel", "isPlace", "(I)Z"⟩, 23) := ⟨⟨by decide +kernel, by decide +kernel⟩, List.mem_of_getElem? (i := 535) (by decide +kernel), List.mem_of_getElem? (i := 619) (by decide +kernel), List.mem_of_getElem? (i := 620) (by decide +kernel)⟩
theorem lw_p19 : lw_okq (⟨"BorderDaysModel", "goes", "(ZZZ)Z"⟩, 23) := ⟨⟨by decide +kernel, by decide +kernel⟩, List.mem_of_getElem? (i := 535) (by decide +kernel), List.mem_of_getElem? (i := 623) (by decide +kernel), List.mem_of_getElem? (i := 624) (by decide +kernel)⟩
theorem lw_p20 : lw_okq (⟨"BorderDaysModel", "isShape", "(I)Z"⟩, 23) := ⟨⟨by decide +kernel, by decide +kernel⟩, List.mem_of_getElem? (i := 535) (by decide +kernel), List.mem_of_getElem? (i := 639) (by decide +kernel), List.mem_of_getElem? (i := 640) (by decide +kernel)⟩
theorem lw_p21 : lw_okq (⟨"BorderDaysModel", "canClose", "(I)Z"⟩, 23) := ⟨⟨by decide +kernel, by decide +kernel⟩, List.mem_of_getElem? (i := 535) (by decide +kernel), List.mem_of_getElem? (i := 650) (by decide +kernel), List.mem_of_getElem? (i := 651) (by decide +kernel)⟩
theorem lw_p22 : lw_okq (⟨"BorderDaysModel", "after", "(II)I"⟩, 23) := ⟨⟨by decide +kernel, by decide +kernel⟩, List.mem_of_getElem? (i := 535) (by decide +kernel), List.mem_of_getElem? (i := 654) (by decide +kernel), List.mem_of_getElem? (i := 655) (by decide +kernel)⟩
theorem lw_p23 : lw_okq (⟨"BorderDaysModel", "isOn", "(IIII)Z"⟩, 23) := ⟨⟨by decide +kernel, by decide +kernel⟩, List.mem_of_getElem? (i := 535) (by decide +kernel), List.mem_of_getElem? (i := 658) (by decide +kernel), List.mem_of_getElem? (i := 659) (by decide +kernel)⟩
theorem lw_p24 : lw_okq (⟨"BorderDaysModel", "meet", "(IIII)Z"⟩, 23) := ⟨⟨by decide +kernel, by decide +kernel⟩, List.mem_of_getElem? (i := 535) (by decide +kernel), List.mem_of_getElem? (i := 668) (by decide +kernel), List.mem_of_getElem? (i := 669) (by decide +kernel)⟩
theorem lw_p25 : lw_okq (⟨"BorderDaysModel", "free", "(I)V"⟩, 23) := ⟨⟨by decide +kernel, by decide +kernel⟩, List.mem_of_getElem? (i := 535) (by decide +kernel), List.mem_of_getElem? (i := 679) (by decide +kernel), List.mem_of_getElem? (i := 680) (by decide +kernel)⟩
theorem lw_p26 : lw_okq (⟨"BorderDaysModel", "forced", "(II)I"⟩, 23) := ⟨⟨by decide +kernel, by decide +kernel⟩, List.mem_of_getElem? (i := 535) (by decide +kernel), List.mem_of_getElem? (i := 687) (by decide +kernel), List.mem_of_getElem? (i := 688) (by decide +kernel)⟩
theorem lw_p27 : lw_okq (⟨"BorderDaysModel", "isIn", "(III)Z"⟩, 23) := ⟨⟨by decide +kernel, by decide +kernel⟩, List.mem_of_getElem? (i := 535) (by decide +kernel), List.mem_of_getElem? (i := 695) (by decide +kernel), List.mem_of_getElem? (i := 696) (by decide +kernel)⟩
theorem lw_p28 : lw_okq (⟨"BorderDaysModel", "misfits", "(II)Z"⟩, 23) := ⟨⟨by decide +kernel, by decide +kernel⟩, List.mem_of_getElem? (i := 535) (by decide +kernel), List.mem_of_getElem? (i := 711) (by decide +kernel), List.mem_of_getElem? (i := 712) (by decide +kernel)⟩
theorem lw_p29 : lw_okq (⟨"BorderDaysModel", "holds", "(IIIII)Z"⟩, 23) := ⟨⟨by decide +kernel, by decide +kernel⟩, List.mem_of_getElem? (i := 535) (by decide +kernel), List.mem_of_getElem? (i := 735) (by decide +kernel), List.mem_of_getElem? (i := 736) (by decide +kernel)⟩
theorem lw_p30 : lw_okq (⟨"BorderDaysModel", "part", "(IIII)I"⟩, 23) := ⟨⟨by decide +kernel, by decide +kernel⟩, List.mem_of_getElem? (i := 535) (by decide +kernel), List.mem_of_getElem? (i := 739) (by decide +kernel), List.mem_of_getElem? (i := 740) (by decide +kernel)⟩
def lw_privs_2 : List (MethodName × Nat) := [(⟨"BorderDays$OldMap", "share", "(IIII)J"⟩, 5), (⟨"BorderDays$OldMap", "valueBetween", "(IIIII[I)I"⟩, 5), (⟨"BorderDaysModel", "isPlace", "(I)Z"⟩, 23), (⟨"BorderDaysModel", "goes", "(ZZZ)Z"⟩, 23), (⟨"BorderDaysModel", "isShape", "(I)Z"⟩, 23), (⟨"BorderDaysModel", "canClose", "(I)Z"⟩, 23), (⟨"BorderDaysModel", "after", "(II)I"⟩, 23), (⟨"BorderDaysModel", "isOn", "(IIII)Z"⟩, 23), (⟨"BorderDaysModel", "meet", "(IIII)Z"⟩, 23), (⟨"BorderDaysModel", "free", "(I)V"⟩, 23), (⟨"BorderDaysModel", "forced", "(II)I"⟩, 23), (⟨"BorderDaysModel", "isIn", "(III)Z"⟩, 23), (⟨"BorderDaysModel", "misfits", "(II)Z"⟩, 23), (⟨"BorderDaysModel", "holds", "(IIIII)Z"⟩, 23), (⟨"BorderDaysModel", "part", "(IIII)I"⟩, 23)]
theorem lw_r2 : ∀ q ∈ lw_privs_2, lw_okq q := List.forall_mem_cons.mpr ⟨lw_p16, List.forall_mem_cons.mpr ⟨lw_p17, List.forall_mem_cons.mpr ⟨lw_p18, List.forall_mem_cons.mpr ⟨lw_p19, List.forall_mem_cons.mpr ⟨lw_p20, List.forall_mem_cons.mpr ⟨lw_p21, List.forall_mem_cons.mpr ⟨lw_p22, List.forall_mem_cons.mpr ⟨lw_p23, List.forall_mem_cons.mpr ⟨lw_p24, List.forall_mem_cons.mpr ⟨lw_p25, List.forall_mem_cons.mpr ⟨lw_p26, List.forall_mem_cons.mpr ⟨lw_p27, List.forall_mem_cons.mpr ⟨lw_p28, List.forall_mem_cons.mpr ⟨lw_p29, List.forall_mem_cons.mpr ⟨lw_p30, fun _ h => absurd h List.not_mem_nil⟩⟩⟩⟩⟩⟩⟩⟩⟩⟩⟩⟩⟩⟩⟩
def lw_privs : List (MethodName × Nat) := lw_privs_1 ++ (lw_privs_2)
def lw_tbl : List Cond := k2_sels lw_privs ++ tables_1
theorem lw_privs_ok : ∀ q ∈ lw_privs, lw_okq q := by
  show ∀ q ∈ lw_privs_1 ++ (lw_privs_2), lw_okq q
  exact List.forall_mem_append.mpr ⟨lw_r1, lw_r2⟩
end
section
/-! THROWS: contracts of methods that end in a throw, calls of them, their catching (own text). -/
/-- nothing old has moved where no place may have been written -/
theorem xt_old {s s' : State} {k n : Nat} (h : s.sameButNew s' [] k n) : ∀ q : Nat, q < s.heap.size → s'.heap[q]? = s.heap[q]? := by
  intro q hq
  obtain ⟨-, -, -, -, -, h6⟩ := h
  have hc : s.heap[q]? = some s.heap[q] := Array.getElem?_eq_getElem hq
  obtain ⟨c', h1, h2, h3, h4⟩ := h6 q _ hc
  have h5 : c'.slots = (s.heap[q]).slots := Array.ext_getElem? (fun i => h4 i (by simp))
  have h7 : c' = s.heap[q] := h2.trans (by rw [h5])
  rw [h1, hc, h7]
/-- an object of the class called X was thrown -/
def xt_Of (X : String) (o : Outcome) (t : State) : Prop := ∃ (x : Addr) (ce : Cell), o = .threw x ∧ t.heap[x]? = some ce ∧ ce.vm = .none ∧ t.vm.findClass X = some ce.cls
/-- a method's end by a throw of an X: one new cell of six slots, nothing old changed -/
def xt_Q (X : String) : Array Value → State → Outcome → State → Prop := fun _ st o t => xt_Of X o t ∧ FramedT st o t [] 1 6
def xt_Met (l : Launch) (y : MethodName) (ws : List Cond) (rm : Room) (Pc : Array Value → State → Prop) (X : String) : Prop :=
  MetFree l y (headSpec ws rm) Pc (fun _ _ _ _ _ => True) (xt_Q X)
def xt_Z (below : List Frame) (X : String) (a : Array Value) (s : State) : State → Prop := fun t => ∃ o, t.status = .running ∧ Ended t below o ∧ xt_Q X a s o t
theorem xt_ofW {l : Launch} {y : MethodName} {ws ws' : List Cond} {rm : Room} {Pc : Array Value → State → Prop} {X : String} {cc : ByteArray} {maxL : Nat} {ret : Option FieldType}
    (hy : plainName y.cls = true) (hw : ws = Cond.code y cc maxL ret :: ws')
    (body : ∀ p e s m args below meth c s₁, BodyLoose p l y (headSpec ws rm) cc maxL ret e s m args below meth c s₁ → c.maxLocals = maxL → Pc args s →
      W p l e (headSpec ws rm).room s m args below meth c s.heap [] 0 0 (xt_Z below X args s) (entryFrame m args maxL)) : xt_Met l y ws rm Pc X := by
  refine MetFree.of_bodyS (code := cc) (maxLocals := maxL) (ret := ret) hy ?_ ?_
  · intro args s m h hn
    obtain ⟨meth, c, h1, h2, h3, h4, h5, h6, -, -⟩ := Cond.code_spec hn (atoms_spec (ws := ws) h _ (by rw [hw]; exact List.mem_cons_self))
    exact ⟨meth, c, h1, h2, h3, h4, h5, h6⟩
  · intro p e s m args below meth c s₁ B hml hP _
    have hh0 : s₁.heap = s.heap := by rw [B.state]; rfl
    obtain ⟨t, a1, o, b1, b2, b3⟩ := body p e s m args below meth c s₁ B hml hP s₁ hh0 (Stand.of_body B)
    exact ⟨t, o, a1, b1, b2, b3⟩
section XT
variable {p : Program} {l : Launch} {e : Env} {R : Room} {s : State} {m : MethodId} {args : Array Value} {below : List Frame} {meth : Method} {c : Code} {locs : List Loc} {cells slots : Nat}
/-- the call of a method that throws, behind the linking: it comes back as a note over the caller's frame -/
theorem xt_back {y : MethodName} {ws : List Cond} {rm : Room} {Pc : Array Value → State → Prop} {X : String} {bytes : ByteArray} {maxL : Nat} {ret : Option FieldType} {W : Nat}
    (hM : xt_Met l y ws rm Pc X) (hblind : FrameBlind Pc) (hrc : rm.cells = 1) (hrs : rm.slots = 6)
    (hframes : rm.frames + 1 ≤ R.frames) (hlocals : W + (maxL + 11) + rm.locals ≤ R.locals)
    (hws : ∀ w ∈ ws, ∀ (a' : Array Value) (U : State), s.WarmedH U.vm → w.before a' U = true) (hcode : Cond.code y bytes maxL ret ∈ ws) (hini : (Cond.initialized y.cls).before args s = true)
    {T : State} (Xs : Stand p l e R s m args below meth c T locs cells slots) {g : JFrame} {ig : Instr} {len : Nat} {mk : MethodId} {a : Array Value}
    (hg : g.method = m) (hsize : g.locals.size = c.maxLocals) (hdg : decode c.code g.pc = .ok (ig, len)) (hn : T.methodNamed? y = some mk)
    (hW : 2 * g.monitorRoom + (g.stack.map fun v => v.category).sum ≤ W) (hc1 : cells + 1 ≤ R.cells) (hs6 : slots + 6 ≤ R.slots) (hp : Pc a T) :
    ∃ (x : Addr) (ce : Cell) (T' : State), Stand p l e R s m args below meth c T' locs (cells + 1) (slots + 6) ∧ T.heap.size ≤ T'.heap.size ∧ (∀ q : Nat, q < T.heap.size → T'.heap[q]? = T.heap[q]?) ∧
      T'.heap[x]? = some ce ∧ ce.vm = .none ∧ s.vm.findClass X = some ce.cls ∧ Steps p.tables e below (doInvoke e (T.setTop g) [] mk a).1 ((T'.setTop g).pushFrame (.throwing x)) := by
  have hini' : (Cond.initialized y.cls).before a T = true := word_at Xs.warmed (Or.inl (by first | rfl | simp [Cond.onTables, Cond.keeps, Cond.steady])) hini
  have h2 : (Cond.code y bytes maxL ret).before a T = true := hws _ hcode a T Xs.warmed
  obtain ⟨methY, cY, hmY, hcY, -, hlY, -, -, -, -⟩ := Cond.code_spec hn h2
  obtain ⟨kY, hkY, -⟩ := className_of_methodNamed hn
  have hinitY : kY.init = .initialized := Cond.initialized_spec (findClass_of_methodNamed hn) hkY hini'
  have h : At T g.method c below := by rw [hg]; exact Xs.here
  have happ : (headSpec ws rm).appliesLoose y e.platform (T.calling g mk a) = true :=
    Spec.appliesLoose_calling (g := g) h hdg hn hkY hinitY
      (Xs.room_calling (g := g) (R' := rm) hsize hmY hcY hframes (by rw [hlY]; omega) (by rw [hrc]; exact hc1) (by rw [hrs]; exact hs6)) (atoms_intro fun w hw => hws w hw _ _ Xs.warmed)
  obtain ⟨mid, hmid⟩ := h.above
  have hfr : (T.setTop g).frames = (.java g :: mid) ++ below := by rw [State.frames_setTop' g h.top, hmid]; rfl
  obtain ⟨o, t, hsteps, -, hend, hq⟩ := Steps.callFree hM p Xs.admits Xs.cas Xs.clock (acts := []) hfr happ (hblind _ _ _ _ hp) trivial
  obtain ⟨⟨x, ce, rfl, hce, hvm, hcl⟩, -, hW₂, hsame⟩ := hq
  have hend' : Ended t (.java g :: below) (.threw x) := by
    rw [State.frames_setTop' g h.top, Xs.tail] at hend
    exact hend
  obtain ⟨T', X', hW', hS', rfl⟩ := Xs.outOfThrown hg (mk := mk) (a := a) hend' hW₂ hsame
  rw [Stand.throwing_heap] at hce
  rw [Stand.throwing_vm] at hcl
  rw [List.append_nil] at X'
  refine ⟨x, ce, T', X', hS'.2.1, fun q hq => xt_old hS' q hq, hce, hvm, ?_, hsteps⟩
  rw [X'.warmed.alike.findClass] at hcl
  exact hcl
/-- a call that throws, seen from the caller's frame g (the arguments still on its stack) -/
def xt_Run (p : Program) (l : Launch) (e : Env) (R : Room) (s : State) (m : MethodId) (args : Array Value) (below : List Frame) (meth : Method) (c : Code) (H : Heap) (locs : List Loc) (cells slots : Nat) (g : JFrame) (rest : List Value) (X : String) : Prop :=
  ∀ T : State, T.heap = H → Stand p l e R s m args below meth c T locs cells slots → ∃ (x : Addr) (ce : Cell) (T' : State), Stand p l e R s m args below meth c T' locs (cells + 1) (slots + 6) ∧ H.size ≤ T'.heap.size ∧ (∀ q : Nat, q < H.size → T'.heap[q]? = H[q]?) ∧
    T'.heap[x]? = some ce ∧ ce.vm = .none ∧ s.vm.findClass X = some ce.cls ∧ Steps p.tables e below (T.setTop g) ((T'.setTop { g with stack := rest }).pushFrame (.throwing x))
variable {y : MethodName} {ws : List Cond} {rm : Room} {Pc : Array Value → State → Prop} {X : String} {bytes cc : ByteArray} {maxL nL n index : Nat} {ret : Option FieldType} {Ts : List Cond} {own C host : String} {b : Addr} {As rest : List Value} {g : JFrame} {H : Heap}
theorem xt_runV (S : CallFix p m c cc nL s args Ts own) (hM : xt_Met l y ws rm Pc X) (cw : CallW R s args own C index y bytes maxL ret ws rm 1 6 n) (hp : PreV s H C b Pc As)
    (hg : g.method = m) (hn : As.length = n) (hsize : g.locals.size = nL) (hstack : g.stack = As.reverse ++ .ref b :: rest) (hW : 2 * g.monitorRoom + (rest.map fun v => v.category).sum ≤ 8) (hdg : decode cc g.pc = .ok (.invokevirtual index, 3)) (hf : cells + 1 ≤ R.cells ∧ slots + 6 ≤ R.slots) :
    xt_Run p l e R s m args below meth c H locs cells slots g rest X := by
  obtain ⟨⟨hrc, hrs, hfr, hlo, hws, hcw, hcode, hini, hy, hlen, hl⟩, hinst, hsel⟩ := cw
  obtain ⟨hx, hb, hml, ho, -⟩ := S
  obtain ⟨hbl, ⟨cellB, hcB, hoB, hclB⟩, hPc⟩ := hp
  intro T hT Xs
  obtain ⟨mk, methM, hnamed, hmethM, hstM, habM⟩ := Cond.instanceMethod_spec hinst
  obtain ⟨methM', cM, hmethM', -, -, -, -, -, -, hsigM⟩ := Cond.code_spec hnamed hcode
  cases hmethM.symm.trans hmethM'
  obtain ⟨c2, r2, m2, q1, q2, q3, q4, kP, hkP, hkPi⟩ := Cond.selects_spec hsel
  cases hclB.symm.trans q1
  cases (State.methodFound?_of_named hnamed hy).symm.trans q2
  cases hnamed.symm.trans q3
  have hselP : selectMethod e.platform s.vm cellB.cls mk = .method mk := by rw [Launch.admits_selectMethod Xs.admits]; exact q4
  subst hb
  obtain ⟨vm₁, X₁, hstep₁⟩ := Xs.invokevirtual hx ho hl hnamed hmethM hstM hkP hkPi hy (a := b) (cell := cellB) (by rw [hT]; exact hcB)
    (fun z h => by rw [h] at hoB; cases hoB) hselP hmethM habM hkP hkPi (g := g) hg (argsL := As) (rest := rest) (hn.trans (hlen _ hsigM)) hstack hdg
  obtain ⟨x, ce, T', X', z1, z2, z3, z4, z5, st⟩ := xt_back (W := 8) hM hbl hrc hrs hfr hlo hws hcw hini X₁ (g := { g with stack := rest }) (a := (Value.ref b :: As).toArray) hg (hsize.trans hml.symm) hdg (X₁.named hnamed) hW hf.1 hf.2 (hPc (T.setVm vm₁) hT X₁.warmed)
  refine ⟨x, ce, T', X', by rw [← hT]; exact z1, by rw [← hT]; exact z2, z3, z4, z5, hstep₁ _ fun acts => ?_⟩
  rw [doInvoke_state]; exact st
theorem xt_runS (S : CallFix p m c cc nL s args Ts own) (hM : xt_Met l y ws rm Pc X) (cw : CallB R s args own index y bytes maxL ret ws rm 1 6 n ∧ (Cond.static y).before args s = true) (hp : PreS s H Pc As)
    (hg : g.method = m) (hn : As.length = n) (hsize : g.locals.size = nL) (hstack : g.stack = As.reverse ++ rest) (hW : 2 * g.monitorRoom + (rest.map fun v => v.category).sum ≤ 8) (hdg : decode cc g.pc = .ok (.invokestatic index, 3)) (hf : cells + 1 ≤ R.cells ∧ slots + 6 ≤ R.slots) :
    xt_Run p l e R s m args below meth c H locs cells slots g rest X := by
  obtain ⟨⟨hrc, hrs, hfr, hlo, hws, hcw, hcode, hini, hy, hlen, hl⟩, hstat⟩ := cw
  obtain ⟨hx, hb, hml, ho, -⟩ := S
  obtain ⟨hbl, hPc⟩ := hp
  intro T hT Xs
  obtain ⟨mk, hnamed⟩ := Cond.code_named hcode
  obtain ⟨methM, cM, hmethM, -, -, -, -, -, -, hsigM⟩ := Cond.code_spec hnamed hcode
  have hstatic : methM.isStatic = true := Cond.static_spec hnamed hmethM hstat
  obtain ⟨kP, hkP, -⟩ := className_of_methodNamed hnamed
  have hinitP : kP.init = .initialized := Cond.initialized_spec (findClass_of_methodNamed hnamed) hkP hini
  subst hb
  obtain ⟨vm₁, X₁, hstep₁⟩ := Xs.invokestatic hx ho hl hnamed hmethM hstatic hkP hinitP hy (g := g) hg (argsL := As) (rest := rest) (hn.trans (hlen _ hsigM)) hstack hdg
  obtain ⟨x, ce, T', X', z1, z2, z3, z4, z5, st⟩ := xt_back (W := 8) hM hbl hrc hrs hfr hlo hws hcw hini X₁ (g := { g with stack := rest }) (a := As.toArray) hg (hsize.trans hml.symm) hdg (X₁.named hnamed) hW hf.1 hf.2 (hPc (T.setVm vm₁) hT X₁.warmed)
  refine ⟨x, ce, T', X', by rw [← hT]; exact z1, by rw [← hT]; exact z2, z3, z4, z5, hstep₁ _ fun acts => ?_⟩
  rw [doInvoke_state]; exact st
theorem xt_runVN (S : CallFix p m c cc nL s args Ts own) (hM : xt_Met l y ws rm Pc X) (cw : va_CN R s args own index y host bytes maxL ret ws rm 1 6 n ∧ (Cond.instanceMethod y).before args s = true ∧ (Cond.selects C y y).before args s = true) (hp : PreV s H C b Pc As)
    (hg : g.method = m) (hn : As.length = n) (hsize : g.locals.size = nL) (hstack : g.stack = As.reverse ++ .ref b :: rest) (hW : 2 * g.monitorRoom + (rest.map fun v => v.category).sum ≤ 8) (hdg : decode cc g.pc = .ok (.invokevirtual index, 3)) (hf : cells + 1 ≤ R.cells ∧ slots + 6 ≤ R.slots) :
    xt_Run p l e R s m args below meth c H locs cells slots g rest X := by
  obtain ⟨⟨⟨hrc, hrs, hfr, hlo, hws, hcw⟩, hcode, hini, hy, hlen, hl⟩, hinst, hsel⟩ := cw
  obtain ⟨hx, hb, hml, ho, -⟩ := S
  obtain ⟨hbl, ⟨cellB, hcB, hoB, hclB⟩, hPc⟩ := hp
  intro T hT Xs
  obtain ⟨mk, methM, hnamed, hmethM, hstM, habM⟩ := Cond.instanceMethod_spec hinst
  obtain ⟨methM', cM, hmethM', -, -, -, -, -, -, hsigM⟩ := Cond.code_spec hnamed hcode
  cases hmethM.symm.trans hmethM'
  obtain ⟨c2, r2, m2, q1, q2, q3, q4, kP, hkP, hkPi⟩ := Cond.selects_spec hsel
  cases hclB.symm.trans q1
  cases (State.methodFound?_of_named hnamed hy).symm.trans q2
  cases hnamed.symm.trans q3
  have hselP : selectMethod e.platform s.vm cellB.cls mk = .method mk := by rw [Launch.admits_selectMethod Xs.admits]; exact q4
  subst hb
  obtain ⟨vm₁, X₁, hstep₁⟩ := Xs.invokevirtualNest hx ho hl hnamed hmethM hstM hkP hkPi hy (a := b) (cell := cellB) (by rw [hT]; exact hcB)
    (fun z h => by rw [h] at hoB; cases hoB) hselP hmethM habM hkP hkPi (g := g) hg (argsL := As) (rest := rest) (hn.trans (hlen _ hsigM)) hstack hdg
  obtain ⟨x, ce, T', X', z1, z2, z3, z4, z5, st⟩ := xt_back (W := 8) hM hbl hrc hrs hfr hlo hws hcw hini X₁ (g := { g with stack := rest }) (a := (Value.ref b :: As).toArray) hg (hsize.trans hml.symm) hdg (X₁.named hnamed) hW hf.1 hf.2 (hPc (T.setVm vm₁) hT X₁.warmed)
  refine ⟨x, ce, T', X', by rw [← hT]; exact z1, by rw [← hT]; exact z2, z3, z4, z5, hstep₁ _ fun acts => ?_⟩
  rw [doInvoke_state]; exact st
/-- the caller has no handler there: it throws on -/
theorem xt_leave {pc : Nat} {ls : Array Slot} {st : List Value} (hr : xt_Run p l e R s m args below meth c H [] 0 0 (F0 m pc ls st) rest X) (hno : c.exceptionTable.isEmpty = true) (hlocks : meth.locks = false) :
    W p l e R s m args below meth c H [] 0 0 (xt_Z below X args s) (F0 m pc ls st) := by
  intro T hT Xs
  obtain ⟨x, ce, T', X', z1, z2, z3, z4, z5, stp⟩ := hr T hT Xs
  have hout : ∀ z ∈ c.exceptionTable.toList, covers z (F0 m pc ls rest).pc = false := fun z hz => by
    have : c.exceptionTable = #[] := Array.isEmpty_iff.mp hno
    rw [this] at hz; cases hz
  obtain ⟨a1, a2, a3, a4, a5⟩ := X'.leaveThrown x (g := { F0 m pc ls st with stack := rest }) rfl rfl rfl hout hlocks
  exact ⟨_, stp.trans a1, .threw x, a2, a3, ⟨x, ce, rfl, z3, z4, by
    show T'.vm.findClass X = _
    rw [X'.warmed.alike.findClass]; exact z5⟩, ⟨_, rfl⟩, a4, a5⟩
/-- the caller catches it: the walk goes on at the handler -/
theorem xt_catch {Q : State → Prop} {pc pcH : Nat} {ls : Array Slot} {st : List Value} (hr : xt_Run p l e R s m args below meth c H locs cells slots (F0 m pc ls st) rest X)
    (hfind : ∀ (T' : State) (x : Addr) (ce : Cell), Stand p l e R s m args below meth c T' locs (cells + 1) (slots + 6) → T'.heap[x]? = some ce → ce.vm = .none → s.vm.findClass X = some ce.cls →
      ∃ T2 : State, Stand p l e R s m args below meth c T2 locs (cells + 1) (slots + 6) ∧ T2.heap = T'.heap ∧ ∀ target, Steps p.tables e below (T2.setTop (F0 m pcH ls [.ref x])) target → Steps p.tables e below ((T'.setTop (F0 m pc ls rest)).pushFrame (.throwing x)) target)
    (k : ∀ (x : Addr) (H1 : Heap), H.size ≤ H1.size → (∀ q : Nat, q < H.size → H1[q]? = H[q]?) → W p l e R s m args below meth c H1 locs (cells + 1) (slots + 6) Q (F0 m pcH ls [.ref x])) :
    W p l e R s m args below meth c H locs cells slots Q (F0 m pc ls st) := by
  intro T hT Xs
  obtain ⟨x, ce, T', X', z1, z2, z3, z4, z5, stp⟩ := hr T hT Xs
  obtain ⟨T2, X2, h2, st2⟩ := hfind T' x ce X' z3 z4 z5
  obtain ⟨t, a1, b1⟩ := k x T'.heap z1 z2 T2 h2 X2
  exact ⟨t, stp.trans (st2 t a1), b1⟩
end XT
end
section
def R_N : String := "BorderDays$Names"
def R_O : String := "BorderDays$OldMap"
def R_S : String := "BorderDays$Shape"
def R_B : String := "BorderDays"
def R_M : String := "BorderDaysModel"
def R_L : String := "BorderDaysLaw"
def R_J : String := "java/lang/Math"
def T_N : u_T := fun k => match k with
  | 0 => ("BorderDays$Names", "owners", "[I", true)
  | 1 => ("BorderDays$Names", "numbers", "[I", true)
  | 2 => ("BorderDays$Names", "froms", "[I", true)
  | 3 => ("BorderDays$Names", "tos", "[I", true)
  | _ => ("BorderDays$Names", "count", "I", false)
def t_N : Nat → FieldType := fun k => match k with
  | 0 => .array .int
  | 1 => .array .int
  | 2 => .array .int
  | 3 => .array .int
  | _ => .int
theorem nm_N : ∀ a, a < 5 → ∀ b, b < 5 → a ≠ b → (T_N a).2.1 ≠ (T_N b).2.1 := by decide +kernel
theorem t_N_ok : ∀ k, k < 5 → parseFieldDescriptor (T_N k).2.2.1 = some (t_N k) := by decide +kernel
def T_O : u_T := fun k => match k with
  | 0 => ("BorderDays$OldMap", "mapXs", "[I", true)
  | 1 => ("BorderDays$OldMap", "mapYs", "[I", true)
  | 2 => ("BorderDays$OldMap", "xs", "[I", true)
  | 3 => ("BorderDays$OldMap", "ys", "[I", true)
  | _ => ("BorderDays$OldMap", "count", "I", false)
def t_O : Nat → FieldType := fun k => match k with
  | 0 => .array .int
  | 1 => .array .int
  | 2 => .array .int
  | 3 => .array .int
  | _ => .int
theorem nm_O : ∀ a, a < 5 → ∀ b, b < 5 → a ≠ b → (T_O a).2.1 ≠ (T_O b).2.1 := by decide +kernel
theorem t_O_ok : ∀ k, k < 5 → parseFieldDescriptor (T_O k).2.2.1 = some (t_O k) := by decide +kernel
def T_S : u_T := fun k => match k with
  | 0 => ("BorderDays$Shape", "number", "I", true)
  | 1 => ("BorderDays$Shape", "owner", "I", true)
  | 2 => ("BorderDays$Shape", "from", "I", true)
  | 3 => ("BorderDays$Shape", "to", "I", true)
  | 4 => ("BorderDays$Shape", "xs", "[I", true)
  | 5 => ("BorderDays$Shape", "ys", "[I", true)
  | 6 => ("BorderDays$Shape", "count", "I", false)
  | 7 => ("BorderDays$Shape", "closedAs", "I", false)
  | _ => ("BorderDays$Shape", "partner", "LBorderDays$Shape;", false)
def t_S : Nat → FieldType := fun k => match k with
  | 0 => .int
  | 1 => .int
  | 2 => .int
  | 3 => .int
  | 4 => .array .int
  | 5 => .array .int
  | 6 => .int
  | 7 => .int
  | _ => .object "BorderDays$Shape"
theorem nm_S : ∀ a, a < 9 → ∀ b, b < 9 → a ≠ b → (T_S a).2.1 ≠ (T_S b).2.1 := by decide +kernel
theorem t_S_ok : ∀ k, k < 9 → parseFieldDescriptor (T_S k).2.2.1 = some (t_S k) := by decide +kernel
def T_B : u_T := fun k => match k with
  | 0 => ("BorderDays", "parents", "[I", true)
  | 1 => ("BorderDays", "placeCount", "I", false)
  | 2 => ("BorderDays", "shapes", "[LBorderDays$Shape;", true)
  | 3 => ("BorderDays", "shapeCount", "I", false)
  | 4 => ("BorderDays", "closings", "I", false)
  | 5 => ("BorderDays", "names", "LBorderDays$Names;", true)
  | _ => ("BorderDays", "oldMap", "LBorderDays$OldMap;", true)
def t_B : Nat → FieldType := fun k => match k with
  | 0 => .array .int
  | 1 => .int
  | 2 => .array (.object "BorderDays$Shape")
  | 3 => .int
  | 4 => .int
  | 5 => .object "BorderDays$Names"
  | _ => .object "BorderDays$OldMap"
theorem nm_B : ∀ a, a < 7 → ∀ b, b < 7 → a ≠ b → (T_B a).2.1 ≠ (T_B b).2.1 := by decide +kernel
theorem t_B_ok : ∀ k, k < 7 → parseFieldDescriptor (T_B k).2.2.1 = some (t_B k) := by decide +kernel
def T_M : u_T := fun k => match k with
  | 0 => ("BorderDaysModel", "thrown", "I", false)
  | 1 => ("BorderDaysModel", "places", "I", false)
  | 2 => ("BorderDaysModel", "parents", "[I", true)
  | 3 => ("BorderDaysModel", "shapes", "I", false)
  | 4 => ("BorderDaysModel", "owners", "[I", true)
  | 5 => ("BorderDaysModel", "froms", "[I", true)
  | 6 => ("BorderDaysModel", "tos", "[I", true)
  | 7 => ("BorderDaysModel", "many", "[I", true)
  | 8 => ("BorderDaysModel", "xs", "[I", true)
  | 9 => ("BorderDaysModel", "ys", "[I", true)
  | 10 => ("BorderDaysModel", "closed", "[I", true)
  | 11 => ("BorderDaysModel", "closings", "I", false)
  | 12 => ("BorderDaysModel", "partners", "[I", true)
  | 13 => ("BorderDaysModel", "names", "I", false)
  | 14 => ("BorderDaysModel", "named", "[I", true)
  | 15 => ("BorderDaysModel", "numbers", "[I", true)
  | 16 => ("BorderDaysModel", "nameFroms", "[I", true)
  | 17 => ("BorderDaysModel", "nameTos", "[I", true)
  | 18 => ("BorderDaysModel", "marks", "I", false)
  | 19 => ("BorderDaysModel", "mapXs", "[I", true)
  | 20 => ("BorderDaysModel", "mapYs", "[I", true)
  | 21 => ("BorderDaysModel", "markXs", "[I", true)
  | _ => ("BorderDaysModel", "markYs", "[I", true)
def t_M : Nat → FieldType := fun k => match k with
  | 0 => .int
  | 1 => .int
  | 2 => .array .int
  | 3 => .int
  | 4 => .array .int
  | 5 => .array .int
  | 6 => .array .int
  | 7 => .array .int
  | 8 => .array .int
  | 9 => .array .int
  | 10 => .array .int
  | 11 => .int
  | 12 => .array .int
  | 13 => .int
  | 14 => .array .int
  | 15 => .array .int
  | 16 => .array .int
  | 17 => .array .int
  | 18 => .int
  | 19 => .array .int
  | 20 => .array .int
  | 21 => .array .int
  | _ => .array .int
theorem nm_M : ∀ a, a < 23 → ∀ b, b < 23 → a ≠ b → (T_M a).2.1 ≠ (T_M b).2.1 := by decide +kernel
theorem t_M_ok : ∀ k, k < 23 → parseFieldDescriptor (T_M k).2.2.1 = some (t_M k) := by decide +kernel
abbrev vwCl : List vw_C := [(R_N, T_N, 5), (R_O, T_O, 5), (R_S, T_S, 9), (R_B, T_B, 7), (R_M, T_M, 23)]
abbrev b_B_init : ByteArray := prog_1_method_1_code
def y_B_init : MethodName := ⟨R_B, "<init>", "()V"⟩
abbrev b_B_area : ByteArray := prog_1_method_10_code
def y_B_area : MethodName := ⟨R_B, "area", "(II)I"⟩
abbrev b_B_close : ByteArray := prog_1_method_5_code
def y_B_close : MethodName := ⟨R_B, "close", "(I)Z"⟩
abbrev b_B_corner : ByteArray := prog_1_method_4_code
def y_B_corner : MethodName := ⟨R_B, "corner", "(III)I"⟩
abbrev b_B_distance : ByteArray := prog_1_method_12_code
def y_B_distance : MethodName := ⟨R_B, "distance", "(III)I"⟩
abbrev b_B_force : ByteArray := prog_1_method_7_code
def y_B_force : MethodName := ⟨R_B, "force", "(II)I"⟩
abbrev b_B_inside : ByteArray := prog_1_method_8_code
def y_B_inside : MethodName := ⟨R_B, "inside", "(IIII)I"⟩
abbrev b_B_isBetween : ByteArray := prog_1_method_28_code
def y_B_isBetween : MethodName := ⟨R_B, "isBetween", "(III)Z"⟩
abbrev b_B_mark : ByteArray := prog_1_method_15_code
def y_B_mark : MethodName := ⟨R_B, "mark", "(IIII)I"⟩
abbrev b_B_masked : ByteArray := prog_1_method_17_code
def y_B_masked : MethodName := ⟨R_B, "masked", "(IIII)I"⟩
abbrev b_B_misfit : ByteArray := prog_1_method_11_code
def y_B_misfit : MethodName := ⟨R_B, "misfit", "(II)I"⟩
abbrev b_B_misfitsOn : ByteArray := prog_1_method_20_code
def y_B_misfitsOn : MethodName := ⟨R_B, "misfitsOn", "(II)Z"⟩
abbrev b_B_name : ByteArray := prog_1_method_13_code
def y_B_name : MethodName := ⟨R_B, "name", "(IIII)V"⟩
abbrev b_B_nameOn : ByteArray := prog_1_method_14_code
def y_B_nameOn : MethodName := ⟨R_B, "nameOn", "(II)I"⟩
abbrev b_B_place : ByteArray := prog_1_method_2_code
def y_B_place : MethodName := ⟨R_B, "place", "(I)I"⟩
abbrev b_B_placed : ByteArray := prog_1_method_16_code
def y_B_placed : MethodName := ⟨R_B, "placed", "(III)I"⟩
abbrev b_B_requireAxis : ByteArray := prog_1_method_23_code
def y_B_requireAxis : MethodName := ⟨R_B, "requireAxis", "(I)V"⟩
abbrev b_B_requireDay : ByteArray := prog_1_method_24_code
def y_B_requireDay : MethodName := ⟨R_B, "requireDay", "(I)V"⟩
abbrev b_B_requirePlace : ByteArray := prog_1_method_21_code
def y_B_requirePlace : MethodName := ⟨R_B, "requirePlace", "(I)V"⟩
abbrev b_B_requirePoint : ByteArray := prog_1_method_26_code
def y_B_requirePoint : MethodName := ⟨R_B, "requirePoint", "(II)V"⟩
abbrev b_B_requireRank : ByteArray := prog_1_method_22_code
def y_B_requireRank : MethodName := ⟨R_B, "requireRank", "(I)V"⟩
abbrev b_B_requireSpan : ByteArray := prog_1_method_25_code
def y_B_requireSpan : MethodName := ⟨R_B, "requireSpan", "(II)V"⟩
abbrev b_B_shape : ByteArray := prog_1_method_3_code
def y_B_shape : MethodName := ⟨R_B, "shape", "(III)I"⟩
abbrev b_B_shapeNumbered : ByteArray := prog_1_method_18_code
def y_B_shapeNumbered : MethodName := ⟨R_B, "shapeNumbered", "(I)LBorderDays$Shape;"⟩
abbrev b_B_shapeOn : ByteArray := prog_1_method_19_code
def y_B_shapeOn : MethodName := ⟨R_B, "shapeOn", "(II)LBorderDays$Shape;"⟩
abbrev b_B_threeWay : ByteArray := prog_1_method_9_code
def y_B_threeWay : MethodName := ⟨R_B, "threeWay", "(IIII)I"⟩
abbrev b_B_turn : ByteArray := prog_1_method_27_code
def y_B_turn : MethodName := ⟨R_B, "turn", "(IIIIII)J"⟩
abbrev b_B_unsure : ByteArray := prog_1_method_6_code
def y_B_unsure : MethodName := ⟨R_B, "unsure", "(II)Z"⟩
abbrev b_N_init : ByteArray := prog_2_method_1_code
def y_N_init : MethodName := ⟨R_N, "<init>", "()V"⟩
abbrev b_N_add : ByteArray := prog_2_method_3_code
def y_N_add : MethodName := ⟨R_N, "add", "(IIII)V"⟩
abbrev b_N_find : ByteArray := prog_2_method_4_code
def y_N_find : MethodName := ⟨R_N, "find", "(II)I"⟩
abbrev b_N_isFull : ByteArray := prog_2_method_2_code
def y_N_isFull : MethodName := ⟨R_N, "isFull", "()Z"⟩
abbrev b_O_init : ByteArray := prog_3_method_1_code
def y_O_init : MethodName := ⟨R_O, "<init>", "()V"⟩
abbrev b_O_add : ByteArray := prog_3_method_3_code
def y_O_add : MethodName := ⟨R_O, "add", "(IIII)I"⟩
abbrev b_O_find : ByteArray := prog_3_method_4_code
def y_O_find : MethodName := ⟨R_O, "find", "(III)I"⟩
abbrev b_O_haveBetween : ByteArray := prog_3_method_5_code
def y_O_haveBetween : MethodName := ⟨R_O, "haveBetween", "(IIIII)Z"⟩
abbrev b_O_isFull : ByteArray := prog_3_method_2_code
def y_O_isFull : MethodName := ⟨R_O, "isFull", "()Z"⟩
abbrev b_O_roundedQuotient : ByteArray := prog_3_method_8_code
def y_O_roundedQuotient : MethodName := ⟨R_O, "roundedQuotient", "(JJ)I"⟩
abbrev b_O_share : ByteArray := prog_3_method_7_code
def y_O_share : MethodName := ⟨R_O, "share", "(IIII)J"⟩
abbrev b_O_valueBetween : ByteArray := prog_3_method_6_code
def y_O_valueBetween : MethodName := ⟨R_O, "valueBetween", "(IIIII[I)I"⟩
abbrev b_S_init : ByteArray := prog_4_method_1_code
def y_S_init : MethodName := ⟨R_S, "<init>", "(IIII)V"⟩
abbrev b_S_addCorner : ByteArray := prog_4_method_5_code
def y_S_addCorner : MethodName := ⟨R_S, "addCorner", "(II)I"⟩
abbrev b_S_canClose : ByteArray := prog_4_method_7_code
def y_S_canClose : MethodName := ⟨R_S, "canClose", "()Z"⟩
abbrev b_S_contains : ByteArray := prog_4_method_8_code
def y_S_contains : MethodName := ⟨R_S, "contains", "(II)Z"⟩
abbrev b_S_containsCornersOf : ByteArray := prog_4_method_9_code
def y_S_containsCornersOf : MethodName := ⟨R_S, "containsCornersOf", "(LBorderDays$Shape;)Z"⟩
abbrev b_S_doubledArea : ByteArray := prog_4_method_10_code
def y_S_doubledArea : MethodName := ⟨R_S, "doubledArea", "()I"⟩
abbrev b_S_foldsBack : ByteArray := prog_4_method_16_code
def y_S_foldsBack : MethodName := ⟨R_S, "foldsBack", "(II)Z"⟩
abbrev b_S_hasCorner : ByteArray := prog_4_method_17_code
def y_S_hasCorner : MethodName := ⟨R_S, "hasCorner", "(II)Z"⟩
abbrev b_S_holdsFor : ByteArray := prog_4_method_4_code
def y_S_holdsFor : MethodName := ⟨R_S, "holdsFor", "(II)Z"⟩
abbrev b_S_isClosed : ByteArray := prog_4_method_2_code
def y_S_isClosed : MethodName := ⟨R_S, "isClosed", "()Z"⟩
abbrev b_S_isFull : ByteArray := prog_4_method_3_code
def y_S_isFull : MethodName := ⟨R_S, "isFull", "()Z"⟩
abbrev b_S_isLineRightOf : ByteArray := prog_4_method_20_code
def y_S_isLineRightOf : MethodName := ⟨R_S, "isLineRightOf", "(III)Z"⟩
abbrev b_S_isOnLine : ByteArray := prog_4_method_19_code
def y_S_isOnLine : MethodName := ⟨R_S, "isOnLine", "(III)Z"⟩
abbrev b_S_leastSquareTo : ByteArray := prog_4_method_11_code
def y_S_leastSquareTo : MethodName := ⟨R_S, "leastSquareTo", "(LBorderDays$Shape;)I"⟩
abbrev b_S_leavePartner : ByteArray := prog_4_method_6_code
def y_S_leavePartner : MethodName := ⟨R_S, "leavePartner", "()V"⟩
abbrev b_S_linesClash : ByteArray := prog_4_method_15_code
def y_S_linesClash : MethodName := ⟨R_S, "linesClash", "(II)Z"⟩
abbrev b_S_next : ByteArray := prog_4_method_13_code
def y_S_next : MethodName := ⟨R_S, "next", "(I)I"⟩
abbrev b_S_parts : ByteArray := prog_4_method_18_code
def y_S_parts : MethodName := ⟨R_S, "parts", "(II)Z"⟩
abbrev b_S_sameCorner : ByteArray := prog_4_method_14_code
def y_S_sameCorner : MethodName := ⟨R_S, "sameCorner", "(II)Z"⟩
abbrev b_S_side : ByteArray := prog_4_method_21_code
def y_S_side : MethodName := ⟨R_S, "side", "(III)J"⟩
abbrev b_S_squareBetween : ByteArray := prog_4_method_12_code
def y_S_squareBetween : MethodName := ⟨R_S, "squareBetween", "(ILBorderDays$Shape;I)I"⟩
abbrev b_L_area : ByteArray := method_11_code
def y_L_area : MethodName := ⟨R_L, "area", "(LBorderDays;II[J)I"⟩
abbrev b_L_close : ByteArray := method_6_code
def y_L_close : MethodName := ⟨R_L, "close", "(LBorderDays;I[J)I"⟩
abbrev b_L_corner : ByteArray := method_5_code
def y_L_corner : MethodName := ⟨R_L, "corner", "(LBorderDays;III[J)I"⟩
abbrev b_L_distance : ByteArray := method_13_code
def y_L_distance : MethodName := ⟨R_L, "distance", "(LBorderDays;III[J)I"⟩
abbrev b_L_force : ByteArray := method_8_code
def y_L_force : MethodName := ⟨R_L, "force", "(LBorderDays;II[J)I"⟩
abbrev b_L_inside : ByteArray := method_9_code
def y_L_inside : MethodName := ⟨R_L, "inside", "(LBorderDays;IIII[J)I"⟩
abbrev b_L_law : ByteArray := code
def y_L_law : MethodName := ⟨R_L, "law", "([I)Z"⟩
abbrev b_L_mark : ByteArray := method_16_code
def y_L_mark : MethodName := ⟨R_L, "mark", "(LBorderDays;IIII[J)I"⟩
abbrev b_L_masked : ByteArray := method_18_code
def y_L_masked : MethodName := ⟨R_L, "masked", "(LBorderDays;IIII[J)I"⟩
abbrev b_L_misfit : ByteArray := method_12_code
def y_L_misfit : MethodName := ⟨R_L, "misfit", "(LBorderDays;II[J)I"⟩
abbrev b_L_name : ByteArray := method_14_code
def y_L_name : MethodName := ⟨R_L, "name", "(LBorderDays;IIII)I"⟩
abbrev b_L_nameOn : ByteArray := method_15_code
def y_L_nameOn : MethodName := ⟨R_L, "nameOn", "(LBorderDays;II[J)I"⟩
abbrev b_L_place : ByteArray := method_3_code
def y_L_place : MethodName := ⟨R_L, "place", "(LBorderDays;I[J)I"⟩
abbrev b_L_placed : ByteArray := method_17_code
def y_L_placed : MethodName := ⟨R_L, "placed", "(LBorderDays;III[J)I"⟩
abbrev b_L_shape : ByteArray := method_4_code
def y_L_shape : MethodName := ⟨R_L, "shape", "(LBorderDays;III[J)I"⟩
abbrev b_L_threeWay : ByteArray := method_10_code
def y_L_threeWay : MethodName := ⟨R_L, "threeWay", "(LBorderDays;IIII[J)I"⟩
abbrev b_L_unsure : ByteArray := method_7_code
def y_L_unsure : MethodName := ⟨R_L, "unsure", "(LBorderDays;II[J)I"⟩
abbrev b_M_init : ByteArray := prog_6_method_1_code
def y_M_init : MethodName := ⟨R_M, "<init>", "()V"⟩
abbrev b_M_after : ByteArray := prog_6_method_16_code
def y_M_after : MethodName := ⟨R_M, "after", "(II)I"⟩
abbrev b_M_area : ByteArray := prog_6_method_26_code
def y_M_area : MethodName := ⟨R_M, "area", "(II)I"⟩
abbrev b_M_between : ByteArray := prog_6_method_13_code
def y_M_between : MethodName := ⟨R_M, "between", "(III)Z"⟩
abbrev b_M_canClose : ByteArray := prog_6_method_17_code
def y_M_canClose : MethodName := ⟨R_M, "canClose", "(I)Z"⟩
abbrev b_M_close : ByteArray := prog_6_method_18_code
def y_M_close : MethodName := ⟨R_M, "close", "(I)Z"⟩
abbrev b_M_corner : ByteArray := prog_6_method_10_code
def y_M_corner : MethodName := ⟨R_M, "corner", "(III)I"⟩
abbrev b_M_distance : ByteArray := prog_6_method_29_code
def y_M_distance : MethodName := ⟨R_M, "distance", "(III)I"⟩
abbrev b_M_force : ByteArray := prog_6_method_22_code
def y_M_force : MethodName := ⟨R_M, "force", "(II)I"⟩
abbrev b_M_forced : ByteArray := prog_6_method_21_code
def y_M_forced : MethodName := ⟨R_M, "forced", "(II)I"⟩
abbrev b_M_free : ByteArray := prog_6_method_19_code
def y_M_free : MethodName := ⟨R_M, "free", "(I)V"⟩
abbrev b_M_goes : ByteArray := prog_6_method_3_code
def y_M_goes : MethodName := ⟨R_M, "goes", "(ZZZ)Z"⟩
abbrev b_M_holds : ByteArray := prog_6_method_34_code
def y_M_holds : MethodName := ⟨R_M, "holds", "(IIIII)Z"⟩
abbrev b_M_inside : ByteArray := prog_6_method_24_code
def y_M_inside : MethodName := ⟨R_M, "inside", "(IIII)I"⟩
abbrev b_M_isDay : ByteArray := prog_6_method_5_code
def y_M_isDay : MethodName := ⟨R_M, "isDay", "(I)Z"⟩
abbrev b_M_isIn : ByteArray := prog_6_method_23_code
def y_M_isIn : MethodName := ⟨R_M, "isIn", "(III)Z"⟩
abbrev b_M_isOn : ByteArray := prog_6_method_14_code
def y_M_isOn : MethodName := ⟨R_M, "isOn", "(IIII)Z"⟩
abbrev b_M_isPlace : ByteArray := prog_6_method_6_code
def y_M_isPlace : MethodName := ⟨R_M, "isPlace", "(I)Z"⟩
abbrev b_M_isPoint : ByteArray := prog_6_method_4_code
def y_M_isPoint : MethodName := ⟨R_M, "isPoint", "(II)Z"⟩
abbrev b_M_isShape : ByteArray := prog_6_method_7_code
def y_M_isShape : MethodName := ⟨R_M, "isShape", "(I)Z"⟩
abbrev b_M_mark : ByteArray := prog_6_method_32_code
def y_M_mark : MethodName := ⟨R_M, "mark", "(IIII)I"⟩
abbrev b_M_masked : ByteArray := prog_6_method_37_code
def y_M_masked : MethodName := ⟨R_M, "masked", "(IIII)I"⟩
abbrev b_M_meet : ByteArray := prog_6_method_15_code
def y_M_meet : MethodName := ⟨R_M, "meet", "(IIII)Z"⟩
abbrev b_M_misfit : ByteArray := prog_6_method_28_code
def y_M_misfit : MethodName := ⟨R_M, "misfit", "(II)I"⟩
abbrev b_M_misfits : ByteArray := prog_6_method_27_code
def y_M_misfits : MethodName := ⟨R_M, "misfits", "(II)Z"⟩
abbrev b_M_name : ByteArray := prog_6_method_30_code
def y_M_name : MethodName := ⟨R_M, "name", "(IIII)V"⟩
abbrev b_M_nameOn : ByteArray := prog_6_method_31_code
def y_M_nameOn : MethodName := ⟨R_M, "nameOn", "(II)I"⟩
abbrev b_M_nearest : ByteArray := prog_6_method_35_code
def y_M_nearest : MethodName := ⟨R_M, "nearest", "(JJ)I"⟩
abbrev b_M_part : ByteArray := prog_6_method_33_code
def y_M_part : MethodName := ⟨R_M, "part", "(IIII)I"⟩
abbrev b_M_place : ByteArray := prog_6_method_8_code
def y_M_place : MethodName := ⟨R_M, "place", "(I)I"⟩
abbrev b_M_placed : ByteArray := prog_6_method_36_code
def y_M_placed : MethodName := ⟨R_M, "placed", "(III)I"⟩
abbrev b_M_shape : ByteArray := prog_6_method_9_code
def y_M_shape : MethodName := ⟨R_M, "shape", "(III)I"⟩
abbrev b_M_side : ByteArray := prog_6_method_11_code
def y_M_side : MethodName := ⟨R_M, "side", "(IIIIII)I"⟩
abbrev b_M_sign : ByteArray := prog_6_method_12_code
def y_M_sign : MethodName := ⟨R_M, "sign", "(I)I"⟩
abbrev b_M_threeWay : ByteArray := prog_6_method_25_code
def y_M_threeWay : MethodName := ⟨R_M, "threeWay", "(IIII)I"⟩
abbrev b_M_thrown : ByteArray := prog_6_method_2_code
def y_M_thrown : MethodName := ⟨R_M, "thrown", "()I"⟩
abbrev b_M_unsure : ByteArray := prog_6_method_20_code
def y_M_unsure : MethodName := ⟨R_M, "unsure", "(II)Z"⟩
abbrev b_J_abs_J : ByteArray := prog_10_method_61_code
def y_J_abs_J : MethodName := ⟨R_J, "abs", "(J)J"⟩
abbrev b_J_floorDiv_JJ : ByteArray := prog_10_method_49_code
def y_J_floorDiv_JJ : MethodName := ⟨R_J, "floorDiv", "(JJ)J"⟩
abbrev b_J_floorDiv_II : ByteArray := prog_10_method_47_code
def y_J_floorDiv_II : MethodName := ⟨R_J, "floorDiv", "(II)I"⟩
abbrev b_J_max_II : ByteArray := prog_10_method_65_code
def y_J_max_II : MethodName := ⟨R_J, "max", "(II)I"⟩
abbrev b_J_min_II : ByteArray := prog_10_method_69_code
def y_J_min_II : MethodName := ⟨R_J, "min", "(II)I"⟩
end
section
/-- a boolean's int -/
def pi_b (b : Bool) : Int32 := if b = true then 1 else 0
theorem pi_b_0 {b : Bool} : pi_b b = 0 ↔ b = false := by cases b <;> decide
theorem pi_b_1 {b : Bool} : ¬ pi_b b = 0 ↔ b = true := by cases b <;> decide
/-! THE BASE: what every contract here rests on (own text over the kit's rows).
s0: the law's own start. Nothing that stood there is ever written; its tables only grow warmer. -/
/-- the steady words -/
def z_tbl : List Cond := lw_tbl.filter goodWord
theorem z_in {w : Cond} (i : Nat) (h : lw_tbl[i]? = some w) (g : goodWord w = true) : w ∈ z_tbl := List.mem_filter.mpr ⟨List.mem_of_getElem? h, g⟩
theorem z_ins {ws : List Cond} (ps : List Nat) (h : ws = ps.filterMap (fun i => lw_tbl[i]?)) (g : ws.all goodWord = true) : ∀ w ∈ ws, w ∈ z_tbl := fun w hw => by
  have h1 := List.all_eq_true.mp g w hw
  rw [h] at hw
  obtain ⟨i, -, hi⟩ := List.mem_filterMap.mp hw
  exact List.mem_filter.mpr ⟨List.mem_of_getElem? hi, h1⟩
/-- the links of nest mates -/
def z_nst : List Cond := [Cond.methodLinkNest R_S 97 y_B_isBetween R_B, Cond.methodLinkNest R_S 66 y_B_turn R_B, Cond.methodLinkNest R_O 43 y_B_turn R_B]
/-- a method's start: its arguments, the tables warmer than s0's, the heap holds B -/
def z_Pc (s0 : State) (av : List Value) (B : Heap → Prop) : Array Value → State → Prop := fun v U => v = av.toArray ∧ s0.WarmedH U.vm ∧ B U.heap
theorem z_blind {s0 : State} {av : List Value} {B : Heap → Prop} : FrameBlind (z_Pc s0 av B) := fun _ _ _ _ h => h
/-- a reader's end: its answer, the heap as it was -/
def z_Qr (r : Option Value) : Array Value → State → Outcome → State → Prop := fun _ st o t => o = .returned r ∧ t.heap = st.heap
abbrev z_no : Addr → Prop := fun _ => False
theorem z_nil {free : Addr → Prop} : ∀ q ∈ ([] : List Loc), free q.base := fun _ h => by cases h
theorem z_hts {s0 s : State} {args : Array Value} (G : ∀ w ∈ z_tbl, w.before #[] s0 = true) (hW : s0.WarmedH s.vm) : ∀ w ∈ z_tbl, w.before args s = true :=
  fun w hw => word_at hW (good_of_word (List.mem_filter.mp hw).2) (G w hw)
/-- what the whole run rests on, at s0: the steady words, the nest mates' links, the classes' numbers and slots, the array classes -/
def z_G (s0 : State) (D : va_G) (cI cS : ClassId) : Prop := (∀ w ∈ z_tbl, w.before #[] s0 = true) ∧ (∀ w ∈ z_nst, va_Nw w s0) ∧ va_K D vwCl [] s0 ∧ ArrOfT s0 cI .int ∧ ArrOfT s0 cS (.object "BorderDays$Shape") ∧ va_RA s0 cS (.object "BorderDays$Shape")
theorem z_nstW {s0 s : State} (h : ∀ w ∈ z_nst, va_Nw w s0) (hW : s0.WarmedH s.vm) : ∀ w ∈ z_nst, va_Nw w s := fun w hw => by
  have h0 := h w hw
  simp only [z_nst, List.mem_cons, List.not_mem_nil, or_false] at hw
  rcases hw with rfl | rfl | rfl <;> exact va_Nw.warmM hW h0
theorem z_ofW {l : Launch} {s0 : State} {y : MethodName} {rm : Room} {av : List Value} {B : Heap → Prop} {Qc : Array Value → State → Outcome → State → Prop} {mc ms : Nat} {free : Addr → Prop} {cc : ByteArray} {nL : Nat} {ret : Option FieldType}
    (hy : plainName y.cls = true) (hn : (lg_sl av).length ≤ nL)
    (body : ∀ (p : Program) (e : Env) (s : State) (m : MethodId) (below : List Frame) (meth : Method) (c : Code), p.tables.exec = Jvm.exec → c.code = cc → c.maxLocals = nL → meth.sig.returnType = ret → s.vm.findClass y.cls = some m.cls → meth.locks = false → meth.name = y.name → s0.WarmedH s.vm → B s.heap →
      ∀ ls : Array Slot, lv_has ls nL (lv_args 0 av) → W p l e rm s m av.toArray below meth c s.heap [] 0 0 (MQ below Qc av.toArray s mc ms free) (F0 m 0 ls [])) :
    Met l y [Cond.code y cc nL ret] rm (z_Pc s0 av B) Qc mc ms free := by
  refine Met.ofW (cc := cc) (maxL := nL) (ret := ret) hy rfl ?_
  intro p e s m args below meth c s₁ H hml hv
  obtain ⟨rfl, hW, hB⟩ := hv
  have hl := lv_entry av (n := nL) hn
  rw [lg_entry_eq]
  exact body p e s m below meth c H.exec H.bytes hml H.returns (findClass_of_methodNamed H.named) H.notSynchronized (name_of_methodNamed H.named H.method).1 hW hB _ hl
theorem z_ofWX {l : Launch} {s0 : State} {y : MethodName} {rm : Room} {av : List Value} {B : Heap → Prop} {X : String} {cc : ByteArray} {nL : Nat} {ret : Option FieldType}
    (hy : plainName y.cls = true) (hn : (lg_sl av).length ≤ nL)
    (body : ∀ (p : Program) (e : Env) (s : State) (m : MethodId) (below : List Frame) (meth : Method) (c : Code), p.tables.exec = Jvm.exec → c.code = cc → c.maxLocals = nL → l.admits e → s.vm.findClass y.cls = some m.cls → meth.locks = false → c.exceptionTable.isEmpty = true → s0.WarmedH s.vm → B s.heap →
      ∀ ls : Array Slot, lv_has ls nL (lv_args 0 av) → W p l e rm s m av.toArray below meth c s.heap [] 0 0 (xt_Z below X av.toArray s) (F0 m 0 ls [])) :
    xt_Met l y [Cond.code y cc nL ret] rm (z_Pc s0 av B) X := by
  refine xt_ofW (cc := cc) (maxL := nL) (ret := ret) hy rfl ?_
  intro p e s m args below meth c s₁ H hml hv
  obtain ⟨rfl, hW, hB⟩ := hv
  have hl := lv_entry av (n := nL) hn
  rw [lg_entry_eq]
  exact body p e s m below meth c H.exec H.bytes hml H.admits (findClass_of_methodNamed H.named) H.notSynchronized (H.noHandlers (atoms_spec (ws := [Cond.code y cc nL ret]) H.pre _ List.mem_cons_self)) hW hB _ hl
section ZR
variable {p : Program} {l : Launch} {e : Env} {R : Room} {s : State} {m : MethodId} {args : Array Value} {below : List Frame} {meth : Method} {c : Code} {H : Heap} {locs : List Loc} {cells slots : Nat} {Q : State → Prop}
variable {cc : ByteArray} {pc : Nat} {ls : Array Slot} {rest : List Value}
theorem z_topi {x y : Int32} (h : x = y) (k : W p l e R s m args below meth c H locs cells slots Q (F0 m pc ls (.int y :: rest))) : W p l e R s m args below meth c H locs cells slots Q (F0 m pc ls (.int x :: rest)) := h ▸ k
theorem z_topl {x y : Int64} (h : x = y) (k : W p l e R s m args below meth c H locs cells slots Q (F0 m pc ls (.long y :: rest))) : W p l e R s m args below meth c H locs cells slots Q (F0 m pc ls (.long x :: rest)) := h ▸ k
/-- an object: its class's number in vwCl, its fields -/
def z_O (D : va_G) (H : Heap) (a ci : Nat) (fs : List Value) : Prop := va_at D vwCl (a, .inr (ci, fs)) H
/-- an int array of n places -/
def z_A (cI : ClassId) (H : Heap) (a n : Nat) (f : Nat → Int32) : Prop := H[a]? = some (vp_cell cI (n, .inl f))
/-- an array of n references -/
def z_B (cS : ClassId) (H : Heap) (a n : Nat) (f : Nat → Option Nat) : Prop := H[a]? = some (vp_cell cS (n, .inr (.inr (.inr (.inr f)))))
theorem z_O.P {D : va_G} {a ci : Nat} {fs : List Value} (h : z_O D H a ci fs) : va_P D vwCl [(a, .inr (ci, fs))] H := fun k q hq => by
  have hk : k < 1 := (List.getElem?_eq_some_iff.mp hq).1
  rw [show k = 0 by omega] at hq
  cases hq; exact h
theorem z_O.recv {D : va_G} {tys : List (ClassId × FieldType)} {a ci : Nat} {fs : List Value} {q : vw_C} (h : z_O D H a ci fs) (hK : va_K D vwCl tys s) (hc : vwCl[ci]? = some q) : ∃ cell : Cell, H[a]? = some cell ∧ cell.vm.isStatics = false ∧ s.vm.findClass q.1 = some cell.cls :=
  va_recv hK h.P hc (q0 := 0) rfl
theorem z_iald {cI : ClassId} {a n k : Nat} {f : Nat → Int32} (hx : p.tables.exec = Jvm.exec) (hb : c.code = cc) (hAI : ArrOfT s cI .int) (hA : z_A cI H a n f) (hk : k < n) (hn : n < 2 ^ 31) (hdg : decode cc pc = .ok (.iaload, 1))
    (kk : W p l e R s m args below meth c H locs cells slots Q (F0 m (pc + 1) ls (.int (f k) :: rest))) : W p l e R s m args below meth c H locs cells slots Q (F0 m pc ls (.int (nI k) :: .ref a :: rest)) := by
  have hc : (nI k).toNatClampNeg = k := nI_clamp (by omega)
  refine W.iald (v := .int (f k)) hx hb hA (hAI n (fun j => .int (f j))) (fun q => by cases q) ?_ ?_ rfl rfl hdg kk
  · show ¬ (nI k < 0 ∨ (arrV _ _ _).slots.size ≤ _)
    rw [arrV_size]; exact nI_in hk hn
  · show (arrV _ _ _).slots[_]? = _
    rw [hc, arrV_read _ _ hk]
theorem z_rdC {r : Option Value} {a : Array Value} {stk : List Value} (hr : va_Run p l e R s m args below meth c H locs cells slots 0 0 (F0 m pc ls stk) rest (z_Qr r a) z_no)
    (k : W p l e R s m args below meth c H locs cells slots Q (F0 m (pc + 3) ls (r.toList ++ rest))) : W p l e R s m args below meth c H locs cells slots Q (F0 m pc ls stk) := by
  intro T hT X
  obtain ⟨v, st₀, t, T', L, h0, X', hL, e1, -, ⟨hv, hh⟩, stp⟩ := hr T hT X
  have hv : v = r := Outcome.returned.inj hv
  subst hv
  obtain ⟨t2, a1, b1⟩ := k T' (by rw [e1, hh, h0]) (Stand.forget X' (fun q h => (hL q h).elim))
  exact ⟨t2, stp t2 a1, b1⟩
theorem z_st (hts : ∀ w ∈ z_tbl, w.before args s = true) : ∀ w ∈ z_tbl, ∀ (a' : Array Value) (U : State), s.WarmedH U.vm → w.before a' U = true := fun w hw a' U hW => word_at hW (good_of_word (List.mem_filter.mp hw).2) (hts w hw)
section ZC
variable {s0 : State} {y : MethodName} {bytes : ByteArray} {maxL nL n index : Nat} {ret : Option FieldType} {rm : Room} {own C host : String} {a : Nat} {As stk : List Value} {B : Heap → Prop} {r : Option Value} {v : Value}
abbrev z_dsc (y : MethodName) (n : Nat) : Prop := y.cls ≠ "java/lang/invoke/MethodHandle" ∧ y.cls ≠ "java/lang/invoke/VarHandle" ∧ (parseMethodDescriptor y.desc).map (fun d => d.parameters.length) = some n
abbrev z_rmk (rm R : Room) (maxL mc ms : Nat) : Prop := rm.cells = mc ∧ rm.slots = ms ∧ rm.frames + 1 ≤ R.frames ∧ 8 + (maxL + 11) + rm.locals ≤ R.locals
theorem z_callB {mc ms : Nat} (hts : ∀ w ∈ z_tbl, w.before args s = true) (w1 : Cond.code y bytes maxL ret ∈ z_tbl) (w2 : Cond.methodLink own index y ∈ z_tbl) (w5 : Cond.initialized y.cls ∈ z_tbl) (hd : z_dsc y n) (hR : z_rmk rm R maxL mc ms) : CallB R s args own index y bytes maxL ret [Cond.code y bytes maxL ret] rm mc ms n :=
  ⟨hR.1, hR.2.1, hR.2.2.1, hR.2.2.2, fun w hw => by rw [List.mem_singleton.mp hw]; exact z_st hts _ w1, List.mem_cons_self, hts _ w1, hts _ w5, ⟨hd.1, hd.2.1⟩, fun sig h => by have h2 := hd.2.2; rw [h] at h2; exact (Option.some.inj h2).symm, hts _ w2⟩
theorem z_callN {mc ms : Nat} (hts : ∀ w ∈ z_tbl, w.before args s = true) (w1 : Cond.code y bytes maxL ret ∈ z_tbl) (w2 : va_Nw (.methodLinkNest own index y host) s) (w5 : Cond.initialized y.cls ∈ z_tbl) (hd : z_dsc y n) (hR : z_rmk rm R maxL mc ms) : va_CN R s args own index y host bytes maxL ret [Cond.code y bytes maxL ret] rm mc ms n :=
  ⟨⟨hR.1, hR.2.1, hR.2.2.1, hR.2.2.2, fun w hw => by rw [List.mem_singleton.mp hw]; exact z_st hts _ w1, List.mem_cons_self⟩, hts _ w1, hts _ w5, ⟨hd.1, hd.2.1⟩, fun sig h => by have h2 := hd.2.2; rw [h] at h2; exact (Option.some.inj h2).symm, va_Nw.use rfl w2⟩
/-- a reader is called: virtual, by a plain link -/
theorem z_rdV (S : CallFix p m c cc nL s args z_tbl own) (hW0 : s0.WarmedH s.vm) (hM : Met l y [Cond.code y bytes maxL ret] rm (z_Pc s0 (.ref a :: As) B) (z_Qr (some v)) 0 0 z_no)
    (w1 : Cond.code y bytes maxL ret ∈ z_tbl) (w2 : Cond.methodLink own index y ∈ z_tbl) (w3 : Cond.instanceMethod y ∈ z_tbl) (w4 : Cond.selects C y y ∈ z_tbl) (w5 : Cond.initialized y.cls ∈ z_tbl)
    (hd : z_dsc y n) (hR : z_rmk rm R maxL 0 0)
    (hrecv : ∃ cell : Cell, H[a]? = some cell ∧ cell.vm.isStatics = false ∧ s.vm.findClass C = some cell.cls) (hB : B H) (hn : As.length = n) (hstk : stk = As.reverse ++ .ref a :: rest) (hsize : ls.size = nL) (hst : (rest.map fun v => v.category).sum ≤ 8)
    (hdg : decode cc pc = .ok (.invokevirtual index, 3)) (hf : cells ≤ R.cells ∧ slots ≤ R.slots)
    (k : W p l e R s m args below meth c H locs cells slots Q (F0 m (pc + 3) ls (v :: rest))) : W p l e R s m args below meth c H locs cells slots Q (F0 m pc ls stk) :=
  z_rdC (va_runV (C := C) (g := F0 m pc ls stk) S hM ⟨z_callB S.2.2.2.2 w1 w2 w5 hd hR, S.2.2.2.2 _ w3, S.2.2.2.2 _ w4⟩
    ⟨z_blind, hrecv, fun U hU hW => ⟨rfl, hW0.trans hW, by rw [hU]; exact hB⟩⟩ rfl hn hsize hstk (by show 2 * 0 + _ ≤ 8; omega) hdg hf) k
theorem z_rdVv (S : CallFix p m c cc nL s args z_tbl own) (hW0 : s0.WarmedH s.vm) (hM : Met l y [Cond.code y bytes maxL ret] rm (z_Pc s0 (.ref a :: As) B) (z_Qr none) 0 0 z_no)
    (w1 : Cond.code y bytes maxL ret ∈ z_tbl) (w2 : Cond.methodLink own index y ∈ z_tbl) (w3 : Cond.instanceMethod y ∈ z_tbl) (w4 : Cond.selects C y y ∈ z_tbl) (w5 : Cond.initialized y.cls ∈ z_tbl)
    (hd : z_dsc y n) (hR : z_rmk rm R maxL 0 0)
    (hrecv : ∃ cell : Cell, H[a]? = some cell ∧ cell.vm.isStatics = false ∧ s.vm.findClass C = some cell.cls) (hB : B H) (hn : As.length = n) (hstk : stk = As.reverse ++ .ref a :: rest) (hsize : ls.size = nL) (hst : (rest.map fun v => v.category).sum ≤ 8)
    (hdg : decode cc pc = .ok (.invokevirtual index, 3)) (hf : cells ≤ R.cells ∧ slots ≤ R.slots)
    (k : W p l e R s m args below meth c H locs cells slots Q (F0 m (pc + 3) ls rest)) : W p l e R s m args below meth c H locs cells slots Q (F0 m pc ls stk) :=
  z_rdC (va_runV (C := C) (g := F0 m pc ls stk) S hM ⟨z_callB S.2.2.2.2 w1 w2 w5 hd hR, S.2.2.2.2 _ w3, S.2.2.2.2 _ w4⟩
    ⟨z_blind, hrecv, fun U hU hW => ⟨rfl, hW0.trans hW, by rw [hU]; exact hB⟩⟩ rfl hn hsize hstk (by show 2 * 0 + _ ≤ 8; omega) hdg hf) k
/-- .. static, by a plain link -/
theorem z_rdS (S : CallFix p m c cc nL s args z_tbl own) (hW0 : s0.WarmedH s.vm) (hM : Met l y [Cond.code y bytes maxL ret] rm (z_Pc s0 As B) (z_Qr (some v)) 0 0 z_no)
    (w1 : Cond.code y bytes maxL ret ∈ z_tbl) (w2 : Cond.methodLink own index y ∈ z_tbl) (w3 : Cond.static y ∈ z_tbl) (w5 : Cond.initialized y.cls ∈ z_tbl)
    (hd : z_dsc y n) (hR : z_rmk rm R maxL 0 0) (hB : B H) (hn : As.length = n) (hstk : stk = As.reverse ++ rest) (hsize : ls.size = nL) (hst : (rest.map fun v => v.category).sum ≤ 8)
    (hdg : decode cc pc = .ok (.invokestatic index, 3)) (hf : cells ≤ R.cells ∧ slots ≤ R.slots)
    (k : W p l e R s m args below meth c H locs cells slots Q (F0 m (pc + 3) ls (v :: rest))) : W p l e R s m args below meth c H locs cells slots Q (F0 m pc ls stk) :=
  z_rdC (va_runS (g := F0 m pc ls stk) S hM ⟨z_callB S.2.2.2.2 w1 w2 w5 hd hR, S.2.2.2.2 _ w3⟩
    ⟨z_blind, fun U hU hW => ⟨rfl, hW0.trans hW, by rw [hU]; exact hB⟩⟩ rfl hn hsize hstk (by show 2 * 0 + _ ≤ 8; omega) hdg hf) k
theorem z_rdSv (S : CallFix p m c cc nL s args z_tbl own) (hW0 : s0.WarmedH s.vm) (hM : Met l y [Cond.code y bytes maxL ret] rm (z_Pc s0 As B) (z_Qr none) 0 0 z_no)
    (w1 : Cond.code y bytes maxL ret ∈ z_tbl) (w2 : Cond.methodLink own index y ∈ z_tbl) (w3 : Cond.static y ∈ z_tbl) (w5 : Cond.initialized y.cls ∈ z_tbl)
    (hd : z_dsc y n) (hR : z_rmk rm R maxL 0 0) (hB : B H) (hn : As.length = n) (hstk : stk = As.reverse ++ rest) (hsize : ls.size = nL) (hst : (rest.map fun v => v.category).sum ≤ 8)
    (hdg : decode cc pc = .ok (.invokestatic index, 3)) (hf : cells ≤ R.cells ∧ slots ≤ R.slots)
    (k : W p l e R s m args below meth c H locs cells slots Q (F0 m (pc + 3) ls rest)) : W p l e R s m args below meth c H locs cells slots Q (F0 m pc ls stk) :=
  z_rdC (va_runS (g := F0 m pc ls stk) S hM ⟨z_callB S.2.2.2.2 w1 w2 w5 hd hR, S.2.2.2.2 _ w3⟩
    ⟨z_blind, fun U hU hW => ⟨rfl, hW0.trans hW, by rw [hU]; exact hB⟩⟩ rfl hn hsize hstk (by show 2 * 0 + _ ≤ 8; omega) hdg hf) k
/-- .. static, of a nest mate -/
theorem z_rdSN (S : CallFix p m c cc nL s args z_tbl own) (hW0 : s0.WarmedH s.vm) (hM : Met l y [Cond.code y bytes maxL ret] rm (z_Pc s0 As B) (z_Qr (some v)) 0 0 z_no)
    (w1 : Cond.code y bytes maxL ret ∈ z_tbl) (w2 : va_Nw (.methodLinkNest own index y host) s) (w3 : Cond.static y ∈ z_tbl) (w5 : Cond.initialized y.cls ∈ z_tbl)
    (hd : z_dsc y n) (hR : z_rmk rm R maxL 0 0) (hB : B H) (hn : As.length = n) (hstk : stk = As.reverse ++ rest) (hsize : ls.size = nL) (hst : (rest.map fun v => v.category).sum ≤ 8)
    (hdg : decode cc pc = .ok (.invokestatic index, 3)) (hf : cells ≤ R.cells ∧ slots ≤ R.slots)
    (k : W p l e R s m args below meth c H locs cells slots Q (F0 m (pc + 3) ls (v :: rest))) : W p l e R s m args below meth c H locs cells slots Q (F0 m pc ls stk) :=
  z_rdC (va_runSN (g := F0 m pc ls stk) S hM ⟨z_callN S.2.2.2.2 w1 w2 w5 hd hR, S.2.2.2.2 _ w3, trivial⟩
    ⟨z_blind, fun U hU hW => ⟨rfl, hW0.trans hW, by rw [hU]; exact hB⟩⟩ rfl hn hsize hstk (by show 2 * 0 + _ ≤ 8; omega) hdg hf) k
end ZC
/-- a reader's returns -/
theorem z_iret {v r : Int32} (hx : p.tables.exec = Jvm.exec) (hb : c.code = cc) (hr : meth.sig.returnType = some .int) (hlocks : meth.locks = false) (h : v = r) (hdg : decode cc pc = .ok (.ireturn, 1)) :
    W p l e R s m args below meth c s.heap [] 0 0 (MQ below (z_Qr (some (.int r))) args s 0 0 z_no) (F0 m pc ls [.int v]) :=
  W.iret hx hb hr (fun t ht _ => ⟨by rw [h], ht⟩) z_nil hdg hlocks
theorem z_zret {v : Int32} {r : Bool} (hx : p.tables.exec = Jvm.exec) (hb : c.code = cc) (hr : meth.sig.returnType = some .boolean) (hlocks : meth.locks = false) (h : v = pi_b r) (hdg : decode cc pc = .ok (.ireturn, 1)) :
    W p l e R s m args below meth c s.heap [] 0 0 (MQ below (z_Qr (some (.int (pi_b r)))) args s 0 0 z_no) (F0 m pc ls [.int v]) :=
  W.zret hx hb hr (by rw [h]; cases r <;> rfl) (fun t ht _ => ⟨by rw [h], ht⟩) z_nil hdg hlocks
theorem z_lret {v r : Int64} (hx : p.tables.exec = Jvm.exec) (hb : c.code = cc) (hr : meth.sig.returnType = some .long) (hlocks : meth.locks = false) (h : v = r) (hdg : decode cc pc = .ok (.lreturn, 1)) :
    W p l e R s m args below meth c s.heap [] 0 0 (MQ below (z_Qr (some (.long r))) args s 0 0 z_no) (F0 m pc ls [.long v]) :=
  W.lret hx hb hr (fun t ht _ => ⟨by rw [h], ht⟩) z_nil hdg hlocks
theorem z_vret (hx : p.tables.exec = Jvm.exec) (hb : c.code = cc) (hr : meth.sig.returnType = none) (hlocks : meth.locks = false) (hdg : decode cc pc = .ok (.return_, 1)) :
    W p l e R s m args below meth c s.heap [] 0 0 (MQ below (z_Qr none) args s 0 0 z_no) (F0 m pc ls []) :=
  W.vret hx hb hr (fun t ht _ => ⟨rfl, ht⟩) z_nil hdg hlocks
theorem z_aret {v r : Value} {rt : FieldType} (hx : p.tables.exec = Jvm.exec) (hb : c.code = cc) (hr : meth.sig.returnType = some rt) (hlocks : meth.locks = false) (hrt : (∃ n, rt = .object n) ∨ ∃ t, rt = .array t) (hv : v = .null ∨ ∃ a, v = .ref a) (h : v = r) (hdg : decode cc pc = .ok (.areturn, 1)) :
    W p l e R s m args below meth c s.heap [] 0 0 (MQ below (z_Qr (some r)) args s 0 0 z_no) (F0 m pc ls [v]) :=
  W.aret hx hb hr hrt hv (fun t ht _ => ⟨by rw [h], ht⟩) z_nil hdg hlocks
end ZR
end
section
theorem in_N : ∀ w ∈ u_ws R_N T_N 5, w ∈ z_tbl := z_ins [65, 67, 69, 71, 73] (by decide +kernel) (by decide +kernel)
theorem in_O : ∀ w ∈ u_ws R_O T_O 5, w ∈ z_tbl := z_ins [88, 90, 92, 94, 96] (by decide +kernel) (by decide +kernel)
theorem in_S : ∀ w ∈ u_ws R_S T_S 9, w ∈ z_tbl := z_ins [269, 271, 273, 275, 277, 279, 281, 283, 285] (by decide +kernel) (by decide +kernel)
theorem in_B : ∀ w ∈ u_ws R_B T_B 7, w ∈ z_tbl := z_ins [106, 108, 110, 112, 114, 116, 118] (by decide +kernel) (by decide +kernel)
theorem in_M : ∀ w ∈ u_ws R_M T_M 23, w ∈ z_tbl := z_ins [594, 596, 598, 600, 602, 604, 606, 608, 610, 612, 614, 616, 618, 620, 622, 624, 626, 628, 630, 632, 634, 636, 638] (by decide +kernel) (by decide +kernel)
theorem w_0 : (Cond.initialized R_L) ∈ z_tbl := z_in 31 (by decide +kernel) (by decide +kernel)
theorem w_1 : (Cond.initialized R_B) ∈ z_tbl := z_in 32 (by decide +kernel) (by decide +kernel)
theorem w_2 : (Cond.initialized R_N) ∈ z_tbl := z_in 33 (by decide +kernel) (by decide +kernel)
theorem w_3 : (Cond.initialized R_O) ∈ z_tbl := z_in 34 (by decide +kernel) (by decide +kernel)
theorem w_4 : (Cond.initialized R_M) ∈ z_tbl := z_in 35 (by decide +kernel) (by decide +kernel)
theorem w_5 : (Cond.initialized "java/lang/Throwable") ∈ z_tbl := z_in 36 (by decide +kernel) (by decide +kernel)
theorem w_6 : (Cond.initialized "java/lang/Exception") ∈ z_tbl := z_in 37 (by decide +kernel) (by decide +kernel)
theorem w_7 : (Cond.initialized "java/lang/RuntimeException") ∈ z_tbl := z_in 38 (by decide +kernel) (by decide +kernel)
theorem w_8 : (Cond.initialized "java/util/NoSuchElementException") ∈ z_tbl := z_in 39 (by decide +kernel) (by decide +kernel)
theorem w_9 : (Cond.initialized "java/lang/IllegalStateException") ∈ z_tbl := z_in 40 (by decide +kernel) (by decide +kernel)
theorem w_10 : (Cond.initialized "java/lang/IllegalArgumentException") ∈ z_tbl := z_in 41 (by decide +kernel) (by decide +kernel)
theorem w_11 : (Cond.initialized R_S) ∈ z_tbl := z_in 42 (by decide +kernel) (by decide +kernel)
theorem w_12 : (Cond.initialized R_J) ∈ z_tbl := z_in 43 (by decide +kernel) (by decide +kernel)
theorem w_13 : (Cond.classLink R_L 8 R_B) ∈ z_tbl := z_in 44 (by decide +kernel) (by decide +kernel)
theorem w_14 : (Cond.instantiable R_B 7) ∈ z_tbl := z_in 45 (by decide +kernel) (by decide +kernel)
theorem w_15 : (Cond.methodLink R_L 70 y_B_init) ∈ z_tbl := z_in 46 (by decide +kernel) (by decide +kernel)
theorem w_16 : (Cond.instanceMethod y_B_init) ∈ z_tbl := z_in 47 (by decide +kernel) (by decide +kernel)
theorem w_17 : (Cond.code y_B_init prog_1_method_1_code 1 none) ∈ z_tbl := z_in 48 (by decide +kernel) (by decide +kernel)
theorem w_18 : (Cond.methodLink R_B 1 ⟨"java/lang/Object", "<init>", "()V"⟩) ∈ z_tbl := z_in 49 (by decide +kernel) (by decide +kernel)
theorem w_19 : (Cond.instanceMethod ⟨"java/lang/Object", "<init>", "()V"⟩) ∈ z_tbl := z_in 50 (by decide +kernel) (by decide +kernel)
theorem w_20 : (Cond.code ⟨"java/lang/Object", "<init>", "()V"⟩ object_method_1_code 1 none) ∈ z_tbl := z_in 51 (by decide +kernel) (by decide +kernel)
theorem w_21 : (Cond.classLink R_B 13 R_S) ∈ z_tbl := z_in 52 (by decide +kernel) (by decide +kernel)
theorem w_23 : (Cond.classLink R_B 19 R_N) ∈ z_tbl := z_in 54 (by decide +kernel) (by decide +kernel)
theorem w_24 : (Cond.instantiable R_N 5) ∈ z_tbl := z_in 55 (by decide +kernel) (by decide +kernel)
theorem w_25 : (Cond.methodLink R_B 21 y_N_init) ∈ z_tbl := z_in 56 (by decide +kernel) (by decide +kernel)
theorem w_26 : (Cond.instanceMethod y_N_init) ∈ z_tbl := z_in 57 (by decide +kernel) (by decide +kernel)
theorem w_27 : (Cond.code y_N_init prog_2_method_1_code 1 none) ∈ z_tbl := z_in 58 (by decide +kernel) (by decide +kernel)
theorem w_28 : (Cond.methodLink R_N 3 ⟨"java/lang/Object", "<init>", "()V"⟩) ∈ z_tbl := z_in 59 (by decide +kernel) (by decide +kernel)
theorem w_29 : (Cond.fieldLink R_N 9 R_N "owners" "[I") ∈ z_tbl := z_in 60 (by decide +kernel) (by decide +kernel)
theorem w_30 : (Cond.fieldLink R_N 15 R_N "numbers" "[I") ∈ z_tbl := z_in 61 (by decide +kernel) (by decide +kernel)
theorem w_31 : (Cond.fieldLink R_N 18 R_N "froms" "[I") ∈ z_tbl := z_in 62 (by decide +kernel) (by decide +kernel)
theorem w_32 : (Cond.fieldLink R_N 21 R_N "tos" "[I") ∈ z_tbl := z_in 63 (by decide +kernel) (by decide +kernel)
theorem w_33 : (Cond.fieldLink R_N 24 R_N "count" "I") ∈ z_tbl := z_in 64 (by decide +kernel) (by decide +kernel)
theorem w_45 : (Cond.arrayClass FieldType.int) ∈ z_tbl := z_in 76 (by decide +kernel) (by decide +kernel)
theorem w_46 : (Cond.classLink R_B 26 R_O) ∈ z_tbl := z_in 77 (by decide +kernel) (by decide +kernel)
theorem w_47 : (Cond.instantiable R_O 5) ∈ z_tbl := z_in 78 (by decide +kernel) (by decide +kernel)
theorem w_48 : (Cond.methodLink R_B 28 y_O_init) ∈ z_tbl := z_in 79 (by decide +kernel) (by decide +kernel)
theorem w_49 : (Cond.instanceMethod y_O_init) ∈ z_tbl := z_in 80 (by decide +kernel) (by decide +kernel)
theorem w_50 : (Cond.code y_O_init prog_3_method_1_code 1 none) ∈ z_tbl := z_in 81 (by decide +kernel) (by decide +kernel)
theorem w_51 : (Cond.methodLink R_O 3 ⟨"java/lang/Object", "<init>", "()V"⟩) ∈ z_tbl := z_in 82 (by decide +kernel) (by decide +kernel)
theorem w_52 : (Cond.fieldLink R_O 9 R_O "mapXs" "[I") ∈ z_tbl := z_in 83 (by decide +kernel) (by decide +kernel)
theorem w_53 : (Cond.fieldLink R_O 15 R_O "mapYs" "[I") ∈ z_tbl := z_in 84 (by decide +kernel) (by decide +kernel)
theorem w_54 : (Cond.fieldLink R_O 18 R_O "xs" "[I") ∈ z_tbl := z_in 85 (by decide +kernel) (by decide +kernel)
theorem w_55 : (Cond.fieldLink R_O 21 R_O "ys" "[I") ∈ z_tbl := z_in 86 (by decide +kernel) (by decide +kernel)
theorem w_56 : (Cond.fieldLink R_O 24 R_O "count" "I") ∈ z_tbl := z_in 87 (by decide +kernel) (by decide +kernel)
theorem w_68 : (Cond.fieldLink R_B 9 R_B "parents" "[I") ∈ z_tbl := z_in 99 (by decide +kernel) (by decide +kernel)
theorem w_69 : (Cond.fieldLink R_B 37 R_B "placeCount" "I") ∈ z_tbl := z_in 100 (by decide +kernel) (by decide +kernel)
theorem w_70 : (Cond.fieldLink R_B 15 R_B "shapes" "[LBorderDays$Shape;") ∈ z_tbl := z_in 101 (by decide +kernel) (by decide +kernel)
theorem w_71 : (Cond.fieldLink R_B 52 R_B "shapeCount" "I") ∈ z_tbl := z_in 102 (by decide +kernel) (by decide +kernel)
theorem w_72 : (Cond.fieldLink R_B 83 R_B "closings" "I") ∈ z_tbl := z_in 103 (by decide +kernel) (by decide +kernel)
theorem w_73 : (Cond.fieldLink R_B 22 R_B "names" "LBorderDays$Names;") ∈ z_tbl := z_in 104 (by decide +kernel) (by decide +kernel)
theorem w_74 : (Cond.fieldLink R_B 29 R_B "oldMap" "LBorderDays$OldMap;") ∈ z_tbl := z_in 105 (by decide +kernel) (by decide +kernel)
theorem w_90 : (Cond.methodLink R_L 74 y_L_place) ∈ z_tbl := z_in 121 (by decide +kernel) (by decide +kernel)
theorem w_91 : (Cond.static y_L_place) ∈ z_tbl := z_in 122 (by decide +kernel) (by decide +kernel)
theorem w_92 : (Cond.codeWith y_L_place method_3_code 4 (some .int) [(0, 9, 12, 13), (0, 9, 15, 15)]) ∈ z_tbl := z_in 123 (by decide +kernel) (by decide +kernel)
theorem w_93 : (Cond.classLink R_L 13 "java/util/NoSuchElementException") ∈ z_tbl := z_in 124 (by decide +kernel) (by decide +kernel)
theorem w_94 : (Cond.classLink R_L 15 "java/lang/IllegalStateException") ∈ z_tbl := z_in 125 (by decide +kernel) (by decide +kernel)
theorem w_95 : (Cond.methodLink R_L 7 y_B_place) ∈ z_tbl := z_in 126 (by decide +kernel) (by decide +kernel)
theorem w_96 : (Cond.instanceMethod y_B_place) ∈ z_tbl := z_in 127 (by decide +kernel) (by decide +kernel)
theorem w_97 : (Cond.selects R_B y_B_place y_B_place) ∈ z_tbl := z_in 128 (by decide +kernel) (by decide +kernel)
theorem w_98 : (Cond.code y_B_place prog_1_method_2_code 2 (some .int)) ∈ z_tbl := z_in 129 (by decide +kernel) (by decide +kernel)
theorem w_99 : (Cond.methodLink R_B 33 y_B_requirePlace) ∈ z_tbl := z_in 130 (by decide +kernel) (by decide +kernel)
theorem w_101 : (Cond.instanceMethod y_B_requirePlace) ∈ z_tbl := z_in 132 (by decide +kernel) (by decide +kernel)
theorem w_102 : (Cond.code y_B_requirePlace prog_1_method_21_code 2 none) ∈ z_tbl := z_in 133 (by decide +kernel) (by decide +kernel)
theorem w_103 : (Cond.classLink R_B 160 "java/util/NoSuchElementException") ∈ z_tbl := z_in 134 (by decide +kernel) (by decide +kernel)
theorem w_104 : (Cond.instantiable "java/util/NoSuchElementException" 6) ∈ z_tbl := z_in 135 (by decide +kernel) (by decide +kernel)
theorem w_112 : (Cond.selects "java/util/NoSuchElementException" ⟨"java/lang/Throwable", "fillInStackTrace", "(I)Ljava/lang/Throwable;"⟩ ⟨"java/lang/Throwable", "fillInStackTrace", "(I)Ljava/lang/Throwable;"⟩) ∈ z_tbl := z_in 143 (by decide +kernel) (by decide +kernel)
theorem w_113 : (Cond.selects "java/util/NoSuchElementException" ⟨"java/lang/Throwable", "fillInStackTrace", "()Ljava/lang/Throwable;"⟩ ⟨"java/lang/Throwable", "fillInStackTrace", "()Ljava/lang/Throwable;"⟩) ∈ z_tbl := z_in 144 (by decide +kernel) (by decide +kernel)
theorem w_124 : (Cond.fieldLink "java/lang/Throwable" 198 "java/lang/Throwable" "backtrace" "Ljava/lang/Object;") ∈ z_tbl := z_in 155 (by decide +kernel) (by decide +kernel)
theorem w_126 : (Cond.instanceMethod ⟨"java/lang/Throwable", "<init>", "()V"⟩) ∈ z_tbl := z_in 157 (by decide +kernel) (by decide +kernel)
theorem w_127 : (Cond.code ⟨"java/lang/Throwable", "<init>", "()V"⟩ prog_13_method_1_code 1 none) ∈ z_tbl := z_in 158 (by decide +kernel) (by decide +kernel)
theorem w_128 : (Cond.methodLink "java/lang/Throwable" 1 ⟨"java/lang/Object", "<init>", "()V"⟩) ∈ z_tbl := z_in 159 (by decide +kernel) (by decide +kernel)
theorem w_129 : (Cond.fieldLink "java/lang/Throwable" 13 "java/lang/Throwable" "UNASSIGNED_STACK" "[Ljava/lang/StackTraceElement;") ∈ z_tbl := z_in 160 (by decide +kernel) (by decide +kernel)
theorem w_131 : (Cond.fieldLink "java/lang/Throwable" 20 "java/lang/Throwable" "SUPPRESSED_SENTINEL" "Ljava/util/List;") ∈ z_tbl := z_in 162 (by decide +kernel) (by decide +kernel)
theorem w_133 : (Cond.methodLink "java/lang/Throwable" 27 ⟨"java/lang/Throwable", "fillInStackTrace", "()Ljava/lang/Throwable;"⟩) ∈ z_tbl := z_in 164 (by decide +kernel) (by decide +kernel)
theorem w_134 : (Cond.instanceMethod ⟨"java/lang/Throwable", "fillInStackTrace", "()Ljava/lang/Throwable;"⟩) ∈ z_tbl := z_in 165 (by decide +kernel) (by decide +kernel)
theorem w_136 : (Cond.selects "java/lang/IllegalArgumentException" ⟨"java/lang/Throwable", "fillInStackTrace", "()Ljava/lang/Throwable;"⟩ ⟨"java/lang/Throwable", "fillInStackTrace", "()Ljava/lang/Throwable;"⟩) ∈ z_tbl := z_in 167 (by decide +kernel) (by decide +kernel)
theorem w_137 : (Cond.selects "java/lang/IllegalStateException" ⟨"java/lang/Throwable", "fillInStackTrace", "()Ljava/lang/Throwable;"⟩ ⟨"java/lang/Throwable", "fillInStackTrace", "()Ljava/lang/Throwable;"⟩) ∈ z_tbl := z_in 168 (by decide +kernel) (by decide +kernel)
theorem w_139 : (Cond.methodLink "java/lang/Throwable" 202 ⟨"java/lang/Throwable", "fillInStackTrace", "(I)Ljava/lang/Throwable;"⟩) ∈ z_tbl := z_in 170 (by decide +kernel) (by decide +kernel)
theorem w_141 : (Cond.instanceMethod ⟨"java/lang/Throwable", "fillInStackTrace", "(I)Ljava/lang/Throwable;"⟩) ∈ z_tbl := z_in 172 (by decide +kernel) (by decide +kernel)
theorem w_142 : (Cond.instantiable "java/lang/Throwable" 6) ∈ z_tbl := z_in 173 (by decide +kernel) (by decide +kernel)
theorem w_145 : (Cond.methodLink R_B 164 ⟨"java/util/NoSuchElementException", "<init>", "(Ljava/lang/String;)V"⟩) ∈ z_tbl := z_in 176 (by decide +kernel) (by decide +kernel)
theorem w_146 : (Cond.instanceMethod ⟨"java/util/NoSuchElementException", "<init>", "(Ljava/lang/String;)V"⟩) ∈ z_tbl := z_in 177 (by decide +kernel) (by decide +kernel)
theorem w_147 : (Cond.code ⟨"java/util/NoSuchElementException", "<init>", "(Ljava/lang/String;)V"⟩ prog_14_method_4_code 2 none) ∈ z_tbl := z_in 178 (by decide +kernel) (by decide +kernel)
theorem w_148 : (Cond.methodLink "java/util/NoSuchElementException" 13 ⟨"java/lang/RuntimeException", "<init>", "(Ljava/lang/String;)V"⟩) ∈ z_tbl := z_in 179 (by decide +kernel) (by decide +kernel)
theorem w_149 : (Cond.instanceMethod ⟨"java/lang/RuntimeException", "<init>", "(Ljava/lang/String;)V"⟩) ∈ z_tbl := z_in 180 (by decide +kernel) (by decide +kernel)
theorem w_150 : (Cond.code ⟨"java/lang/RuntimeException", "<init>", "(Ljava/lang/String;)V"⟩ prog_11_method_2_code 2 none) ∈ z_tbl := z_in 181 (by decide +kernel) (by decide +kernel)
theorem w_151 : (Cond.methodLink "java/lang/RuntimeException" 7 ⟨"java/lang/Exception", "<init>", "(Ljava/lang/String;)V"⟩) ∈ z_tbl := z_in 182 (by decide +kernel) (by decide +kernel)
theorem w_152 : (Cond.instanceMethod ⟨"java/lang/Exception", "<init>", "(Ljava/lang/String;)V"⟩) ∈ z_tbl := z_in 183 (by decide +kernel) (by decide +kernel)
theorem w_153 : (Cond.code ⟨"java/lang/Exception", "<init>", "(Ljava/lang/String;)V"⟩ prog_7_method_2_code 2 none) ∈ z_tbl := z_in 184 (by decide +kernel) (by decide +kernel)
theorem w_154 : (Cond.methodLink "java/lang/Exception" 7 ⟨"java/lang/Throwable", "<init>", "(Ljava/lang/String;)V"⟩) ∈ z_tbl := z_in 185 (by decide +kernel) (by decide +kernel)
theorem w_155 : (Cond.instanceMethod ⟨"java/lang/Throwable", "<init>", "(Ljava/lang/String;)V"⟩) ∈ z_tbl := z_in 186 (by decide +kernel) (by decide +kernel)
theorem w_156 : (Cond.code ⟨"java/lang/Throwable", "<init>", "(Ljava/lang/String;)V"⟩ prog_13_method_2_code 2 none) ∈ z_tbl := z_in 187 (by decide +kernel) (by decide +kernel)
theorem w_157 : (Cond.fieldLink "java/lang/Throwable" 198 "java/lang/Throwable" "backtrace" "Ljava/lang/Object;") ∈ z_tbl := z_in 188 (by decide +kernel) (by decide +kernel)
theorem w_158 : (Cond.fieldLink "java/lang/Throwable" 31 "java/lang/Throwable" "detailMessage" "Ljava/lang/String;") ∈ z_tbl := z_in 189 (by decide +kernel) (by decide +kernel)
theorem w_159 : (Cond.fieldLink "java/lang/Throwable" 7 "java/lang/Throwable" "cause" "Ljava/lang/Throwable;") ∈ z_tbl := z_in 190 (by decide +kernel) (by decide +kernel)
theorem w_160 : (Cond.fieldLink "java/lang/Throwable" 17 "java/lang/Throwable" "stackTrace" "[Ljava/lang/StackTraceElement;") ∈ z_tbl := z_in 191 (by decide +kernel) (by decide +kernel)
theorem w_161 : (Cond.fieldLink "java/lang/Throwable" 24 "java/lang/Throwable" "suppressedExceptions" "Ljava/util/List;") ∈ z_tbl := z_in 192 (by decide +kernel) (by decide +kernel)
theorem w_170 : (Cond.arrayClass FieldType.byte) ∈ z_tbl := z_in 201 (by decide +kernel) (by decide +kernel)
theorem w_171 : (Cond.classLink R_B 41 "java/lang/IllegalStateException") ∈ z_tbl := z_in 202 (by decide +kernel) (by decide +kernel)
theorem w_172 : (Cond.instantiable "java/lang/IllegalStateException" 6) ∈ z_tbl := z_in 203 (by decide +kernel) (by decide +kernel)
theorem w_174 : (Cond.selects "java/lang/IllegalStateException" ⟨"java/lang/Throwable", "fillInStackTrace", "(I)Ljava/lang/Throwable;"⟩ ⟨"java/lang/Throwable", "fillInStackTrace", "(I)Ljava/lang/Throwable;"⟩) ∈ z_tbl := z_in 205 (by decide +kernel) (by decide +kernel)
theorem w_181 : (Cond.methodLink R_B 45 ⟨"java/lang/IllegalStateException", "<init>", "(Ljava/lang/String;)V"⟩) ∈ z_tbl := z_in 212 (by decide +kernel) (by decide +kernel)
theorem w_182 : (Cond.instanceMethod ⟨"java/lang/IllegalStateException", "<init>", "(Ljava/lang/String;)V"⟩) ∈ z_tbl := z_in 213 (by decide +kernel) (by decide +kernel)
theorem w_183 : (Cond.code ⟨"java/lang/IllegalStateException", "<init>", "(Ljava/lang/String;)V"⟩ prog_9_method_2_code 2 none) ∈ z_tbl := z_in 214 (by decide +kernel) (by decide +kernel)
theorem w_184 : (Cond.methodLink "java/lang/IllegalStateException" 7 ⟨"java/lang/RuntimeException", "<init>", "(Ljava/lang/String;)V"⟩) ∈ z_tbl := z_in 215 (by decide +kernel) (by decide +kernel)
theorem w_187 : (Cond.methodLink R_L 84 y_L_shape) ∈ z_tbl := z_in 218 (by decide +kernel) (by decide +kernel)
theorem w_188 : (Cond.static y_L_shape) ∈ z_tbl := z_in 219 (by decide +kernel) (by decide +kernel)
theorem w_189 : (Cond.codeWith y_L_shape method_4_code 6 (some .int) [(0, 12, 15, 13), (0, 12, 19, 21), (0, 12, 23, 15)]) ∈ z_tbl := z_in 220 (by decide +kernel) (by decide +kernel)
theorem w_190 : (Cond.classLink R_L 21 "java/lang/IllegalArgumentException") ∈ z_tbl := z_in 221 (by decide +kernel) (by decide +kernel)
theorem w_191 : (Cond.methodLink R_L 17 y_B_shape) ∈ z_tbl := z_in 222 (by decide +kernel) (by decide +kernel)
theorem w_192 : (Cond.instanceMethod y_B_shape) ∈ z_tbl := z_in 223 (by decide +kernel) (by decide +kernel)
theorem w_193 : (Cond.selects R_B y_B_shape y_B_shape) ∈ z_tbl := z_in 224 (by decide +kernel) (by decide +kernel)
theorem w_194 : (Cond.code y_B_shape prog_1_method_3_code 4 (some .int)) ∈ z_tbl := z_in 225 (by decide +kernel) (by decide +kernel)
theorem w_195 : (Cond.methodLink R_B 48 y_B_requireSpan) ∈ z_tbl := z_in 226 (by decide +kernel) (by decide +kernel)
theorem w_196 : (Cond.static y_B_requireSpan) ∈ z_tbl := z_in 227 (by decide +kernel) (by decide +kernel)
theorem w_197 : (Cond.code y_B_requireSpan prog_1_method_25_code 2 none) ∈ z_tbl := z_in 228 (by decide +kernel) (by decide +kernel)
theorem w_198 : (Cond.methodLink R_B 99 y_B_requireDay) ∈ z_tbl := z_in 229 (by decide +kernel) (by decide +kernel)
theorem w_199 : (Cond.static y_B_requireDay) ∈ z_tbl := z_in 230 (by decide +kernel) (by decide +kernel)
theorem w_200 : (Cond.code y_B_requireDay prog_1_method_24_code 1 none) ∈ z_tbl := z_in 231 (by decide +kernel) (by decide +kernel)
theorem w_201 : (Cond.constant R_B 178 (100000)) ∈ z_tbl := z_in 232 (by decide +kernel) (by decide +kernel)
theorem w_202 : (Cond.classLink R_B 127 "java/lang/IllegalArgumentException") ∈ z_tbl := z_in 233 (by decide +kernel) (by decide +kernel)
theorem w_203 : (Cond.instantiable "java/lang/IllegalArgumentException" 6) ∈ z_tbl := z_in 234 (by decide +kernel) (by decide +kernel)
theorem w_205 : (Cond.selects "java/lang/IllegalArgumentException" ⟨"java/lang/Throwable", "fillInStackTrace", "(I)Ljava/lang/Throwable;"⟩ ⟨"java/lang/Throwable", "fillInStackTrace", "(I)Ljava/lang/Throwable;"⟩) ∈ z_tbl := z_in 236 (by decide +kernel) (by decide +kernel)
theorem w_212 : (Cond.methodLink R_B 131 ⟨"java/lang/IllegalArgumentException", "<init>", "(Ljava/lang/String;)V"⟩) ∈ z_tbl := z_in 243 (by decide +kernel) (by decide +kernel)
theorem w_213 : (Cond.instanceMethod ⟨"java/lang/IllegalArgumentException", "<init>", "(Ljava/lang/String;)V"⟩) ∈ z_tbl := z_in 244 (by decide +kernel) (by decide +kernel)
theorem w_214 : (Cond.code ⟨"java/lang/IllegalArgumentException", "<init>", "(Ljava/lang/String;)V"⟩ prog_8_method_2_code 2 none) ∈ z_tbl := z_in 245 (by decide +kernel) (by decide +kernel)
theorem w_215 : (Cond.methodLink "java/lang/IllegalArgumentException" 7 ⟨"java/lang/RuntimeException", "<init>", "(Ljava/lang/String;)V"⟩) ∈ z_tbl := z_in 246 (by decide +kernel) (by decide +kernel)
theorem w_220 : (Cond.instantiable R_S 9) ∈ z_tbl := z_in 251 (by decide +kernel) (by decide +kernel)
theorem w_221 : (Cond.methodLink R_B 57 y_S_init) ∈ z_tbl := z_in 252 (by decide +kernel) (by decide +kernel)
theorem w_222 : (Cond.instanceMethod y_S_init) ∈ z_tbl := z_in 253 (by decide +kernel) (by decide +kernel)
theorem w_223 : (Cond.code y_S_init prog_4_method_1_code 5 none) ∈ z_tbl := z_in 254 (by decide +kernel) (by decide +kernel)
theorem w_224 : (Cond.methodLink R_S 3 ⟨"java/lang/Object", "<init>", "()V"⟩) ∈ z_tbl := z_in 255 (by decide +kernel) (by decide +kernel)
theorem w_225 : (Cond.fieldLink R_S 9 R_S "number" "I") ∈ z_tbl := z_in 256 (by decide +kernel) (by decide +kernel)
theorem w_226 : (Cond.fieldLink R_B 106 R_S "number" "I") ∈ z_tbl := z_in 257 (by decide +kernel) (by decide +kernel)
theorem w_227 : (Cond.fieldLink R_S 15 R_S "owner" "I") ∈ z_tbl := z_in 258 (by decide +kernel) (by decide +kernel)
theorem w_228 : (Cond.fieldLink R_B 89 R_S "owner" "I") ∈ z_tbl := z_in 259 (by decide +kernel) (by decide +kernel)
theorem w_229 : (Cond.fieldLink R_S 18 R_S "from" "I") ∈ z_tbl := z_in 260 (by decide +kernel) (by decide +kernel)
theorem w_230 : (Cond.fieldLink R_S 21 R_S "to" "I") ∈ z_tbl := z_in 261 (by decide +kernel) (by decide +kernel)
theorem w_231 : (Cond.fieldLink R_S 24 R_S "xs" "[I") ∈ z_tbl := z_in 262 (by decide +kernel) (by decide +kernel)
theorem w_232 : (Cond.fieldLink R_S 28 R_S "ys" "[I") ∈ z_tbl := z_in 263 (by decide +kernel) (by decide +kernel)
theorem w_233 : (Cond.fieldLink R_S 34 R_S "count" "I") ∈ z_tbl := z_in 264 (by decide +kernel) (by decide +kernel)
theorem w_234 : (Cond.fieldLink R_S 31 R_S "closedAs" "I") ∈ z_tbl := z_in 265 (by decide +kernel) (by decide +kernel)
theorem w_235 : (Cond.fieldLink R_B 86 R_S "closedAs" "I") ∈ z_tbl := z_in 266 (by decide +kernel) (by decide +kernel)
theorem w_236 : (Cond.fieldLink R_S 41 R_S "partner" "LBorderDays$Shape;") ∈ z_tbl := z_in 267 (by decide +kernel) (by decide +kernel)
theorem w_237 : (Cond.fieldLink R_B 95 R_S "partner" "LBorderDays$Shape;") ∈ z_tbl := z_in 268 (by decide +kernel) (by decide +kernel)
theorem w_257 : (Cond.methodLink R_L 88 y_L_corner) ∈ z_tbl := z_in 288 (by decide +kernel) (by decide +kernel)
theorem w_258 : (Cond.static y_L_corner) ∈ z_tbl := z_in 289 (by decide +kernel) (by decide +kernel)
theorem w_259 : (Cond.codeWith y_L_corner method_5_code 6 (some .int) [(0, 12, 15, 13), (0, 12, 19, 21), (0, 12, 23, 15)]) ∈ z_tbl := z_in 290 (by decide +kernel) (by decide +kernel)
theorem w_260 : (Cond.methodLink R_L 23 y_B_corner) ∈ z_tbl := z_in 291 (by decide +kernel) (by decide +kernel)
theorem w_261 : (Cond.instanceMethod y_B_corner) ∈ z_tbl := z_in 292 (by decide +kernel) (by decide +kernel)
theorem w_262 : (Cond.selects R_B y_B_corner y_B_corner) ∈ z_tbl := z_in 293 (by decide +kernel) (by decide +kernel)
theorem w_263 : (Cond.code y_B_corner prog_1_method_4_code 5 (some .int)) ∈ z_tbl := z_in 294 (by decide +kernel) (by decide +kernel)
theorem w_264 : (Cond.methodLink R_B 60 y_B_shapeNumbered) ∈ z_tbl := z_in 295 (by decide +kernel) (by decide +kernel)
theorem w_266 : (Cond.instanceMethod y_B_shapeNumbered) ∈ z_tbl := z_in 297 (by decide +kernel) (by decide +kernel)
theorem w_267 : (Cond.code y_B_shapeNumbered prog_1_method_18_code 2 (some (FieldType.object R_S))) ∈ z_tbl := z_in 298 (by decide +kernel) (by decide +kernel)
theorem w_269 : (Cond.methodLink R_B 64 y_B_requirePoint) ∈ z_tbl := z_in 300 (by decide +kernel) (by decide +kernel)
theorem w_270 : (Cond.static y_B_requirePoint) ∈ z_tbl := z_in 301 (by decide +kernel) (by decide +kernel)
theorem w_271 : (Cond.code y_B_requirePoint prog_1_method_26_code 2 none) ∈ z_tbl := z_in 302 (by decide +kernel) (by decide +kernel)
theorem w_273 : (Cond.methodLink R_B 67 y_S_isClosed) ∈ z_tbl := z_in 304 (by decide +kernel) (by decide +kernel)
theorem w_274 : (Cond.instanceMethod y_S_isClosed) ∈ z_tbl := z_in 305 (by decide +kernel) (by decide +kernel)
theorem w_275 : (Cond.selects R_S y_S_isClosed y_S_isClosed) ∈ z_tbl := z_in 306 (by decide +kernel) (by decide +kernel)
theorem w_276 : (Cond.code y_S_isClosed prog_4_method_2_code 1 (some .boolean)) ∈ z_tbl := z_in 307 (by decide +kernel) (by decide +kernel)
theorem w_277 : (Cond.methodLink R_B 71 y_S_isFull) ∈ z_tbl := z_in 308 (by decide +kernel) (by decide +kernel)
theorem w_278 : (Cond.instanceMethod y_S_isFull) ∈ z_tbl := z_in 309 (by decide +kernel) (by decide +kernel)
theorem w_279 : (Cond.selects R_S y_S_isFull y_S_isFull) ∈ z_tbl := z_in 310 (by decide +kernel) (by decide +kernel)
theorem w_280 : (Cond.code y_S_isFull prog_4_method_3_code 1 (some .boolean)) ∈ z_tbl := z_in 311 (by decide +kernel) (by decide +kernel)
theorem w_282 : (Cond.methodLink R_B 76 y_S_addCorner) ∈ z_tbl := z_in 313 (by decide +kernel) (by decide +kernel)
theorem w_283 : (Cond.instanceMethod y_S_addCorner) ∈ z_tbl := z_in 314 (by decide +kernel) (by decide +kernel)
theorem w_284 : (Cond.selects R_S y_S_addCorner y_S_addCorner) ∈ z_tbl := z_in 315 (by decide +kernel) (by decide +kernel)
theorem w_285 : (Cond.code y_S_addCorner prog_4_method_5_code 3 (some .int)) ∈ z_tbl := z_in 316 (by decide +kernel) (by decide +kernel)
theorem w_286 : (Cond.methodLink R_L 91 y_L_close) ∈ z_tbl := z_in 317 (by decide +kernel) (by decide +kernel)
theorem w_287 : (Cond.static y_L_close) ∈ z_tbl := z_in 318 (by decide +kernel) (by decide +kernel)
theorem w_288 : (Cond.codeWith y_L_close method_6_code 4 (some .int) [(0, 16, 19, 13)]) ∈ z_tbl := z_in 319 (by decide +kernel) (by decide +kernel)
theorem w_289 : (Cond.methodLink R_L 26 y_B_close) ∈ z_tbl := z_in 320 (by decide +kernel) (by decide +kernel)
theorem w_290 : (Cond.instanceMethod y_B_close) ∈ z_tbl := z_in 321 (by decide +kernel) (by decide +kernel)
theorem w_291 : (Cond.selects R_B y_B_close y_B_close) ∈ z_tbl := z_in 322 (by decide +kernel) (by decide +kernel)
theorem w_292 : (Cond.code y_B_close prog_1_method_5_code 3 (some .boolean)) ∈ z_tbl := z_in 323 (by decide +kernel) (by decide +kernel)
theorem w_293 : (Cond.methodLink R_B 80 y_S_canClose) ∈ z_tbl := z_in 324 (by decide +kernel) (by decide +kernel)
theorem w_294 : (Cond.instanceMethod y_S_canClose) ∈ z_tbl := z_in 325 (by decide +kernel) (by decide +kernel)
theorem w_295 : (Cond.selects R_S y_S_canClose y_S_canClose) ∈ z_tbl := z_in 326 (by decide +kernel) (by decide +kernel)
theorem w_296 : (Cond.code y_S_canClose prog_4_method_7_code 3 (some .boolean)) ∈ z_tbl := z_in 327 (by decide +kernel) (by decide +kernel)
theorem w_297 : (Cond.methodLink R_S 37 y_S_isClosed) ∈ z_tbl := z_in 328 (by decide +kernel) (by decide +kernel)
theorem w_298 : (Cond.methodLink R_S 45 y_S_sameCorner) ∈ z_tbl := z_in 329 (by decide +kernel) (by decide +kernel)
theorem w_300 : (Cond.instanceMethod y_S_sameCorner) ∈ z_tbl := z_in 331 (by decide +kernel) (by decide +kernel)
theorem w_301 : (Cond.code y_S_sameCorner prog_4_method_14_code 3 (some .boolean)) ∈ z_tbl := z_in 332 (by decide +kernel) (by decide +kernel)
theorem w_302 : (Cond.methodLink R_S 49 y_S_linesClash) ∈ z_tbl := z_in 333 (by decide +kernel) (by decide +kernel)
theorem w_304 : (Cond.instanceMethod y_S_linesClash) ∈ z_tbl := z_in 335 (by decide +kernel) (by decide +kernel)
theorem w_305 : (Cond.code y_S_linesClash prog_4_method_15_code 3 (some .boolean)) ∈ z_tbl := z_in 336 (by decide +kernel) (by decide +kernel)
theorem w_306 : (Cond.methodLink R_S 62 y_S_next) ∈ z_tbl := z_in 337 (by decide +kernel) (by decide +kernel)
theorem w_308 : (Cond.instanceMethod y_S_next) ∈ z_tbl := z_in 339 (by decide +kernel) (by decide +kernel)
theorem w_309 : (Cond.code y_S_next prog_4_method_13_code 2 (some .int)) ∈ z_tbl := z_in 340 (by decide +kernel) (by decide +kernel)
theorem w_310 : (Cond.methodLink R_S 84 y_S_foldsBack) ∈ z_tbl := z_in 341 (by decide +kernel) (by decide +kernel)
theorem w_312 : (Cond.instanceMethod y_S_foldsBack) ∈ z_tbl := z_in 343 (by decide +kernel) (by decide +kernel)
theorem w_313 : (Cond.code y_S_foldsBack prog_4_method_16_code 3 (some .boolean)) ∈ z_tbl := z_in 344 (by decide +kernel) (by decide +kernel)
theorem w_314 : (Cond.methodLink R_S 87 y_S_hasCorner) ∈ z_tbl := z_in 345 (by decide +kernel) (by decide +kernel)
theorem w_316 : (Cond.instanceMethod y_S_hasCorner) ∈ z_tbl := z_in 347 (by decide +kernel) (by decide +kernel)
theorem w_317 : (Cond.code y_S_hasCorner prog_4_method_17_code 3 (some .boolean)) ∈ z_tbl := z_in 348 (by decide +kernel) (by decide +kernel)
theorem w_318 : (Cond.methodLink R_S 52 y_S_isOnLine) ∈ z_tbl := z_in 349 (by decide +kernel) (by decide +kernel)
theorem w_320 : (Cond.instanceMethod y_S_isOnLine) ∈ z_tbl := z_in 351 (by decide +kernel) (by decide +kernel)
theorem w_321 : (Cond.code y_S_isOnLine prog_4_method_19_code 5 (some .boolean)) ∈ z_tbl := z_in 352 (by decide +kernel) (by decide +kernel)
theorem w_323 : (Cond.static y_B_isBetween) ∈ z_tbl := z_in 354 (by decide +kernel) (by decide +kernel)
theorem w_324 : (Cond.code y_B_isBetween prog_1_method_28_code 3 (some .boolean)) ∈ z_tbl := z_in 355 (by decide +kernel) (by decide +kernel)
theorem w_325 : (Cond.methodLink R_B 185 y_J_min_II) ∈ z_tbl := z_in 356 (by decide +kernel) (by decide +kernel)
theorem w_326 : (Cond.static y_J_min_II) ∈ z_tbl := z_in 357 (by decide +kernel) (by decide +kernel)
theorem w_327 : (Cond.code y_J_min_II prog_10_method_69_code 2 (some .int)) ∈ z_tbl := z_in 358 (by decide +kernel) (by decide +kernel)
theorem w_328 : (Cond.methodLink R_B 188 y_J_max_II) ∈ z_tbl := z_in 359 (by decide +kernel) (by decide +kernel)
theorem w_329 : (Cond.static y_J_max_II) ∈ z_tbl := z_in 360 (by decide +kernel) (by decide +kernel)
theorem w_330 : (Cond.code y_J_max_II prog_10_method_65_code 2 (some .int)) ∈ z_tbl := z_in 361 (by decide +kernel) (by decide +kernel)
theorem w_331 : (Cond.methodLink R_S 93 y_S_side) ∈ z_tbl := z_in 362 (by decide +kernel) (by decide +kernel)
theorem w_333 : (Cond.instanceMethod y_S_side) ∈ z_tbl := z_in 364 (by decide +kernel) (by decide +kernel)
theorem w_334 : (Cond.code y_S_side prog_4_method_21_code 5 (some .long)) ∈ z_tbl := z_in 365 (by decide +kernel) (by decide +kernel)
theorem w_336 : (Cond.static y_B_turn) ∈ z_tbl := z_in 367 (by decide +kernel) (by decide +kernel)
theorem w_337 : (Cond.code y_B_turn prog_1_method_27_code 6 (some .long)) ∈ z_tbl := z_in 368 (by decide +kernel) (by decide +kernel)
theorem w_338 : (Cond.methodLink R_S 90 y_S_parts) ∈ z_tbl := z_in 369 (by decide +kernel) (by decide +kernel)
theorem w_340 : (Cond.instanceMethod y_S_parts) ∈ z_tbl := z_in 371 (by decide +kernel) (by decide +kernel)
theorem w_341 : (Cond.code y_S_parts prog_4_method_18_code 7 (some .boolean)) ∈ z_tbl := z_in 372 (by decide +kernel) (by decide +kernel)
theorem w_342 : (Cond.methodLink R_L 94 y_L_unsure) ∈ z_tbl := z_in 373 (by decide +kernel) (by decide +kernel)
theorem w_343 : (Cond.static y_L_unsure) ∈ z_tbl := z_in 374 (by decide +kernel) (by decide +kernel)
theorem w_344 : (Cond.codeWith y_L_unsure method_7_code 5 (some .int) [(0, 17, 20, 13)]) ∈ z_tbl := z_in 375 (by decide +kernel) (by decide +kernel)
theorem w_345 : (Cond.methodLink R_L 30 y_B_unsure) ∈ z_tbl := z_in 376 (by decide +kernel) (by decide +kernel)
theorem w_346 : (Cond.instanceMethod y_B_unsure) ∈ z_tbl := z_in 377 (by decide +kernel) (by decide +kernel)
theorem w_347 : (Cond.selects R_B y_B_unsure y_B_unsure) ∈ z_tbl := z_in 378 (by decide +kernel) (by decide +kernel)
theorem w_348 : (Cond.code y_B_unsure prog_1_method_6_code 5 (some .boolean)) ∈ z_tbl := z_in 379 (by decide +kernel) (by decide +kernel)
theorem w_349 : (Cond.methodLink R_B 92 y_S_leavePartner) ∈ z_tbl := z_in 380 (by decide +kernel) (by decide +kernel)
theorem w_350 : (Cond.instanceMethod y_S_leavePartner) ∈ z_tbl := z_in 381 (by decide +kernel) (by decide +kernel)
theorem w_351 : (Cond.selects R_S y_S_leavePartner y_S_leavePartner) ∈ z_tbl := z_in 382 (by decide +kernel) (by decide +kernel)
theorem w_352 : (Cond.code y_S_leavePartner prog_4_method_6_code 1 none) ∈ z_tbl := z_in 383 (by decide +kernel) (by decide +kernel)
theorem w_353 : (Cond.methodLink R_L 98 y_L_force) ∈ z_tbl := z_in 384 (by decide +kernel) (by decide +kernel)
theorem w_354 : (Cond.static y_L_force) ∈ z_tbl := z_in 385 (by decide +kernel) (by decide +kernel)
theorem w_355 : (Cond.codeWith y_L_force method_8_code 5 (some .int) [(0, 10, 13, 13), (0, 10, 17, 21)]) ∈ z_tbl := z_in 386 (by decide +kernel) (by decide +kernel)
theorem w_356 : (Cond.methodLink R_L 34 y_B_force) ∈ z_tbl := z_in 387 (by decide +kernel) (by decide +kernel)
theorem w_357 : (Cond.instanceMethod y_B_force) ∈ z_tbl := z_in 388 (by decide +kernel) (by decide +kernel)
theorem w_358 : (Cond.selects R_B y_B_force y_B_force) ∈ z_tbl := z_in 389 (by decide +kernel) (by decide +kernel)
theorem w_359 : (Cond.code y_B_force prog_1_method_7_code 4 (some .int)) ∈ z_tbl := z_in 390 (by decide +kernel) (by decide +kernel)
theorem w_360 : (Cond.methodLink R_B 102 y_B_shapeOn) ∈ z_tbl := z_in 391 (by decide +kernel) (by decide +kernel)
theorem w_362 : (Cond.instanceMethod y_B_shapeOn) ∈ z_tbl := z_in 393 (by decide +kernel) (by decide +kernel)
theorem w_363 : (Cond.code y_B_shapeOn prog_1_method_19_code 6 (some (FieldType.object R_S))) ∈ z_tbl := z_in 394 (by decide +kernel) (by decide +kernel)
theorem w_364 : (Cond.methodLink R_B 165 y_S_holdsFor) ∈ z_tbl := z_in 395 (by decide +kernel) (by decide +kernel)
theorem w_365 : (Cond.instanceMethod y_S_holdsFor) ∈ z_tbl := z_in 396 (by decide +kernel) (by decide +kernel)
theorem w_366 : (Cond.selects R_S y_S_holdsFor y_S_holdsFor) ∈ z_tbl := z_in 397 (by decide +kernel) (by decide +kernel)
theorem w_367 : (Cond.code y_S_holdsFor prog_4_method_4_code 3 (some .boolean)) ∈ z_tbl := z_in 398 (by decide +kernel) (by decide +kernel)
theorem w_368 : (Cond.methodLink R_L 101 y_L_inside) ∈ z_tbl := z_in 399 (by decide +kernel) (by decide +kernel)
theorem w_369 : (Cond.static y_L_inside) ∈ z_tbl := z_in 400 (by decide +kernel) (by decide +kernel)
theorem w_370 : (Cond.codeWith y_L_inside method_9_code 7 (some .int) [(0, 14, 17, 13), (0, 14, 21, 21)]) ∈ z_tbl := z_in 401 (by decide +kernel) (by decide +kernel)
theorem w_371 : (Cond.methodLink R_L 38 y_B_inside) ∈ z_tbl := z_in 402 (by decide +kernel) (by decide +kernel)
theorem w_372 : (Cond.instanceMethod y_B_inside) ∈ z_tbl := z_in 403 (by decide +kernel) (by decide +kernel)
theorem w_373 : (Cond.selects R_B y_B_inside y_B_inside) ∈ z_tbl := z_in 404 (by decide +kernel) (by decide +kernel)
theorem w_374 : (Cond.code y_B_inside prog_1_method_8_code 8 (some .int)) ∈ z_tbl := z_in 405 (by decide +kernel) (by decide +kernel)
theorem w_375 : (Cond.methodLink R_B 109 y_B_requireRank) ∈ z_tbl := z_in 406 (by decide +kernel) (by decide +kernel)
theorem w_376 : (Cond.static y_B_requireRank) ∈ z_tbl := z_in 407 (by decide +kernel) (by decide +kernel)
theorem w_377 : (Cond.code y_B_requireRank prog_1_method_22_code 1 none) ∈ z_tbl := z_in 408 (by decide +kernel) (by decide +kernel)
theorem w_379 : (Cond.methodLink R_B 112 y_S_contains) ∈ z_tbl := z_in 410 (by decide +kernel) (by decide +kernel)
theorem w_380 : (Cond.instanceMethod y_S_contains) ∈ z_tbl := z_in 411 (by decide +kernel) (by decide +kernel)
theorem w_381 : (Cond.selects R_S y_S_contains y_S_contains) ∈ z_tbl := z_in 412 (by decide +kernel) (by decide +kernel)
theorem w_382 : (Cond.code y_S_contains prog_4_method_8_code 5 (some .boolean)) ∈ z_tbl := z_in 413 (by decide +kernel) (by decide +kernel)
theorem w_383 : (Cond.methodLink R_S 56 y_S_isLineRightOf) ∈ z_tbl := z_in 414 (by decide +kernel) (by decide +kernel)
theorem w_385 : (Cond.instanceMethod y_S_isLineRightOf) ∈ z_tbl := z_in 416 (by decide +kernel) (by decide +kernel)
theorem w_386 : (Cond.code y_S_isLineRightOf prog_4_method_20_code 5 (some .boolean)) ∈ z_tbl := z_in 417 (by decide +kernel) (by decide +kernel)
theorem w_387 : (Cond.methodLink R_L 105 y_L_threeWay) ∈ z_tbl := z_in 418 (by decide +kernel) (by decide +kernel)
theorem w_388 : (Cond.static y_L_threeWay) ∈ z_tbl := z_in 419 (by decide +kernel) (by decide +kernel)
theorem w_389 : (Cond.codeWith y_L_threeWay method_10_code 7 (some .int) [(0, 14, 17, 13), (0, 14, 21, 21)]) ∈ z_tbl := z_in 420 (by decide +kernel) (by decide +kernel)
theorem w_390 : (Cond.methodLink R_L 42 y_B_threeWay) ∈ z_tbl := z_in 421 (by decide +kernel) (by decide +kernel)
theorem w_391 : (Cond.instanceMethod y_B_threeWay) ∈ z_tbl := z_in 422 (by decide +kernel) (by decide +kernel)
theorem w_392 : (Cond.selects R_B y_B_threeWay y_B_threeWay) ∈ z_tbl := z_in 423 (by decide +kernel) (by decide +kernel)
theorem w_393 : (Cond.code y_B_threeWay prog_1_method_9_code 7 (some .int)) ∈ z_tbl := z_in 424 (by decide +kernel) (by decide +kernel)
theorem w_394 : (Cond.methodLink R_L 108 y_L_area) ∈ z_tbl := z_in 425 (by decide +kernel) (by decide +kernel)
theorem w_395 : (Cond.static y_L_area) ∈ z_tbl := z_in 426 (by decide +kernel) (by decide +kernel)
theorem w_396 : (Cond.codeWith y_L_area method_11_code 5 (some .int) [(0, 10, 13, 13), (0, 10, 17, 21)]) ∈ z_tbl := z_in 427 (by decide +kernel) (by decide +kernel)
theorem w_397 : (Cond.methodLink R_L 45 y_B_area) ∈ z_tbl := z_in 428 (by decide +kernel) (by decide +kernel)
theorem w_398 : (Cond.instanceMethod y_B_area) ∈ z_tbl := z_in 429 (by decide +kernel) (by decide +kernel)
theorem w_399 : (Cond.selects R_B y_B_area y_B_area) ∈ z_tbl := z_in 430 (by decide +kernel) (by decide +kernel)
theorem w_400 : (Cond.code y_B_area prog_1_method_10_code 4 (some .int)) ∈ z_tbl := z_in 431 (by decide +kernel) (by decide +kernel)
theorem w_401 : (Cond.methodLink R_B 116 y_S_doubledArea) ∈ z_tbl := z_in 432 (by decide +kernel) (by decide +kernel)
theorem w_402 : (Cond.instanceMethod y_S_doubledArea) ∈ z_tbl := z_in 433 (by decide +kernel) (by decide +kernel)
theorem w_403 : (Cond.selects R_S y_S_doubledArea y_S_doubledArea) ∈ z_tbl := z_in 434 (by decide +kernel) (by decide +kernel)
theorem w_404 : (Cond.code y_S_doubledArea prog_4_method_10_code 4 (some .int)) ∈ z_tbl := z_in 435 (by decide +kernel) (by decide +kernel)
theorem w_405 : (Cond.methodLink R_S 70 y_J_abs_J) ∈ z_tbl := z_in 436 (by decide +kernel) (by decide +kernel)
theorem w_406 : (Cond.static y_J_abs_J) ∈ z_tbl := z_in 437 (by decide +kernel) (by decide +kernel)
theorem w_407 : (Cond.code y_J_abs_J prog_10_method_61_code 2 (some .long)) ∈ z_tbl := z_in 438 (by decide +kernel) (by decide +kernel)
theorem w_408 : (Cond.methodLink R_L 111 y_L_misfit) ∈ z_tbl := z_in 439 (by decide +kernel) (by decide +kernel)
theorem w_409 : (Cond.static y_L_misfit) ∈ z_tbl := z_in 440 (by decide +kernel) (by decide +kernel)
theorem w_410 : (Cond.codeWith y_L_misfit method_12_code 5 (some .int) [(0, 10, 13, 13), (0, 10, 17, 21)]) ∈ z_tbl := z_in 441 (by decide +kernel) (by decide +kernel)
theorem w_411 : (Cond.methodLink R_L 48 y_B_misfit) ∈ z_tbl := z_in 442 (by decide +kernel) (by decide +kernel)
theorem w_412 : (Cond.instanceMethod y_B_misfit) ∈ z_tbl := z_in 443 (by decide +kernel) (by decide +kernel)
theorem w_413 : (Cond.selects R_B y_B_misfit y_B_misfit) ∈ z_tbl := z_in 444 (by decide +kernel) (by decide +kernel)
theorem w_414 : (Cond.code y_B_misfit prog_1_method_11_code 5 (some .int)) ∈ z_tbl := z_in 445 (by decide +kernel) (by decide +kernel)
theorem w_415 : (Cond.methodLink R_B 120 y_B_misfitsOn) ∈ z_tbl := z_in 446 (by decide +kernel) (by decide +kernel)
theorem w_417 : (Cond.instanceMethod y_B_misfitsOn) ∈ z_tbl := z_in 448 (by decide +kernel) (by decide +kernel)
theorem w_418 : (Cond.code y_B_misfitsOn prog_1_method_20_code 6 (some .boolean)) ∈ z_tbl := z_in 449 (by decide +kernel) (by decide +kernel)
theorem w_419 : (Cond.methodLink R_B 168 y_S_containsCornersOf) ∈ z_tbl := z_in 450 (by decide +kernel) (by decide +kernel)
theorem w_420 : (Cond.instanceMethod y_S_containsCornersOf) ∈ z_tbl := z_in 451 (by decide +kernel) (by decide +kernel)
theorem w_421 : (Cond.selects R_S y_S_containsCornersOf y_S_containsCornersOf) ∈ z_tbl := z_in 452 (by decide +kernel) (by decide +kernel)
theorem w_422 : (Cond.code y_S_containsCornersOf prog_4_method_9_code 3 (some .boolean)) ∈ z_tbl := z_in 453 (by decide +kernel) (by decide +kernel)
theorem w_423 : (Cond.methodLink R_S 59 y_S_contains) ∈ z_tbl := z_in 454 (by decide +kernel) (by decide +kernel)
theorem w_424 : (Cond.methodLink R_L 114 y_L_distance) ∈ z_tbl := z_in 455 (by decide +kernel) (by decide +kernel)
theorem w_425 : (Cond.static y_L_distance) ∈ z_tbl := z_in 456 (by decide +kernel) (by decide +kernel)
theorem w_426 : (Cond.codeWith y_L_distance method_13_code 6 (some .int) [(0, 12, 15, 13), (0, 12, 19, 21)]) ∈ z_tbl := z_in 457 (by decide +kernel) (by decide +kernel)
theorem w_427 : (Cond.methodLink R_L 51 y_B_distance) ∈ z_tbl := z_in 458 (by decide +kernel) (by decide +kernel)
theorem w_428 : (Cond.instanceMethod y_B_distance) ∈ z_tbl := z_in 459 (by decide +kernel) (by decide +kernel)
theorem w_429 : (Cond.selects R_B y_B_distance y_B_distance) ∈ z_tbl := z_in 460 (by decide +kernel) (by decide +kernel)
theorem w_430 : (Cond.code y_B_distance prog_1_method_12_code 6 (some .int)) ∈ z_tbl := z_in 461 (by decide +kernel) (by decide +kernel)
theorem w_431 : (Cond.methodLink R_B 123 y_S_leastSquareTo) ∈ z_tbl := z_in 462 (by decide +kernel) (by decide +kernel)
theorem w_432 : (Cond.instanceMethod y_S_leastSquareTo) ∈ z_tbl := z_in 463 (by decide +kernel) (by decide +kernel)
theorem w_433 : (Cond.selects R_S y_S_leastSquareTo y_S_leastSquareTo) ∈ z_tbl := z_in 464 (by decide +kernel) (by decide +kernel)
theorem w_434 : (Cond.code y_S_leastSquareTo prog_4_method_11_code 5 (some .int)) ∈ z_tbl := z_in 465 (by decide +kernel) (by decide +kernel)
theorem w_435 : (Cond.methodLink R_S 76 y_S_squareBetween) ∈ z_tbl := z_in 466 (by decide +kernel) (by decide +kernel)
theorem w_437 : (Cond.instanceMethod y_S_squareBetween) ∈ z_tbl := z_in 468 (by decide +kernel) (by decide +kernel)
theorem w_438 : (Cond.code y_S_squareBetween prog_4_method_12_code 6 (some .int)) ∈ z_tbl := z_in 469 (by decide +kernel) (by decide +kernel)
theorem w_439 : (Cond.methodLink R_S 80 y_J_min_II) ∈ z_tbl := z_in 470 (by decide +kernel) (by decide +kernel)
theorem w_440 : (Cond.methodLink R_L 117 y_L_name) ∈ z_tbl := z_in 471 (by decide +kernel) (by decide +kernel)
theorem w_441 : (Cond.static y_L_name) ∈ z_tbl := z_in 472 (by decide +kernel) (by decide +kernel)
theorem w_442 : (Cond.codeWith y_L_name method_14_code 6 (some .int) [(0, 9, 12, 13), (0, 9, 16, 21), (0, 9, 20, 15)]) ∈ z_tbl := z_in 473 (by decide +kernel) (by decide +kernel)
theorem w_443 : (Cond.methodLink R_L 54 y_B_name) ∈ z_tbl := z_in 474 (by decide +kernel) (by decide +kernel)
theorem w_444 : (Cond.instanceMethod y_B_name) ∈ z_tbl := z_in 475 (by decide +kernel) (by decide +kernel)
theorem w_445 : (Cond.selects R_B y_B_name y_B_name) ∈ z_tbl := z_in 476 (by decide +kernel) (by decide +kernel)
theorem w_446 : (Cond.code y_B_name prog_1_method_13_code 5 none) ∈ z_tbl := z_in 477 (by decide +kernel) (by decide +kernel)
theorem w_448 : (Cond.methodLink R_B 132 y_N_isFull) ∈ z_tbl := z_in 479 (by decide +kernel) (by decide +kernel)
theorem w_449 : (Cond.instanceMethod y_N_isFull) ∈ z_tbl := z_in 480 (by decide +kernel) (by decide +kernel)
theorem w_450 : (Cond.selects R_N y_N_isFull y_N_isFull) ∈ z_tbl := z_in 481 (by decide +kernel) (by decide +kernel)
theorem w_451 : (Cond.code y_N_isFull prog_2_method_2_code 1 (some .boolean)) ∈ z_tbl := z_in 482 (by decide +kernel) (by decide +kernel)
theorem w_453 : (Cond.methodLink R_B 135 y_N_add) ∈ z_tbl := z_in 484 (by decide +kernel) (by decide +kernel)
theorem w_454 : (Cond.instanceMethod y_N_add) ∈ z_tbl := z_in 485 (by decide +kernel) (by decide +kernel)
theorem w_455 : (Cond.selects R_N y_N_add y_N_add) ∈ z_tbl := z_in 486 (by decide +kernel) (by decide +kernel)
theorem w_456 : (Cond.code y_N_add prog_2_method_3_code 5 none) ∈ z_tbl := z_in 487 (by decide +kernel) (by decide +kernel)
theorem w_457 : (Cond.methodLink R_L 121 y_L_nameOn) ∈ z_tbl := z_in 488 (by decide +kernel) (by decide +kernel)
theorem w_458 : (Cond.static y_L_nameOn) ∈ z_tbl := z_in 489 (by decide +kernel) (by decide +kernel)
theorem w_459 : (Cond.codeWith y_L_nameOn method_15_code 5 (some .int) [(0, 10, 13, 13), (0, 10, 17, 21)]) ∈ z_tbl := z_in 490 (by decide +kernel) (by decide +kernel)
theorem w_460 : (Cond.methodLink R_L 58 y_B_nameOn) ∈ z_tbl := z_in 491 (by decide +kernel) (by decide +kernel)
theorem w_461 : (Cond.instanceMethod y_B_nameOn) ∈ z_tbl := z_in 492 (by decide +kernel) (by decide +kernel)
theorem w_462 : (Cond.selects R_B y_B_nameOn y_B_nameOn) ∈ z_tbl := z_in 493 (by decide +kernel) (by decide +kernel)
theorem w_463 : (Cond.code y_B_nameOn prog_1_method_14_code 3 (some .int)) ∈ z_tbl := z_in 494 (by decide +kernel) (by decide +kernel)
theorem w_464 : (Cond.methodLink R_B 138 y_N_find) ∈ z_tbl := z_in 495 (by decide +kernel) (by decide +kernel)
theorem w_465 : (Cond.instanceMethod y_N_find) ∈ z_tbl := z_in 496 (by decide +kernel) (by decide +kernel)
theorem w_466 : (Cond.selects R_N y_N_find y_N_find) ∈ z_tbl := z_in 497 (by decide +kernel) (by decide +kernel)
theorem w_467 : (Cond.code y_N_find prog_2_method_4_code 4 (some .int)) ∈ z_tbl := z_in 498 (by decide +kernel) (by decide +kernel)
theorem w_468 : (Cond.methodLink R_L 124 y_L_mark) ∈ z_tbl := z_in 499 (by decide +kernel) (by decide +kernel)
theorem w_469 : (Cond.static y_L_mark) ∈ z_tbl := z_in 500 (by decide +kernel) (by decide +kernel)
theorem w_470 : (Cond.codeWith y_L_mark method_16_code 7 (some .int) [(0, 14, 17, 21), (0, 14, 21, 15)]) ∈ z_tbl := z_in 501 (by decide +kernel) (by decide +kernel)
theorem w_471 : (Cond.methodLink R_L 61 y_B_mark) ∈ z_tbl := z_in 502 (by decide +kernel) (by decide +kernel)
theorem w_472 : (Cond.instanceMethod y_B_mark) ∈ z_tbl := z_in 503 (by decide +kernel) (by decide +kernel)
theorem w_473 : (Cond.selects R_B y_B_mark y_B_mark) ∈ z_tbl := z_in 504 (by decide +kernel) (by decide +kernel)
theorem w_474 : (Cond.code y_B_mark prog_1_method_15_code 5 (some .int)) ∈ z_tbl := z_in 505 (by decide +kernel) (by decide +kernel)
theorem w_475 : (Cond.methodLink R_B 141 y_O_isFull) ∈ z_tbl := z_in 506 (by decide +kernel) (by decide +kernel)
theorem w_476 : (Cond.instanceMethod y_O_isFull) ∈ z_tbl := z_in 507 (by decide +kernel) (by decide +kernel)
theorem w_477 : (Cond.selects R_O y_O_isFull y_O_isFull) ∈ z_tbl := z_in 508 (by decide +kernel) (by decide +kernel)
theorem w_478 : (Cond.code y_O_isFull prog_3_method_2_code 1 (some .boolean)) ∈ z_tbl := z_in 509 (by decide +kernel) (by decide +kernel)
theorem w_480 : (Cond.methodLink R_B 144 y_O_add) ∈ z_tbl := z_in 511 (by decide +kernel) (by decide +kernel)
theorem w_481 : (Cond.instanceMethod y_O_add) ∈ z_tbl := z_in 512 (by decide +kernel) (by decide +kernel)
theorem w_482 : (Cond.selects R_O y_O_add y_O_add) ∈ z_tbl := z_in 513 (by decide +kernel) (by decide +kernel)
theorem w_483 : (Cond.code y_O_add prog_3_method_3_code 5 (some .int)) ∈ z_tbl := z_in 514 (by decide +kernel) (by decide +kernel)
theorem w_484 : (Cond.methodLink R_L 127 y_L_placed) ∈ z_tbl := z_in 515 (by decide +kernel) (by decide +kernel)
theorem w_485 : (Cond.static y_L_placed) ∈ z_tbl := z_in 516 (by decide +kernel) (by decide +kernel)
theorem w_486 : (Cond.codeWith y_L_placed method_17_code 6 (some .int) [(0, 12, 15, 13), (0, 12, 19, 21), (0, 12, 23, 15)]) ∈ z_tbl := z_in 517 (by decide +kernel) (by decide +kernel)
theorem w_487 : (Cond.methodLink R_L 64 y_B_placed) ∈ z_tbl := z_in 518 (by decide +kernel) (by decide +kernel)
theorem w_488 : (Cond.instanceMethod y_B_placed) ∈ z_tbl := z_in 519 (by decide +kernel) (by decide +kernel)
theorem w_489 : (Cond.selects R_B y_B_placed y_B_placed) ∈ z_tbl := z_in 520 (by decide +kernel) (by decide +kernel)
theorem w_490 : (Cond.code y_B_placed prog_1_method_16_code 4 (some .int)) ∈ z_tbl := z_in 521 (by decide +kernel) (by decide +kernel)
theorem w_491 : (Cond.methodLink R_B 147 y_B_requireAxis) ∈ z_tbl := z_in 522 (by decide +kernel) (by decide +kernel)
theorem w_492 : (Cond.static y_B_requireAxis) ∈ z_tbl := z_in 523 (by decide +kernel) (by decide +kernel)
theorem w_493 : (Cond.code y_B_requireAxis prog_1_method_23_code 1 none) ∈ z_tbl := z_in 524 (by decide +kernel) (by decide +kernel)
theorem w_495 : (Cond.methodLink R_B 150 y_O_find) ∈ z_tbl := z_in 526 (by decide +kernel) (by decide +kernel)
theorem w_496 : (Cond.instanceMethod y_O_find) ∈ z_tbl := z_in 527 (by decide +kernel) (by decide +kernel)
theorem w_497 : (Cond.selects R_O y_O_find y_O_find) ∈ z_tbl := z_in 528 (by decide +kernel) (by decide +kernel)
theorem w_498 : (Cond.code y_O_find prog_3_method_4_code 8 (some .int)) ∈ z_tbl := z_in 529 (by decide +kernel) (by decide +kernel)
theorem w_499 : (Cond.methodLink R_O 28 y_O_haveBetween) ∈ z_tbl := z_in 530 (by decide +kernel) (by decide +kernel)
theorem w_501 : (Cond.instanceMethod y_O_haveBetween) ∈ z_tbl := z_in 532 (by decide +kernel) (by decide +kernel)
theorem w_502 : (Cond.code y_O_haveBetween prog_3_method_5_code 14 (some .boolean)) ∈ z_tbl := z_in 533 (by decide +kernel) (by decide +kernel)
theorem w_504 : (Cond.methodLink R_O 47 y_O_share) ∈ z_tbl := z_in 535 (by decide +kernel) (by decide +kernel)
theorem w_506 : (Cond.instanceMethod y_O_share) ∈ z_tbl := z_in 537 (by decide +kernel) (by decide +kernel)
theorem w_507 : (Cond.code y_O_share prog_3_method_7_code 5 (some .long)) ∈ z_tbl := z_in 538 (by decide +kernel) (by decide +kernel)
theorem w_508 : (Cond.methodLink R_O 32 y_O_valueBetween) ∈ z_tbl := z_in 539 (by decide +kernel) (by decide +kernel)
theorem w_510 : (Cond.instanceMethod y_O_valueBetween) ∈ z_tbl := z_in 541 (by decide +kernel) (by decide +kernel)
theorem w_511 : (Cond.code y_O_valueBetween prog_3_method_6_code 13 (some .int)) ∈ z_tbl := z_in 542 (by decide +kernel) (by decide +kernel)
theorem w_512 : (Cond.methodLink R_O 51 y_O_roundedQuotient) ∈ z_tbl := z_in 543 (by decide +kernel) (by decide +kernel)
theorem w_513 : (Cond.static y_O_roundedQuotient) ∈ z_tbl := z_in 544 (by decide +kernel) (by decide +kernel)
theorem w_514 : (Cond.code y_O_roundedQuotient prog_3_method_8_code 8 (some .int)) ∈ z_tbl := z_in 545 (by decide +kernel) (by decide +kernel)
theorem w_515 : (Cond.methodLink R_O 55 y_J_abs_J) ∈ z_tbl := z_in 546 (by decide +kernel) (by decide +kernel)
theorem w_516 : (Cond.constantLong R_O 61 (2)) ∈ z_tbl := z_in 547 (by decide +kernel) (by decide +kernel)
theorem w_517 : (Cond.methodLink R_O 63 y_J_floorDiv_JJ) ∈ z_tbl := z_in 548 (by decide +kernel) (by decide +kernel)
theorem w_518 : (Cond.static y_J_floorDiv_JJ) ∈ z_tbl := z_in 549 (by decide +kernel) (by decide +kernel)
theorem w_519 : (Cond.code y_J_floorDiv_JJ prog_10_method_49_code 6 (some .long)) ∈ z_tbl := z_in 550 (by decide +kernel) (by decide +kernel)
theorem w_520 : (Cond.classLink R_O 36 "java/lang/IllegalStateException") ∈ z_tbl := z_in 551 (by decide +kernel) (by decide +kernel)
theorem w_522 : (Cond.methodLink R_O 40 ⟨"java/lang/IllegalStateException", "<init>", "(Ljava/lang/String;)V"⟩) ∈ z_tbl := z_in 553 (by decide +kernel) (by decide +kernel)
theorem w_523 : (Cond.methodLink R_L 130 y_L_masked) ∈ z_tbl := z_in 554 (by decide +kernel) (by decide +kernel)
theorem w_524 : (Cond.static y_L_masked) ∈ z_tbl := z_in 555 (by decide +kernel) (by decide +kernel)
theorem w_525 : (Cond.codeWith y_L_masked method_18_code 7 (some .int) [(0, 14, 17, 13), (0, 14, 21, 21)]) ∈ z_tbl := z_in 556 (by decide +kernel) (by decide +kernel)
theorem w_526 : (Cond.methodLink R_L 67 y_B_masked) ∈ z_tbl := z_in 557 (by decide +kernel) (by decide +kernel)
theorem w_527 : (Cond.instanceMethod y_B_masked) ∈ z_tbl := z_in 558 (by decide +kernel) (by decide +kernel)
theorem w_528 : (Cond.selects R_B y_B_masked y_B_masked) ∈ z_tbl := z_in 559 (by decide +kernel) (by decide +kernel)
theorem w_529 : (Cond.code y_B_masked prog_1_method_17_code 5 (some .int)) ∈ z_tbl := z_in 560 (by decide +kernel) (by decide +kernel)
theorem w_531 : (Cond.methodLink R_B 155 y_J_floorDiv_II) ∈ z_tbl := z_in 562 (by decide +kernel) (by decide +kernel)
theorem w_532 : (Cond.static y_J_floorDiv_II) ∈ z_tbl := z_in 563 (by decide +kernel) (by decide +kernel)
theorem w_533 : (Cond.code y_J_floorDiv_II prog_10_method_47_code 3 (some .int)) ∈ z_tbl := z_in 564 (by decide +kernel) (by decide +kernel)
theorem w_534 : (Cond.classLink R_L 71 R_M) ∈ z_tbl := z_in 565 (by decide +kernel) (by decide +kernel)
theorem w_535 : (Cond.instantiable R_M 23) ∈ z_tbl := z_in 566 (by decide +kernel) (by decide +kernel)
theorem w_536 : (Cond.methodLink R_L 73 y_M_init) ∈ z_tbl := z_in 567 (by decide +kernel) (by decide +kernel)
theorem w_537 : (Cond.instanceMethod y_M_init) ∈ z_tbl := z_in 568 (by decide +kernel) (by decide +kernel)
theorem w_538 : (Cond.code y_M_init prog_6_method_1_code 1 none) ∈ z_tbl := z_in 569 (by decide +kernel) (by decide +kernel)
theorem w_539 : (Cond.methodLink R_M 1 ⟨"java/lang/Object", "<init>", "()V"⟩) ∈ z_tbl := z_in 570 (by decide +kernel) (by decide +kernel)
theorem w_540 : (Cond.fieldLink R_M 61 R_M "thrown" "I") ∈ z_tbl := z_in 571 (by decide +kernel) (by decide +kernel)
theorem w_541 : (Cond.fieldLink R_M 66 R_M "places" "I") ∈ z_tbl := z_in 572 (by decide +kernel) (by decide +kernel)
theorem w_542 : (Cond.fieldLink R_M 7 R_M "parents" "[I") ∈ z_tbl := z_in 573 (by decide +kernel) (by decide +kernel)
theorem w_543 : (Cond.fieldLink R_M 69 R_M "shapes" "I") ∈ z_tbl := z_in 574 (by decide +kernel) (by decide +kernel)
theorem w_544 : (Cond.fieldLink R_M 13 R_M "owners" "[I") ∈ z_tbl := z_in 575 (by decide +kernel) (by decide +kernel)
theorem w_545 : (Cond.fieldLink R_M 16 R_M "froms" "[I") ∈ z_tbl := z_in 576 (by decide +kernel) (by decide +kernel)
theorem w_546 : (Cond.fieldLink R_M 19 R_M "tos" "[I") ∈ z_tbl := z_in 577 (by decide +kernel) (by decide +kernel)
theorem w_547 : (Cond.fieldLink R_M 22 R_M "many" "[I") ∈ z_tbl := z_in 578 (by decide +kernel) (by decide +kernel)
theorem w_548 : (Cond.fieldLink R_M 25 R_M "xs" "[I") ∈ z_tbl := z_in 579 (by decide +kernel) (by decide +kernel)
theorem w_549 : (Cond.fieldLink R_M 28 R_M "ys" "[I") ∈ z_tbl := z_in 580 (by decide +kernel) (by decide +kernel)
theorem w_550 : (Cond.fieldLink R_M 31 R_M "closed" "[I") ∈ z_tbl := z_in 581 (by decide +kernel) (by decide +kernel)
theorem w_551 : (Cond.fieldLink R_M 116 R_M "closings" "I") ∈ z_tbl := z_in 582 (by decide +kernel) (by decide +kernel)
theorem w_552 : (Cond.fieldLink R_M 34 R_M "partners" "[I") ∈ z_tbl := z_in 583 (by decide +kernel) (by decide +kernel)
theorem w_553 : (Cond.fieldLink R_M 132 R_M "names" "I") ∈ z_tbl := z_in 584 (by decide +kernel) (by decide +kernel)
theorem w_554 : (Cond.fieldLink R_M 37 R_M "named" "[I") ∈ z_tbl := z_in 585 (by decide +kernel) (by decide +kernel)
theorem w_555 : (Cond.fieldLink R_M 40 R_M "numbers" "[I") ∈ z_tbl := z_in 586 (by decide +kernel) (by decide +kernel)
theorem w_556 : (Cond.fieldLink R_M 43 R_M "nameFroms" "[I") ∈ z_tbl := z_in 587 (by decide +kernel) (by decide +kernel)
theorem w_557 : (Cond.fieldLink R_M 46 R_M "nameTos" "[I") ∈ z_tbl := z_in 588 (by decide +kernel) (by decide +kernel)
theorem w_558 : (Cond.fieldLink R_M 135 R_M "marks" "I") ∈ z_tbl := z_in 589 (by decide +kernel) (by decide +kernel)
theorem w_559 : (Cond.fieldLink R_M 49 R_M "mapXs" "[I") ∈ z_tbl := z_in 590 (by decide +kernel) (by decide +kernel)
theorem w_560 : (Cond.fieldLink R_M 52 R_M "mapYs" "[I") ∈ z_tbl := z_in 591 (by decide +kernel) (by decide +kernel)
theorem w_561 : (Cond.fieldLink R_M 55 R_M "markXs" "[I") ∈ z_tbl := z_in 592 (by decide +kernel) (by decide +kernel)
theorem w_562 : (Cond.fieldLink R_M 58 R_M "markYs" "[I") ∈ z_tbl := z_in 593 (by decide +kernel) (by decide +kernel)
theorem w_610 : (Cond.methodLink R_L 80 y_M_thrown) ∈ z_tbl := z_in 641 (by decide +kernel) (by decide +kernel)
theorem w_611 : (Cond.instanceMethod y_M_thrown) ∈ z_tbl := z_in 642 (by decide +kernel) (by decide +kernel)
theorem w_612 : (Cond.selects R_M y_M_thrown y_M_thrown) ∈ z_tbl := z_in 643 (by decide +kernel) (by decide +kernel)
theorem w_613 : (Cond.code y_M_thrown prog_6_method_2_code 1 (some .int)) ∈ z_tbl := z_in 644 (by decide +kernel) (by decide +kernel)
theorem w_614 : (Cond.methodLink R_L 79 y_M_place) ∈ z_tbl := z_in 645 (by decide +kernel) (by decide +kernel)
theorem w_615 : (Cond.instanceMethod y_M_place) ∈ z_tbl := z_in 646 (by decide +kernel) (by decide +kernel)
theorem w_616 : (Cond.selects R_M y_M_place y_M_place) ∈ z_tbl := z_in 647 (by decide +kernel) (by decide +kernel)
theorem w_617 : (Cond.code y_M_place prog_6_method_8_code 2 (some .int)) ∈ z_tbl := z_in 648 (by decide +kernel) (by decide +kernel)
theorem w_618 : (Cond.methodLink R_M 72 y_M_isPlace) ∈ z_tbl := z_in 649 (by decide +kernel) (by decide +kernel)
theorem w_620 : (Cond.instanceMethod y_M_isPlace) ∈ z_tbl := z_in 651 (by decide +kernel) (by decide +kernel)
theorem w_621 : (Cond.code y_M_isPlace prog_6_method_6_code 2 (some .boolean)) ∈ z_tbl := z_in 652 (by decide +kernel) (by decide +kernel)
theorem w_622 : (Cond.methodLink R_M 76 y_M_goes) ∈ z_tbl := z_in 653 (by decide +kernel) (by decide +kernel)
theorem w_624 : (Cond.instanceMethod y_M_goes) ∈ z_tbl := z_in 655 (by decide +kernel) (by decide +kernel)
theorem w_625 : (Cond.code y_M_goes prog_6_method_3_code 4 (some .boolean)) ∈ z_tbl := z_in 656 (by decide +kernel) (by decide +kernel)
theorem w_626 : (Cond.methodLink R_L 87 y_M_shape) ∈ z_tbl := z_in 657 (by decide +kernel) (by decide +kernel)
theorem w_627 : (Cond.instanceMethod y_M_shape) ∈ z_tbl := z_in 658 (by decide +kernel) (by decide +kernel)
theorem w_628 : (Cond.selects R_M y_M_shape y_M_shape) ∈ z_tbl := z_in 659 (by decide +kernel) (by decide +kernel)
theorem w_629 : (Cond.code y_M_shape prog_6_method_9_code 4 (some .int)) ∈ z_tbl := z_in 660 (by decide +kernel) (by decide +kernel)
theorem w_630 : (Cond.methodLink R_M 80 y_M_isDay) ∈ z_tbl := z_in 661 (by decide +kernel) (by decide +kernel)
theorem w_631 : (Cond.static y_M_isDay) ∈ z_tbl := z_in 662 (by decide +kernel) (by decide +kernel)
theorem w_632 : (Cond.code y_M_isDay prog_6_method_5_code 1 (some .boolean)) ∈ z_tbl := z_in 663 (by decide +kernel) (by decide +kernel)
theorem w_633 : (Cond.constant R_M 65 (100000)) ∈ z_tbl := z_in 664 (by decide +kernel) (by decide +kernel)
theorem w_634 : (Cond.methodLink R_L 90 y_M_corner) ∈ z_tbl := z_in 665 (by decide +kernel) (by decide +kernel)
theorem w_635 : (Cond.instanceMethod y_M_corner) ∈ z_tbl := z_in 666 (by decide +kernel) (by decide +kernel)
theorem w_636 : (Cond.selects R_M y_M_corner y_M_corner) ∈ z_tbl := z_in 667 (by decide +kernel) (by decide +kernel)
theorem w_637 : (Cond.code y_M_corner prog_6_method_10_code 5 (some .int)) ∈ z_tbl := z_in 668 (by decide +kernel) (by decide +kernel)
theorem w_638 : (Cond.methodLink R_M 83 y_M_isShape) ∈ z_tbl := z_in 669 (by decide +kernel) (by decide +kernel)
theorem w_640 : (Cond.instanceMethod y_M_isShape) ∈ z_tbl := z_in 671 (by decide +kernel) (by decide +kernel)
theorem w_641 : (Cond.code y_M_isShape prog_6_method_7_code 2 (some .boolean)) ∈ z_tbl := z_in 672 (by decide +kernel) (by decide +kernel)
theorem w_642 : (Cond.methodLink R_M 86 y_M_isPoint) ∈ z_tbl := z_in 673 (by decide +kernel) (by decide +kernel)
theorem w_643 : (Cond.static y_M_isPoint) ∈ z_tbl := z_in 674 (by decide +kernel) (by decide +kernel)
theorem w_644 : (Cond.code y_M_isPoint prog_6_method_4_code 2 (some .boolean)) ∈ z_tbl := z_in 675 (by decide +kernel) (by decide +kernel)
theorem w_645 : (Cond.methodLink R_L 93 y_M_close) ∈ z_tbl := z_in 676 (by decide +kernel) (by decide +kernel)
theorem w_646 : (Cond.instanceMethod y_M_close) ∈ z_tbl := z_in 677 (by decide +kernel) (by decide +kernel)
theorem w_647 : (Cond.selects R_M y_M_close y_M_close) ∈ z_tbl := z_in 678 (by decide +kernel) (by decide +kernel)
theorem w_648 : (Cond.code y_M_close prog_6_method_18_code 2 (some .boolean)) ∈ z_tbl := z_in 679 (by decide +kernel) (by decide +kernel)
theorem w_649 : (Cond.methodLink R_M 113 y_M_canClose) ∈ z_tbl := z_in 680 (by decide +kernel) (by decide +kernel)
theorem w_651 : (Cond.instanceMethod y_M_canClose) ∈ z_tbl := z_in 682 (by decide +kernel) (by decide +kernel)
theorem w_652 : (Cond.code y_M_canClose prog_6_method_17_code 10 (some .boolean)) ∈ z_tbl := z_in 683 (by decide +kernel) (by decide +kernel)
theorem w_653 : (Cond.methodLink R_M 106 y_M_after) ∈ z_tbl := z_in 684 (by decide +kernel) (by decide +kernel)
theorem w_655 : (Cond.instanceMethod y_M_after) ∈ z_tbl := z_in 686 (by decide +kernel) (by decide +kernel)
theorem w_656 : (Cond.code y_M_after prog_6_method_16_code 3 (some .int)) ∈ z_tbl := z_in 687 (by decide +kernel) (by decide +kernel)
theorem w_657 : (Cond.methodLink R_M 98 y_M_isOn) ∈ z_tbl := z_in 688 (by decide +kernel) (by decide +kernel)
theorem w_659 : (Cond.instanceMethod y_M_isOn) ∈ z_tbl := z_in 690 (by decide +kernel) (by decide +kernel)
theorem w_660 : (Cond.code y_M_isOn prog_6_method_14_code 5 (some .boolean)) ∈ z_tbl := z_in 691 (by decide +kernel) (by decide +kernel)
theorem w_661 : (Cond.methodLink R_M 90 y_M_side) ∈ z_tbl := z_in 692 (by decide +kernel) (by decide +kernel)
theorem w_662 : (Cond.static y_M_side) ∈ z_tbl := z_in 693 (by decide +kernel) (by decide +kernel)
theorem w_663 : (Cond.code y_M_side prog_6_method_11_code 6 (some .int)) ∈ z_tbl := z_in 694 (by decide +kernel) (by decide +kernel)
theorem w_664 : (Cond.methodLink R_M 94 y_M_between) ∈ z_tbl := z_in 695 (by decide +kernel) (by decide +kernel)
theorem w_665 : (Cond.static y_M_between) ∈ z_tbl := z_in 696 (by decide +kernel) (by decide +kernel)
theorem w_666 : (Cond.code y_M_between prog_6_method_13_code 3 (some .boolean)) ∈ z_tbl := z_in 697 (by decide +kernel) (by decide +kernel)
theorem w_667 : (Cond.methodLink R_M 110 y_M_meet) ∈ z_tbl := z_in 698 (by decide +kernel) (by decide +kernel)
theorem w_669 : (Cond.instanceMethod y_M_meet) ∈ z_tbl := z_in 700 (by decide +kernel) (by decide +kernel)
theorem w_670 : (Cond.code y_M_meet prog_6_method_15_code 7 (some .boolean)) ∈ z_tbl := z_in 701 (by decide +kernel) (by decide +kernel)
theorem w_671 : (Cond.methodLink R_M 102 y_M_sign) ∈ z_tbl := z_in 702 (by decide +kernel) (by decide +kernel)
theorem w_672 : (Cond.static y_M_sign) ∈ z_tbl := z_in 703 (by decide +kernel) (by decide +kernel)
theorem w_673 : (Cond.code y_M_sign prog_6_method_12_code 1 (some .int)) ∈ z_tbl := z_in 704 (by decide +kernel) (by decide +kernel)
theorem w_674 : (Cond.methodLink R_L 97 y_M_unsure) ∈ z_tbl := z_in 705 (by decide +kernel) (by decide +kernel)
theorem w_675 : (Cond.instanceMethod y_M_unsure) ∈ z_tbl := z_in 706 (by decide +kernel) (by decide +kernel)
theorem w_676 : (Cond.selects R_M y_M_unsure y_M_unsure) ∈ z_tbl := z_in 707 (by decide +kernel) (by decide +kernel)
theorem w_677 : (Cond.code y_M_unsure prog_6_method_20_code 4 (some .boolean)) ∈ z_tbl := z_in 708 (by decide +kernel) (by decide +kernel)
theorem w_678 : (Cond.methodLink R_M 119 y_M_free) ∈ z_tbl := z_in 709 (by decide +kernel) (by decide +kernel)
theorem w_680 : (Cond.instanceMethod y_M_free) ∈ z_tbl := z_in 711 (by decide +kernel) (by decide +kernel)
theorem w_681 : (Cond.code y_M_free prog_6_method_19_code 2 none) ∈ z_tbl := z_in 712 (by decide +kernel) (by decide +kernel)
theorem w_682 : (Cond.methodLink R_L 100 y_M_force) ∈ z_tbl := z_in 713 (by decide +kernel) (by decide +kernel)
theorem w_683 : (Cond.instanceMethod y_M_force) ∈ z_tbl := z_in 714 (by decide +kernel) (by decide +kernel)
theorem w_684 : (Cond.selects R_M y_M_force y_M_force) ∈ z_tbl := z_in 715 (by decide +kernel) (by decide +kernel)
theorem w_685 : (Cond.code y_M_force prog_6_method_22_code 3 (some .int)) ∈ z_tbl := z_in 716 (by decide +kernel) (by decide +kernel)
theorem w_686 : (Cond.methodLink R_M 123 y_M_forced) ∈ z_tbl := z_in 717 (by decide +kernel) (by decide +kernel)
theorem w_688 : (Cond.instanceMethod y_M_forced) ∈ z_tbl := z_in 719 (by decide +kernel) (by decide +kernel)
theorem w_689 : (Cond.code y_M_forced prog_6_method_21_code 6 (some .int)) ∈ z_tbl := z_in 720 (by decide +kernel) (by decide +kernel)
theorem w_690 : (Cond.methodLink R_L 104 y_M_inside) ∈ z_tbl := z_in 721 (by decide +kernel) (by decide +kernel)
theorem w_691 : (Cond.instanceMethod y_M_inside) ∈ z_tbl := z_in 722 (by decide +kernel) (by decide +kernel)
theorem w_692 : (Cond.selects R_M y_M_inside y_M_inside) ∈ z_tbl := z_in 723 (by decide +kernel) (by decide +kernel)
theorem w_693 : (Cond.code y_M_inside prog_6_method_24_code 8 (some .int)) ∈ z_tbl := z_in 724 (by decide +kernel) (by decide +kernel)
theorem w_694 : (Cond.methodLink R_M 126 y_M_isIn) ∈ z_tbl := z_in 725 (by decide +kernel) (by decide +kernel)
theorem w_696 : (Cond.instanceMethod y_M_isIn) ∈ z_tbl := z_in 727 (by decide +kernel) (by decide +kernel)
theorem w_697 : (Cond.code y_M_isIn prog_6_method_23_code 10 (some .boolean)) ∈ z_tbl := z_in 728 (by decide +kernel) (by decide +kernel)
theorem w_698 : (Cond.methodLink R_L 107 y_M_threeWay) ∈ z_tbl := z_in 729 (by decide +kernel) (by decide +kernel)
theorem w_699 : (Cond.instanceMethod y_M_threeWay) ∈ z_tbl := z_in 730 (by decide +kernel) (by decide +kernel)
theorem w_700 : (Cond.selects R_M y_M_threeWay y_M_threeWay) ∈ z_tbl := z_in 731 (by decide +kernel) (by decide +kernel)
theorem w_701 : (Cond.code y_M_threeWay prog_6_method_25_code 8 (some .int)) ∈ z_tbl := z_in 732 (by decide +kernel) (by decide +kernel)
theorem w_702 : (Cond.methodLink R_L 110 y_M_area) ∈ z_tbl := z_in 733 (by decide +kernel) (by decide +kernel)
theorem w_703 : (Cond.instanceMethod y_M_area) ∈ z_tbl := z_in 734 (by decide +kernel) (by decide +kernel)
theorem w_704 : (Cond.selects R_M y_M_area y_M_area) ∈ z_tbl := z_in 735 (by decide +kernel) (by decide +kernel)
theorem w_705 : (Cond.code y_M_area prog_6_method_26_code 9 (some .int)) ∈ z_tbl := z_in 736 (by decide +kernel) (by decide +kernel)
theorem w_706 : (Cond.methodLink R_L 113 y_M_misfit) ∈ z_tbl := z_in 737 (by decide +kernel) (by decide +kernel)
theorem w_707 : (Cond.instanceMethod y_M_misfit) ∈ z_tbl := z_in 738 (by decide +kernel) (by decide +kernel)
theorem w_708 : (Cond.selects R_M y_M_misfit y_M_misfit) ∈ z_tbl := z_in 739 (by decide +kernel) (by decide +kernel)
theorem w_709 : (Cond.code y_M_misfit prog_6_method_28_code 5 (some .int)) ∈ z_tbl := z_in 740 (by decide +kernel) (by decide +kernel)
theorem w_710 : (Cond.methodLink R_M 129 y_M_misfits) ∈ z_tbl := z_in 741 (by decide +kernel) (by decide +kernel)
theorem w_712 : (Cond.instanceMethod y_M_misfits) ∈ z_tbl := z_in 743 (by decide +kernel) (by decide +kernel)
theorem w_713 : (Cond.code y_M_misfits prog_6_method_27_code 7 (some .boolean)) ∈ z_tbl := z_in 744 (by decide +kernel) (by decide +kernel)
theorem w_714 : (Cond.methodLink R_L 116 y_M_distance) ∈ z_tbl := z_in 745 (by decide +kernel) (by decide +kernel)
theorem w_715 : (Cond.instanceMethod y_M_distance) ∈ z_tbl := z_in 746 (by decide +kernel) (by decide +kernel)
theorem w_716 : (Cond.selects R_M y_M_distance y_M_distance) ∈ z_tbl := z_in 747 (by decide +kernel) (by decide +kernel)
theorem w_717 : (Cond.code y_M_distance prog_6_method_29_code 12 (some .int)) ∈ z_tbl := z_in 748 (by decide +kernel) (by decide +kernel)
theorem w_718 : (Cond.methodLink R_L 120 y_M_name) ∈ z_tbl := z_in 749 (by decide +kernel) (by decide +kernel)
theorem w_719 : (Cond.instanceMethod y_M_name) ∈ z_tbl := z_in 750 (by decide +kernel) (by decide +kernel)
theorem w_720 : (Cond.selects R_M y_M_name y_M_name) ∈ z_tbl := z_in 751 (by decide +kernel) (by decide +kernel)
theorem w_721 : (Cond.code y_M_name prog_6_method_30_code 5 none) ∈ z_tbl := z_in 752 (by decide +kernel) (by decide +kernel)
theorem w_722 : (Cond.methodLink R_L 123 y_M_nameOn) ∈ z_tbl := z_in 753 (by decide +kernel) (by decide +kernel)
theorem w_723 : (Cond.instanceMethod y_M_nameOn) ∈ z_tbl := z_in 754 (by decide +kernel) (by decide +kernel)
theorem w_724 : (Cond.selects R_M y_M_nameOn y_M_nameOn) ∈ z_tbl := z_in 755 (by decide +kernel) (by decide +kernel)
theorem w_725 : (Cond.code y_M_nameOn prog_6_method_31_code 5 (some .int)) ∈ z_tbl := z_in 756 (by decide +kernel) (by decide +kernel)
theorem w_726 : (Cond.methodLink R_L 126 y_M_mark) ∈ z_tbl := z_in 757 (by decide +kernel) (by decide +kernel)
theorem w_727 : (Cond.instanceMethod y_M_mark) ∈ z_tbl := z_in 758 (by decide +kernel) (by decide +kernel)
theorem w_728 : (Cond.selects R_M y_M_mark y_M_mark) ∈ z_tbl := z_in 759 (by decide +kernel) (by decide +kernel)
theorem w_729 : (Cond.code y_M_mark prog_6_method_32_code 5 (some .int)) ∈ z_tbl := z_in 760 (by decide +kernel) (by decide +kernel)
theorem w_730 : (Cond.methodLink R_L 129 y_M_placed) ∈ z_tbl := z_in 761 (by decide +kernel) (by decide +kernel)
theorem w_731 : (Cond.instanceMethod y_M_placed) ∈ z_tbl := z_in 762 (by decide +kernel) (by decide +kernel)
theorem w_732 : (Cond.selects R_M y_M_placed y_M_placed) ∈ z_tbl := z_in 763 (by decide +kernel) (by decide +kernel)
theorem w_733 : (Cond.code y_M_placed prog_6_method_36_code 17 (some .int)) ∈ z_tbl := z_in 764 (by decide +kernel) (by decide +kernel)
theorem w_734 : (Cond.methodLink R_M 144 y_M_holds) ∈ z_tbl := z_in 765 (by decide +kernel) (by decide +kernel)
theorem w_736 : (Cond.instanceMethod y_M_holds) ∈ z_tbl := z_in 767 (by decide +kernel) (by decide +kernel)
theorem w_737 : (Cond.code y_M_holds prog_6_method_34_code 7 (some .boolean)) ∈ z_tbl := z_in 768 (by decide +kernel) (by decide +kernel)
theorem w_738 : (Cond.methodLink R_M 138 y_M_part) ∈ z_tbl := z_in 769 (by decide +kernel) (by decide +kernel)
theorem w_740 : (Cond.instanceMethod y_M_part) ∈ z_tbl := z_in 771 (by decide +kernel) (by decide +kernel)
theorem w_741 : (Cond.code y_M_part prog_6_method_33_code 5 (some .int)) ∈ z_tbl := z_in 772 (by decide +kernel) (by decide +kernel)
theorem w_742 : (Cond.methodLink R_M 148 y_M_nearest) ∈ z_tbl := z_in 773 (by decide +kernel) (by decide +kernel)
theorem w_743 : (Cond.static y_M_nearest) ∈ z_tbl := z_in 774 (by decide +kernel) (by decide +kernel)
theorem w_744 : (Cond.code y_M_nearest prog_6_method_35_code 12 (some .int)) ∈ z_tbl := z_in 775 (by decide +kernel) (by decide +kernel)
theorem w_745 : (Cond.constantLong R_M 142 (2)) ∈ z_tbl := z_in 776 (by decide +kernel) (by decide +kernel)
theorem w_746 : (Cond.methodLink R_L 132 y_M_masked) ∈ z_tbl := z_in 777 (by decide +kernel) (by decide +kernel)
theorem w_747 : (Cond.instanceMethod y_M_masked) ∈ z_tbl := z_in 778 (by decide +kernel) (by decide +kernel)
theorem w_748 : (Cond.selects R_M y_M_masked y_M_masked) ∈ z_tbl := z_in 779 (by decide +kernel) (by decide +kernel)
theorem w_749 : (Cond.code y_M_masked prog_6_method_37_code 7 (some .int)) ∈ z_tbl := z_in 780 (by decide +kernel) (by decide +kernel)
theorem w_750 : (Cond.arrayClass FieldType.long) ∈ z_tbl := z_in 781 (by decide +kernel) (by decide +kernel)
theorem wp_0 : Cond.selects R_B y_B_requirePlace y_B_requirePlace ∈ z_tbl := z_in 0 (by decide +kernel) (by decide +kernel)
theorem wp_2 : Cond.selects R_B y_B_shapeNumbered y_B_shapeNumbered ∈ z_tbl := z_in 2 (by decide +kernel) (by decide +kernel)
theorem wp_3 : Cond.selects R_S y_S_sameCorner y_S_sameCorner ∈ z_tbl := z_in 3 (by decide +kernel) (by decide +kernel)
theorem wp_4 : Cond.selects R_S y_S_linesClash y_S_linesClash ∈ z_tbl := z_in 4 (by decide +kernel) (by decide +kernel)
theorem wp_5 : Cond.selects R_S y_S_next y_S_next ∈ z_tbl := z_in 5 (by decide +kernel) (by decide +kernel)
theorem wp_6 : Cond.selects R_S y_S_foldsBack y_S_foldsBack ∈ z_tbl := z_in 6 (by decide +kernel) (by decide +kernel)
theorem wp_7 : Cond.selects R_S y_S_hasCorner y_S_hasCorner ∈ z_tbl := z_in 7 (by decide +kernel) (by decide +kernel)
theorem wp_8 : Cond.selects R_S y_S_isOnLine y_S_isOnLine ∈ z_tbl := z_in 8 (by decide +kernel) (by decide +kernel)
theorem wp_9 : Cond.selects R_S y_S_side y_S_side ∈ z_tbl := z_in 9 (by decide +kernel) (by decide +kernel)
theorem wp_10 : Cond.selects R_S y_S_parts y_S_parts ∈ z_tbl := z_in 10 (by decide +kernel) (by decide +kernel)
theorem wp_11 : Cond.selects R_B y_B_shapeOn y_B_shapeOn ∈ z_tbl := z_in 11 (by decide +kernel) (by decide +kernel)
theorem wp_12 : Cond.selects R_S y_S_isLineRightOf y_S_isLineRightOf ∈ z_tbl := z_in 12 (by decide +kernel) (by decide +kernel)
theorem wp_13 : Cond.selects R_B y_B_misfitsOn y_B_misfitsOn ∈ z_tbl := z_in 13 (by decide +kernel) (by decide +kernel)
theorem wp_14 : Cond.selects R_S y_S_squareBetween y_S_squareBetween ∈ z_tbl := z_in 14 (by decide +kernel) (by decide +kernel)
theorem wp_15 : Cond.selects R_O y_O_haveBetween y_O_haveBetween ∈ z_tbl := z_in 15 (by decide +kernel) (by decide +kernel)
theorem wp_16 : Cond.selects R_O y_O_share y_O_share ∈ z_tbl := z_in 16 (by decide +kernel) (by decide +kernel)
theorem wp_17 : Cond.selects R_O y_O_valueBetween y_O_valueBetween ∈ z_tbl := z_in 17 (by decide +kernel) (by decide +kernel)
theorem wp_18 : Cond.selects R_M y_M_isPlace y_M_isPlace ∈ z_tbl := z_in 18 (by decide +kernel) (by decide +kernel)
theorem wp_19 : Cond.selects R_M y_M_goes y_M_goes ∈ z_tbl := z_in 19 (by decide +kernel) (by decide +kernel)
theorem wp_20 : Cond.selects R_M y_M_isShape y_M_isShape ∈ z_tbl := z_in 20 (by decide +kernel) (by decide +kernel)
theorem wp_21 : Cond.selects R_M y_M_canClose y_M_canClose ∈ z_tbl := z_in 21 (by decide +kernel) (by decide +kernel)
theorem wp_22 : Cond.selects R_M y_M_after y_M_after ∈ z_tbl := z_in 22 (by decide +kernel) (by decide +kernel)
theorem wp_23 : Cond.selects R_M y_M_isOn y_M_isOn ∈ z_tbl := z_in 23 (by decide +kernel) (by decide +kernel)
theorem wp_24 : Cond.selects R_M y_M_meet y_M_meet ∈ z_tbl := z_in 24 (by decide +kernel) (by decide +kernel)
theorem wp_25 : Cond.selects R_M y_M_free y_M_free ∈ z_tbl := z_in 25 (by decide +kernel) (by decide +kernel)
theorem wp_26 : Cond.selects R_M y_M_forced y_M_forced ∈ z_tbl := z_in 26 (by decide +kernel) (by decide +kernel)
theorem wp_27 : Cond.selects R_M y_M_isIn y_M_isIn ∈ z_tbl := z_in 27 (by decide +kernel) (by decide +kernel)
theorem wp_28 : Cond.selects R_M y_M_misfits y_M_misfits ∈ z_tbl := z_in 28 (by decide +kernel) (by decide +kernel)
theorem wp_29 : Cond.selects R_M y_M_holds y_M_holds ∈ z_tbl := z_in 29 (by decide +kernel) (by decide +kernel)
theorem wp_30 : Cond.selects R_M y_M_part y_M_part ∈ z_tbl := z_in 30 (by decide +kernel) (by decide +kernel)
end
section
theorem d_B_turn_0 : decode b_B_turn 0 = .ok (.iload_n 2, 1) := by decide +kernel
theorem d_B_turn_1 : decode b_B_turn 1 = .ok (.iload_n 0, 1) := by decide +kernel
theorem d_B_turn_2 : decode b_B_turn 2 = .ok (.isub, 1) := by decide +kernel
theorem d_B_turn_3 : decode b_B_turn 3 = .ok (.i2l, 1) := by decide +kernel
theorem d_B_turn_4 : decode b_B_turn 4 = .ok (.iload 5, 2) := by decide +kernel
theorem d_B_turn_6 : decode b_B_turn 6 = .ok (.iload_n 1, 1) := by decide +kernel
theorem d_B_turn_7 : decode b_B_turn 7 = .ok (.isub, 1) := by decide +kernel
theorem d_B_turn_8 : decode b_B_turn 8 = .ok (.i2l, 1) := by decide +kernel
theorem d_B_turn_9 : decode b_B_turn 9 = .ok (.lmul, 1) := by decide +kernel
theorem d_B_turn_10 : decode b_B_turn 10 = .ok (.iload_n 3, 1) := by decide +kernel
theorem d_B_turn_11 : decode b_B_turn 11 = .ok (.iload_n 1, 1) := by decide +kernel
theorem d_B_turn_12 : decode b_B_turn 12 = .ok (.isub, 1) := by decide +kernel
theorem d_B_turn_13 : decode b_B_turn 13 = .ok (.i2l, 1) := by decide +kernel
theorem d_B_turn_14 : decode b_B_turn 14 = .ok (.iload 4, 2) := by decide +kernel
theorem d_B_turn_16 : decode b_B_turn 16 = .ok (.iload_n 0, 1) := by decide +kernel
theorem d_B_turn_17 : decode b_B_turn 17 = .ok (.isub, 1) := by decide +kernel
theorem d_B_turn_18 : decode b_B_turn 18 = .ok (.i2l, 1) := by decide +kernel
theorem d_B_turn_19 : decode b_B_turn 19 = .ok (.lmul, 1) := by decide +kernel
theorem d_B_turn_20 : decode b_B_turn 20 = .ok (.lsub, 1) := by decide +kernel
theorem d_B_turn_21 : decode b_B_turn 21 = .ok (.lreturn, 1) := by decide +kernel
theorem d_B_isBetween_0 : decode b_B_isBetween 0 = .ok (.iload_n 0, 1) := by decide +kernel
theorem d_B_isBetween_1 : decode b_B_isBetween 1 = .ok (.iload_n 1, 1) := by decide +kernel
theorem d_B_isBetween_2 : decode b_B_isBetween 2 = .ok (.invokestatic 185, 3) := by decide +kernel
theorem d_B_isBetween_5 : decode b_B_isBetween 5 = .ok (.iload_n 2, 1) := by decide +kernel
theorem d_B_isBetween_6 : decode b_B_isBetween 6 = .ok (.if_icmp .gt 16, 3) := by decide +kernel
theorem d_B_isBetween_9 : decode b_B_isBetween 9 = .ok (.iload_n 2, 1) := by decide +kernel
theorem d_B_isBetween_10 : decode b_B_isBetween 10 = .ok (.iload_n 0, 1) := by decide +kernel
theorem d_B_isBetween_11 : decode b_B_isBetween 11 = .ok (.iload_n 1, 1) := by decide +kernel
theorem d_B_isBetween_12 : decode b_B_isBetween 12 = .ok (.invokestatic 188, 3) := by decide +kernel
theorem d_B_isBetween_15 : decode b_B_isBetween 15 = .ok (.if_icmp .gt 7, 3) := by decide +kernel
theorem d_B_isBetween_18 : decode b_B_isBetween 18 = .ok (.iconst 1, 1) := by decide +kernel
theorem d_B_isBetween_19 : decode b_B_isBetween 19 = .ok (.goto 4, 3) := by decide +kernel
theorem d_B_isBetween_22 : decode b_B_isBetween 22 = .ok (.iconst 0, 1) := by decide +kernel
theorem d_B_isBetween_23 : decode b_B_isBetween 23 = .ok (.ireturn, 1) := by decide +kernel
theorem d_S_init_0 : decode b_S_init 0 = .ok (.aload_n 0, 1) := by decide +kernel
theorem d_S_init_1 : decode b_S_init 1 = .ok (.invokespecial 3, 3) := by decide +kernel
theorem d_S_init_4 : decode b_S_init 4 = .ok (.aload_n 0, 1) := by decide +kernel
theorem d_S_init_5 : decode b_S_init 5 = .ok (.iload_n 1, 1) := by decide +kernel
theorem d_S_init_6 : decode b_S_init 6 = .ok (.putfield 9, 3) := by decide +kernel
theorem d_S_init_9 : decode b_S_init 9 = .ok (.aload_n 0, 1) := by decide +kernel
theorem d_S_init_10 : decode b_S_init 10 = .ok (.iload_n 2, 1) := by decide +kernel
theorem d_S_init_11 : decode b_S_init 11 = .ok (.putfield 15, 3) := by decide +kernel
theorem d_S_init_14 : decode b_S_init 14 = .ok (.aload_n 0, 1) := by decide +kernel
theorem d_S_init_15 : decode b_S_init 15 = .ok (.iload_n 3, 1) := by decide +kernel
theorem d_S_init_16 : decode b_S_init 16 = .ok (.putfield 18, 3) := by decide +kernel
theorem d_S_init_19 : decode b_S_init 19 = .ok (.aload_n 0, 1) := by decide +kernel
theorem d_S_init_20 : decode b_S_init 20 = .ok (.iload 4, 2) := by decide +kernel
theorem d_S_init_22 : decode b_S_init 22 = .ok (.putfield 21, 3) := by decide +kernel
theorem d_S_init_25 : decode b_S_init 25 = .ok (.aload_n 0, 1) := by decide +kernel
theorem d_S_init_26 : decode b_S_init 26 = .ok (.bipush 12, 2) := by decide +kernel
theorem d_S_init_28 : decode b_S_init 28 = .ok (.newarray .int, 2) := by decide +kernel
theorem d_S_init_30 : decode b_S_init 30 = .ok (.putfield 24, 3) := by decide +kernel
theorem d_S_init_33 : decode b_S_init 33 = .ok (.aload_n 0, 1) := by decide +kernel
theorem d_S_init_34 : decode b_S_init 34 = .ok (.bipush 12, 2) := by decide +kernel
theorem d_S_init_36 : decode b_S_init 36 = .ok (.newarray .int, 2) := by decide +kernel
theorem d_S_init_38 : decode b_S_init 38 = .ok (.putfield 28, 3) := by decide +kernel
theorem d_S_init_41 : decode b_S_init 41 = .ok (.return_, 1) := by decide +kernel
theorem d_S_isClosed_0 : decode b_S_isClosed 0 = .ok (.aload_n 0, 1) := by decide +kernel
theorem d_S_isClosed_1 : decode b_S_isClosed 1 = .ok (.getfield 31, 3) := by decide +kernel
theorem d_S_isClosed_4 : decode b_S_isClosed 4 = .ok (.ifCond .le 7, 3) := by decide +kernel
theorem d_S_isClosed_7 : decode b_S_isClosed 7 = .ok (.iconst 1, 1) := by decide +kernel
theorem d_S_isClosed_8 : decode b_S_isClosed 8 = .ok (.goto 4, 3) := by decide +kernel
theorem d_S_isClosed_11 : decode b_S_isClosed 11 = .ok (.iconst 0, 1) := by decide +kernel
theorem d_S_isClosed_12 : decode b_S_isClosed 12 = .ok (.ireturn, 1) := by decide +kernel
theorem d_S_isFull_0 : decode b_S_isFull 0 = .ok (.aload_n 0, 1) := by decide +kernel
theorem d_S_isFull_1 : decode b_S_isFull 1 = .ok (.getfield 34, 3) := by decide +kernel
theorem d_S_isFull_4 : decode b_S_isFull 4 = .ok (.bipush 12, 2) := by decide +kernel
theorem d_S_isFull_6 : decode b_S_isFull 6 = .ok (.if_icmp .lt 7, 3) := by decide +kernel
theorem d_S_isFull_9 : decode b_S_isFull 9 = .ok (.iconst 1, 1) := by decide +kernel
theorem d_S_isFull_10 : decode b_S_isFull 10 = .ok (.goto 4, 3) := by decide +kernel
theorem d_S_isFull_13 : decode b_S_isFull 13 = .ok (.iconst 0, 1) := by decide +kernel
theorem d_S_isFull_14 : decode b_S_isFull 14 = .ok (.ireturn, 1) := by decide +kernel
theorem d_S_holdsFor_0 : decode b_S_holdsFor 0 = .ok (.aload_n 0, 1) := by decide +kernel
theorem d_S_holdsFor_1 : decode b_S_holdsFor 1 = .ok (.invokevirtual 37, 3) := by decide +kernel
theorem d_S_holdsFor_4 : decode b_S_holdsFor 4 = .ok (.ifCond .eq 31, 3) := by decide +kernel
theorem d_S_holdsFor_7 : decode b_S_holdsFor 7 = .ok (.aload_n 0, 1) := by decide +kernel
theorem d_S_holdsFor_8 : decode b_S_holdsFor 8 = .ok (.getfield 15, 3) := by decide +kernel
theorem d_S_holdsFor_11 : decode b_S_holdsFor 11 = .ok (.iload_n 1, 1) := by decide +kernel
theorem d_S_holdsFor_12 : decode b_S_holdsFor 12 = .ok (.if_icmp .ne 23, 3) := by decide +kernel
theorem d_S_holdsFor_15 : decode b_S_holdsFor 15 = .ok (.aload_n 0, 1) := by decide +kernel
theorem d_S_holdsFor_16 : decode b_S_holdsFor 16 = .ok (.getfield 18, 3) := by decide +kernel
theorem d_S_holdsFor_19 : decode b_S_holdsFor 19 = .ok (.iload_n 2, 1) := by decide +kernel
theorem d_S_holdsFor_20 : decode b_S_holdsFor 20 = .ok (.if_icmp .gt 15, 3) := by decide +kernel
theorem d_S_holdsFor_23 : decode b_S_holdsFor 23 = .ok (.iload_n 2, 1) := by decide +kernel
theorem d_S_holdsFor_24 : decode b_S_holdsFor 24 = .ok (.aload_n 0, 1) := by decide +kernel
theorem d_S_holdsFor_25 : decode b_S_holdsFor 25 = .ok (.getfield 21, 3) := by decide +kernel
theorem d_S_holdsFor_28 : decode b_S_holdsFor 28 = .ok (.if_icmp .gt 7, 3) := by decide +kernel
theorem d_S_holdsFor_31 : decode b_S_holdsFor 31 = .ok (.iconst 1, 1) := by decide +kernel
theorem d_S_holdsFor_32 : decode b_S_holdsFor 32 = .ok (.goto 4, 3) := by decide +kernel
theorem d_S_holdsFor_35 : decode b_S_holdsFor 35 = .ok (.iconst 0, 1) := by decide +kernel
theorem d_S_holdsFor_36 : decode b_S_holdsFor 36 = .ok (.ireturn, 1) := by decide +kernel
theorem d_S_addCorner_0 : decode b_S_addCorner 0 = .ok (.aload_n 0, 1) := by decide +kernel
theorem d_S_addCorner_1 : decode b_S_addCorner 1 = .ok (.getfield 24, 3) := by decide +kernel
theorem d_S_addCorner_4 : decode b_S_addCorner 4 = .ok (.aload_n 0, 1) := by decide +kernel
theorem d_S_addCorner_5 : decode b_S_addCorner 5 = .ok (.getfield 34, 3) := by decide +kernel
theorem d_S_addCorner_8 : decode b_S_addCorner 8 = .ok (.iload_n 1, 1) := by decide +kernel
theorem d_S_addCorner_9 : decode b_S_addCorner 9 = .ok (.iastore, 1) := by decide +kernel
theorem d_S_addCorner_10 : decode b_S_addCorner 10 = .ok (.aload_n 0, 1) := by decide +kernel
theorem d_S_addCorner_11 : decode b_S_addCorner 11 = .ok (.getfield 28, 3) := by decide +kernel
theorem d_S_addCorner_14 : decode b_S_addCorner 14 = .ok (.aload_n 0, 1) := by decide +kernel
theorem d_S_addCorner_15 : decode b_S_addCorner 15 = .ok (.getfield 34, 3) := by decide +kernel
theorem d_S_addCorner_18 : decode b_S_addCorner 18 = .ok (.iload_n 2, 1) := by decide +kernel
theorem d_S_addCorner_19 : decode b_S_addCorner 19 = .ok (.iastore, 1) := by decide +kernel
theorem d_S_addCorner_20 : decode b_S_addCorner 20 = .ok (.aload_n 0, 1) := by decide +kernel
theorem d_S_addCorner_21 : decode b_S_addCorner 21 = .ok (.dup, 1) := by decide +kernel
theorem d_S_addCorner_22 : decode b_S_addCorner 22 = .ok (.getfield 34, 3) := by decide +kernel
theorem d_S_addCorner_25 : decode b_S_addCorner 25 = .ok (.iconst 1, 1) := by decide +kernel
theorem d_S_addCorner_26 : decode b_S_addCorner 26 = .ok (.iadd, 1) := by decide +kernel
theorem d_S_addCorner_27 : decode b_S_addCorner 27 = .ok (.putfield 34, 3) := by decide +kernel
theorem d_S_addCorner_30 : decode b_S_addCorner 30 = .ok (.aload_n 0, 1) := by decide +kernel
theorem d_S_addCorner_31 : decode b_S_addCorner 31 = .ok (.getfield 34, 3) := by decide +kernel
theorem d_S_addCorner_34 : decode b_S_addCorner 34 = .ok (.ireturn, 1) := by decide +kernel
theorem d_S_leavePartner_0 : decode b_S_leavePartner 0 = .ok (.aload_n 0, 1) := by decide +kernel
theorem d_S_leavePartner_1 : decode b_S_leavePartner 1 = .ok (.getfield 41, 3) := by decide +kernel
theorem d_S_leavePartner_4 : decode b_S_leavePartner 4 = .ok (.ifnull 16, 3) := by decide +kernel
theorem d_S_leavePartner_7 : decode b_S_leavePartner 7 = .ok (.aload_n 0, 1) := by decide +kernel
theorem d_S_leavePartner_8 : decode b_S_leavePartner 8 = .ok (.getfield 41, 3) := by decide +kernel
theorem d_S_leavePartner_11 : decode b_S_leavePartner 11 = .ok (.aconst_null, 1) := by decide +kernel
theorem d_S_leavePartner_12 : decode b_S_leavePartner 12 = .ok (.putfield 41, 3) := by decide +kernel
theorem d_S_leavePartner_15 : decode b_S_leavePartner 15 = .ok (.aload_n 0, 1) := by decide +kernel
theorem d_S_leavePartner_16 : decode b_S_leavePartner 16 = .ok (.aconst_null, 1) := by decide +kernel
theorem d_S_leavePartner_17 : decode b_S_leavePartner 17 = .ok (.putfield 41, 3) := by decide +kernel
theorem d_S_leavePartner_20 : decode b_S_leavePartner 20 = .ok (.return_, 1) := by decide +kernel
theorem d_S_canClose_0 : decode b_S_canClose 0 = .ok (.aload_n 0, 1) := by decide +kernel
theorem d_S_canClose_1 : decode b_S_canClose 1 = .ok (.invokevirtual 37, 3) := by decide +kernel
theorem d_S_canClose_4 : decode b_S_canClose 4 = .ok (.ifCond .ne 11, 3) := by decide +kernel
theorem d_S_canClose_7 : decode b_S_canClose 7 = .ok (.aload_n 0, 1) := by decide +kernel
theorem d_S_canClose_8 : decode b_S_canClose 8 = .ok (.getfield 34, 3) := by decide +kernel
theorem d_S_canClose_11 : decode b_S_canClose 11 = .ok (.iconst 3, 1) := by decide +kernel
theorem d_S_canClose_12 : decode b_S_canClose 12 = .ok (.if_icmp .ge 5, 3) := by decide +kernel
theorem d_S_canClose_15 : decode b_S_canClose 15 = .ok (.iconst 0, 1) := by decide +kernel
theorem d_S_canClose_16 : decode b_S_canClose 16 = .ok (.ireturn, 1) := by decide +kernel
theorem d_S_canClose_17 : decode b_S_canClose 17 = .ok (.iconst 0, 1) := by decide +kernel
theorem d_S_canClose_18 : decode b_S_canClose 18 = .ok (.istore_n 1, 1) := by decide +kernel
theorem d_S_canClose_19 : decode b_S_canClose 19 = .ok (.iload_n 1, 1) := by decide +kernel
theorem d_S_canClose_20 : decode b_S_canClose 20 = .ok (.aload_n 0, 1) := by decide +kernel
theorem d_S_canClose_21 : decode b_S_canClose 21 = .ok (.getfield 34, 3) := by decide +kernel
theorem d_S_canClose_24 : decode b_S_canClose 24 = .ok (.if_icmp .ge 47, 3) := by decide +kernel
theorem d_S_canClose_27 : decode b_S_canClose 27 = .ok (.iload_n 1, 1) := by decide +kernel
theorem d_S_canClose_28 : decode b_S_canClose 28 = .ok (.iconst 1, 1) := by decide +kernel
theorem d_S_canClose_29 : decode b_S_canClose 29 = .ok (.iadd, 1) := by decide +kernel
theorem d_S_canClose_30 : decode b_S_canClose 30 = .ok (.istore_n 2, 1) := by decide +kernel
theorem d_S_canClose_31 : decode b_S_canClose 31 = .ok (.iload_n 2, 1) := by decide +kernel
theorem d_S_canClose_32 : decode b_S_canClose 32 = .ok (.aload_n 0, 1) := by decide +kernel
theorem d_S_canClose_33 : decode b_S_canClose 33 = .ok (.getfield 34, 3) := by decide +kernel
theorem d_S_canClose_36 : decode b_S_canClose 36 = .ok (.if_icmp .ge 29, 3) := by decide +kernel
theorem d_S_canClose_39 : decode b_S_canClose 39 = .ok (.aload_n 0, 1) := by decide +kernel
theorem d_S_canClose_40 : decode b_S_canClose 40 = .ok (.iload_n 1, 1) := by decide +kernel
theorem d_S_canClose_41 : decode b_S_canClose 41 = .ok (.iload_n 2, 1) := by decide +kernel
theorem d_S_canClose_42 : decode b_S_canClose 42 = .ok (.invokevirtual 45, 3) := by decide +kernel
theorem d_S_canClose_45 : decode b_S_canClose 45 = .ok (.ifCond .ne 12, 3) := by decide +kernel
theorem d_S_canClose_48 : decode b_S_canClose 48 = .ok (.aload_n 0, 1) := by decide +kernel
theorem d_S_canClose_49 : decode b_S_canClose 49 = .ok (.iload_n 1, 1) := by decide +kernel
theorem d_S_canClose_50 : decode b_S_canClose 50 = .ok (.iload_n 2, 1) := by decide +kernel
theorem d_S_canClose_51 : decode b_S_canClose 51 = .ok (.invokevirtual 49, 3) := by decide +kernel
theorem d_S_canClose_54 : decode b_S_canClose 54 = .ok (.ifCond .eq 5, 3) := by decide +kernel
theorem d_S_canClose_57 : decode b_S_canClose 57 = .ok (.iconst 0, 1) := by decide +kernel
theorem d_S_canClose_58 : decode b_S_canClose 58 = .ok (.ireturn, 1) := by decide +kernel
theorem d_S_canClose_59 : decode b_S_canClose 59 = .ok (.iinc 2 1, 3) := by decide +kernel
theorem d_S_canClose_62 : decode b_S_canClose 62 = .ok (.goto (-31), 3) := by decide +kernel
theorem d_S_canClose_65 : decode b_S_canClose 65 = .ok (.iinc 1 1, 3) := by decide +kernel
theorem d_S_canClose_68 : decode b_S_canClose 68 = .ok (.goto (-49), 3) := by decide +kernel
theorem d_S_canClose_71 : decode b_S_canClose 71 = .ok (.iconst 1, 1) := by decide +kernel
theorem d_S_canClose_72 : decode b_S_canClose 72 = .ok (.ireturn, 1) := by decide +kernel
theorem d_S_contains_0 : decode b_S_contains 0 = .ok (.iconst 0, 1) := by decide +kernel
theorem d_S_contains_1 : decode b_S_contains 1 = .ok (.istore_n 3, 1) := by decide +kernel
theorem d_S_contains_2 : decode b_S_contains 2 = .ok (.iconst 0, 1) := by decide +kernel
theorem d_S_contains_3 : decode b_S_contains 3 = .ok (.istore 4, 2) := by decide +kernel
theorem d_S_contains_5 : decode b_S_contains 5 = .ok (.iload 4, 2) := by decide +kernel
theorem d_S_contains_7 : decode b_S_contains 7 = .ok (.aload_n 0, 1) := by decide +kernel
theorem d_S_contains_8 : decode b_S_contains 8 = .ok (.getfield 34, 3) := by decide +kernel
theorem d_S_contains_11 : decode b_S_contains 11 = .ok (.if_icmp .ge 43, 3) := by decide +kernel
theorem d_S_contains_14 : decode b_S_contains 14 = .ok (.aload_n 0, 1) := by decide +kernel
theorem d_S_contains_15 : decode b_S_contains 15 = .ok (.iload 4, 2) := by decide +kernel
theorem d_S_contains_17 : decode b_S_contains 17 = .ok (.iload_n 1, 1) := by decide +kernel
theorem d_S_contains_18 : decode b_S_contains 18 = .ok (.iload_n 2, 1) := by decide +kernel
theorem d_S_contains_19 : decode b_S_contains 19 = .ok (.invokevirtual 52, 3) := by decide +kernel
theorem d_S_contains_22 : decode b_S_contains 22 = .ok (.ifCond .eq 5, 3) := by decide +kernel
theorem d_S_contains_25 : decode b_S_contains 25 = .ok (.iconst 1, 1) := by decide +kernel
theorem d_S_contains_26 : decode b_S_contains 26 = .ok (.ireturn, 1) := by decide +kernel
theorem d_S_contains_27 : decode b_S_contains 27 = .ok (.aload_n 0, 1) := by decide +kernel
theorem d_S_contains_28 : decode b_S_contains 28 = .ok (.iload 4, 2) := by decide +kernel
theorem d_S_contains_30 : decode b_S_contains 30 = .ok (.iload_n 1, 1) := by decide +kernel
theorem d_S_contains_31 : decode b_S_contains 31 = .ok (.iload_n 2, 1) := by decide +kernel
theorem d_S_contains_32 : decode b_S_contains 32 = .ok (.invokevirtual 56, 3) := by decide +kernel
theorem d_S_contains_35 : decode b_S_contains 35 = .ok (.ifCond .eq 13, 3) := by decide +kernel
theorem d_S_contains_38 : decode b_S_contains 38 = .ok (.iload_n 3, 1) := by decide +kernel
theorem d_S_contains_39 : decode b_S_contains 39 = .ok (.ifCond .ne 7, 3) := by decide +kernel
theorem d_S_contains_42 : decode b_S_contains 42 = .ok (.iconst 1, 1) := by decide +kernel
theorem d_S_contains_43 : decode b_S_contains 43 = .ok (.goto 4, 3) := by decide +kernel
theorem d_S_contains_46 : decode b_S_contains 46 = .ok (.iconst 0, 1) := by decide +kernel
theorem d_S_contains_47 : decode b_S_contains 47 = .ok (.istore_n 3, 1) := by decide +kernel
theorem d_S_contains_48 : decode b_S_contains 48 = .ok (.iinc 4 1, 3) := by decide +kernel
theorem d_S_contains_51 : decode b_S_contains 51 = .ok (.goto (-46), 3) := by decide +kernel
theorem d_S_contains_54 : decode b_S_contains 54 = .ok (.iload_n 3, 1) := by decide +kernel
theorem d_S_contains_55 : decode b_S_contains 55 = .ok (.ireturn, 1) := by decide +kernel
theorem d_S_containsCornersOf_0 : decode b_S_containsCornersOf 0 = .ok (.iconst 0, 1) := by decide +kernel
theorem d_S_containsCornersOf_1 : decode b_S_containsCornersOf 1 = .ok (.istore_n 2, 1) := by decide +kernel
theorem d_S_containsCornersOf_2 : decode b_S_containsCornersOf 2 = .ok (.iload_n 2, 1) := by decide +kernel
theorem d_S_containsCornersOf_3 : decode b_S_containsCornersOf 3 = .ok (.aload_n 1, 1) := by decide +kernel
theorem d_S_containsCornersOf_4 : decode b_S_containsCornersOf 4 = .ok (.getfield 34, 3) := by decide +kernel
theorem d_S_containsCornersOf_7 : decode b_S_containsCornersOf 7 = .ok (.if_icmp .ge 30, 3) := by decide +kernel
theorem d_S_containsCornersOf_10 : decode b_S_containsCornersOf 10 = .ok (.aload_n 0, 1) := by decide +kernel
theorem d_S_containsCornersOf_11 : decode b_S_containsCornersOf 11 = .ok (.aload_n 1, 1) := by decide +kernel
theorem d_S_containsCornersOf_12 : decode b_S_containsCornersOf 12 = .ok (.getfield 24, 3) := by decide +kernel
theorem d_S_containsCornersOf_15 : decode b_S_containsCornersOf 15 = .ok (.iload_n 2, 1) := by decide +kernel
theorem d_S_containsCornersOf_16 : decode b_S_containsCornersOf 16 = .ok (.iaload, 1) := by decide +kernel
theorem d_S_containsCornersOf_17 : decode b_S_containsCornersOf 17 = .ok (.aload_n 1, 1) := by decide +kernel
theorem d_S_containsCornersOf_18 : decode b_S_containsCornersOf 18 = .ok (.getfield 28, 3) := by decide +kernel
theorem d_S_containsCornersOf_21 : decode b_S_containsCornersOf 21 = .ok (.iload_n 2, 1) := by decide +kernel
theorem d_S_containsCornersOf_22 : decode b_S_containsCornersOf 22 = .ok (.iaload, 1) := by decide +kernel
theorem d_S_containsCornersOf_23 : decode b_S_containsCornersOf 23 = .ok (.invokevirtual 59, 3) := by decide +kernel
theorem d_S_containsCornersOf_26 : decode b_S_containsCornersOf 26 = .ok (.ifCond .ne 5, 3) := by decide +kernel
theorem d_S_containsCornersOf_29 : decode b_S_containsCornersOf 29 = .ok (.iconst 0, 1) := by decide +kernel
theorem d_S_containsCornersOf_30 : decode b_S_containsCornersOf 30 = .ok (.ireturn, 1) := by decide +kernel
theorem d_S_containsCornersOf_31 : decode b_S_containsCornersOf 31 = .ok (.iinc 2 1, 3) := by decide +kernel
theorem d_S_containsCornersOf_34 : decode b_S_containsCornersOf 34 = .ok (.goto (-32), 3) := by decide +kernel
theorem d_S_containsCornersOf_37 : decode b_S_containsCornersOf 37 = .ok (.iconst 1, 1) := by decide +kernel
theorem d_S_containsCornersOf_38 : decode b_S_containsCornersOf 38 = .ok (.ireturn, 1) := by decide +kernel
theorem d_S_doubledArea_0 : decode b_S_doubledArea 0 = .ok (.lconst 0, 1) := by decide +kernel
theorem d_S_doubledArea_1 : decode b_S_doubledArea 1 = .ok (.lstore_n 1, 1) := by decide +kernel
theorem d_S_doubledArea_2 : decode b_S_doubledArea 2 = .ok (.iconst 0, 1) := by decide +kernel
theorem d_S_doubledArea_3 : decode b_S_doubledArea 3 = .ok (.istore_n 3, 1) := by decide +kernel
theorem d_S_doubledArea_4 : decode b_S_doubledArea 4 = .ok (.iload_n 3, 1) := by decide +kernel
theorem d_S_doubledArea_5 : decode b_S_doubledArea 5 = .ok (.aload_n 0, 1) := by decide +kernel
theorem d_S_doubledArea_6 : decode b_S_doubledArea 6 = .ok (.getfield 34, 3) := by decide +kernel
theorem d_S_doubledArea_9 : decode b_S_doubledArea 9 = .ok (.if_icmp .ge 49, 3) := by decide +kernel
theorem d_S_doubledArea_12 : decode b_S_doubledArea 12 = .ok (.lload_n 1, 1) := by decide +kernel
theorem d_S_doubledArea_13 : decode b_S_doubledArea 13 = .ok (.iconst 0, 1) := by decide +kernel
theorem d_S_doubledArea_14 : decode b_S_doubledArea 14 = .ok (.iconst 0, 1) := by decide +kernel
theorem d_S_doubledArea_15 : decode b_S_doubledArea 15 = .ok (.aload_n 0, 1) := by decide +kernel
theorem d_S_doubledArea_16 : decode b_S_doubledArea 16 = .ok (.getfield 24, 3) := by decide +kernel
theorem d_S_doubledArea_19 : decode b_S_doubledArea 19 = .ok (.iload_n 3, 1) := by decide +kernel
theorem d_S_doubledArea_20 : decode b_S_doubledArea 20 = .ok (.iaload, 1) := by decide +kernel
theorem d_S_doubledArea_21 : decode b_S_doubledArea 21 = .ok (.aload_n 0, 1) := by decide +kernel
theorem d_S_doubledArea_22 : decode b_S_doubledArea 22 = .ok (.getfield 28, 3) := by decide +kernel
theorem d_S_doubledArea_25 : decode b_S_doubledArea 25 = .ok (.iload_n 3, 1) := by decide +kernel
theorem d_S_doubledArea_26 : decode b_S_doubledArea 26 = .ok (.iaload, 1) := by decide +kernel
theorem d_S_doubledArea_27 : decode b_S_doubledArea 27 = .ok (.aload_n 0, 1) := by decide +kernel
theorem d_S_doubledArea_28 : decode b_S_doubledArea 28 = .ok (.getfield 24, 3) := by decide +kernel
theorem d_S_doubledArea_31 : decode b_S_doubledArea 31 = .ok (.aload_n 0, 1) := by decide +kernel
theorem d_S_doubledArea_32 : decode b_S_doubledArea 32 = .ok (.iload_n 3, 1) := by decide +kernel
theorem d_S_doubledArea_33 : decode b_S_doubledArea 33 = .ok (.invokevirtual 62, 3) := by decide +kernel
theorem d_S_doubledArea_36 : decode b_S_doubledArea 36 = .ok (.iaload, 1) := by decide +kernel
theorem d_S_doubledArea_37 : decode b_S_doubledArea 37 = .ok (.aload_n 0, 1) := by decide +kernel
theorem d_S_doubledArea_38 : decode b_S_doubledArea 38 = .ok (.getfield 28, 3) := by decide +kernel
theorem d_S_doubledArea_41 : decode b_S_doubledArea 41 = .ok (.aload_n 0, 1) := by decide +kernel
theorem d_S_doubledArea_42 : decode b_S_doubledArea 42 = .ok (.iload_n 3, 1) := by decide +kernel
theorem d_S_doubledArea_43 : decode b_S_doubledArea 43 = .ok (.invokevirtual 62, 3) := by decide +kernel
theorem d_S_doubledArea_46 : decode b_S_doubledArea 46 = .ok (.iaload, 1) := by decide +kernel
theorem d_S_doubledArea_47 : decode b_S_doubledArea 47 = .ok (.invokestatic 66, 3) := by decide +kernel
theorem d_S_doubledArea_50 : decode b_S_doubledArea 50 = .ok (.ladd, 1) := by decide +kernel
theorem d_S_doubledArea_51 : decode b_S_doubledArea 51 = .ok (.lstore_n 1, 1) := by decide +kernel
theorem d_S_doubledArea_52 : decode b_S_doubledArea 52 = .ok (.iinc 3 1, 3) := by decide +kernel
theorem d_S_doubledArea_55 : decode b_S_doubledArea 55 = .ok (.goto (-51), 3) := by decide +kernel
theorem d_S_doubledArea_58 : decode b_S_doubledArea 58 = .ok (.lload_n 1, 1) := by decide +kernel
theorem d_S_doubledArea_59 : decode b_S_doubledArea 59 = .ok (.invokestatic 70, 3) := by decide +kernel
theorem d_S_doubledArea_62 : decode b_S_doubledArea 62 = .ok (.l2i, 1) := by decide +kernel
theorem d_S_doubledArea_63 : decode b_S_doubledArea 63 = .ok (.ireturn, 1) := by decide +kernel
theorem d_S_leastSquareTo_0 : decode b_S_leastSquareTo 0 = .ok (.aload_n 0, 1) := by decide +kernel
theorem d_S_leastSquareTo_1 : decode b_S_leastSquareTo 1 = .ok (.iconst 0, 1) := by decide +kernel
theorem d_S_leastSquareTo_2 : decode b_S_leastSquareTo 2 = .ok (.aload_n 1, 1) := by decide +kernel
theorem d_S_leastSquareTo_3 : decode b_S_leastSquareTo 3 = .ok (.iconst 0, 1) := by decide +kernel
theorem d_S_leastSquareTo_4 : decode b_S_leastSquareTo 4 = .ok (.invokevirtual 76, 3) := by decide +kernel
theorem d_S_leastSquareTo_7 : decode b_S_leastSquareTo 7 = .ok (.istore_n 2, 1) := by decide +kernel
theorem d_S_leastSquareTo_8 : decode b_S_leastSquareTo 8 = .ok (.iconst 0, 1) := by decide +kernel
theorem d_S_leastSquareTo_9 : decode b_S_leastSquareTo 9 = .ok (.istore_n 3, 1) := by decide +kernel
theorem d_S_leastSquareTo_10 : decode b_S_leastSquareTo 10 = .ok (.iload_n 3, 1) := by decide +kernel
theorem d_S_leastSquareTo_11 : decode b_S_leastSquareTo 11 = .ok (.aload_n 0, 1) := by decide +kernel
theorem d_S_leastSquareTo_12 : decode b_S_leastSquareTo 12 = .ok (.getfield 34, 3) := by decide +kernel
theorem d_S_leastSquareTo_15 : decode b_S_leastSquareTo 15 = .ok (.if_icmp .ge 40, 3) := by decide +kernel
theorem d_S_leastSquareTo_18 : decode b_S_leastSquareTo 18 = .ok (.iconst 0, 1) := by decide +kernel
theorem d_S_leastSquareTo_19 : decode b_S_leastSquareTo 19 = .ok (.istore 4, 2) := by decide +kernel
theorem d_S_leastSquareTo_21 : decode b_S_leastSquareTo 21 = .ok (.iload 4, 2) := by decide +kernel
theorem d_S_leastSquareTo_23 : decode b_S_leastSquareTo 23 = .ok (.aload_n 1, 1) := by decide +kernel
theorem d_S_leastSquareTo_24 : decode b_S_leastSquareTo 24 = .ok (.getfield 34, 3) := by decide +kernel
theorem d_S_leastSquareTo_27 : decode b_S_leastSquareTo 27 = .ok (.if_icmp .ge 22, 3) := by decide +kernel
theorem d_S_leastSquareTo_30 : decode b_S_leastSquareTo 30 = .ok (.iload_n 2, 1) := by decide +kernel
theorem d_S_leastSquareTo_31 : decode b_S_leastSquareTo 31 = .ok (.aload_n 0, 1) := by decide +kernel
theorem d_S_leastSquareTo_32 : decode b_S_leastSquareTo 32 = .ok (.iload_n 3, 1) := by decide +kernel
theorem d_S_leastSquareTo_33 : decode b_S_leastSquareTo 33 = .ok (.aload_n 1, 1) := by decide +kernel
theorem d_S_leastSquareTo_34 : decode b_S_leastSquareTo 34 = .ok (.iload 4, 2) := by decide +kernel
theorem d_S_leastSquareTo_36 : decode b_S_leastSquareTo 36 = .ok (.invokevirtual 76, 3) := by decide +kernel
theorem d_S_leastSquareTo_39 : decode b_S_leastSquareTo 39 = .ok (.invokestatic 80, 3) := by decide +kernel
theorem d_S_leastSquareTo_42 : decode b_S_leastSquareTo 42 = .ok (.istore_n 2, 1) := by decide +kernel
theorem d_S_leastSquareTo_43 : decode b_S_leastSquareTo 43 = .ok (.iinc 4 1, 3) := by decide +kernel
theorem d_S_leastSquareTo_46 : decode b_S_leastSquareTo 46 = .ok (.goto (-25), 3) := by decide +kernel
theorem d_S_leastSquareTo_49 : decode b_S_leastSquareTo 49 = .ok (.iinc 3 1, 3) := by decide +kernel
theorem d_S_leastSquareTo_52 : decode b_S_leastSquareTo 52 = .ok (.goto (-42), 3) := by decide +kernel
theorem d_S_leastSquareTo_55 : decode b_S_leastSquareTo 55 = .ok (.iload_n 2, 1) := by decide +kernel
theorem d_S_leastSquareTo_56 : decode b_S_leastSquareTo 56 = .ok (.ireturn, 1) := by decide +kernel
theorem d_S_squareBetween_0 : decode b_S_squareBetween 0 = .ok (.aload_n 0, 1) := by decide +kernel
theorem d_S_squareBetween_1 : decode b_S_squareBetween 1 = .ok (.getfield 24, 3) := by decide +kernel
theorem d_S_squareBetween_4 : decode b_S_squareBetween 4 = .ok (.iload_n 1, 1) := by decide +kernel
theorem d_S_squareBetween_5 : decode b_S_squareBetween 5 = .ok (.iaload, 1) := by decide +kernel
theorem d_S_squareBetween_6 : decode b_S_squareBetween 6 = .ok (.aload_n 2, 1) := by decide +kernel
theorem d_S_squareBetween_7 : decode b_S_squareBetween 7 = .ok (.getfield 24, 3) := by decide +kernel
theorem d_S_squareBetween_10 : decode b_S_squareBetween 10 = .ok (.iload_n 3, 1) := by decide +kernel
theorem d_S_squareBetween_11 : decode b_S_squareBetween 11 = .ok (.iaload, 1) := by decide +kernel
theorem d_S_squareBetween_12 : decode b_S_squareBetween 12 = .ok (.isub, 1) := by decide +kernel
theorem d_S_squareBetween_13 : decode b_S_squareBetween 13 = .ok (.istore 4, 2) := by decide +kernel
theorem d_S_squareBetween_15 : decode b_S_squareBetween 15 = .ok (.aload_n 0, 1) := by decide +kernel
theorem d_S_squareBetween_16 : decode b_S_squareBetween 16 = .ok (.getfield 28, 3) := by decide +kernel
theorem d_S_squareBetween_19 : decode b_S_squareBetween 19 = .ok (.iload_n 1, 1) := by decide +kernel
theorem d_S_squareBetween_20 : decode b_S_squareBetween 20 = .ok (.iaload, 1) := by decide +kernel
theorem d_S_squareBetween_21 : decode b_S_squareBetween 21 = .ok (.aload_n 2, 1) := by decide +kernel
theorem d_S_squareBetween_22 : decode b_S_squareBetween 22 = .ok (.getfield 28, 3) := by decide +kernel
theorem d_S_squareBetween_25 : decode b_S_squareBetween 25 = .ok (.iload_n 3, 1) := by decide +kernel
theorem d_S_squareBetween_26 : decode b_S_squareBetween 26 = .ok (.iaload, 1) := by decide +kernel
theorem d_S_squareBetween_27 : decode b_S_squareBetween 27 = .ok (.isub, 1) := by decide +kernel
theorem d_S_squareBetween_28 : decode b_S_squareBetween 28 = .ok (.istore 5, 2) := by decide +kernel
theorem d_S_squareBetween_30 : decode b_S_squareBetween 30 = .ok (.iload 4, 2) := by decide +kernel
theorem d_S_squareBetween_32 : decode b_S_squareBetween 32 = .ok (.iload 4, 2) := by decide +kernel
theorem d_S_squareBetween_34 : decode b_S_squareBetween 34 = .ok (.imul, 1) := by decide +kernel
theorem d_S_squareBetween_35 : decode b_S_squareBetween 35 = .ok (.iload 5, 2) := by decide +kernel
theorem d_S_squareBetween_37 : decode b_S_squareBetween 37 = .ok (.iload 5, 2) := by decide +kernel
theorem d_S_squareBetween_39 : decode b_S_squareBetween 39 = .ok (.imul, 1) := by decide +kernel
theorem d_S_squareBetween_40 : decode b_S_squareBetween 40 = .ok (.iadd, 1) := by decide +kernel
theorem d_S_squareBetween_41 : decode b_S_squareBetween 41 = .ok (.ireturn, 1) := by decide +kernel
theorem d_S_next_0 : decode b_S_next 0 = .ok (.iload_n 1, 1) := by decide +kernel
theorem d_S_next_1 : decode b_S_next 1 = .ok (.iconst 1, 1) := by decide +kernel
theorem d_S_next_2 : decode b_S_next 2 = .ok (.iadd, 1) := by decide +kernel
theorem d_S_next_3 : decode b_S_next 3 = .ok (.aload_n 0, 1) := by decide +kernel
theorem d_S_next_4 : decode b_S_next 4 = .ok (.getfield 34, 3) := by decide +kernel
theorem d_S_next_7 : decode b_S_next 7 = .ok (.if_icmp .ge 9, 3) := by decide +kernel
theorem d_S_next_10 : decode b_S_next 10 = .ok (.iload_n 1, 1) := by decide +kernel
theorem d_S_next_11 : decode b_S_next 11 = .ok (.iconst 1, 1) := by decide +kernel
theorem d_S_next_12 : decode b_S_next 12 = .ok (.iadd, 1) := by decide +kernel
theorem d_S_next_13 : decode b_S_next 13 = .ok (.goto 4, 3) := by decide +kernel
theorem d_S_next_16 : decode b_S_next 16 = .ok (.iconst 0, 1) := by decide +kernel
theorem d_S_next_17 : decode b_S_next 17 = .ok (.ireturn, 1) := by decide +kernel
theorem d_S_sameCorner_0 : decode b_S_sameCorner 0 = .ok (.aload_n 0, 1) := by decide +kernel
theorem d_S_sameCorner_1 : decode b_S_sameCorner 1 = .ok (.getfield 24, 3) := by decide +kernel
theorem d_S_sameCorner_4 : decode b_S_sameCorner 4 = .ok (.iload_n 1, 1) := by decide +kernel
theorem d_S_sameCorner_5 : decode b_S_sameCorner 5 = .ok (.iaload, 1) := by decide +kernel
theorem d_S_sameCorner_6 : decode b_S_sameCorner 6 = .ok (.aload_n 0, 1) := by decide +kernel
theorem d_S_sameCorner_7 : decode b_S_sameCorner 7 = .ok (.getfield 24, 3) := by decide +kernel
theorem d_S_sameCorner_10 : decode b_S_sameCorner 10 = .ok (.iload_n 2, 1) := by decide +kernel
theorem d_S_sameCorner_11 : decode b_S_sameCorner 11 = .ok (.iaload, 1) := by decide +kernel
theorem d_S_sameCorner_12 : decode b_S_sameCorner 12 = .ok (.if_icmp .ne 22, 3) := by decide +kernel
theorem d_S_sameCorner_15 : decode b_S_sameCorner 15 = .ok (.aload_n 0, 1) := by decide +kernel
theorem d_S_sameCorner_16 : decode b_S_sameCorner 16 = .ok (.getfield 28, 3) := by decide +kernel
theorem d_S_sameCorner_19 : decode b_S_sameCorner 19 = .ok (.iload_n 1, 1) := by decide +kernel
theorem d_S_sameCorner_20 : decode b_S_sameCorner 20 = .ok (.iaload, 1) := by decide +kernel
theorem d_S_sameCorner_21 : decode b_S_sameCorner 21 = .ok (.aload_n 0, 1) := by decide +kernel
theorem d_S_sameCorner_22 : decode b_S_sameCorner 22 = .ok (.getfield 28, 3) := by decide +kernel
theorem d_S_sameCorner_25 : decode b_S_sameCorner 25 = .ok (.iload_n 2, 1) := by decide +kernel
theorem d_S_sameCorner_26 : decode b_S_sameCorner 26 = .ok (.iaload, 1) := by decide +kernel
theorem d_S_sameCorner_27 : decode b_S_sameCorner 27 = .ok (.if_icmp .ne 7, 3) := by decide +kernel
theorem d_S_sameCorner_30 : decode b_S_sameCorner 30 = .ok (.iconst 1, 1) := by decide +kernel
theorem d_S_sameCorner_31 : decode b_S_sameCorner 31 = .ok (.goto 4, 3) := by decide +kernel
theorem d_S_sameCorner_34 : decode b_S_sameCorner 34 = .ok (.iconst 0, 1) := by decide +kernel
theorem d_S_sameCorner_35 : decode b_S_sameCorner 35 = .ok (.ireturn, 1) := by decide +kernel
theorem d_S_linesClash_0 : decode b_S_linesClash 0 = .ok (.aload_n 0, 1) := by decide +kernel
theorem d_S_linesClash_1 : decode b_S_linesClash 1 = .ok (.iload_n 1, 1) := by decide +kernel
theorem d_S_linesClash_2 : decode b_S_linesClash 2 = .ok (.invokevirtual 62, 3) := by decide +kernel
theorem d_S_linesClash_5 : decode b_S_linesClash 5 = .ok (.iload_n 2, 1) := by decide +kernel
theorem d_S_linesClash_6 : decode b_S_linesClash 6 = .ok (.if_icmp .ne 10, 3) := by decide +kernel
theorem d_S_linesClash_9 : decode b_S_linesClash 9 = .ok (.aload_n 0, 1) := by decide +kernel
theorem d_S_linesClash_10 : decode b_S_linesClash 10 = .ok (.iload_n 1, 1) := by decide +kernel
theorem d_S_linesClash_11 : decode b_S_linesClash 11 = .ok (.iload_n 2, 1) := by decide +kernel
theorem d_S_linesClash_12 : decode b_S_linesClash 12 = .ok (.invokevirtual 84, 3) := by decide +kernel
theorem d_S_linesClash_15 : decode b_S_linesClash 15 = .ok (.ireturn, 1) := by decide +kernel
theorem d_S_linesClash_16 : decode b_S_linesClash 16 = .ok (.aload_n 0, 1) := by decide +kernel
theorem d_S_linesClash_17 : decode b_S_linesClash 17 = .ok (.iload_n 2, 1) := by decide +kernel
theorem d_S_linesClash_18 : decode b_S_linesClash 18 = .ok (.invokevirtual 62, 3) := by decide +kernel
theorem d_S_linesClash_21 : decode b_S_linesClash 21 = .ok (.iload_n 1, 1) := by decide +kernel
theorem d_S_linesClash_22 : decode b_S_linesClash 22 = .ok (.if_icmp .ne 10, 3) := by decide +kernel
theorem d_S_linesClash_25 : decode b_S_linesClash 25 = .ok (.aload_n 0, 1) := by decide +kernel
theorem d_S_linesClash_26 : decode b_S_linesClash 26 = .ok (.iload_n 2, 1) := by decide +kernel
theorem d_S_linesClash_27 : decode b_S_linesClash 27 = .ok (.iload_n 1, 1) := by decide +kernel
theorem d_S_linesClash_28 : decode b_S_linesClash 28 = .ok (.invokevirtual 84, 3) := by decide +kernel
theorem d_S_linesClash_31 : decode b_S_linesClash 31 = .ok (.ireturn, 1) := by decide +kernel
theorem d_S_linesClash_32 : decode b_S_linesClash 32 = .ok (.aload_n 0, 1) := by decide +kernel
theorem d_S_linesClash_33 : decode b_S_linesClash 33 = .ok (.iload_n 1, 1) := by decide +kernel
theorem d_S_linesClash_34 : decode b_S_linesClash 34 = .ok (.iload_n 2, 1) := by decide +kernel
theorem d_S_linesClash_35 : decode b_S_linesClash 35 = .ok (.invokevirtual 87, 3) := by decide +kernel
theorem d_S_linesClash_38 : decode b_S_linesClash 38 = .ok (.ifCond .ne 56, 3) := by decide +kernel
theorem d_S_linesClash_41 : decode b_S_linesClash 41 = .ok (.aload_n 0, 1) := by decide +kernel
theorem d_S_linesClash_42 : decode b_S_linesClash 42 = .ok (.iload_n 1, 1) := by decide +kernel
theorem d_S_linesClash_43 : decode b_S_linesClash 43 = .ok (.aload_n 0, 1) := by decide +kernel
theorem d_S_linesClash_44 : decode b_S_linesClash 44 = .ok (.iload_n 2, 1) := by decide +kernel
theorem d_S_linesClash_45 : decode b_S_linesClash 45 = .ok (.invokevirtual 62, 3) := by decide +kernel
theorem d_S_linesClash_48 : decode b_S_linesClash 48 = .ok (.invokevirtual 87, 3) := by decide +kernel
theorem d_S_linesClash_51 : decode b_S_linesClash 51 = .ok (.ifCond .ne 43, 3) := by decide +kernel
theorem d_S_linesClash_54 : decode b_S_linesClash 54 = .ok (.aload_n 0, 1) := by decide +kernel
theorem d_S_linesClash_55 : decode b_S_linesClash 55 = .ok (.iload_n 2, 1) := by decide +kernel
theorem d_S_linesClash_56 : decode b_S_linesClash 56 = .ok (.iload_n 1, 1) := by decide +kernel
theorem d_S_linesClash_57 : decode b_S_linesClash 57 = .ok (.invokevirtual 87, 3) := by decide +kernel
theorem d_S_linesClash_60 : decode b_S_linesClash 60 = .ok (.ifCond .ne 34, 3) := by decide +kernel
theorem d_S_linesClash_63 : decode b_S_linesClash 63 = .ok (.aload_n 0, 1) := by decide +kernel
theorem d_S_linesClash_64 : decode b_S_linesClash 64 = .ok (.iload_n 2, 1) := by decide +kernel
theorem d_S_linesClash_65 : decode b_S_linesClash 65 = .ok (.aload_n 0, 1) := by decide +kernel
theorem d_S_linesClash_66 : decode b_S_linesClash 66 = .ok (.iload_n 1, 1) := by decide +kernel
theorem d_S_linesClash_67 : decode b_S_linesClash 67 = .ok (.invokevirtual 62, 3) := by decide +kernel
theorem d_S_linesClash_70 : decode b_S_linesClash 70 = .ok (.invokevirtual 87, 3) := by decide +kernel
theorem d_S_linesClash_73 : decode b_S_linesClash 73 = .ok (.ifCond .ne 21, 3) := by decide +kernel
theorem d_S_linesClash_76 : decode b_S_linesClash 76 = .ok (.aload_n 0, 1) := by decide +kernel
theorem d_S_linesClash_77 : decode b_S_linesClash 77 = .ok (.iload_n 1, 1) := by decide +kernel
theorem d_S_linesClash_78 : decode b_S_linesClash 78 = .ok (.iload_n 2, 1) := by decide +kernel
theorem d_S_linesClash_79 : decode b_S_linesClash 79 = .ok (.invokevirtual 90, 3) := by decide +kernel
theorem d_S_linesClash_82 : decode b_S_linesClash 82 = .ok (.ifCond .eq 16, 3) := by decide +kernel
theorem d_S_linesClash_85 : decode b_S_linesClash 85 = .ok (.aload_n 0, 1) := by decide +kernel
theorem d_S_linesClash_86 : decode b_S_linesClash 86 = .ok (.iload_n 2, 1) := by decide +kernel
theorem d_S_linesClash_87 : decode b_S_linesClash 87 = .ok (.iload_n 1, 1) := by decide +kernel
theorem d_S_linesClash_88 : decode b_S_linesClash 88 = .ok (.invokevirtual 90, 3) := by decide +kernel
theorem d_S_linesClash_91 : decode b_S_linesClash 91 = .ok (.ifCond .eq 7, 3) := by decide +kernel
theorem d_S_linesClash_94 : decode b_S_linesClash 94 = .ok (.iconst 1, 1) := by decide +kernel
theorem d_S_linesClash_95 : decode b_S_linesClash 95 = .ok (.goto 4, 3) := by decide +kernel
theorem d_S_linesClash_98 : decode b_S_linesClash 98 = .ok (.iconst 0, 1) := by decide +kernel
theorem d_S_linesClash_99 : decode b_S_linesClash 99 = .ok (.ireturn, 1) := by decide +kernel
theorem d_S_foldsBack_0 : decode b_S_foldsBack 0 = .ok (.aload_n 0, 1) := by decide +kernel
theorem d_S_foldsBack_1 : decode b_S_foldsBack 1 = .ok (.iload_n 1, 1) := by decide +kernel
theorem d_S_foldsBack_2 : decode b_S_foldsBack 2 = .ok (.aload_n 0, 1) := by decide +kernel
theorem d_S_foldsBack_3 : decode b_S_foldsBack 3 = .ok (.iload_n 2, 1) := by decide +kernel
theorem d_S_foldsBack_4 : decode b_S_foldsBack 4 = .ok (.invokevirtual 62, 3) := by decide +kernel
theorem d_S_foldsBack_7 : decode b_S_foldsBack 7 = .ok (.invokevirtual 87, 3) := by decide +kernel
theorem d_S_foldsBack_10 : decode b_S_foldsBack 10 = .ok (.ifCond .ne 12, 3) := by decide +kernel
theorem d_S_foldsBack_13 : decode b_S_foldsBack 13 = .ok (.aload_n 0, 1) := by decide +kernel
theorem d_S_foldsBack_14 : decode b_S_foldsBack 14 = .ok (.iload_n 2, 1) := by decide +kernel
theorem d_S_foldsBack_15 : decode b_S_foldsBack 15 = .ok (.iload_n 1, 1) := by decide +kernel
theorem d_S_foldsBack_16 : decode b_S_foldsBack 16 = .ok (.invokevirtual 87, 3) := by decide +kernel
theorem d_S_foldsBack_19 : decode b_S_foldsBack 19 = .ok (.ifCond .eq 7, 3) := by decide +kernel
theorem d_S_foldsBack_22 : decode b_S_foldsBack 22 = .ok (.iconst 1, 1) := by decide +kernel
theorem d_S_foldsBack_23 : decode b_S_foldsBack 23 = .ok (.goto 4, 3) := by decide +kernel
theorem d_S_foldsBack_26 : decode b_S_foldsBack 26 = .ok (.iconst 0, 1) := by decide +kernel
theorem d_S_foldsBack_27 : decode b_S_foldsBack 27 = .ok (.ireturn, 1) := by decide +kernel
theorem d_S_hasCorner_0 : decode b_S_hasCorner 0 = .ok (.aload_n 0, 1) := by decide +kernel
theorem d_S_hasCorner_1 : decode b_S_hasCorner 1 = .ok (.iload_n 1, 1) := by decide +kernel
theorem d_S_hasCorner_2 : decode b_S_hasCorner 2 = .ok (.aload_n 0, 1) := by decide +kernel
theorem d_S_hasCorner_3 : decode b_S_hasCorner 3 = .ok (.getfield 24, 3) := by decide +kernel
theorem d_S_hasCorner_6 : decode b_S_hasCorner 6 = .ok (.iload_n 2, 1) := by decide +kernel
theorem d_S_hasCorner_7 : decode b_S_hasCorner 7 = .ok (.iaload, 1) := by decide +kernel
theorem d_S_hasCorner_8 : decode b_S_hasCorner 8 = .ok (.aload_n 0, 1) := by decide +kernel
theorem d_S_hasCorner_9 : decode b_S_hasCorner 9 = .ok (.getfield 28, 3) := by decide +kernel
theorem d_S_hasCorner_12 : decode b_S_hasCorner 12 = .ok (.iload_n 2, 1) := by decide +kernel
theorem d_S_hasCorner_13 : decode b_S_hasCorner 13 = .ok (.iaload, 1) := by decide +kernel
theorem d_S_hasCorner_14 : decode b_S_hasCorner 14 = .ok (.invokevirtual 52, 3) := by decide +kernel
theorem d_S_hasCorner_17 : decode b_S_hasCorner 17 = .ok (.ireturn, 1) := by decide +kernel
theorem d_S_parts_0 : decode b_S_parts 0 = .ok (.aload_n 0, 1) := by decide +kernel
theorem d_S_parts_1 : decode b_S_parts 1 = .ok (.iload_n 1, 1) := by decide +kernel
theorem d_S_parts_2 : decode b_S_parts 2 = .ok (.aload_n 0, 1) := by decide +kernel
theorem d_S_parts_3 : decode b_S_parts 3 = .ok (.getfield 24, 3) := by decide +kernel
theorem d_S_parts_6 : decode b_S_parts 6 = .ok (.iload_n 2, 1) := by decide +kernel
theorem d_S_parts_7 : decode b_S_parts 7 = .ok (.iaload, 1) := by decide +kernel
theorem d_S_parts_8 : decode b_S_parts 8 = .ok (.aload_n 0, 1) := by decide +kernel
theorem d_S_parts_9 : decode b_S_parts 9 = .ok (.getfield 28, 3) := by decide +kernel
theorem d_S_parts_12 : decode b_S_parts 12 = .ok (.iload_n 2, 1) := by decide +kernel
theorem d_S_parts_13 : decode b_S_parts 13 = .ok (.iaload, 1) := by decide +kernel
theorem d_S_parts_14 : decode b_S_parts 14 = .ok (.invokevirtual 93, 3) := by decide +kernel
theorem d_S_parts_17 : decode b_S_parts 17 = .ok (.lstore_n 3, 1) := by decide +kernel
theorem d_S_parts_18 : decode b_S_parts 18 = .ok (.aload_n 0, 1) := by decide +kernel
theorem d_S_parts_19 : decode b_S_parts 19 = .ok (.iload_n 1, 1) := by decide +kernel
theorem d_S_parts_20 : decode b_S_parts 20 = .ok (.aload_n 0, 1) := by decide +kernel
theorem d_S_parts_21 : decode b_S_parts 21 = .ok (.getfield 24, 3) := by decide +kernel
theorem d_S_parts_24 : decode b_S_parts 24 = .ok (.aload_n 0, 1) := by decide +kernel
theorem d_S_parts_25 : decode b_S_parts 25 = .ok (.iload_n 2, 1) := by decide +kernel
theorem d_S_parts_26 : decode b_S_parts 26 = .ok (.invokevirtual 62, 3) := by decide +kernel
theorem d_S_parts_29 : decode b_S_parts 29 = .ok (.iaload, 1) := by decide +kernel
theorem d_S_parts_30 : decode b_S_parts 30 = .ok (.aload_n 0, 1) := by decide +kernel
theorem d_S_parts_31 : decode b_S_parts 31 = .ok (.getfield 28, 3) := by decide +kernel
theorem d_S_parts_34 : decode b_S_parts 34 = .ok (.aload_n 0, 1) := by decide +kernel
theorem d_S_parts_35 : decode b_S_parts 35 = .ok (.iload_n 2, 1) := by decide +kernel
theorem d_S_parts_36 : decode b_S_parts 36 = .ok (.invokevirtual 62, 3) := by decide +kernel
theorem d_S_parts_39 : decode b_S_parts 39 = .ok (.iaload, 1) := by decide +kernel
theorem d_S_parts_40 : decode b_S_parts 40 = .ok (.invokevirtual 93, 3) := by decide +kernel
theorem d_S_parts_43 : decode b_S_parts 43 = .ok (.lstore 5, 2) := by decide +kernel
theorem d_S_parts_45 : decode b_S_parts 45 = .ok (.lload_n 3, 1) := by decide +kernel
theorem d_S_parts_46 : decode b_S_parts 46 = .ok (.lconst 0, 1) := by decide +kernel
theorem d_S_parts_47 : decode b_S_parts 47 = .ok (.lcmp, 1) := by decide +kernel
theorem d_S_parts_48 : decode b_S_parts 48 = .ok (.ifCond .ge 10, 3) := by decide +kernel
theorem d_S_parts_51 : decode b_S_parts 51 = .ok (.lload 5, 2) := by decide +kernel
theorem d_S_parts_53 : decode b_S_parts 53 = .ok (.lconst 0, 1) := by decide +kernel
theorem d_S_parts_54 : decode b_S_parts 54 = .ok (.lcmp, 1) := by decide +kernel
theorem d_S_parts_55 : decode b_S_parts 55 = .ok (.ifCond .gt 16, 3) := by decide +kernel
theorem d_S_parts_58 : decode b_S_parts 58 = .ok (.lload_n 3, 1) := by decide +kernel
theorem d_S_parts_59 : decode b_S_parts 59 = .ok (.lconst 0, 1) := by decide +kernel
theorem d_S_parts_60 : decode b_S_parts 60 = .ok (.lcmp, 1) := by decide +kernel
theorem d_S_parts_61 : decode b_S_parts 61 = .ok (.ifCond .le 14, 3) := by decide +kernel
theorem d_S_parts_64 : decode b_S_parts 64 = .ok (.lload 5, 2) := by decide +kernel
theorem d_S_parts_66 : decode b_S_parts 66 = .ok (.lconst 0, 1) := by decide +kernel
theorem d_S_parts_67 : decode b_S_parts 67 = .ok (.lcmp, 1) := by decide +kernel
theorem d_S_parts_68 : decode b_S_parts 68 = .ok (.ifCond .ge 7, 3) := by decide +kernel
theorem d_S_parts_71 : decode b_S_parts 71 = .ok (.iconst 1, 1) := by decide +kernel
theorem d_S_parts_72 : decode b_S_parts 72 = .ok (.goto 4, 3) := by decide +kernel
theorem d_S_parts_75 : decode b_S_parts 75 = .ok (.iconst 0, 1) := by decide +kernel
theorem d_S_parts_76 : decode b_S_parts 76 = .ok (.ireturn, 1) := by decide +kernel
theorem d_S_isOnLine_0 : decode b_S_isOnLine 0 = .ok (.aload_n 0, 1) := by decide +kernel
theorem d_S_isOnLine_1 : decode b_S_isOnLine 1 = .ok (.iload_n 1, 1) := by decide +kernel
theorem d_S_isOnLine_2 : decode b_S_isOnLine 2 = .ok (.invokevirtual 62, 3) := by decide +kernel
theorem d_S_isOnLine_5 : decode b_S_isOnLine 5 = .ok (.istore 4, 2) := by decide +kernel
theorem d_S_isOnLine_7 : decode b_S_isOnLine 7 = .ok (.aload_n 0, 1) := by decide +kernel
theorem d_S_isOnLine_8 : decode b_S_isOnLine 8 = .ok (.getfield 24, 3) := by decide +kernel
theorem d_S_isOnLine_11 : decode b_S_isOnLine 11 = .ok (.iload_n 1, 1) := by decide +kernel
theorem d_S_isOnLine_12 : decode b_S_isOnLine 12 = .ok (.iaload, 1) := by decide +kernel
theorem d_S_isOnLine_13 : decode b_S_isOnLine 13 = .ok (.aload_n 0, 1) := by decide +kernel
theorem d_S_isOnLine_14 : decode b_S_isOnLine 14 = .ok (.getfield 24, 3) := by decide +kernel
theorem d_S_isOnLine_17 : decode b_S_isOnLine 17 = .ok (.iload 4, 2) := by decide +kernel
theorem d_S_isOnLine_19 : decode b_S_isOnLine 19 = .ok (.iaload, 1) := by decide +kernel
theorem d_S_isOnLine_20 : decode b_S_isOnLine 20 = .ok (.iload_n 2, 1) := by decide +kernel
theorem d_S_isOnLine_21 : decode b_S_isOnLine 21 = .ok (.invokestatic 97, 3) := by decide +kernel
theorem d_S_isOnLine_24 : decode b_S_isOnLine 24 = .ok (.ifCond .eq 39, 3) := by decide +kernel
theorem d_S_isOnLine_27 : decode b_S_isOnLine 27 = .ok (.aload_n 0, 1) := by decide +kernel
theorem d_S_isOnLine_28 : decode b_S_isOnLine 28 = .ok (.getfield 28, 3) := by decide +kernel
theorem d_S_isOnLine_31 : decode b_S_isOnLine 31 = .ok (.iload_n 1, 1) := by decide +kernel
theorem d_S_isOnLine_32 : decode b_S_isOnLine 32 = .ok (.iaload, 1) := by decide +kernel
theorem d_S_isOnLine_33 : decode b_S_isOnLine 33 = .ok (.aload_n 0, 1) := by decide +kernel
theorem d_S_isOnLine_34 : decode b_S_isOnLine 34 = .ok (.getfield 28, 3) := by decide +kernel
theorem d_S_isOnLine_37 : decode b_S_isOnLine 37 = .ok (.iload 4, 2) := by decide +kernel
theorem d_S_isOnLine_39 : decode b_S_isOnLine 39 = .ok (.iaload, 1) := by decide +kernel
theorem d_S_isOnLine_40 : decode b_S_isOnLine 40 = .ok (.iload_n 3, 1) := by decide +kernel
theorem d_S_isOnLine_41 : decode b_S_isOnLine 41 = .ok (.invokestatic 97, 3) := by decide +kernel
theorem d_S_isOnLine_44 : decode b_S_isOnLine 44 = .ok (.ifCond .eq 19, 3) := by decide +kernel
theorem d_S_isOnLine_47 : decode b_S_isOnLine 47 = .ok (.aload_n 0, 1) := by decide +kernel
theorem d_S_isOnLine_48 : decode b_S_isOnLine 48 = .ok (.iload_n 1, 1) := by decide +kernel
theorem d_S_isOnLine_49 : decode b_S_isOnLine 49 = .ok (.iload_n 2, 1) := by decide +kernel
theorem d_S_isOnLine_50 : decode b_S_isOnLine 50 = .ok (.iload_n 3, 1) := by decide +kernel
theorem d_S_isOnLine_51 : decode b_S_isOnLine 51 = .ok (.invokevirtual 93, 3) := by decide +kernel
theorem d_S_isOnLine_54 : decode b_S_isOnLine 54 = .ok (.lconst 0, 1) := by decide +kernel
theorem d_S_isOnLine_55 : decode b_S_isOnLine 55 = .ok (.lcmp, 1) := by decide +kernel
theorem d_S_isOnLine_56 : decode b_S_isOnLine 56 = .ok (.ifCond .ne 7, 3) := by decide +kernel
theorem d_S_isOnLine_59 : decode b_S_isOnLine 59 = .ok (.iconst 1, 1) := by decide +kernel
theorem d_S_isOnLine_60 : decode b_S_isOnLine 60 = .ok (.goto 4, 3) := by decide +kernel
theorem d_S_isOnLine_63 : decode b_S_isOnLine 63 = .ok (.iconst 0, 1) := by decide +kernel
theorem d_S_isOnLine_64 : decode b_S_isOnLine 64 = .ok (.ireturn, 1) := by decide +kernel
theorem d_S_isLineRightOf_0 : decode b_S_isLineRightOf 0 = .ok (.aload_n 0, 1) := by decide +kernel
theorem d_S_isLineRightOf_1 : decode b_S_isLineRightOf 1 = .ok (.iload_n 1, 1) := by decide +kernel
theorem d_S_isLineRightOf_2 : decode b_S_isLineRightOf 2 = .ok (.invokevirtual 62, 3) := by decide +kernel
theorem d_S_isLineRightOf_5 : decode b_S_isLineRightOf 5 = .ok (.istore 4, 2) := by decide +kernel
theorem d_S_isLineRightOf_7 : decode b_S_isLineRightOf 7 = .ok (.aload_n 0, 1) := by decide +kernel
theorem d_S_isLineRightOf_8 : decode b_S_isLineRightOf 8 = .ok (.getfield 28, 3) := by decide +kernel
theorem d_S_isLineRightOf_11 : decode b_S_isLineRightOf 11 = .ok (.iload_n 1, 1) := by decide +kernel
theorem d_S_isLineRightOf_12 : decode b_S_isLineRightOf 12 = .ok (.iaload, 1) := by decide +kernel
theorem d_S_isLineRightOf_13 : decode b_S_isLineRightOf 13 = .ok (.iload_n 3, 1) := by decide +kernel
theorem d_S_isLineRightOf_14 : decode b_S_isLineRightOf 14 = .ok (.if_icmp .gt 32, 3) := by decide +kernel
theorem d_S_isLineRightOf_17 : decode b_S_isLineRightOf 17 = .ok (.iload_n 3, 1) := by decide +kernel
theorem d_S_isLineRightOf_18 : decode b_S_isLineRightOf 18 = .ok (.aload_n 0, 1) := by decide +kernel
theorem d_S_isLineRightOf_19 : decode b_S_isLineRightOf 19 = .ok (.getfield 28, 3) := by decide +kernel
theorem d_S_isLineRightOf_22 : decode b_S_isLineRightOf 22 = .ok (.iload 4, 2) := by decide +kernel
theorem d_S_isLineRightOf_24 : decode b_S_isLineRightOf 24 = .ok (.iaload, 1) := by decide +kernel
theorem d_S_isLineRightOf_25 : decode b_S_isLineRightOf 25 = .ok (.if_icmp .ge 21, 3) := by decide +kernel
theorem d_S_isLineRightOf_28 : decode b_S_isLineRightOf 28 = .ok (.aload_n 0, 1) := by decide +kernel
theorem d_S_isLineRightOf_29 : decode b_S_isLineRightOf 29 = .ok (.iload_n 1, 1) := by decide +kernel
theorem d_S_isLineRightOf_30 : decode b_S_isLineRightOf 30 = .ok (.iload_n 2, 1) := by decide +kernel
theorem d_S_isLineRightOf_31 : decode b_S_isLineRightOf 31 = .ok (.iload_n 3, 1) := by decide +kernel
theorem d_S_isLineRightOf_32 : decode b_S_isLineRightOf 32 = .ok (.invokevirtual 93, 3) := by decide +kernel
theorem d_S_isLineRightOf_35 : decode b_S_isLineRightOf 35 = .ok (.lconst 0, 1) := by decide +kernel
theorem d_S_isLineRightOf_36 : decode b_S_isLineRightOf 36 = .ok (.lcmp, 1) := by decide +kernel
theorem d_S_isLineRightOf_37 : decode b_S_isLineRightOf 37 = .ok (.ifCond .le 7, 3) := by decide +kernel
theorem d_S_isLineRightOf_40 : decode b_S_isLineRightOf 40 = .ok (.iconst 1, 1) := by decide +kernel
theorem d_S_isLineRightOf_41 : decode b_S_isLineRightOf 41 = .ok (.goto 4, 3) := by decide +kernel
theorem d_S_isLineRightOf_44 : decode b_S_isLineRightOf 44 = .ok (.iconst 0, 1) := by decide +kernel
theorem d_S_isLineRightOf_45 : decode b_S_isLineRightOf 45 = .ok (.ireturn, 1) := by decide +kernel
theorem d_S_isLineRightOf_46 : decode b_S_isLineRightOf 46 = .ok (.aload_n 0, 1) := by decide +kernel
theorem d_S_isLineRightOf_47 : decode b_S_isLineRightOf 47 = .ok (.getfield 28, 3) := by decide +kernel
theorem d_S_isLineRightOf_50 : decode b_S_isLineRightOf 50 = .ok (.iload 4, 2) := by decide +kernel
theorem d_S_isLineRightOf_52 : decode b_S_isLineRightOf 52 = .ok (.iaload, 1) := by decide +kernel
theorem d_S_isLineRightOf_53 : decode b_S_isLineRightOf 53 = .ok (.iload_n 3, 1) := by decide +kernel
theorem d_S_isLineRightOf_54 : decode b_S_isLineRightOf 54 = .ok (.if_icmp .gt 29, 3) := by decide +kernel
theorem d_S_isLineRightOf_57 : decode b_S_isLineRightOf 57 = .ok (.iload_n 3, 1) := by decide +kernel
theorem d_S_isLineRightOf_58 : decode b_S_isLineRightOf 58 = .ok (.aload_n 0, 1) := by decide +kernel
theorem d_S_isLineRightOf_59 : decode b_S_isLineRightOf 59 = .ok (.getfield 28, 3) := by decide +kernel
theorem d_S_isLineRightOf_62 : decode b_S_isLineRightOf 62 = .ok (.iload_n 1, 1) := by decide +kernel
theorem d_S_isLineRightOf_63 : decode b_S_isLineRightOf 63 = .ok (.iaload, 1) := by decide +kernel
theorem d_S_isLineRightOf_64 : decode b_S_isLineRightOf 64 = .ok (.if_icmp .ge 19, 3) := by decide +kernel
theorem d_S_isLineRightOf_67 : decode b_S_isLineRightOf 67 = .ok (.aload_n 0, 1) := by decide +kernel
theorem d_S_isLineRightOf_68 : decode b_S_isLineRightOf 68 = .ok (.iload_n 1, 1) := by decide +kernel
theorem d_S_isLineRightOf_69 : decode b_S_isLineRightOf 69 = .ok (.iload_n 2, 1) := by decide +kernel
theorem d_S_isLineRightOf_70 : decode b_S_isLineRightOf 70 = .ok (.iload_n 3, 1) := by decide +kernel
theorem d_S_isLineRightOf_71 : decode b_S_isLineRightOf 71 = .ok (.invokevirtual 93, 3) := by decide +kernel
theorem d_S_isLineRightOf_74 : decode b_S_isLineRightOf 74 = .ok (.lconst 0, 1) := by decide +kernel
theorem d_S_isLineRightOf_75 : decode b_S_isLineRightOf 75 = .ok (.lcmp, 1) := by decide +kernel
theorem d_S_isLineRightOf_76 : decode b_S_isLineRightOf 76 = .ok (.ifCond .ge 7, 3) := by decide +kernel
theorem d_S_isLineRightOf_79 : decode b_S_isLineRightOf 79 = .ok (.iconst 1, 1) := by decide +kernel
theorem d_S_isLineRightOf_80 : decode b_S_isLineRightOf 80 = .ok (.goto 4, 3) := by decide +kernel
theorem d_S_isLineRightOf_83 : decode b_S_isLineRightOf 83 = .ok (.iconst 0, 1) := by decide +kernel
theorem d_S_isLineRightOf_84 : decode b_S_isLineRightOf 84 = .ok (.ireturn, 1) := by decide +kernel
theorem d_S_side_0 : decode b_S_side 0 = .ok (.aload_n 0, 1) := by decide +kernel
theorem d_S_side_1 : decode b_S_side 1 = .ok (.iload_n 1, 1) := by decide +kernel
theorem d_S_side_2 : decode b_S_side 2 = .ok (.invokevirtual 62, 3) := by decide +kernel
theorem d_S_side_5 : decode b_S_side 5 = .ok (.istore 4, 2) := by decide +kernel
theorem d_S_side_7 : decode b_S_side 7 = .ok (.aload_n 0, 1) := by decide +kernel
theorem d_S_side_8 : decode b_S_side 8 = .ok (.getfield 24, 3) := by decide +kernel
theorem d_S_side_11 : decode b_S_side 11 = .ok (.iload_n 1, 1) := by decide +kernel
theorem d_S_side_12 : decode b_S_side 12 = .ok (.iaload, 1) := by decide +kernel
theorem d_S_side_13 : decode b_S_side 13 = .ok (.aload_n 0, 1) := by decide +kernel
theorem d_S_side_14 : decode b_S_side 14 = .ok (.getfield 28, 3) := by decide +kernel
theorem d_S_side_17 : decode b_S_side 17 = .ok (.iload_n 1, 1) := by decide +kernel
theorem d_S_side_18 : decode b_S_side 18 = .ok (.iaload, 1) := by decide +kernel
theorem d_S_side_19 : decode b_S_side 19 = .ok (.aload_n 0, 1) := by decide +kernel
theorem d_S_side_20 : decode b_S_side 20 = .ok (.getfield 24, 3) := by decide +kernel
theorem d_S_side_23 : decode b_S_side 23 = .ok (.iload 4, 2) := by decide +kernel
theorem d_S_side_25 : decode b_S_side 25 = .ok (.iaload, 1) := by decide +kernel
theorem d_S_side_26 : decode b_S_side 26 = .ok (.aload_n 0, 1) := by decide +kernel
theorem d_S_side_27 : decode b_S_side 27 = .ok (.getfield 28, 3) := by decide +kernel
theorem d_S_side_30 : decode b_S_side 30 = .ok (.iload 4, 2) := by decide +kernel
theorem d_S_side_32 : decode b_S_side 32 = .ok (.iaload, 1) := by decide +kernel
theorem d_S_side_33 : decode b_S_side 33 = .ok (.iload_n 2, 1) := by decide +kernel
theorem d_S_side_34 : decode b_S_side 34 = .ok (.iload_n 3, 1) := by decide +kernel
theorem d_S_side_35 : decode b_S_side 35 = .ok (.invokestatic 66, 3) := by decide +kernel
theorem d_S_side_38 : decode b_S_side 38 = .ok (.lreturn, 1) := by decide +kernel
end
section
/-! PURE: what the class's readers answer (own text) -/
def pc_nx (n k : Nat) : Nat := if k + 1 < n then k + 1 else 0
theorem pc_nx_lt {n k : Nat} (h : k < n) : pc_nx n k < n := by unfold pc_nx; split <;> omega
def pc_turn (ax ay bx bY cx cy : Int32) : Int64 := (bx - ax).toInt64 * (cy - ay).toInt64 - (bY - ay).toInt64 * (cx - ax).toInt64
def pc_btw (e o v : Int32) : Bool := decide ((if o < e then o else e) ≤ v) && decide (v ≤ (if e < o then o else e))
def pc_side (xs ys : Nat → Int32) (n i : Nat) (x y : Int32) : Int64 := pc_turn (xs i) (ys i) (xs (pc_nx n i)) (ys (pc_nx n i)) x y
def pc_on (xs ys : Nat → Int32) (n i : Nat) (x y : Int32) : Bool := pc_btw (xs i) (xs (pc_nx n i)) x && (pc_btw (ys i) (ys (pc_nx n i)) y && decide (pc_side xs ys n i x y = 0))
def pc_rt (xs ys : Nat → Int32) (n i : Nat) (x y : Int32) : Bool :=
  if ys i ≤ y ∧ y < ys (pc_nx n i) then decide (0 < pc_side xs ys n i x y)
  else decide (ys (pc_nx n i) ≤ y) && (decide (y < ys i) && decide (pc_side xs ys n i x y < 0))
def pc_cont (xs ys : Nat → Int32) (n : Nat) (x y : Int32) : Nat → Nat → Bool → Bool
  | 0, _, w => w
  | k + 1, i, w => if pc_on xs ys n i x y = true then true else pc_cont xs ys n x y k (i + 1) (if pc_rt xs ys n i x y = true then !w else w)
def pc_in (xs ys : Nat → Int32) (n : Nat) (x y : Int32) : Bool := pc_cont xs ys n x y n 0 false
def pc_hc (xs ys : Nat → Int32) (n i k : Nat) : Bool := pc_on xs ys n i (xs k) (ys k)
def pc_fold (xs ys : Nat → Int32) (n i j : Nat) : Bool := pc_hc xs ys n i (pc_nx n j) || pc_hc xs ys n j i
def pc_parts (xs ys : Nat → Int32) (n i j : Nat) : Bool :=
  (decide (pc_side xs ys n i (xs j) (ys j) < 0) && decide (0 < pc_side xs ys n i (xs (pc_nx n j)) (ys (pc_nx n j)))) ||
  (decide (0 < pc_side xs ys n i (xs j) (ys j)) && decide (pc_side xs ys n i (xs (pc_nx n j)) (ys (pc_nx n j)) < 0))
def pc_clash (xs ys : Nat → Int32) (n i j : Nat) : Bool :=
  if pc_nx n i = j then pc_fold xs ys n i j else if pc_nx n j = i then pc_fold xs ys n j i
  else pc_hc xs ys n i j || (pc_hc xs ys n i (pc_nx n j) || (pc_hc xs ys n j i || (pc_hc xs ys n j (pc_nx n i) || (pc_parts xs ys n i j && pc_parts xs ys n j i))))
def pc_same (xs ys : Nat → Int32) (i j : Nat) : Bool := decide (xs i = xs j) && decide (ys i = ys j)
/-- no clash of line i with the lines j, j + 1, .. -/
def pc_ccj (xs ys : Nat → Int32) (n i : Nat) : Nat → Nat → Bool
  | 0, _ => true
  | k + 1, j => if pc_same xs ys i j = true then false else if pc_clash xs ys n i j = true then false else pc_ccj xs ys n i k (j + 1)
def pc_cci (xs ys : Nat → Int32) (n : Nat) : Nat → Nat → Bool
  | 0, _ => true
  | k + 1, i => if pc_ccj xs ys n i (n - (i + 1)) (i + 1) = true then pc_cci xs ys n k (i + 1) else false
def pc_can (xs ys : Nat → Int32) (n : Nat) (ca : Int32) : Bool := if 0 < ca then false else if n < 3 then false else pc_cci xs ys n n 0
/-- the corners i, i + 1, .. of another border lie in this one -/
def pc_all (xs ys : Nat → Int32) (n : Nat) (us vs : Nat → Int32) : Nat → Nat → Bool
  | 0, _ => true
  | k + 1, i => if pc_in xs ys n (us i) (vs i) = true then pc_all xs ys n us vs k (i + 1) else false
def pc_sum (xs ys : Nat → Int32) (n : Nat) : Nat → Nat → Int64 → Int64
  | 0, _, a => a
  | k + 1, i, a => pc_sum xs ys n k (i + 1) (a + pc_turn 0 0 (xs i) (ys i) (xs (pc_nx n i)) (ys (pc_nx n i)))
def pc_area (xs ys : Nat → Int32) (n : Nat) : Int32 := (if 0 < pc_sum xs ys n n 0 0 then pc_sum xs ys n n 0 0 else -pc_sum xs ys n n 0 0).toInt32
def pc_sq (xs ys : Nat → Int32) (i : Nat) (us vs : Nat → Int32) (j : Nat) : Int32 := (xs i - us j) * (xs i - us j) + (ys i - vs j) * (ys i - vs j)
def pc_lj (xs ys us vs : Nat → Int32) (i : Nat) : Nat → Nat → Int32 → Int32
  | 0, _, a => a
  | k + 1, j, a => pc_lj xs ys us vs i k (j + 1) (if pc_sq xs ys i us vs j < a then pc_sq xs ys i us vs j else a)
def pc_li (xs ys us vs : Nat → Int32) (n2 : Nat) : Nat → Nat → Int32 → Int32
  | 0, _, a => a
  | k + 1, i, a => pc_li xs ys us vs n2 k (i + 1) (pc_lj xs ys us vs i n2 0 a)
def pc_least (xs ys : Nat → Int32) (n : Nat) (us vs : Nat → Int32) (n2 : Nat) : Int32 := pc_li xs ys us vs n2 n 0 (pc_sq xs ys 0 us vs 0)
end
section
/-- a Shape, and its two arrays -/
def z_Sh (D : va_G) (cI : ClassId) (H : Heap) (a ax ay n : Nat) (num own fr to_ ca : Int32) (pv : Value) (xs ys : Nat → Int32) : Prop :=
  z_O D H a 2 [.int num, .int own, .int fr, .int to_, .ref ax, .ref ay, .int (nI n), .int ca, pv] ∧ z_A cI H ax 12 xs ∧ z_A cI H ay 12 ys
section S1
variable {s0 : State} {dC : Nat → ClassId} {dI : Nat → Nat → Nat} {cI cS : ClassId} {l : Launch}
set_option maxRecDepth 100000 in
set_option maxHeartbeats 4000000 in
theorem c_B_turn (G : z_G s0 (dC, dI) cI cS) (ax ay bx bY cx cy : Int32) : Met l y_B_turn [Cond.code y_B_turn b_B_turn 6 (some .long)] ({ frames := 0, cells := 0, slots := 0, locals := 0 }) (z_Pc s0 [.int ax, .int ay, .int bx, .int bY, .int cx, .int cy] (fun H => True)) (z_Qr (some (.long (pc_turn ax ay bx bY cx cy)))) 0 0 z_no := by
  refine z_ofW (by decide +kernel) (Nat.le_of_ble_eq_true rfl) ?_
  intro p e s m below meth c hx hb hml hr hown hlocks hnm hW0 hB ls hl
  have hts := z_hts (args := [.int ax, .int ay, .int bx, .int bY, .int cx, .int cy].toArray) G.1 hW0
  have hN := z_nstW G.2.1 hW0
  have hK := va_K.moved hW0.alike G.2.2.1
  have hAI := arrOfT_moved hW0.alike G.2.2.2.1
  have hl : lv_has ls 6 [(0, .int ax), (1, .int ay), (2, .int bx), (3, .int bY), (4, .int cx), (5, .int cy)] := hl
  refine lv_iload_n hx hb d_B_turn_0 rfl (lv_at hl 2 rfl) ?_
  refine lv_iload_n hx hb d_B_turn_1 rfl (lv_at hl 0 rfl) ?_
  refine lv_isub hx hb d_B_turn_2 ?_
  refine lv_i2l hx hb d_B_turn_3 rfl ?_
  refine lv_iload hx hb d_B_turn_4 (lv_at hl 5 rfl) ?_
  refine lv_iload_n hx hb d_B_turn_6 rfl (lv_at hl 1 rfl) ?_
  refine lv_isub hx hb d_B_turn_7 ?_
  refine lv_i2l hx hb d_B_turn_8 rfl ?_
  refine lv_lmul hx hb d_B_turn_9 ?_
  refine lv_iload_n hx hb d_B_turn_10 rfl (lv_at hl 3 rfl) ?_
  refine lv_iload_n hx hb d_B_turn_11 rfl (lv_at hl 1 rfl) ?_
  refine lv_isub hx hb d_B_turn_12 ?_
  refine lv_i2l hx hb d_B_turn_13 rfl ?_
  refine lv_iload hx hb d_B_turn_14 (lv_at hl 4 rfl) ?_
  refine lv_iload_n hx hb d_B_turn_16 rfl (lv_at hl 0 rfl) ?_
  refine lv_isub hx hb d_B_turn_17 ?_
  refine lv_i2l hx hb d_B_turn_18 rfl ?_
  refine lv_lmul hx hb d_B_turn_19 ?_
  refine lv_lsub hx hb d_B_turn_20 ?_
  exact z_lret hx hb hr hlocks (by rfl) d_B_turn_21
set_option maxRecDepth 100000 in
set_option maxHeartbeats 4000000 in
theorem c_B_isBetween (G : z_G s0 (dC, dI) cI cS) (e1 o1 v1 : Int32) : Met l y_B_isBetween [Cond.code y_B_isBetween b_B_isBetween 3 (some .boolean)] ({ frames := 1, cells := 0, slots := 0, locals := 21 }) (z_Pc s0 [.int e1, .int o1, .int v1] (fun H => True)) (z_Qr (some (.int (pi_b (pc_btw e1 o1 v1))))) 0 0 z_no := by
  refine z_ofW (by decide +kernel) (Nat.le_of_ble_eq_true rfl) ?_
  intro p e s m below meth c hx hb hml hr hown hlocks hnm hW0 hB ls hl
  have hts := z_hts (args := [.int e1, .int o1, .int v1].toArray) G.1 hW0
  have hN := z_nstW G.2.1 hW0
  have hK := va_K.moved hW0.alike G.2.2.1
  have hAI := arrOfT_moved hW0.alike G.2.2.2.1
  have hl : lv_has ls 3 [(0, .int e1), (1, .int o1), (2, .int v1)] := hl
  refine lv_iload_n hx hb d_B_isBetween_0 rfl (lv_at hl 0 rfl) ?_
  refine lv_iload_n hx hb d_B_isBetween_1 rfl (lv_at hl 1 rfl) ?_
  refine va_mmin hx hb (hml.trans hl.1.symm) hown (hts _ w_325) (hts _ w_326) (hts _ w_12) (hts _ w_327) (Nat.le_of_ble_eq_true rfl) (Nat.le_of_ble_eq_true rfl) (Nat.zero_le _) (Nat.zero_le _) d_B_isBetween_2 ?_
  refine lv_iload_n hx hb d_B_isBetween_5 rfl (lv_at hl 2 rfl) ?_
  refine lv_icmp_gt (tgt := 22) hx hb d_B_isBetween_6 (by decide) (fun c_1 => ?_) (fun c_1 => ?_)
  · skip
    have c_1' : ¬ ((if o1 < e1 then o1 else e1) ≤ v1) := Int32.not_le.mpr c_1
    refine lv_iconst (v := 0) hx hb d_B_isBetween_22 (by decide) ?_
    exact z_zret hx hb hr hlocks (by simp [pi_b, pc_btw, c_1, c_1']) d_B_isBetween_23
  · skip
    have c_1' : (if o1 < e1 then o1 else e1) ≤ v1 := Int32.not_lt.mp c_1
    refine lv_iload_n hx hb d_B_isBetween_9 rfl (lv_at hl 2 rfl) ?_
    refine lv_iload_n hx hb d_B_isBetween_10 rfl (lv_at hl 0 rfl) ?_
    refine lv_iload_n hx hb d_B_isBetween_11 rfl (lv_at hl 1 rfl) ?_
    refine va_mmax hx hb (hml.trans hl.1.symm) hown (hts _ w_328) (hts _ w_329) (hts _ w_12) (hts _ w_330) (Nat.le_of_ble_eq_true rfl) (Nat.le_of_ble_eq_true rfl) (Nat.zero_le _) (Nat.zero_le _) d_B_isBetween_12 ?_
    refine lv_icmp_gt (tgt := 22) hx hb d_B_isBetween_15 (by decide) (fun c_2 => ?_) (fun c_2 => ?_)
    · skip
      have c_2' : ¬ (v1 ≤ (if e1 < o1 then o1 else e1)) := Int32.not_le.mpr c_2
      refine lv_iconst (v := 0) hx hb d_B_isBetween_22 (by decide) ?_
      exact z_zret hx hb hr hlocks (by simp [pi_b, pc_btw, c_1, c_1', c_2, c_2']) d_B_isBetween_23
    · skip
      have c_2' : v1 ≤ (if e1 < o1 then o1 else e1) := Int32.not_lt.mp c_2
      refine lv_iconst (v := 1) hx hb d_B_isBetween_18 (by decide) ?_
      refine lv_goto (tgt := 23) hx hb d_B_isBetween_19 (by decide) ?_
      exact z_zret hx hb hr hlocks (by simp [pi_b, pc_btw, c_1, c_1', c_2, c_2']) d_B_isBetween_23
set_option maxRecDepth 100000 in
set_option maxHeartbeats 4000000 in
theorem c_S_next (G : z_G s0 (dC, dI) cI cS) (a ax ay n : Nat) (num own fr to_ ca : Int32) (pv : Value) (xs ys : Nat → Int32) (k : Nat) (hk : k < n) (hn : n ≤ 12) : Met l y_S_next [Cond.code y_S_next b_S_next 2 (some .int)] ({ frames := 0, cells := 0, slots := 0, locals := 0 }) (z_Pc s0 [.ref a, .int (nI k)] (fun H => z_Sh (dC, dI) cI H a ax ay n num own fr to_ ca pv xs ys)) (z_Qr (some (.int (nI (pc_nx n k))))) 0 0 z_no := by
  refine z_ofW (by decide +kernel) (Nat.le_of_ble_eq_true rfl) ?_
  intro p e s m below meth c hx hb hml hr hown hlocks hnm hW0 hB ls hl
  have hts := z_hts (args := [.ref a, .int (nI k)].toArray) G.1 hW0
  have hN := z_nstW G.2.1 hW0
  have hK := va_K.moved hW0.alike G.2.2.1
  have hAI := arrOfT_moved hW0.alike G.2.2.2.1
  have hl : lv_has ls 2 [(0, .ref a), (1, .int (nI k))] := hl
  obtain ⟨hO, hX, hY⟩ := id hB
  refine lv_iload_n hx hb d_S_next_0 rfl (lv_at hl 1 rfl) ?_
  refine lv_iconst (v := 1) hx hb d_S_next_1 (by decide) ?_
  refine lv_iadd hx hb d_S_next_2 ?_
  refine z_topi (y := nI (k + 1)) (nI_add k 1) ?_
  refine lv_aload_n hx hb d_S_next_3 rfl (lv_at hl 0 rfl) ?_
  refine va_get (D := (dC, dI)) (ci := 2) (v := .int (nI n)) (C := R_S) (T := T_S) (N := 9) hx hb hts in_S hown hK hO.P 0 rfl rfl 6 (by decide) (hts _ w_233) (fun _ h9 => h9) rfl d_S_next_4 ?_
  refine lv_icmp_ge (tgt := 16) hx hb d_S_next_7 (by decide) (fun c_1 => ?_) (fun c_1 => ?_)
  · skip
    have c_1 : n ≤ (k + 1) := (nI_leI (a := n) (b := k + 1) (by omega) (by omega)).mp c_1
    refine lv_iconst (v := 0) hx hb d_S_next_16 (by decide) ?_
    exact z_iret hx hb hr hlocks (by unfold pc_nx; first | rw [if_pos (by omega)] | rw [if_neg (by omega)]; first | rfl | decide) d_S_next_17
  · skip
    have c_1 : ¬ (n ≤ (k + 1)) := fun h => c_1 ((nI_leI (a := n) (b := k + 1) (by omega) (by omega)).mpr h)
    refine lv_iload_n hx hb d_S_next_10 rfl (lv_at hl 1 rfl) ?_
    refine lv_iconst (v := 1) hx hb d_S_next_11 (by decide) ?_
    refine lv_iadd hx hb d_S_next_12 ?_
    refine z_topi (y := nI (k + 1)) (nI_add k 1) ?_
    refine lv_goto (tgt := 17) hx hb d_S_next_13 (by decide) ?_
    exact z_iret hx hb hr hlocks (by unfold pc_nx; first | rw [if_pos (by omega)] | rw [if_neg (by omega)]; first | rfl | decide) d_S_next_17
set_option maxRecDepth 100000 in
set_option maxHeartbeats 4000000 in
theorem c_S_isClosed (G : z_G s0 (dC, dI) cI cS) (a ax ay n : Nat) (num own fr to_ ca : Int32) (pv : Value) (xs ys : Nat → Int32) : Met l y_S_isClosed [Cond.code y_S_isClosed b_S_isClosed 1 (some .boolean)] ({ frames := 0, cells := 0, slots := 0, locals := 0 }) (z_Pc s0 [.ref a] (fun H => z_Sh (dC, dI) cI H a ax ay n num own fr to_ ca pv xs ys)) (z_Qr (some (.int (pi_b (decide (0 < ca)))))) 0 0 z_no := by
  refine z_ofW (by decide +kernel) (Nat.le_of_ble_eq_true rfl) ?_
  intro p e s m below meth c hx hb hml hr hown hlocks hnm hW0 hB ls hl
  have hts := z_hts (args := [.ref a].toArray) G.1 hW0
  have hN := z_nstW G.2.1 hW0
  have hK := va_K.moved hW0.alike G.2.2.1
  have hAI := arrOfT_moved hW0.alike G.2.2.2.1
  have hl : lv_has ls 1 [(0, .ref a)] := hl
  obtain ⟨hO, hX, hY⟩ := id hB
  refine lv_aload_n hx hb d_S_isClosed_0 rfl (lv_at hl 0 rfl) ?_
  refine va_get (D := (dC, dI)) (ci := 2) (v := .int ca) (C := R_S) (T := T_S) (N := 9) hx hb hts in_S hown hK hO.P 0 rfl rfl 7 (by decide) (hts _ w_234) (fun _ h9 => h9) rfl d_S_isClosed_1 ?_
  refine lv_if_le (tgt := 11) hx hb d_S_isClosed_4 (by decide) (fun c_1 => ?_) (fun c_1 => ?_)
  · skip
    have c_1' : ¬ ((0 : Int32) < ca) := Int32.not_lt.mpr c_1
    refine lv_iconst (v := 0) hx hb d_S_isClosed_11 (by decide) ?_
    exact z_zret hx hb hr hlocks (by simp [pi_b, decide_eq_true_eq, c_1, c_1']) d_S_isClosed_12
  · skip
    have c_1' : (0 : Int32) < ca := Int32.not_le.mp c_1
    refine lv_iconst (v := 1) hx hb d_S_isClosed_7 (by decide) ?_
    refine lv_goto (tgt := 12) hx hb d_S_isClosed_8 (by decide) ?_
    exact z_zret hx hb hr hlocks (by simp [pi_b, decide_eq_true_eq, c_1, c_1']) d_S_isClosed_12
set_option maxRecDepth 100000 in
set_option maxHeartbeats 4000000 in
theorem c_S_isFull (G : z_G s0 (dC, dI) cI cS) (a ax ay n : Nat) (num own fr to_ ca : Int32) (pv : Value) (xs ys : Nat → Int32) (hn : n ≤ 12) : Met l y_S_isFull [Cond.code y_S_isFull b_S_isFull 1 (some .boolean)] ({ frames := 0, cells := 0, slots := 0, locals := 0 }) (z_Pc s0 [.ref a] (fun H => z_Sh (dC, dI) cI H a ax ay n num own fr to_ ca pv xs ys)) (z_Qr (some (.int (pi_b (decide (12 ≤ n)))))) 0 0 z_no := by
  refine z_ofW (by decide +kernel) (Nat.le_of_ble_eq_true rfl) ?_
  intro p e s m below meth c hx hb hml hr hown hlocks hnm hW0 hB ls hl
  have hts := z_hts (args := [.ref a].toArray) G.1 hW0
  have hN := z_nstW G.2.1 hW0
  have hK := va_K.moved hW0.alike G.2.2.1
  have hAI := arrOfT_moved hW0.alike G.2.2.2.1
  have hl : lv_has ls 1 [(0, .ref a)] := hl
  obtain ⟨hO, hX, hY⟩ := id hB
  refine lv_aload_n hx hb d_S_isFull_0 rfl (lv_at hl 0 rfl) ?_
  refine va_get (D := (dC, dI)) (ci := 2) (v := .int (nI n)) (C := R_S) (T := T_S) (N := 9) hx hb hts in_S hown hK hO.P 0 rfl rfl 6 (by decide) (hts _ w_233) (fun _ h9 => h9) rfl d_S_isFull_1 ?_
  refine lv_bipush (v := 12) hx hb d_S_isFull_4 (by decide) ?_
  refine lv_icmp_lt (tgt := 13) hx hb d_S_isFull_6 (by decide) (fun c_1 => ?_) (fun c_1 => ?_)
  · skip
    have c_1 : n < 12 := (nI_ltI (a := n) (b := 12) (by omega) (by omega)).mp c_1
    refine lv_iconst (v := 0) hx hb d_S_isFull_13 (by decide) ?_
    exact z_zret hx hb hr hlocks (by simp only [pi_b, decide_eq_true_eq]; first | rw [if_pos (by omega)] | rw [if_neg (by omega)]) d_S_isFull_14
  · skip
    have c_1 : ¬ (n < 12) := fun h => c_1 ((nI_ltI (a := n) (b := 12) (by omega) (by omega)).mpr h)
    refine lv_iconst (v := 1) hx hb d_S_isFull_9 (by decide) ?_
    refine lv_goto (tgt := 14) hx hb d_S_isFull_10 (by decide) ?_
    exact z_zret hx hb hr hlocks (by simp only [pi_b, decide_eq_true_eq]; first | rw [if_pos (by omega)] | rw [if_neg (by omega)]) d_S_isFull_14
set_option maxRecDepth 100000 in
set_option maxHeartbeats 4000000 in
theorem c_S_holdsFor (G : z_G s0 (dC, dI) cI cS) (a ax ay n : Nat) (num own fr to_ ca : Int32) (pv : Value) (xs ys : Nat → Int32) (p1 d1 : Int32) : Met l y_S_holdsFor [Cond.code y_S_holdsFor b_S_holdsFor 3 (some .boolean)] ({ frames := 1, cells := 0, slots := 0, locals := 20 }) (z_Pc s0 [.ref a, .int p1, .int d1] (fun H => z_Sh (dC, dI) cI H a ax ay n num own fr to_ ca pv xs ys)) (z_Qr (some (.int (pi_b (decide (0 < ca) && (decide (own = p1) && (decide (fr ≤ d1) && decide (d1 ≤ to_)))))))) 0 0 z_no := by
  refine z_ofW (by decide +kernel) (Nat.le_of_ble_eq_true rfl) ?_
  intro p e s m below meth c hx hb hml hr hown hlocks hnm hW0 hB ls hl
  have hts := z_hts (args := [.ref a, .int p1, .int d1].toArray) G.1 hW0
  have hN := z_nstW G.2.1 hW0
  have hK := va_K.moved hW0.alike G.2.2.1
  have hAI := arrOfT_moved hW0.alike G.2.2.2.1
  have hl : lv_has ls 3 [(0, .ref a), (1, .int p1), (2, .int d1)] := hl
  obtain ⟨hO, hX, hY⟩ := id hB
  refine lv_aload_n hx hb d_S_holdsFor_0 rfl (lv_at hl 0 rfl) ?_
  refine z_rdV (n := 0) (C := R_S) (rest := []) ⟨hx, hb, hml, hown, hts⟩ hW0 (c_S_isClosed G a ax ay n num own fr to_ ca pv xs ys) w_276 w_297 w_274 w_275 w_11 (by decide +kernel) ⟨rfl, rfl, Nat.le_of_ble_eq_true rfl, Nat.le_of_ble_eq_true rfl⟩ (hO.recv hK rfl) (hB) rfl rfl hl.1 (Nat.le_of_ble_eq_true rfl) d_S_holdsFor_1 ⟨Nat.zero_le _, Nat.zero_le _⟩ ?_
  refine lv_if_eq (tgt := 35) hx hb d_S_holdsFor_4 (by decide) (fun c_1 => ?_) (fun c_1 => ?_)
  · skip
    have c_1 : ¬ (0 < ca) := of_decide_eq_false (pi_b_0.mp c_1)
    refine lv_iconst (v := 0) hx hb d_S_holdsFor_35 (by decide) ?_
    exact z_zret hx hb hr hlocks (by simp [pi_b, Bool.and_eq_true, c_1]) d_S_holdsFor_36
  · skip
    have c_1 : (0 < ca) := of_decide_eq_true (pi_b_1.mp c_1)
    refine lv_aload_n hx hb d_S_holdsFor_7 rfl (lv_at hl 0 rfl) ?_
    refine va_get (D := (dC, dI)) (ci := 2) (v := .int own) (C := R_S) (T := T_S) (N := 9) hx hb hts in_S hown hK hO.P 0 rfl rfl 1 (by decide) (hts _ w_227) (fun _ h9 => h9) rfl d_S_holdsFor_8 ?_
    refine lv_iload_n hx hb d_S_holdsFor_11 rfl (lv_at hl 1 rfl) ?_
    refine lv_icmp_ne (tgt := 35) hx hb d_S_holdsFor_12 (by decide) (fun c_2 => ?_) (fun c_2 => ?_)
    · skip
      refine lv_iconst (v := 0) hx hb d_S_holdsFor_35 (by decide) ?_
      exact z_zret hx hb hr hlocks (by simp [pi_b, Bool.and_eq_true, c_1, c_2]) d_S_holdsFor_36
    · skip
      refine lv_aload_n hx hb d_S_holdsFor_15 rfl (lv_at hl 0 rfl) ?_
      refine va_get (D := (dC, dI)) (ci := 2) (v := .int fr) (C := R_S) (T := T_S) (N := 9) hx hb hts in_S hown hK hO.P 0 rfl rfl 2 (by decide) (hts _ w_229) (fun _ h9 => h9) rfl d_S_holdsFor_16 ?_
      refine lv_iload_n hx hb d_S_holdsFor_19 rfl (lv_at hl 2 rfl) ?_
      refine lv_icmp_gt (tgt := 35) hx hb d_S_holdsFor_20 (by decide) (fun c_3 => ?_) (fun c_3 => ?_)
      · skip
        have c_3' : ¬ (fr ≤ d1) := Int32.not_le.mpr c_3
        refine lv_iconst (v := 0) hx hb d_S_holdsFor_35 (by decide) ?_
        exact z_zret hx hb hr hlocks (by simp [pi_b, Bool.and_eq_true, c_1, c_2, c_3, c_3']) d_S_holdsFor_36
      · skip
        have c_3' : fr ≤ d1 := Int32.not_lt.mp c_3
        refine lv_iload_n hx hb d_S_holdsFor_23 rfl (lv_at hl 2 rfl) ?_
        refine lv_aload_n hx hb d_S_holdsFor_24 rfl (lv_at hl 0 rfl) ?_
        refine va_get (D := (dC, dI)) (ci := 2) (v := .int to_) (C := R_S) (T := T_S) (N := 9) hx hb hts in_S hown hK hO.P 0 rfl rfl 3 (by decide) (hts _ w_230) (fun _ h9 => h9) rfl d_S_holdsFor_25 ?_
        refine lv_icmp_gt (tgt := 35) hx hb d_S_holdsFor_28 (by decide) (fun c_4 => ?_) (fun c_4 => ?_)
        · skip
          have c_4' : ¬ (d1 ≤ to_) := Int32.not_le.mpr c_4
          refine lv_iconst (v := 0) hx hb d_S_holdsFor_35 (by decide) ?_
          exact z_zret hx hb hr hlocks (by simp [pi_b, Bool.and_eq_true, c_1, c_2, c_3, c_3', c_4, c_4']) d_S_holdsFor_36
        · skip
          have c_4' : d1 ≤ to_ := Int32.not_lt.mp c_4
          refine lv_iconst (v := 1) hx hb d_S_holdsFor_31 (by decide) ?_
          refine lv_goto (tgt := 36) hx hb d_S_holdsFor_32 (by decide) ?_
          exact z_zret hx hb hr hlocks (by simp [pi_b, Bool.and_eq_true, c_1, c_2, c_3, c_3', c_4, c_4']) d_S_holdsFor_36
set_option maxRecDepth 100000 in
set_option maxHeartbeats 4000000 in
theorem c_S_sameCorner (G : z_G s0 (dC, dI) cI cS) (a ax ay n : Nat) (num own fr to_ ca : Int32) (pv : Value) (xs ys : Nat → Int32) (i j : Nat) (hi : i < n) (hj : j < n) (hn : n ≤ 12) : Met l y_S_sameCorner [Cond.code y_S_sameCorner b_S_sameCorner 3 (some .boolean)] ({ frames := 0, cells := 0, slots := 0, locals := 0 }) (z_Pc s0 [.ref a, .int (nI i), .int (nI j)] (fun H => z_Sh (dC, dI) cI H a ax ay n num own fr to_ ca pv xs ys)) (z_Qr (some (.int (pi_b (pc_same xs ys i j))))) 0 0 z_no := by
  refine z_ofW (by decide +kernel) (Nat.le_of_ble_eq_true rfl) ?_
  intro p e s m below meth c hx hb hml hr hown hlocks hnm hW0 hB ls hl
  have hts := z_hts (args := [.ref a, .int (nI i), .int (nI j)].toArray) G.1 hW0
  have hN := z_nstW G.2.1 hW0
  have hK := va_K.moved hW0.alike G.2.2.1
  have hAI := arrOfT_moved hW0.alike G.2.2.2.1
  have hl : lv_has ls 3 [(0, .ref a), (1, .int (nI i)), (2, .int (nI j))] := hl
  obtain ⟨hO, hX, hY⟩ := id hB
  refine lv_aload_n hx hb d_S_sameCorner_0 rfl (lv_at hl 0 rfl) ?_
  refine va_get (D := (dC, dI)) (ci := 2) (v := .ref ax) (C := R_S) (T := T_S) (N := 9) hx hb hts in_S hown hK hO.P 0 rfl rfl 4 (by decide) (hts _ w_231) (fun _ h9 => h9) rfl d_S_sameCorner_1 ?_
  refine lv_iload_n hx hb d_S_sameCorner_4 rfl (lv_at hl 1 rfl) ?_
  refine z_iald hx hb hAI hX (by omega) (by decide) d_S_sameCorner_5 ?_
  refine lv_aload_n hx hb d_S_sameCorner_6 rfl (lv_at hl 0 rfl) ?_
  refine va_get (D := (dC, dI)) (ci := 2) (v := .ref ax) (C := R_S) (T := T_S) (N := 9) hx hb hts in_S hown hK hO.P 0 rfl rfl 4 (by decide) (hts _ w_231) (fun _ h9 => h9) rfl d_S_sameCorner_7 ?_
  refine lv_iload_n hx hb d_S_sameCorner_10 rfl (lv_at hl 2 rfl) ?_
  refine z_iald hx hb hAI hX (by omega) (by decide) d_S_sameCorner_11 ?_
  refine lv_icmp_ne (tgt := 34) hx hb d_S_sameCorner_12 (by decide) (fun c_1 => ?_) (fun c_1 => ?_)
  · skip
    refine lv_iconst (v := 0) hx hb d_S_sameCorner_34 (by decide) ?_
    exact z_zret hx hb hr hlocks (by simp [pi_b, pc_same, c_1]) d_S_sameCorner_35
  · skip
    refine lv_aload_n hx hb d_S_sameCorner_15 rfl (lv_at hl 0 rfl) ?_
    refine va_get (D := (dC, dI)) (ci := 2) (v := .ref ay) (C := R_S) (T := T_S) (N := 9) hx hb hts in_S hown hK hO.P 0 rfl rfl 5 (by decide) (hts _ w_232) (fun _ h9 => h9) rfl d_S_sameCorner_16 ?_
    refine lv_iload_n hx hb d_S_sameCorner_19 rfl (lv_at hl 1 rfl) ?_
    refine z_iald hx hb hAI hY (by omega) (by decide) d_S_sameCorner_20 ?_
    refine lv_aload_n hx hb d_S_sameCorner_21 rfl (lv_at hl 0 rfl) ?_
    refine va_get (D := (dC, dI)) (ci := 2) (v := .ref ay) (C := R_S) (T := T_S) (N := 9) hx hb hts in_S hown hK hO.P 0 rfl rfl 5 (by decide) (hts _ w_232) (fun _ h9 => h9) rfl d_S_sameCorner_22 ?_
    refine lv_iload_n hx hb d_S_sameCorner_25 rfl (lv_at hl 2 rfl) ?_
    refine z_iald hx hb hAI hY (by omega) (by decide) d_S_sameCorner_26 ?_
    refine lv_icmp_ne (tgt := 34) hx hb d_S_sameCorner_27 (by decide) (fun c_2 => ?_) (fun c_2 => ?_)
    · skip
      refine lv_iconst (v := 0) hx hb d_S_sameCorner_34 (by decide) ?_
      exact z_zret hx hb hr hlocks (by simp [pi_b, pc_same, c_1, c_2]) d_S_sameCorner_35
    · skip
      refine lv_iconst (v := 1) hx hb d_S_sameCorner_30 (by decide) ?_
      refine lv_goto (tgt := 35) hx hb d_S_sameCorner_31 (by decide) ?_
      exact z_zret hx hb hr hlocks (by simp [pi_b, pc_same, c_1, c_2]) d_S_sameCorner_35
set_option maxRecDepth 100000 in
set_option maxHeartbeats 4000000 in
theorem c_S_side (G : z_G s0 (dC, dI) cI cS) (a ax ay n : Nat) (num own fr to_ ca : Int32) (pv : Value) (xs ys : Nat → Int32) (i : Nat) (x y : Int32) (hi : i < n) (hn : n ≤ 12) : Met l y_S_side [Cond.code y_S_side b_S_side 5 (some .long)] ({ frames := 1, cells := 0, slots := 0, locals := 25 }) (z_Pc s0 [.ref a, .int (nI i), .int x, .int y] (fun H => z_Sh (dC, dI) cI H a ax ay n num own fr to_ ca pv xs ys)) (z_Qr (some (.long (pc_side xs ys n i x y)))) 0 0 z_no := by
  refine z_ofW (by decide +kernel) (Nat.le_of_ble_eq_true rfl) ?_
  intro p e s m below meth c hx hb hml hr hown hlocks hnm hW0 hB ls hl
  have hts := z_hts (args := [.ref a, .int (nI i), .int x, .int y].toArray) G.1 hW0
  have hN := z_nstW G.2.1 hW0
  have hK := va_K.moved hW0.alike G.2.2.1
  have hAI := arrOfT_moved hW0.alike G.2.2.2.1
  have hl : lv_has ls 5 [(0, .ref a), (1, .int (nI i)), (2, .int x), (3, .int y)] := hl
  obtain ⟨hO, hX, hY⟩ := id hB
  have hx1 := pc_nx_lt hi
  refine lv_aload_n hx hb d_S_side_0 rfl (lv_at hl 0 rfl) ?_
  refine lv_iload_n hx hb d_S_side_1 rfl (lv_at hl 1 rfl) ?_
  refine z_rdV (n := 1) (C := R_S) (rest := []) ⟨hx, hb, hml, hown, hts⟩ hW0 (c_S_next G a ax ay n num own fr to_ ca pv xs ys i (by omega) hn) w_309 w_306 w_308 wp_5 w_11 (by decide +kernel) ⟨rfl, rfl, Nat.le_of_ble_eq_true rfl, Nat.le_of_ble_eq_true rfl⟩ (hO.recv hK rfl) (hB) rfl rfl hl.1 (Nat.le_of_ble_eq_true rfl) d_S_side_2 ⟨Nat.zero_le _, Nat.zero_le _⟩ ?_
  refine lv_istore (lv' := [(4, .int (nI (pc_nx n i))), (0, .ref a), (1, .int (nI i)), (2, .int x), (3, .int y)]) hx hb d_S_side_5 hl (by decide) rfl (fun ls hl => ?_)
  refine lv_aload_n hx hb d_S_side_7 rfl (lv_at hl 1 rfl) ?_
  refine va_get (D := (dC, dI)) (ci := 2) (v := .ref ax) (C := R_S) (T := T_S) (N := 9) hx hb hts in_S hown hK hO.P 0 rfl rfl 4 (by decide) (hts _ w_231) (fun _ h9 => h9) rfl d_S_side_8 ?_
  refine lv_iload_n hx hb d_S_side_11 rfl (lv_at hl 2 rfl) ?_
  refine z_iald hx hb hAI hX (by omega) (by decide) d_S_side_12 ?_
  refine lv_aload_n hx hb d_S_side_13 rfl (lv_at hl 1 rfl) ?_
  refine va_get (D := (dC, dI)) (ci := 2) (v := .ref ay) (C := R_S) (T := T_S) (N := 9) hx hb hts in_S hown hK hO.P 0 rfl rfl 5 (by decide) (hts _ w_232) (fun _ h9 => h9) rfl d_S_side_14 ?_
  refine lv_iload_n hx hb d_S_side_17 rfl (lv_at hl 2 rfl) ?_
  refine z_iald hx hb hAI hY (by omega) (by decide) d_S_side_18 ?_
  refine lv_aload_n hx hb d_S_side_19 rfl (lv_at hl 1 rfl) ?_
  refine va_get (D := (dC, dI)) (ci := 2) (v := .ref ax) (C := R_S) (T := T_S) (N := 9) hx hb hts in_S hown hK hO.P 0 rfl rfl 4 (by decide) (hts _ w_231) (fun _ h9 => h9) rfl d_S_side_20 ?_
  refine lv_iload hx hb d_S_side_23 (lv_at hl 0 rfl) ?_
  refine z_iald hx hb hAI hX (by omega) (by decide) d_S_side_25 ?_
  refine lv_aload_n hx hb d_S_side_26 rfl (lv_at hl 1 rfl) ?_
  refine va_get (D := (dC, dI)) (ci := 2) (v := .ref ay) (C := R_S) (T := T_S) (N := 9) hx hb hts in_S hown hK hO.P 0 rfl rfl 5 (by decide) (hts _ w_232) (fun _ h9 => h9) rfl d_S_side_27 ?_
  refine lv_iload hx hb d_S_side_30 (lv_at hl 0 rfl) ?_
  refine z_iald hx hb hAI hY (by omega) (by decide) d_S_side_32 ?_
  refine lv_iload_n hx hb d_S_side_33 rfl (lv_at hl 3 rfl) ?_
  refine lv_iload_n hx hb d_S_side_34 rfl (lv_at hl 4 rfl) ?_
  refine z_rdSN (n := 6) (rest := []) (host := R_B) ⟨hx, hb, hml, hown, hts⟩ hW0 (c_B_turn G (xs i) (ys i) (xs (pc_nx n i)) (ys (pc_nx n i)) x y) w_337 (hN _ (List.mem_of_getElem? (i := 1) rfl)) w_336 w_1 (by decide +kernel) ⟨rfl, rfl, Nat.le_of_ble_eq_true rfl, Nat.le_of_ble_eq_true rfl⟩ (trivial) rfl rfl hl.1 (Nat.le_of_ble_eq_true rfl) d_S_side_35 ⟨Nat.zero_le _, Nat.zero_le _⟩ ?_
  exact z_lret hx hb hr hlocks (by rfl) d_S_side_38
set_option maxRecDepth 100000 in
set_option maxHeartbeats 4000000 in
theorem c_S_isOnLine (G : z_G s0 (dC, dI) cI cS) (a ax ay n : Nat) (num own fr to_ ca : Int32) (pv : Value) (xs ys : Nat → Int32) (i : Nat) (x y : Int32) (hi : i < n) (hn : n ≤ 12) : Met l y_S_isOnLine [Cond.code y_S_isOnLine b_S_isOnLine 5 (some .boolean)] ({ frames := 2, cells := 0, slots := 0, locals := 49 }) (z_Pc s0 [.ref a, .int (nI i), .int x, .int y] (fun H => z_Sh (dC, dI) cI H a ax ay n num own fr to_ ca pv xs ys)) (z_Qr (some (.int (pi_b (pc_on xs ys n i x y))))) 0 0 z_no := by
  refine z_ofW (by decide +kernel) (Nat.le_of_ble_eq_true rfl) ?_
  intro p e s m below meth c hx hb hml hr hown hlocks hnm hW0 hB ls hl
  have hts := z_hts (args := [.ref a, .int (nI i), .int x, .int y].toArray) G.1 hW0
  have hN := z_nstW G.2.1 hW0
  have hK := va_K.moved hW0.alike G.2.2.1
  have hAI := arrOfT_moved hW0.alike G.2.2.2.1
  have hl : lv_has ls 5 [(0, .ref a), (1, .int (nI i)), (2, .int x), (3, .int y)] := hl
  obtain ⟨hO, hX, hY⟩ := id hB
  have hx1 := pc_nx_lt hi
  refine lv_aload_n hx hb d_S_isOnLine_0 rfl (lv_at hl 0 rfl) ?_
  refine lv_iload_n hx hb d_S_isOnLine_1 rfl (lv_at hl 1 rfl) ?_
  refine z_rdV (n := 1) (C := R_S) (rest := []) ⟨hx, hb, hml, hown, hts⟩ hW0 (c_S_next G a ax ay n num own fr to_ ca pv xs ys i (by omega) hn) w_309 w_306 w_308 wp_5 w_11 (by decide +kernel) ⟨rfl, rfl, Nat.le_of_ble_eq_true rfl, Nat.le_of_ble_eq_true rfl⟩ (hO.recv hK rfl) (hB) rfl rfl hl.1 (Nat.le_of_ble_eq_true rfl) d_S_isOnLine_2 ⟨Nat.zero_le _, Nat.zero_le _⟩ ?_
  refine lv_istore (lv' := [(4, .int (nI (pc_nx n i))), (0, .ref a), (1, .int (nI i)), (2, .int x), (3, .int y)]) hx hb d_S_isOnLine_5 hl (by decide) rfl (fun ls hl => ?_)
  refine lv_aload_n hx hb d_S_isOnLine_7 rfl (lv_at hl 1 rfl) ?_
  refine va_get (D := (dC, dI)) (ci := 2) (v := .ref ax) (C := R_S) (T := T_S) (N := 9) hx hb hts in_S hown hK hO.P 0 rfl rfl 4 (by decide) (hts _ w_231) (fun _ h9 => h9) rfl d_S_isOnLine_8 ?_
  refine lv_iload_n hx hb d_S_isOnLine_11 rfl (lv_at hl 2 rfl) ?_
  refine z_iald hx hb hAI hX (by omega) (by decide) d_S_isOnLine_12 ?_
  refine lv_aload_n hx hb d_S_isOnLine_13 rfl (lv_at hl 1 rfl) ?_
  refine va_get (D := (dC, dI)) (ci := 2) (v := .ref ax) (C := R_S) (T := T_S) (N := 9) hx hb hts in_S hown hK hO.P 0 rfl rfl 4 (by decide) (hts _ w_231) (fun _ h9 => h9) rfl d_S_isOnLine_14 ?_
  refine lv_iload hx hb d_S_isOnLine_17 (lv_at hl 0 rfl) ?_
  refine z_iald hx hb hAI hX (by omega) (by decide) d_S_isOnLine_19 ?_
  refine lv_iload_n hx hb d_S_isOnLine_20 rfl (lv_at hl 3 rfl) ?_
  refine z_rdSN (n := 3) (rest := []) (host := R_B) ⟨hx, hb, hml, hown, hts⟩ hW0 (c_B_isBetween G (xs i) (xs (pc_nx n i)) x) w_324 (hN _ (List.mem_of_getElem? (i := 0) rfl)) w_323 w_1 (by decide +kernel) ⟨rfl, rfl, Nat.le_of_ble_eq_true rfl, Nat.le_of_ble_eq_true rfl⟩ (trivial) rfl rfl hl.1 (Nat.le_of_ble_eq_true rfl) d_S_isOnLine_21 ⟨Nat.zero_le _, Nat.zero_le _⟩ ?_
  refine lv_if_eq (tgt := 63) hx hb d_S_isOnLine_24 (by decide) (fun c_1 => ?_) (fun c_1 => ?_)
  · skip
    have c_1 : (pc_btw (xs i) (xs (pc_nx n i)) x) = false := pi_b_0.mp c_1
    refine lv_iconst (v := 0) hx hb d_S_isOnLine_63 (by decide) ?_
    exact z_zret hx hb hr hlocks (by simp [pi_b, pc_on, c_1]) d_S_isOnLine_64
  · skip
    have c_1 : (pc_btw (xs i) (xs (pc_nx n i)) x) = true := pi_b_1.mp c_1
    refine lv_aload_n hx hb d_S_isOnLine_27 rfl (lv_at hl 1 rfl) ?_
    refine va_get (D := (dC, dI)) (ci := 2) (v := .ref ay) (C := R_S) (T := T_S) (N := 9) hx hb hts in_S hown hK hO.P 0 rfl rfl 5 (by decide) (hts _ w_232) (fun _ h9 => h9) rfl d_S_isOnLine_28 ?_
    refine lv_iload_n hx hb d_S_isOnLine_31 rfl (lv_at hl 2 rfl) ?_
    refine z_iald hx hb hAI hY (by omega) (by decide) d_S_isOnLine_32 ?_
    refine lv_aload_n hx hb d_S_isOnLine_33 rfl (lv_at hl 1 rfl) ?_
    refine va_get (D := (dC, dI)) (ci := 2) (v := .ref ay) (C := R_S) (T := T_S) (N := 9) hx hb hts in_S hown hK hO.P 0 rfl rfl 5 (by decide) (hts _ w_232) (fun _ h9 => h9) rfl d_S_isOnLine_34 ?_
    refine lv_iload hx hb d_S_isOnLine_37 (lv_at hl 0 rfl) ?_
    refine z_iald hx hb hAI hY (by omega) (by decide) d_S_isOnLine_39 ?_
    refine lv_iload_n hx hb d_S_isOnLine_40 rfl (lv_at hl 4 rfl) ?_
    refine z_rdSN (n := 3) (rest := []) (host := R_B) ⟨hx, hb, hml, hown, hts⟩ hW0 (c_B_isBetween G (ys i) (ys (pc_nx n i)) y) w_324 (hN _ (List.mem_of_getElem? (i := 0) rfl)) w_323 w_1 (by decide +kernel) ⟨rfl, rfl, Nat.le_of_ble_eq_true rfl, Nat.le_of_ble_eq_true rfl⟩ (trivial) rfl rfl hl.1 (Nat.le_of_ble_eq_true rfl) d_S_isOnLine_41 ⟨Nat.zero_le _, Nat.zero_le _⟩ ?_
    refine lv_if_eq (tgt := 63) hx hb d_S_isOnLine_44 (by decide) (fun c_2 => ?_) (fun c_2 => ?_)
    · skip
      have c_2 : (pc_btw (ys i) (ys (pc_nx n i)) y) = false := pi_b_0.mp c_2
      refine lv_iconst (v := 0) hx hb d_S_isOnLine_63 (by decide) ?_
      exact z_zret hx hb hr hlocks (by simp [pi_b, pc_on, c_1, c_2]) d_S_isOnLine_64
    · skip
      have c_2 : (pc_btw (ys i) (ys (pc_nx n i)) y) = true := pi_b_1.mp c_2
      refine lv_aload_n hx hb d_S_isOnLine_47 rfl (lv_at hl 1 rfl) ?_
      refine lv_iload_n hx hb d_S_isOnLine_48 rfl (lv_at hl 2 rfl) ?_
      refine lv_iload_n hx hb d_S_isOnLine_49 rfl (lv_at hl 3 rfl) ?_
      refine lv_iload_n hx hb d_S_isOnLine_50 rfl (lv_at hl 4 rfl) ?_
      refine z_rdV (n := 3) (C := R_S) (rest := []) ⟨hx, hb, hml, hown, hts⟩ hW0 (c_S_side G a ax ay n num own fr to_ ca pv xs ys i x y (by omega) hn) w_334 w_331 w_333 wp_9 w_11 (by decide +kernel) ⟨rfl, rfl, Nat.le_of_ble_eq_true rfl, Nat.le_of_ble_eq_true rfl⟩ (hO.recv hK rfl) (hB) rfl rfl hl.1 (Nat.le_of_ble_eq_true rfl) d_S_isOnLine_51 ⟨Nat.zero_le _, Nat.zero_le _⟩ ?_
      refine lv_lconst (v := 0) hx hb d_S_isOnLine_54 (by decide) ?_
      refine W.lcmp hx hb d_S_isOnLine_55 ?_
      refine lv_if_ne (tgt := 63) hx hb d_S_isOnLine_56 (by decide) (fun c_3 => ?_) (fun c_3 => ?_)
      · skip
        have c_3 : ¬ ((pc_side xs ys n i x y) = 0) := fun h => c_3 ((lg_cmp_eq _ _).mpr h)
        refine lv_iconst (v := 0) hx hb d_S_isOnLine_63 (by decide) ?_
        exact z_zret hx hb hr hlocks (by simp [pi_b, pc_on, c_1, c_2, c_3]) d_S_isOnLine_64
      · skip
        have c_3 : (pc_side xs ys n i x y) = 0 := (lg_cmp_eq _ _).mp c_3
        refine lv_iconst (v := 1) hx hb d_S_isOnLine_59 (by decide) ?_
        refine lv_goto (tgt := 64) hx hb d_S_isOnLine_60 (by decide) ?_
        exact z_zret hx hb hr hlocks (by simp [pi_b, pc_on, c_1, c_2, c_3]) d_S_isOnLine_64
set_option maxRecDepth 100000 in
set_option maxHeartbeats 4000000 in
theorem c_S_isLineRightOf (G : z_G s0 (dC, dI) cI cS) (a ax ay n : Nat) (num own fr to_ ca : Int32) (pv : Value) (xs ys : Nat → Int32) (i : Nat) (x y : Int32) (hi : i < n) (hn : n ≤ 12) : Met l y_S_isLineRightOf [Cond.code y_S_isLineRightOf b_S_isLineRightOf 5 (some .boolean)] ({ frames := 2, cells := 0, slots := 0, locals := 49 }) (z_Pc s0 [.ref a, .int (nI i), .int x, .int y] (fun H => z_Sh (dC, dI) cI H a ax ay n num own fr to_ ca pv xs ys)) (z_Qr (some (.int (pi_b (pc_rt xs ys n i x y))))) 0 0 z_no := by
  refine z_ofW (by decide +kernel) (Nat.le_of_ble_eq_true rfl) ?_
  intro p e s m below meth c hx hb hml hr hown hlocks hnm hW0 hB ls hl
  have hts := z_hts (args := [.ref a, .int (nI i), .int x, .int y].toArray) G.1 hW0
  have hN := z_nstW G.2.1 hW0
  have hK := va_K.moved hW0.alike G.2.2.1
  have hAI := arrOfT_moved hW0.alike G.2.2.2.1
  have hl : lv_has ls 5 [(0, .ref a), (1, .int (nI i)), (2, .int x), (3, .int y)] := hl
  obtain ⟨hO, hX, hY⟩ := id hB
  have hx1 := pc_nx_lt hi
  refine lv_aload_n hx hb d_S_isLineRightOf_0 rfl (lv_at hl 0 rfl) ?_
  refine lv_iload_n hx hb d_S_isLineRightOf_1 rfl (lv_at hl 1 rfl) ?_
  refine z_rdV (n := 1) (C := R_S) (rest := []) ⟨hx, hb, hml, hown, hts⟩ hW0 (c_S_next G a ax ay n num own fr to_ ca pv xs ys i (by omega) hn) w_309 w_306 w_308 wp_5 w_11 (by decide +kernel) ⟨rfl, rfl, Nat.le_of_ble_eq_true rfl, Nat.le_of_ble_eq_true rfl⟩ (hO.recv hK rfl) (hB) rfl rfl hl.1 (Nat.le_of_ble_eq_true rfl) d_S_isLineRightOf_2 ⟨Nat.zero_le _, Nat.zero_le _⟩ ?_
  refine lv_istore (lv' := [(4, .int (nI (pc_nx n i))), (0, .ref a), (1, .int (nI i)), (2, .int x), (3, .int y)]) hx hb d_S_isLineRightOf_5 hl (by decide) rfl (fun ls hl => ?_)
  refine lv_aload_n hx hb d_S_isLineRightOf_7 rfl (lv_at hl 1 rfl) ?_
  refine va_get (D := (dC, dI)) (ci := 2) (v := .ref ay) (C := R_S) (T := T_S) (N := 9) hx hb hts in_S hown hK hO.P 0 rfl rfl 5 (by decide) (hts _ w_232) (fun _ h9 => h9) rfl d_S_isLineRightOf_8 ?_
  refine lv_iload_n hx hb d_S_isLineRightOf_11 rfl (lv_at hl 2 rfl) ?_
  refine z_iald hx hb hAI hY (by omega) (by decide) d_S_isLineRightOf_12 ?_
  refine lv_iload_n hx hb d_S_isLineRightOf_13 rfl (lv_at hl 4 rfl) ?_
  refine lv_icmp_gt (tgt := 46) hx hb d_S_isLineRightOf_14 (by decide) (fun c_1 => ?_) (fun c_1 => ?_)
  · skip
    have c_1' : ¬ ((ys i) ≤ y) := Int32.not_le.mpr c_1
    refine lv_aload_n hx hb d_S_isLineRightOf_46 rfl (lv_at hl 1 rfl) ?_
    refine va_get (D := (dC, dI)) (ci := 2) (v := .ref ay) (C := R_S) (T := T_S) (N := 9) hx hb hts in_S hown hK hO.P 0 rfl rfl 5 (by decide) (hts _ w_232) (fun _ h9 => h9) rfl d_S_isLineRightOf_47 ?_
    refine lv_iload hx hb d_S_isLineRightOf_50 (lv_at hl 0 rfl) ?_
    refine z_iald hx hb hAI hY (by omega) (by decide) d_S_isLineRightOf_52 ?_
    refine lv_iload_n hx hb d_S_isLineRightOf_53 rfl (lv_at hl 4 rfl) ?_
    refine lv_icmp_gt (tgt := 83) hx hb d_S_isLineRightOf_54 (by decide) (fun c_2 => ?_) (fun c_2 => ?_)
    · skip
      have c_2' : ¬ ((ys (pc_nx n i)) ≤ y) := Int32.not_le.mpr c_2
      refine lv_iconst (v := 0) hx hb d_S_isLineRightOf_83 (by decide) ?_
      exact z_zret hx hb hr hlocks (by simp [pi_b, pc_rt, c_1, c_1', c_2, c_2']) d_S_isLineRightOf_84
    · skip
      have c_2' : (ys (pc_nx n i)) ≤ y := Int32.not_lt.mp c_2
      refine lv_iload_n hx hb d_S_isLineRightOf_57 rfl (lv_at hl 4 rfl) ?_
      refine lv_aload_n hx hb d_S_isLineRightOf_58 rfl (lv_at hl 1 rfl) ?_
      refine va_get (D := (dC, dI)) (ci := 2) (v := .ref ay) (C := R_S) (T := T_S) (N := 9) hx hb hts in_S hown hK hO.P 0 rfl rfl 5 (by decide) (hts _ w_232) (fun _ h9 => h9) rfl d_S_isLineRightOf_59 ?_
      refine lv_iload_n hx hb d_S_isLineRightOf_62 rfl (lv_at hl 2 rfl) ?_
      refine z_iald hx hb hAI hY (by omega) (by decide) d_S_isLineRightOf_63 ?_
      refine lv_icmp_ge (tgt := 83) hx hb d_S_isLineRightOf_64 (by decide) (fun c_3 => ?_) (fun c_3 => ?_)
      · skip
        have c_3' : ¬ (y < (ys i)) := Int32.not_lt.mpr c_3
        exact absurd c_1 c_3'
      · skip
        have c_3' : y < (ys i) := Int32.not_le.mp c_3
        refine lv_aload_n hx hb d_S_isLineRightOf_67 rfl (lv_at hl 1 rfl) ?_
        refine lv_iload_n hx hb d_S_isLineRightOf_68 rfl (lv_at hl 2 rfl) ?_
        refine lv_iload_n hx hb d_S_isLineRightOf_69 rfl (lv_at hl 3 rfl) ?_
        refine lv_iload_n hx hb d_S_isLineRightOf_70 rfl (lv_at hl 4 rfl) ?_
        refine z_rdV (n := 3) (C := R_S) (rest := []) ⟨hx, hb, hml, hown, hts⟩ hW0 (c_S_side G a ax ay n num own fr to_ ca pv xs ys i x y (by omega) hn) w_334 w_331 w_333 wp_9 w_11 (by decide +kernel) ⟨rfl, rfl, Nat.le_of_ble_eq_true rfl, Nat.le_of_ble_eq_true rfl⟩ (hO.recv hK rfl) (hB) rfl rfl hl.1 (Nat.le_of_ble_eq_true rfl) d_S_isLineRightOf_71 ⟨Nat.zero_le _, Nat.zero_le _⟩ ?_
        refine lv_lconst (v := 0) hx hb d_S_isLineRightOf_74 (by decide) ?_
        refine W.lcmp hx hb d_S_isLineRightOf_75 ?_
        refine lv_if_ge (tgt := 83) hx hb d_S_isLineRightOf_76 (by decide) (fun c_4 => ?_) (fun c_4 => ?_)
        · skip
          have c_4 : 0 ≤ (pc_side xs ys n i x y) := (lg_cmp_ge _ _).mp c_4
          have c_4' : ¬ ((pc_side xs ys n i x y) < 0) := Int64.not_lt.mpr c_4
          refine lv_iconst (v := 0) hx hb d_S_isLineRightOf_83 (by decide) ?_
          exact z_zret hx hb hr hlocks (by simp [pi_b, pc_rt, c_1, c_1', c_2, c_2', c_3, c_3', c_4, c_4']) d_S_isLineRightOf_84
        · skip
          have c_4 : ¬ (0 ≤ (pc_side xs ys n i x y)) := fun h => c_4 ((lg_cmp_ge _ _).mpr h)
          have c_4' : (pc_side xs ys n i x y) < 0 := Int64.not_le.mp c_4
          refine lv_iconst (v := 1) hx hb d_S_isLineRightOf_79 (by decide) ?_
          refine lv_goto (tgt := 84) hx hb d_S_isLineRightOf_80 (by decide) ?_
          exact z_zret hx hb hr hlocks (by simp [pi_b, pc_rt, c_1, c_1', c_2, c_2', c_3, c_3', c_4, c_4']) d_S_isLineRightOf_84
  · skip
    have c_1' : (ys i) ≤ y := Int32.not_lt.mp c_1
    refine lv_iload_n hx hb d_S_isLineRightOf_17 rfl (lv_at hl 4 rfl) ?_
    refine lv_aload_n hx hb d_S_isLineRightOf_18 rfl (lv_at hl 1 rfl) ?_
    refine va_get (D := (dC, dI)) (ci := 2) (v := .ref ay) (C := R_S) (T := T_S) (N := 9) hx hb hts in_S hown hK hO.P 0 rfl rfl 5 (by decide) (hts _ w_232) (fun _ h9 => h9) rfl d_S_isLineRightOf_19 ?_
    refine lv_iload hx hb d_S_isLineRightOf_22 (lv_at hl 0 rfl) ?_
    refine z_iald hx hb hAI hY (by omega) (by decide) d_S_isLineRightOf_24 ?_
    refine lv_icmp_ge (tgt := 46) hx hb d_S_isLineRightOf_25 (by decide) (fun c_5 => ?_) (fun c_5 => ?_)
    · skip
      have c_5' : ¬ (y < (ys (pc_nx n i))) := Int32.not_lt.mpr c_5
      refine lv_aload_n hx hb d_S_isLineRightOf_46 rfl (lv_at hl 1 rfl) ?_
      refine va_get (D := (dC, dI)) (ci := 2) (v := .ref ay) (C := R_S) (T := T_S) (N := 9) hx hb hts in_S hown hK hO.P 0 rfl rfl 5 (by decide) (hts _ w_232) (fun _ h9 => h9) rfl d_S_isLineRightOf_47 ?_
      refine lv_iload hx hb d_S_isLineRightOf_50 (lv_at hl 0 rfl) ?_
      refine z_iald hx hb hAI hY (by omega) (by decide) d_S_isLineRightOf_52 ?_
      refine lv_iload_n hx hb d_S_isLineRightOf_53 rfl (lv_at hl 4 rfl) ?_
      refine lv_icmp_gt (tgt := 83) hx hb d_S_isLineRightOf_54 (by decide) (fun c_6 => ?_) (fun c_6 => ?_)
      · skip
        have c_6' : ¬ ((ys (pc_nx n i)) ≤ y) := Int32.not_le.mpr c_6
        exact absurd c_5 c_6'
      · skip
        have c_6' : (ys (pc_nx n i)) ≤ y := Int32.not_lt.mp c_6
        refine lv_iload_n hx hb d_S_isLineRightOf_57 rfl (lv_at hl 4 rfl) ?_
        refine lv_aload_n hx hb d_S_isLineRightOf_58 rfl (lv_at hl 1 rfl) ?_
        refine va_get (D := (dC, dI)) (ci := 2) (v := .ref ay) (C := R_S) (T := T_S) (N := 9) hx hb hts in_S hown hK hO.P 0 rfl rfl 5 (by decide) (hts _ w_232) (fun _ h9 => h9) rfl d_S_isLineRightOf_59 ?_
        refine lv_iload_n hx hb d_S_isLineRightOf_62 rfl (lv_at hl 2 rfl) ?_
        refine z_iald hx hb hAI hY (by omega) (by decide) d_S_isLineRightOf_63 ?_
        refine lv_icmp_ge (tgt := 83) hx hb d_S_isLineRightOf_64 (by decide) (fun c_7 => ?_) (fun c_7 => ?_)
        · skip
          have c_7' : ¬ (y < (ys i)) := Int32.not_lt.mpr c_7
          refine lv_iconst (v := 0) hx hb d_S_isLineRightOf_83 (by decide) ?_
          exact z_zret hx hb hr hlocks (by simp [pi_b, pc_rt, c_1, c_1', c_5, c_5', c_6, c_6', c_7, c_7']) d_S_isLineRightOf_84
        · skip
          have c_7' : y < (ys i) := Int32.not_le.mp c_7
          exact absurd c_7' c_1
    · skip
      have c_5' : y < (ys (pc_nx n i)) := Int32.not_le.mp c_5
      refine lv_aload_n hx hb d_S_isLineRightOf_28 rfl (lv_at hl 1 rfl) ?_
      refine lv_iload_n hx hb d_S_isLineRightOf_29 rfl (lv_at hl 2 rfl) ?_
      refine lv_iload_n hx hb d_S_isLineRightOf_30 rfl (lv_at hl 3 rfl) ?_
      refine lv_iload_n hx hb d_S_isLineRightOf_31 rfl (lv_at hl 4 rfl) ?_
      refine z_rdV (n := 3) (C := R_S) (rest := []) ⟨hx, hb, hml, hown, hts⟩ hW0 (c_S_side G a ax ay n num own fr to_ ca pv xs ys i x y (by omega) hn) w_334 w_331 w_333 wp_9 w_11 (by decide +kernel) ⟨rfl, rfl, Nat.le_of_ble_eq_true rfl, Nat.le_of_ble_eq_true rfl⟩ (hO.recv hK rfl) (hB) rfl rfl hl.1 (Nat.le_of_ble_eq_true rfl) d_S_isLineRightOf_32 ⟨Nat.zero_le _, Nat.zero_le _⟩ ?_
      refine lv_lconst (v := 0) hx hb d_S_isLineRightOf_35 (by decide) ?_
      refine W.lcmp hx hb d_S_isLineRightOf_36 ?_
      refine lv_if_le (tgt := 44) hx hb d_S_isLineRightOf_37 (by decide) (fun c_8 => ?_) (fun c_8 => ?_)
      · skip
        have c_8 : (pc_side xs ys n i x y) ≤ 0 := (lg_cmp_le _ _).mp c_8
        have c_8' : ¬ (0 < (pc_side xs ys n i x y)) := Int64.not_lt.mpr c_8
        refine lv_iconst (v := 0) hx hb d_S_isLineRightOf_44 (by decide) ?_
        exact z_zret hx hb hr hlocks (by simp [pi_b, pc_rt, c_1, c_1', c_5, c_5', c_8, c_8']) d_S_isLineRightOf_45
      · skip
        have c_8 : ¬ ((pc_side xs ys n i x y) ≤ 0) := fun h => c_8 ((lg_cmp_le _ _).mpr h)
        have c_8' : 0 < (pc_side xs ys n i x y) := Int64.not_le.mp c_8
        refine lv_iconst (v := 1) hx hb d_S_isLineRightOf_40 (by decide) ?_
        refine lv_goto (tgt := 45) hx hb d_S_isLineRightOf_41 (by decide) ?_
        exact z_zret hx hb hr hlocks (by simp [pi_b, pc_rt, c_1, c_1', c_5, c_5', c_8, c_8']) d_S_isLineRightOf_45
set_option maxRecDepth 100000 in
set_option maxHeartbeats 4000000 in
theorem c_S_hasCorner (G : z_G s0 (dC, dI) cI cS) (a ax ay n : Nat) (num own fr to_ ca : Int32) (pv : Value) (xs ys : Nat → Int32) (i j : Nat) (hi : i < n) (hj : j < n) (hn : n ≤ 12) : Met l y_S_hasCorner [Cond.code y_S_hasCorner b_S_hasCorner 3 (some .boolean)] ({ frames := 3, cells := 0, slots := 0, locals := 73 }) (z_Pc s0 [.ref a, .int (nI i), .int (nI j)] (fun H => z_Sh (dC, dI) cI H a ax ay n num own fr to_ ca pv xs ys)) (z_Qr (some (.int (pi_b (pc_hc xs ys n i j))))) 0 0 z_no := by
  refine z_ofW (by decide +kernel) (Nat.le_of_ble_eq_true rfl) ?_
  intro p e s m below meth c hx hb hml hr hown hlocks hnm hW0 hB ls hl
  have hts := z_hts (args := [.ref a, .int (nI i), .int (nI j)].toArray) G.1 hW0
  have hN := z_nstW G.2.1 hW0
  have hK := va_K.moved hW0.alike G.2.2.1
  have hAI := arrOfT_moved hW0.alike G.2.2.2.1
  have hl : lv_has ls 3 [(0, .ref a), (1, .int (nI i)), (2, .int (nI j))] := hl
  obtain ⟨hO, hX, hY⟩ := id hB
  refine lv_aload_n hx hb d_S_hasCorner_0 rfl (lv_at hl 0 rfl) ?_
  refine lv_iload_n hx hb d_S_hasCorner_1 rfl (lv_at hl 1 rfl) ?_
  refine lv_aload_n hx hb d_S_hasCorner_2 rfl (lv_at hl 0 rfl) ?_
  refine va_get (D := (dC, dI)) (ci := 2) (v := .ref ax) (C := R_S) (T := T_S) (N := 9) hx hb hts in_S hown hK hO.P 0 rfl rfl 4 (by decide) (hts _ w_231) (fun _ h9 => h9) rfl d_S_hasCorner_3 ?_
  refine lv_iload_n hx hb d_S_hasCorner_6 rfl (lv_at hl 2 rfl) ?_
  refine z_iald hx hb hAI hX (by omega) (by decide) d_S_hasCorner_7 ?_
  refine lv_aload_n hx hb d_S_hasCorner_8 rfl (lv_at hl 0 rfl) ?_
  refine va_get (D := (dC, dI)) (ci := 2) (v := .ref ay) (C := R_S) (T := T_S) (N := 9) hx hb hts in_S hown hK hO.P 0 rfl rfl 5 (by decide) (hts _ w_232) (fun _ h9 => h9) rfl d_S_hasCorner_9 ?_
  refine lv_iload_n hx hb d_S_hasCorner_12 rfl (lv_at hl 2 rfl) ?_
  refine z_iald hx hb hAI hY (by omega) (by decide) d_S_hasCorner_13 ?_
  refine z_rdV (n := 3) (C := R_S) (rest := []) ⟨hx, hb, hml, hown, hts⟩ hW0 (c_S_isOnLine G a ax ay n num own fr to_ ca pv xs ys i (xs j) (ys j) (by omega) hn) w_321 w_318 w_320 wp_8 w_11 (by decide +kernel) ⟨rfl, rfl, Nat.le_of_ble_eq_true rfl, Nat.le_of_ble_eq_true rfl⟩ (hO.recv hK rfl) (hB) rfl rfl hl.1 (Nat.le_of_ble_eq_true rfl) d_S_hasCorner_14 ⟨Nat.zero_le _, Nat.zero_le _⟩ ?_
  exact z_zret hx hb hr hlocks (by rfl) d_S_hasCorner_17
set_option maxRecDepth 100000 in
set_option maxHeartbeats 4000000 in
theorem c_S_foldsBack (G : z_G s0 (dC, dI) cI cS) (a ax ay n : Nat) (num own fr to_ ca : Int32) (pv : Value) (xs ys : Nat → Int32) (i j : Nat) (hi : i < n) (hj : j < n) (hn : n ≤ 12) : Met l y_S_foldsBack [Cond.code y_S_foldsBack b_S_foldsBack 3 (some .boolean)] ({ frames := 4, cells := 0, slots := 0, locals := 95 }) (z_Pc s0 [.ref a, .int (nI i), .int (nI j)] (fun H => z_Sh (dC, dI) cI H a ax ay n num own fr to_ ca pv xs ys)) (z_Qr (some (.int (pi_b (pc_fold xs ys n i j))))) 0 0 z_no := by
  refine z_ofW (by decide +kernel) (Nat.le_of_ble_eq_true rfl) ?_
  intro p e s m below meth c hx hb hml hr hown hlocks hnm hW0 hB ls hl
  have hts := z_hts (args := [.ref a, .int (nI i), .int (nI j)].toArray) G.1 hW0
  have hN := z_nstW G.2.1 hW0
  have hK := va_K.moved hW0.alike G.2.2.1
  have hAI := arrOfT_moved hW0.alike G.2.2.2.1
  have hl : lv_has ls 3 [(0, .ref a), (1, .int (nI i)), (2, .int (nI j))] := hl
  obtain ⟨hO, hX, hY⟩ := id hB
  have hx1 := pc_nx_lt hi
  have hx2 := pc_nx_lt hj
  refine lv_aload_n hx hb d_S_foldsBack_0 rfl (lv_at hl 0 rfl) ?_
  refine lv_iload_n hx hb d_S_foldsBack_1 rfl (lv_at hl 1 rfl) ?_
  refine lv_aload_n hx hb d_S_foldsBack_2 rfl (lv_at hl 0 rfl) ?_
  refine lv_iload_n hx hb d_S_foldsBack_3 rfl (lv_at hl 2 rfl) ?_
  refine z_rdV (n := 1) (C := R_S) (rest := [.int (nI i), .ref a]) ⟨hx, hb, hml, hown, hts⟩ hW0 (c_S_next G a ax ay n num own fr to_ ca pv xs ys j (by omega) hn) w_309 w_306 w_308 wp_5 w_11 (by decide +kernel) ⟨rfl, rfl, Nat.le_of_ble_eq_true rfl, Nat.le_of_ble_eq_true rfl⟩ (hO.recv hK rfl) (hB) rfl rfl hl.1 (Nat.le_of_ble_eq_true rfl) d_S_foldsBack_4 ⟨Nat.zero_le _, Nat.zero_le _⟩ ?_
  refine z_rdV (n := 2) (C := R_S) (rest := []) ⟨hx, hb, hml, hown, hts⟩ hW0 (c_S_hasCorner G a ax ay n num own fr to_ ca pv xs ys i (pc_nx n j) (by omega) (by omega) hn) w_317 w_314 w_316 wp_7 w_11 (by decide +kernel) ⟨rfl, rfl, Nat.le_of_ble_eq_true rfl, Nat.le_of_ble_eq_true rfl⟩ (hO.recv hK rfl) (hB) rfl rfl hl.1 (Nat.le_of_ble_eq_true rfl) d_S_foldsBack_7 ⟨Nat.zero_le _, Nat.zero_le _⟩ ?_
  refine lv_if_ne (tgt := 22) hx hb d_S_foldsBack_10 (by decide) (fun c_1 => ?_) (fun c_1 => ?_)
  · skip
    have c_1 : (pc_hc xs ys n i (pc_nx n j)) = true := pi_b_1.mp c_1
    refine lv_iconst (v := 1) hx hb d_S_foldsBack_22 (by decide) ?_
    refine lv_goto (tgt := 27) hx hb d_S_foldsBack_23 (by decide) ?_
    exact z_zret hx hb hr hlocks (by simp [pi_b, pc_fold, c_1]) d_S_foldsBack_27
  · skip
    have c_1 : (pc_hc xs ys n i (pc_nx n j)) = false := pi_b_0.mp c_1
    refine lv_aload_n hx hb d_S_foldsBack_13 rfl (lv_at hl 0 rfl) ?_
    refine lv_iload_n hx hb d_S_foldsBack_14 rfl (lv_at hl 2 rfl) ?_
    refine lv_iload_n hx hb d_S_foldsBack_15 rfl (lv_at hl 1 rfl) ?_
    refine z_rdV (n := 2) (C := R_S) (rest := []) ⟨hx, hb, hml, hown, hts⟩ hW0 (c_S_hasCorner G a ax ay n num own fr to_ ca pv xs ys j i (by omega) (by omega) hn) w_317 w_314 w_316 wp_7 w_11 (by decide +kernel) ⟨rfl, rfl, Nat.le_of_ble_eq_true rfl, Nat.le_of_ble_eq_true rfl⟩ (hO.recv hK rfl) (hB) rfl rfl hl.1 (Nat.le_of_ble_eq_true rfl) d_S_foldsBack_16 ⟨Nat.zero_le _, Nat.zero_le _⟩ ?_
    refine lv_if_eq (tgt := 26) hx hb d_S_foldsBack_19 (by decide) (fun c_2 => ?_) (fun c_2 => ?_)
    · skip
      have c_2 : (pc_hc xs ys n j i) = false := pi_b_0.mp c_2
      refine lv_iconst (v := 0) hx hb d_S_foldsBack_26 (by decide) ?_
      exact z_zret hx hb hr hlocks (by simp [pi_b, pc_fold, c_1, c_2]) d_S_foldsBack_27
    · skip
      have c_2 : (pc_hc xs ys n j i) = true := pi_b_1.mp c_2
      refine lv_iconst (v := 1) hx hb d_S_foldsBack_22 (by decide) ?_
      refine lv_goto (tgt := 27) hx hb d_S_foldsBack_23 (by decide) ?_
      exact z_zret hx hb hr hlocks (by simp [pi_b, pc_fold, c_1, c_2]) d_S_foldsBack_27
set_option maxRecDepth 100000 in
set_option maxHeartbeats 4000000 in
theorem c_S_parts (G : z_G s0 (dC, dI) cI cS) (a ax ay n : Nat) (num own fr to_ ca : Int32) (pv : Value) (xs ys : Nat → Int32) (i j : Nat) (hi : i < n) (hj : j < n) (hn : n ≤ 12) : Met l y_S_parts [Cond.code y_S_parts b_S_parts 7 (some .boolean)] ({ frames := 2, cells := 0, slots := 0, locals := 49 }) (z_Pc s0 [.ref a, .int (nI i), .int (nI j)] (fun H => z_Sh (dC, dI) cI H a ax ay n num own fr to_ ca pv xs ys)) (z_Qr (some (.int (pi_b (pc_parts xs ys n i j))))) 0 0 z_no := by
  refine z_ofW (by decide +kernel) (Nat.le_of_ble_eq_true rfl) ?_
  intro p e s m below meth c hx hb hml hr hown hlocks hnm hW0 hB ls hl
  have hts := z_hts (args := [.ref a, .int (nI i), .int (nI j)].toArray) G.1 hW0
  have hN := z_nstW G.2.1 hW0
  have hK := va_K.moved hW0.alike G.2.2.1
  have hAI := arrOfT_moved hW0.alike G.2.2.2.1
  have hl : lv_has ls 7 [(0, .ref a), (1, .int (nI i)), (2, .int (nI j))] := hl
  obtain ⟨hO, hX, hY⟩ := id hB
  have hx1 := pc_nx_lt hi
  have hx2 := pc_nx_lt hj
  refine lv_aload_n hx hb d_S_parts_0 rfl (lv_at hl 0 rfl) ?_
  refine lv_iload_n hx hb d_S_parts_1 rfl (lv_at hl 1 rfl) ?_
  refine lv_aload_n hx hb d_S_parts_2 rfl (lv_at hl 0 rfl) ?_
  refine va_get (D := (dC, dI)) (ci := 2) (v := .ref ax) (C := R_S) (T := T_S) (N := 9) hx hb hts in_S hown hK hO.P 0 rfl rfl 4 (by decide) (hts _ w_231) (fun _ h9 => h9) rfl d_S_parts_3 ?_
  refine lv_iload_n hx hb d_S_parts_6 rfl (lv_at hl 2 rfl) ?_
  refine z_iald hx hb hAI hX (by omega) (by decide) d_S_parts_7 ?_
  refine lv_aload_n hx hb d_S_parts_8 rfl (lv_at hl 0 rfl) ?_
  refine va_get (D := (dC, dI)) (ci := 2) (v := .ref ay) (C := R_S) (T := T_S) (N := 9) hx hb hts in_S hown hK hO.P 0 rfl rfl 5 (by decide) (hts _ w_232) (fun _ h9 => h9) rfl d_S_parts_9 ?_
  refine lv_iload_n hx hb d_S_parts_12 rfl (lv_at hl 2 rfl) ?_
  refine z_iald hx hb hAI hY (by omega) (by decide) d_S_parts_13 ?_
  refine z_rdV (n := 3) (C := R_S) (rest := []) ⟨hx, hb, hml, hown, hts⟩ hW0 (c_S_side G a ax ay n num own fr to_ ca pv xs ys i (xs j) (ys j) (by omega) hn) w_334 w_331 w_333 wp_9 w_11 (by decide +kernel) ⟨rfl, rfl, Nat.le_of_ble_eq_true rfl, Nat.le_of_ble_eq_true rfl⟩ (hO.recv hK rfl) (hB) rfl rfl hl.1 (Nat.le_of_ble_eq_true rfl) d_S_parts_14 ⟨Nat.zero_le _, Nat.zero_le _⟩ ?_
  refine lv_lstore_n (lv' := [(3, .long (pc_side xs ys n i (xs j) (ys j))), (0, .ref a), (1, .int (nI i)), (2, .int (nI j))]) hx hb d_S_parts_17 rfl hl (by decide) rfl (fun ls hl => ?_)
  refine lv_aload_n hx hb d_S_parts_18 rfl (lv_at hl 1 rfl) ?_
  refine lv_iload_n hx hb d_S_parts_19 rfl (lv_at hl 2 rfl) ?_
  refine lv_aload_n hx hb d_S_parts_20 rfl (lv_at hl 1 rfl) ?_
  refine va_get (D := (dC, dI)) (ci := 2) (v := .ref ax) (C := R_S) (T := T_S) (N := 9) hx hb hts in_S hown hK hO.P 0 rfl rfl 4 (by decide) (hts _ w_231) (fun _ h9 => h9) rfl d_S_parts_21 ?_
  refine lv_aload_n hx hb d_S_parts_24 rfl (lv_at hl 1 rfl) ?_
  refine lv_iload_n hx hb d_S_parts_25 rfl (lv_at hl 3 rfl) ?_
  refine z_rdV (n := 1) (C := R_S) (rest := [.ref ax, .int (nI i), .ref a]) ⟨hx, hb, hml, hown, hts⟩ hW0 (c_S_next G a ax ay n num own fr to_ ca pv xs ys j (by omega) hn) w_309 w_306 w_308 wp_5 w_11 (by decide +kernel) ⟨rfl, rfl, Nat.le_of_ble_eq_true rfl, Nat.le_of_ble_eq_true rfl⟩ (hO.recv hK rfl) (hB) rfl rfl hl.1 (Nat.le_of_ble_eq_true rfl) d_S_parts_26 ⟨Nat.zero_le _, Nat.zero_le _⟩ ?_
  refine z_iald hx hb hAI hX (by omega) (by decide) d_S_parts_29 ?_
  refine lv_aload_n hx hb d_S_parts_30 rfl (lv_at hl 1 rfl) ?_
  refine va_get (D := (dC, dI)) (ci := 2) (v := .ref ay) (C := R_S) (T := T_S) (N := 9) hx hb hts in_S hown hK hO.P 0 rfl rfl 5 (by decide) (hts _ w_232) (fun _ h9 => h9) rfl d_S_parts_31 ?_
  refine lv_aload_n hx hb d_S_parts_34 rfl (lv_at hl 1 rfl) ?_
  refine lv_iload_n hx hb d_S_parts_35 rfl (lv_at hl 3 rfl) ?_
  refine z_rdV (n := 1) (C := R_S) (rest := [.ref ay, .int (xs (pc_nx n j)), .int (nI i), .ref a]) ⟨hx, hb, hml, hown, hts⟩ hW0 (c_S_next G a ax ay n num own fr to_ ca pv xs ys j (by omega) hn) w_309 w_306 w_308 wp_5 w_11 (by decide +kernel) ⟨rfl, rfl, Nat.le_of_ble_eq_true rfl, Nat.le_of_ble_eq_true rfl⟩ (hO.recv hK rfl) (hB) rfl rfl hl.1 (Nat.le_of_ble_eq_true rfl) d_S_parts_36 ⟨Nat.zero_le _, Nat.zero_le _⟩ ?_
  refine z_iald hx hb hAI hY (by omega) (by decide) d_S_parts_39 ?_
  refine z_rdV (n := 3) (C := R_S) (rest := []) ⟨hx, hb, hml, hown, hts⟩ hW0 (c_S_side G a ax ay n num own fr to_ ca pv xs ys i (xs (pc_nx n j)) (ys (pc_nx n j)) (by omega) hn) w_334 w_331 w_333 wp_9 w_11 (by decide +kernel) ⟨rfl, rfl, Nat.le_of_ble_eq_true rfl, Nat.le_of_ble_eq_true rfl⟩ (hO.recv hK rfl) (hB) rfl rfl hl.1 (Nat.le_of_ble_eq_true rfl) d_S_parts_40 ⟨Nat.zero_le _, Nat.zero_le _⟩ ?_
  refine lv_lstore (lv' := [(5, .long (pc_side xs ys n i (xs (pc_nx n j)) (ys (pc_nx n j)))), (3, .long (pc_side xs ys n i (xs j) (ys j))), (0, .ref a), (1, .int (nI i)), (2, .int (nI j))]) hx hb d_S_parts_43 hl (by decide) rfl (fun ls hl => ?_)
  refine lv_lload_n hx hb d_S_parts_45 rfl (lv_at hl 1 rfl) ?_
  refine lv_lconst (v := 0) hx hb d_S_parts_46 (by decide) ?_
  refine W.lcmp hx hb d_S_parts_47 ?_
  refine lv_if_ge (tgt := 58) hx hb d_S_parts_48 (by decide) (fun c_1 => ?_) (fun c_1 => ?_)
  · skip
    have c_1 : 0 ≤ (pc_side xs ys n i (xs j) (ys j)) := (lg_cmp_ge _ _).mp c_1
    have c_1' : ¬ ((pc_side xs ys n i (xs j) (ys j)) < 0) := Int64.not_lt.mpr c_1
    refine lv_lload_n hx hb d_S_parts_58 rfl (lv_at hl 1 rfl) ?_
    refine lv_lconst (v := 0) hx hb d_S_parts_59 (by decide) ?_
    refine W.lcmp hx hb d_S_parts_60 ?_
    refine lv_if_le (tgt := 75) hx hb d_S_parts_61 (by decide) (fun c_2 => ?_) (fun c_2 => ?_)
    · skip
      have c_2 : (pc_side xs ys n i (xs j) (ys j)) ≤ 0 := (lg_cmp_le _ _).mp c_2
      have c_2' : ¬ (0 < (pc_side xs ys n i (xs j) (ys j))) := Int64.not_lt.mpr c_2
      refine lv_iconst (v := 0) hx hb d_S_parts_75 (by decide) ?_
      exact z_zret hx hb hr hlocks (by simp [pi_b, pc_parts, c_1, c_1', c_2, c_2']) d_S_parts_76
    · skip
      have c_2 : ¬ ((pc_side xs ys n i (xs j) (ys j)) ≤ 0) := fun h => c_2 ((lg_cmp_le _ _).mpr h)
      have c_2' : 0 < (pc_side xs ys n i (xs j) (ys j)) := Int64.not_le.mp c_2
      refine lv_lload hx hb d_S_parts_64 (lv_at hl 0 rfl) ?_
      refine lv_lconst (v := 0) hx hb d_S_parts_66 (by decide) ?_
      refine W.lcmp hx hb d_S_parts_67 ?_
      refine lv_if_ge (tgt := 75) hx hb d_S_parts_68 (by decide) (fun c_3 => ?_) (fun c_3 => ?_)
      · skip
        have c_3 : 0 ≤ (pc_side xs ys n i (xs (pc_nx n j)) (ys (pc_nx n j))) := (lg_cmp_ge _ _).mp c_3
        have c_3' : ¬ ((pc_side xs ys n i (xs (pc_nx n j)) (ys (pc_nx n j))) < 0) := Int64.not_lt.mpr c_3
        refine lv_iconst (v := 0) hx hb d_S_parts_75 (by decide) ?_
        exact z_zret hx hb hr hlocks (by simp [pi_b, pc_parts, c_1, c_1', c_2, c_2', c_3, c_3']) d_S_parts_76
      · skip
        have c_3 : ¬ (0 ≤ (pc_side xs ys n i (xs (pc_nx n j)) (ys (pc_nx n j)))) := fun h => c_3 ((lg_cmp_ge _ _).mpr h)
        have c_3' : (pc_side xs ys n i (xs (pc_nx n j)) (ys (pc_nx n j))) < 0 := Int64.not_le.mp c_3
        refine lv_iconst (v := 1) hx hb d_S_parts_71 (by decide) ?_
        refine lv_goto (tgt := 76) hx hb d_S_parts_72 (by decide) ?_
        exact z_zret hx hb hr hlocks (by simp [pi_b, pc_parts, c_1, c_1', c_2, c_2', c_3, c_3']) d_S_parts_76
  · skip
    have c_1 : ¬ (0 ≤ (pc_side xs ys n i (xs j) (ys j))) := fun h => c_1 ((lg_cmp_ge _ _).mpr h)
    have c_1' : (pc_side xs ys n i (xs j) (ys j)) < 0 := Int64.not_le.mp c_1
    refine lv_lload hx hb d_S_parts_51 (lv_at hl 0 rfl) ?_
    refine lv_lconst (v := 0) hx hb d_S_parts_53 (by decide) ?_
    refine W.lcmp hx hb d_S_parts_54 ?_
    refine lv_if_gt (tgt := 71) hx hb d_S_parts_55 (by decide) (fun c_4 => ?_) (fun c_4 => ?_)
    · skip
      have c_4 : 0 < (pc_side xs ys n i (xs (pc_nx n j)) (ys (pc_nx n j))) := (lg_cmp_gt _ _).mp c_4
      have c_4' : ¬ ((pc_side xs ys n i (xs (pc_nx n j)) (ys (pc_nx n j))) ≤ 0) := Int64.not_le.mpr c_4
      refine lv_iconst (v := 1) hx hb d_S_parts_71 (by decide) ?_
      refine lv_goto (tgt := 76) hx hb d_S_parts_72 (by decide) ?_
      exact z_zret hx hb hr hlocks (by simp [pi_b, pc_parts, c_1, c_1', c_4, c_4']) d_S_parts_76
    · skip
      have c_4 : ¬ (0 < (pc_side xs ys n i (xs (pc_nx n j)) (ys (pc_nx n j)))) := fun h => c_4 ((lg_cmp_gt _ _).mpr h)
      have c_4' : (pc_side xs ys n i (xs (pc_nx n j)) (ys (pc_nx n j))) ≤ 0 := Int64.not_lt.mp c_4
      refine lv_lload_n hx hb d_S_parts_58 rfl (lv_at hl 1 rfl) ?_
      refine lv_lconst (v := 0) hx hb d_S_parts_59 (by decide) ?_
      refine W.lcmp hx hb d_S_parts_60 ?_
      refine lv_if_le (tgt := 75) hx hb d_S_parts_61 (by decide) (fun c_5 => ?_) (fun c_5 => ?_)
      · skip
        have c_5 : (pc_side xs ys n i (xs j) (ys j)) ≤ 0 := (lg_cmp_le _ _).mp c_5
        have c_5' : ¬ (0 < (pc_side xs ys n i (xs j) (ys j))) := Int64.not_lt.mpr c_5
        refine lv_iconst (v := 0) hx hb d_S_parts_75 (by decide) ?_
        exact z_zret hx hb hr hlocks (by simp [pi_b, pc_parts, c_1, c_1', c_4, c_4', c_5, c_5']) d_S_parts_76
      · skip
        have c_5 : ¬ ((pc_side xs ys n i (xs j) (ys j)) ≤ 0) := fun h => c_5 ((lg_cmp_le _ _).mpr h)
        have c_5' : 0 < (pc_side xs ys n i (xs j) (ys j)) := Int64.not_le.mp c_5
        refine lv_lload hx hb d_S_parts_64 (lv_at hl 0 rfl) ?_
        refine lv_lconst (v := 0) hx hb d_S_parts_66 (by decide) ?_
        refine W.lcmp hx hb d_S_parts_67 ?_
        refine lv_if_ge (tgt := 75) hx hb d_S_parts_68 (by decide) (fun c_6 => ?_) (fun c_6 => ?_)
        · skip
          have c_6 : 0 ≤ (pc_side xs ys n i (xs (pc_nx n j)) (ys (pc_nx n j))) := (lg_cmp_ge _ _).mp c_6
          have c_6' : ¬ ((pc_side xs ys n i (xs (pc_nx n j)) (ys (pc_nx n j))) < 0) := Int64.not_lt.mpr c_6
          refine lv_iconst (v := 0) hx hb d_S_parts_75 (by decide) ?_
          exact z_zret hx hb hr hlocks (by simp [pi_b, pc_parts, c_1, c_1', c_4, c_4', c_5, c_5', c_6, c_6']) d_S_parts_76
        · skip
          have c_6 : ¬ (0 ≤ (pc_side xs ys n i (xs (pc_nx n j)) (ys (pc_nx n j)))) := fun h => c_6 ((lg_cmp_ge _ _).mpr h)
          have c_6' : (pc_side xs ys n i (xs (pc_nx n j)) (ys (pc_nx n j))) < 0 := Int64.not_le.mp c_6
          refine lv_iconst (v := 1) hx hb d_S_parts_71 (by decide) ?_
          refine lv_goto (tgt := 76) hx hb d_S_parts_72 (by decide) ?_
          exact z_zret hx hb hr hlocks (by simp [pi_b, pc_parts, c_1, c_1', c_4, c_4', c_5, c_5', c_6, c_6']) d_S_parts_76
set_option maxRecDepth 100000 in
set_option maxHeartbeats 4000000 in
theorem c_S_linesClash (G : z_G s0 (dC, dI) cI cS) (a ax ay n : Nat) (num own fr to_ ca : Int32) (pv : Value) (xs ys : Nat → Int32) (i j : Nat) (hi : i < n) (hj : j < n) (hn : n ≤ 12) : Met l y_S_linesClash [Cond.code y_S_linesClash b_S_linesClash 3 (some .boolean)] ({ frames := 5, cells := 0, slots := 0, locals := 117 }) (z_Pc s0 [.ref a, .int (nI i), .int (nI j)] (fun H => z_Sh (dC, dI) cI H a ax ay n num own fr to_ ca pv xs ys)) (z_Qr (some (.int (pi_b (pc_clash xs ys n i j))))) 0 0 z_no := by
  refine z_ofW (by decide +kernel) (Nat.le_of_ble_eq_true rfl) ?_
  intro p e s m below meth c hx hb hml hr hown hlocks hnm hW0 hB ls hl
  have hts := z_hts (args := [.ref a, .int (nI i), .int (nI j)].toArray) G.1 hW0
  have hN := z_nstW G.2.1 hW0
  have hK := va_K.moved hW0.alike G.2.2.1
  have hAI := arrOfT_moved hW0.alike G.2.2.2.1
  have hl : lv_has ls 3 [(0, .ref a), (1, .int (nI i)), (2, .int (nI j))] := hl
  obtain ⟨hO, hX, hY⟩ := id hB
  have hx1 := pc_nx_lt hi
  have hx2 := pc_nx_lt hj
  refine lv_aload_n hx hb d_S_linesClash_0 rfl (lv_at hl 0 rfl) ?_
  refine lv_iload_n hx hb d_S_linesClash_1 rfl (lv_at hl 1 rfl) ?_
  refine z_rdV (n := 1) (C := R_S) (rest := []) ⟨hx, hb, hml, hown, hts⟩ hW0 (c_S_next G a ax ay n num own fr to_ ca pv xs ys i (by omega) hn) w_309 w_306 w_308 wp_5 w_11 (by decide +kernel) ⟨rfl, rfl, Nat.le_of_ble_eq_true rfl, Nat.le_of_ble_eq_true rfl⟩ (hO.recv hK rfl) (hB) rfl rfl hl.1 (Nat.le_of_ble_eq_true rfl) d_S_linesClash_2 ⟨Nat.zero_le _, Nat.zero_le _⟩ ?_
  refine lv_iload_n hx hb d_S_linesClash_5 rfl (lv_at hl 2 rfl) ?_
  refine lv_icmp_ne (tgt := 16) hx hb d_S_linesClash_6 (by decide) (fun c_1 => ?_) (fun c_1 => ?_)
  · skip
    have c_1 : ¬ ((pc_nx n i) = j) := fun h => c_1 ((nI_eq (a := pc_nx n i) (b := j) (by omega) (by omega)).mpr h)
    refine lv_aload_n hx hb d_S_linesClash_16 rfl (lv_at hl 0 rfl) ?_
    refine lv_iload_n hx hb d_S_linesClash_17 rfl (lv_at hl 2 rfl) ?_
    refine z_rdV (n := 1) (C := R_S) (rest := []) ⟨hx, hb, hml, hown, hts⟩ hW0 (c_S_next G a ax ay n num own fr to_ ca pv xs ys j (by omega) hn) w_309 w_306 w_308 wp_5 w_11 (by decide +kernel) ⟨rfl, rfl, Nat.le_of_ble_eq_true rfl, Nat.le_of_ble_eq_true rfl⟩ (hO.recv hK rfl) (hB) rfl rfl hl.1 (Nat.le_of_ble_eq_true rfl) d_S_linesClash_18 ⟨Nat.zero_le _, Nat.zero_le _⟩ ?_
    refine lv_iload_n hx hb d_S_linesClash_21 rfl (lv_at hl 1 rfl) ?_
    refine lv_icmp_ne (tgt := 32) hx hb d_S_linesClash_22 (by decide) (fun c_2 => ?_) (fun c_2 => ?_)
    · skip
      have c_2 : ¬ ((pc_nx n j) = i) := fun h => c_2 ((nI_eq (a := pc_nx n j) (b := i) (by omega) (by omega)).mpr h)
      refine lv_aload_n hx hb d_S_linesClash_32 rfl (lv_at hl 0 rfl) ?_
      refine lv_iload_n hx hb d_S_linesClash_33 rfl (lv_at hl 1 rfl) ?_
      refine lv_iload_n hx hb d_S_linesClash_34 rfl (lv_at hl 2 rfl) ?_
      refine z_rdV (n := 2) (C := R_S) (rest := []) ⟨hx, hb, hml, hown, hts⟩ hW0 (c_S_hasCorner G a ax ay n num own fr to_ ca pv xs ys i j (by omega) (by omega) hn) w_317 w_314 w_316 wp_7 w_11 (by decide +kernel) ⟨rfl, rfl, Nat.le_of_ble_eq_true rfl, Nat.le_of_ble_eq_true rfl⟩ (hO.recv hK rfl) (hB) rfl rfl hl.1 (Nat.le_of_ble_eq_true rfl) d_S_linesClash_35 ⟨Nat.zero_le _, Nat.zero_le _⟩ ?_
      refine lv_if_ne (tgt := 94) hx hb d_S_linesClash_38 (by decide) (fun c_3 => ?_) (fun c_3 => ?_)
      · skip
        have c_3 : (pc_hc xs ys n i j) = true := pi_b_1.mp c_3
        refine lv_iconst (v := 1) hx hb d_S_linesClash_94 (by decide) ?_
        refine lv_goto (tgt := 99) hx hb d_S_linesClash_95 (by decide) ?_
        exact z_zret hx hb hr hlocks (by simp [pi_b, pc_clash, c_1, c_2, c_3]) d_S_linesClash_99
      · skip
        have c_3 : (pc_hc xs ys n i j) = false := pi_b_0.mp c_3
        refine lv_aload_n hx hb d_S_linesClash_41 rfl (lv_at hl 0 rfl) ?_
        refine lv_iload_n hx hb d_S_linesClash_42 rfl (lv_at hl 1 rfl) ?_
        refine lv_aload_n hx hb d_S_linesClash_43 rfl (lv_at hl 0 rfl) ?_
        refine lv_iload_n hx hb d_S_linesClash_44 rfl (lv_at hl 2 rfl) ?_
        refine z_rdV (n := 1) (C := R_S) (rest := [.int (nI i), .ref a]) ⟨hx, hb, hml, hown, hts⟩ hW0 (c_S_next G a ax ay n num own fr to_ ca pv xs ys j (by omega) hn) w_309 w_306 w_308 wp_5 w_11 (by decide +kernel) ⟨rfl, rfl, Nat.le_of_ble_eq_true rfl, Nat.le_of_ble_eq_true rfl⟩ (hO.recv hK rfl) (hB) rfl rfl hl.1 (Nat.le_of_ble_eq_true rfl) d_S_linesClash_45 ⟨Nat.zero_le _, Nat.zero_le _⟩ ?_
        refine z_rdV (n := 2) (C := R_S) (rest := []) ⟨hx, hb, hml, hown, hts⟩ hW0 (c_S_hasCorner G a ax ay n num own fr to_ ca pv xs ys i (pc_nx n j) (by omega) (by omega) hn) w_317 w_314 w_316 wp_7 w_11 (by decide +kernel) ⟨rfl, rfl, Nat.le_of_ble_eq_true rfl, Nat.le_of_ble_eq_true rfl⟩ (hO.recv hK rfl) (hB) rfl rfl hl.1 (Nat.le_of_ble_eq_true rfl) d_S_linesClash_48 ⟨Nat.zero_le _, Nat.zero_le _⟩ ?_
        refine lv_if_ne (tgt := 94) hx hb d_S_linesClash_51 (by decide) (fun c_4 => ?_) (fun c_4 => ?_)
        · skip
          have c_4 : (pc_hc xs ys n i (pc_nx n j)) = true := pi_b_1.mp c_4
          refine lv_iconst (v := 1) hx hb d_S_linesClash_94 (by decide) ?_
          refine lv_goto (tgt := 99) hx hb d_S_linesClash_95 (by decide) ?_
          exact z_zret hx hb hr hlocks (by simp [pi_b, pc_clash, c_1, c_2, c_3, c_4]) d_S_linesClash_99
        · skip
          have c_4 : (pc_hc xs ys n i (pc_nx n j)) = false := pi_b_0.mp c_4
          refine lv_aload_n hx hb d_S_linesClash_54 rfl (lv_at hl 0 rfl) ?_
          refine lv_iload_n hx hb d_S_linesClash_55 rfl (lv_at hl 2 rfl) ?_
          refine lv_iload_n hx hb d_S_linesClash_56 rfl (lv_at hl 1 rfl) ?_
          refine z_rdV (n := 2) (C := R_S) (rest := []) ⟨hx, hb, hml, hown, hts⟩ hW0 (c_S_hasCorner G a ax ay n num own fr to_ ca pv xs ys j i (by omega) (by omega) hn) w_317 w_314 w_316 wp_7 w_11 (by decide +kernel) ⟨rfl, rfl, Nat.le_of_ble_eq_true rfl, Nat.le_of_ble_eq_true rfl⟩ (hO.recv hK rfl) (hB) rfl rfl hl.1 (Nat.le_of_ble_eq_true rfl) d_S_linesClash_57 ⟨Nat.zero_le _, Nat.zero_le _⟩ ?_
          refine lv_if_ne (tgt := 94) hx hb d_S_linesClash_60 (by decide) (fun c_5 => ?_) (fun c_5 => ?_)
          · skip
            have c_5 : (pc_hc xs ys n j i) = true := pi_b_1.mp c_5
            refine lv_iconst (v := 1) hx hb d_S_linesClash_94 (by decide) ?_
            refine lv_goto (tgt := 99) hx hb d_S_linesClash_95 (by decide) ?_
            exact z_zret hx hb hr hlocks (by simp [pi_b, pc_clash, c_1, c_2, c_3, c_4, c_5]) d_S_linesClash_99
          · skip
            have c_5 : (pc_hc xs ys n j i) = false := pi_b_0.mp c_5
            refine lv_aload_n hx hb d_S_linesClash_63 rfl (lv_at hl 0 rfl) ?_
            refine lv_iload_n hx hb d_S_linesClash_64 rfl (lv_at hl 2 rfl) ?_
            refine lv_aload_n hx hb d_S_linesClash_65 rfl (lv_at hl 0 rfl) ?_
            refine lv_iload_n hx hb d_S_linesClash_66 rfl (lv_at hl 1 rfl) ?_
            refine z_rdV (n := 1) (C := R_S) (rest := [.int (nI j), .ref a]) ⟨hx, hb, hml, hown, hts⟩ hW0 (c_S_next G a ax ay n num own fr to_ ca pv xs ys i (by omega) hn) w_309 w_306 w_308 wp_5 w_11 (by decide +kernel) ⟨rfl, rfl, Nat.le_of_ble_eq_true rfl, Nat.le_of_ble_eq_true rfl⟩ (hO.recv hK rfl) (hB) rfl rfl hl.1 (Nat.le_of_ble_eq_true rfl) d_S_linesClash_67 ⟨Nat.zero_le _, Nat.zero_le _⟩ ?_
            refine z_rdV (n := 2) (C := R_S) (rest := []) ⟨hx, hb, hml, hown, hts⟩ hW0 (c_S_hasCorner G a ax ay n num own fr to_ ca pv xs ys j (pc_nx n i) (by omega) (by omega) hn) w_317 w_314 w_316 wp_7 w_11 (by decide +kernel) ⟨rfl, rfl, Nat.le_of_ble_eq_true rfl, Nat.le_of_ble_eq_true rfl⟩ (hO.recv hK rfl) (hB) rfl rfl hl.1 (Nat.le_of_ble_eq_true rfl) d_S_linesClash_70 ⟨Nat.zero_le _, Nat.zero_le _⟩ ?_
            refine lv_if_ne (tgt := 94) hx hb d_S_linesClash_73 (by decide) (fun c_6 => ?_) (fun c_6 => ?_)
            · skip
              have c_6 : (pc_hc xs ys n j (pc_nx n i)) = true := pi_b_1.mp c_6
              refine lv_iconst (v := 1) hx hb d_S_linesClash_94 (by decide) ?_
              refine lv_goto (tgt := 99) hx hb d_S_linesClash_95 (by decide) ?_
              exact z_zret hx hb hr hlocks (by simp [pi_b, pc_clash, c_1, c_2, c_3, c_4, c_5, c_6]) d_S_linesClash_99
            · skip
              have c_6 : (pc_hc xs ys n j (pc_nx n i)) = false := pi_b_0.mp c_6
              refine lv_aload_n hx hb d_S_linesClash_76 rfl (lv_at hl 0 rfl) ?_
              refine lv_iload_n hx hb d_S_linesClash_77 rfl (lv_at hl 1 rfl) ?_
              refine lv_iload_n hx hb d_S_linesClash_78 rfl (lv_at hl 2 rfl) ?_
              refine z_rdV (n := 2) (C := R_S) (rest := []) ⟨hx, hb, hml, hown, hts⟩ hW0 (c_S_parts G a ax ay n num own fr to_ ca pv xs ys i j (by omega) (by omega) hn) w_341 w_338 w_340 wp_10 w_11 (by decide +kernel) ⟨rfl, rfl, Nat.le_of_ble_eq_true rfl, Nat.le_of_ble_eq_true rfl⟩ (hO.recv hK rfl) (hB) rfl rfl hl.1 (Nat.le_of_ble_eq_true rfl) d_S_linesClash_79 ⟨Nat.zero_le _, Nat.zero_le _⟩ ?_
              refine lv_if_eq (tgt := 98) hx hb d_S_linesClash_82 (by decide) (fun c_7 => ?_) (fun c_7 => ?_)
              · skip
                have c_7 : (pc_parts xs ys n i j) = false := pi_b_0.mp c_7
                refine lv_iconst (v := 0) hx hb d_S_linesClash_98 (by decide) ?_
                exact z_zret hx hb hr hlocks (by simp [pi_b, pc_clash, c_1, c_2, c_3, c_4, c_5, c_6, c_7]) d_S_linesClash_99
              · skip
                have c_7 : (pc_parts xs ys n i j) = true := pi_b_1.mp c_7
                refine lv_aload_n hx hb d_S_linesClash_85 rfl (lv_at hl 0 rfl) ?_
                refine lv_iload_n hx hb d_S_linesClash_86 rfl (lv_at hl 2 rfl) ?_
                refine lv_iload_n hx hb d_S_linesClash_87 rfl (lv_at hl 1 rfl) ?_
                refine z_rdV (n := 2) (C := R_S) (rest := []) ⟨hx, hb, hml, hown, hts⟩ hW0 (c_S_parts G a ax ay n num own fr to_ ca pv xs ys j i (by omega) (by omega) hn) w_341 w_338 w_340 wp_10 w_11 (by decide +kernel) ⟨rfl, rfl, Nat.le_of_ble_eq_true rfl, Nat.le_of_ble_eq_true rfl⟩ (hO.recv hK rfl) (hB) rfl rfl hl.1 (Nat.le_of_ble_eq_true rfl) d_S_linesClash_88 ⟨Nat.zero_le _, Nat.zero_le _⟩ ?_
                refine lv_if_eq (tgt := 98) hx hb d_S_linesClash_91 (by decide) (fun c_8 => ?_) (fun c_8 => ?_)
                · skip
                  have c_8 : (pc_parts xs ys n j i) = false := pi_b_0.mp c_8
                  refine lv_iconst (v := 0) hx hb d_S_linesClash_98 (by decide) ?_
                  exact z_zret hx hb hr hlocks (by simp [pi_b, pc_clash, c_1, c_2, c_3, c_4, c_5, c_6, c_7, c_8]) d_S_linesClash_99
                · skip
                  have c_8 : (pc_parts xs ys n j i) = true := pi_b_1.mp c_8
                  refine lv_iconst (v := 1) hx hb d_S_linesClash_94 (by decide) ?_
                  refine lv_goto (tgt := 99) hx hb d_S_linesClash_95 (by decide) ?_
                  exact z_zret hx hb hr hlocks (by simp [pi_b, pc_clash, c_1, c_2, c_3, c_4, c_5, c_6, c_7, c_8]) d_S_linesClash_99
    · skip
      have c_2 : (pc_nx n j) = i := (nI_eq (a := pc_nx n j) (b := i) (by omega) (by omega)).mp c_2
      refine lv_aload_n hx hb d_S_linesClash_25 rfl (lv_at hl 0 rfl) ?_
      refine lv_iload_n hx hb d_S_linesClash_26 rfl (lv_at hl 2 rfl) ?_
      refine lv_iload_n hx hb d_S_linesClash_27 rfl (lv_at hl 1 rfl) ?_
      refine z_rdV (n := 2) (C := R_S) (rest := []) ⟨hx, hb, hml, hown, hts⟩ hW0 (c_S_foldsBack G a ax ay n num own fr to_ ca pv xs ys j i (by omega) (by omega) hn) w_313 w_310 w_312 wp_6 w_11 (by decide +kernel) ⟨rfl, rfl, Nat.le_of_ble_eq_true rfl, Nat.le_of_ble_eq_true rfl⟩ (hO.recv hK rfl) (hB) rfl rfl hl.1 (Nat.le_of_ble_eq_true rfl) d_S_linesClash_28 ⟨Nat.zero_le _, Nat.zero_le _⟩ ?_
      exact z_zret hx hb hr hlocks (by simp [pi_b, pc_clash, c_1, c_2]) d_S_linesClash_31
  · skip
    have c_1 : (pc_nx n i) = j := (nI_eq (a := pc_nx n i) (b := j) (by omega) (by omega)).mp c_1
    refine lv_aload_n hx hb d_S_linesClash_9 rfl (lv_at hl 0 rfl) ?_
    refine lv_iload_n hx hb d_S_linesClash_10 rfl (lv_at hl 1 rfl) ?_
    refine lv_iload_n hx hb d_S_linesClash_11 rfl (lv_at hl 2 rfl) ?_
    refine z_rdV (n := 2) (C := R_S) (rest := []) ⟨hx, hb, hml, hown, hts⟩ hW0 (c_S_foldsBack G a ax ay n num own fr to_ ca pv xs ys i j (by omega) (by omega) hn) w_313 w_310 w_312 wp_6 w_11 (by decide +kernel) ⟨rfl, rfl, Nat.le_of_ble_eq_true rfl, Nat.le_of_ble_eq_true rfl⟩ (hO.recv hK rfl) (hB) rfl rfl hl.1 (Nat.le_of_ble_eq_true rfl) d_S_linesClash_12 ⟨Nat.zero_le _, Nat.zero_le _⟩ ?_
    exact z_zret hx hb hr hlocks (by simp [pi_b, pc_clash, c_1]) d_S_linesClash_15
set_option maxRecDepth 100000 in
set_option maxHeartbeats 4000000 in
theorem c_S_squareBetween (G : z_G s0 (dC, dI) cI cS) (a ax ay n : Nat) (num own fr to_ ca : Int32) (pv : Value) (xs ys : Nat → Int32) (a2 ax2 ay2 n2 : Nat) (num2 own2 fr2 to_2 ca2 : Int32) (pv2 : Value) (xs2 ys2 : Nat → Int32) (i j : Nat) (hi : i < n) (hj : j < n2) (hn : n ≤ 12) (hn2 : n2 ≤ 12) : Met l y_S_squareBetween [Cond.code y_S_squareBetween b_S_squareBetween 6 (some .int)] ({ frames := 0, cells := 0, slots := 0, locals := 0 }) (z_Pc s0 [.ref a, .int (nI i), .ref a2, .int (nI j)] (fun H => z_Sh (dC, dI) cI H a ax ay n num own fr to_ ca pv xs ys ∧ z_Sh (dC, dI) cI H a2 ax2 ay2 n2 num2 own2 fr2 to_2 ca2 pv2 xs2 ys2)) (z_Qr (some (.int (pc_sq xs ys i xs2 ys2 j)))) 0 0 z_no := by
  refine z_ofW (by decide +kernel) (Nat.le_of_ble_eq_true rfl) ?_
  intro p e s m below meth c hx hb hml hr hown hlocks hnm hW0 hB ls hl
  have hts := z_hts (args := [.ref a, .int (nI i), .ref a2, .int (nI j)].toArray) G.1 hW0
  have hN := z_nstW G.2.1 hW0
  have hK := va_K.moved hW0.alike G.2.2.1
  have hAI := arrOfT_moved hW0.alike G.2.2.2.1
  have hl : lv_has ls 6 [(0, .ref a), (1, .int (nI i)), (2, .ref a2), (3, .int (nI j))] := hl
  obtain ⟨⟨hO, hX, hY⟩, hO2, hX2, hY2⟩ := id hB
  refine lv_aload_n hx hb d_S_squareBetween_0 rfl (lv_at hl 0 rfl) ?_
  refine va_get (D := (dC, dI)) (ci := 2) (v := .ref ax) (C := R_S) (T := T_S) (N := 9) hx hb hts in_S hown hK hO.P 0 rfl rfl 4 (by decide) (hts _ w_231) (fun _ h9 => h9) rfl d_S_squareBetween_1 ?_
  refine lv_iload_n hx hb d_S_squareBetween_4 rfl (lv_at hl 1 rfl) ?_
  refine z_iald hx hb hAI hX (by omega) (by decide) d_S_squareBetween_5 ?_
  refine lv_aload_n hx hb d_S_squareBetween_6 rfl (lv_at hl 2 rfl) ?_
  refine va_get (D := (dC, dI)) (ci := 2) (v := .ref ax2) (C := R_S) (T := T_S) (N := 9) hx hb hts in_S hown hK hO2.P 0 rfl rfl 4 (by decide) (hts _ w_231) (fun _ h9 => h9) rfl d_S_squareBetween_7 ?_
  refine lv_iload_n hx hb d_S_squareBetween_10 rfl (lv_at hl 3 rfl) ?_
  refine z_iald hx hb hAI hX2 (by omega) (by decide) d_S_squareBetween_11 ?_
  refine lv_isub hx hb d_S_squareBetween_12 ?_
  refine lv_istore (lv' := [(4, .int ((xs i) - (xs2 j))), (0, .ref a), (1, .int (nI i)), (2, .ref a2), (3, .int (nI j))]) hx hb d_S_squareBetween_13 hl (by decide) rfl (fun ls hl => ?_)
  refine lv_aload_n hx hb d_S_squareBetween_15 rfl (lv_at hl 1 rfl) ?_
  refine va_get (D := (dC, dI)) (ci := 2) (v := .ref ay) (C := R_S) (T := T_S) (N := 9) hx hb hts in_S hown hK hO.P 0 rfl rfl 5 (by decide) (hts _ w_232) (fun _ h9 => h9) rfl d_S_squareBetween_16 ?_
  refine lv_iload_n hx hb d_S_squareBetween_19 rfl (lv_at hl 2 rfl) ?_
  refine z_iald hx hb hAI hY (by omega) (by decide) d_S_squareBetween_20 ?_
  refine lv_aload_n hx hb d_S_squareBetween_21 rfl (lv_at hl 3 rfl) ?_
  refine va_get (D := (dC, dI)) (ci := 2) (v := .ref ay2) (C := R_S) (T := T_S) (N := 9) hx hb hts in_S hown hK hO2.P 0 rfl rfl 5 (by decide) (hts _ w_232) (fun _ h9 => h9) rfl d_S_squareBetween_22 ?_
  refine lv_iload_n hx hb d_S_squareBetween_25 rfl (lv_at hl 4 rfl) ?_
  refine z_iald hx hb hAI hY2 (by omega) (by decide) d_S_squareBetween_26 ?_
  refine lv_isub hx hb d_S_squareBetween_27 ?_
  refine lv_istore (lv' := [(5, .int ((ys i) - (ys2 j))), (4, .int ((xs i) - (xs2 j))), (0, .ref a), (1, .int (nI i)), (2, .ref a2), (3, .int (nI j))]) hx hb d_S_squareBetween_28 hl (by decide) rfl (fun ls hl => ?_)
  refine lv_iload hx hb d_S_squareBetween_30 (lv_at hl 1 rfl) ?_
  refine lv_iload hx hb d_S_squareBetween_32 (lv_at hl 1 rfl) ?_
  refine lv_imul hx hb d_S_squareBetween_34 ?_
  refine lv_iload hx hb d_S_squareBetween_35 (lv_at hl 0 rfl) ?_
  refine lv_iload hx hb d_S_squareBetween_37 (lv_at hl 0 rfl) ?_
  refine lv_imul hx hb d_S_squareBetween_39 ?_
  refine lv_iadd hx hb d_S_squareBetween_40 ?_
  exact z_iret hx hb hr hlocks (by rfl) d_S_squareBetween_41
end S1
end
section
section S2
variable {s0 : State} {dC : Nat → ClassId} {dI : Nat → Nat → Nat} {cI cS : ClassId} {l : Launch}
set_option maxRecDepth 100000 in
set_option maxHeartbeats 4000000 in
theorem c_S_contains (G : z_G s0 (dC, dI) cI cS) (a ax ay n : Nat) (num own fr to_ ca : Int32) (pv : Value) (xs ys : Nat → Int32) (x y : Int32) (hn : n ≤ 12) : Met l y_S_contains [Cond.code y_S_contains b_S_contains 5 (some .boolean)] ({ frames := 3, cells := 0, slots := 0, locals := 73 }) (z_Pc s0 [.ref a, .int x, .int y] (fun H => z_Sh (dC, dI) cI H a ax ay n num own fr to_ ca pv xs ys)) (z_Qr (some (.int (pi_b (pc_in xs ys n x y))))) 0 0 z_no := by
  refine z_ofW (by decide +kernel) (Nat.le_of_ble_eq_true rfl) ?_
  intro p e s m below meth c hx hb hml hr hown hlocks hnm hW0 hB ls hl
  have hts := z_hts (args := [.ref a, .int x, .int y].toArray) G.1 hW0
  have hN := z_nstW G.2.1 hW0
  have hK := va_K.moved hW0.alike G.2.2.1
  have hAI := arrOfT_moved hW0.alike G.2.2.2.1
  have hl : lv_has ls 5 [(0, .ref a), (1, .int x), (2, .int y)] := hl
  obtain ⟨hO, hX, hY⟩ := id hB
  have loops : ∀ f : Nat, (∀ (i : Nat) (b : Bool), n - i < f → (i ≤ n) → (pc_cont xs ys n x y (n - i) i b = pc_in xs ys n x y) → ∀ ls : Array Slot, lv_has ls 5 [(0, .ref a), (1, .int x), (2, .int y), (3, .int (pi_b b)), (4, .int (nI i))] → W p l e ({ frames := 3, cells := 0, slots := 0, locals := 73 }) s m [.ref a, .int x, .int y].toArray below meth c s.heap [] 0 0 (MQ below (z_Qr (some (.int (pi_b (pc_in xs ys n x y))))) [.ref a, .int x, .int y].toArray s 0 0 z_no) (F0 m 5 ls [])) := by
    intro f
    induction f with
    | zero => exact fun _ _ h => absurd h (Nat.not_lt_zero _)
    | succ f ih =>
      intro i b hmu hi hres ls hl
      refine lv_iload hx hb d_S_contains_5 (lv_at hl 4 rfl) ?_
      refine lv_aload_n hx hb d_S_contains_7 rfl (lv_at hl 0 rfl) ?_
      refine va_get (D := (dC, dI)) (ci := 2) (v := .int (nI n)) (C := R_S) (T := T_S) (N := 9) hx hb hts in_S hown hK hO.P 0 rfl rfl 6 (by decide) (hts _ w_233) (fun _ h9 => h9) rfl d_S_contains_8 ?_
      refine lv_icmp_ge (tgt := 54) hx hb d_S_contains_11 (by decide) (fun c_101 => ?_) (fun c_101 => ?_)
      · skip
        have c_101 : n ≤ i := (nI_leI (a := n) (b := i) (by omega) (by omega)).mp c_101
        refine lv_iload_n hx hb d_S_contains_54 rfl (lv_at hl 3 rfl) ?_
        exact z_zret hx hb hr hlocks (by rw [show n - i = 0 by omega] at hres; simp only [pc_cont] at hres; rw [hres]) d_S_contains_55
      · skip
        have c_101 : ¬ (n ≤ i) := fun h => c_101 ((nI_leI (a := n) (b := i) (by omega) (by omega)).mpr h)
        refine lv_aload_n hx hb d_S_contains_14 rfl (lv_at hl 0 rfl) ?_
        refine lv_iload hx hb d_S_contains_15 (lv_at hl 4 rfl) ?_
        refine lv_iload_n hx hb d_S_contains_17 rfl (lv_at hl 1 rfl) ?_
        refine lv_iload_n hx hb d_S_contains_18 rfl (lv_at hl 2 rfl) ?_
        refine z_rdV (n := 3) (C := R_S) (rest := []) ⟨hx, hb, hml, hown, hts⟩ hW0 (c_S_isOnLine G a ax ay n num own fr to_ ca pv xs ys i x y (by omega) hn) w_321 w_318 w_320 wp_8 w_11 (by decide +kernel) ⟨rfl, rfl, Nat.le_of_ble_eq_true rfl, Nat.le_of_ble_eq_true rfl⟩ (hO.recv hK rfl) (hB) rfl rfl hl.1 (Nat.le_of_ble_eq_true rfl) d_S_contains_19 ⟨Nat.zero_le _, Nat.zero_le _⟩ ?_
        refine lv_if_eq (tgt := 27) hx hb d_S_contains_22 (by decide) (fun c_102 => ?_) (fun c_102 => ?_)
        · skip
          have c_102 : (pc_on xs ys n i x y) = false := pi_b_0.mp c_102
          refine lv_aload_n hx hb d_S_contains_27 rfl (lv_at hl 0 rfl) ?_
          refine lv_iload hx hb d_S_contains_28 (lv_at hl 4 rfl) ?_
          refine lv_iload_n hx hb d_S_contains_30 rfl (lv_at hl 1 rfl) ?_
          refine lv_iload_n hx hb d_S_contains_31 rfl (lv_at hl 2 rfl) ?_
          refine z_rdV (n := 3) (C := R_S) (rest := []) ⟨hx, hb, hml, hown, hts⟩ hW0 (c_S_isLineRightOf G a ax ay n num own fr to_ ca pv xs ys i x y (by omega) hn) w_386 w_383 w_385 wp_12 w_11 (by decide +kernel) ⟨rfl, rfl, Nat.le_of_ble_eq_true rfl, Nat.le_of_ble_eq_true rfl⟩ (hO.recv hK rfl) (hB) rfl rfl hl.1 (Nat.le_of_ble_eq_true rfl) d_S_contains_32 ⟨Nat.zero_le _, Nat.zero_le _⟩ ?_
          refine lv_if_eq (tgt := 48) hx hb d_S_contains_35 (by decide) (fun c_103 => ?_) (fun c_103 => ?_)
          · skip
            have c_103 : (pc_rt xs ys n i x y) = false := pi_b_0.mp c_103
            refine lv_iinc (v := nI (i + 1)) (lv' := [(4, .int (nI (i + 1))), (0, .ref a), (1, .int x), (2, .int y), (3, .int (pi_b b))]) hx hb d_S_contains_48 hl (k := 4) rfl (nI_1 i) (by decide) rfl (fun ls hl => ?_)
            refine lv_goto (tgt := 5) hx hb d_S_contains_51 (by decide) ?_
            exact ih (i + 1) b (by omega) (by omega) (by rw [show n - i = (n - (i + 1)) + 1 by omega] at hres; simpa [pc_cont, c_101, c_102, c_103] using hres) ls (lv_sub hl [1, 2, 3, 4, 0] rfl)
          · skip
            have c_103 : (pc_rt xs ys n i x y) = true := pi_b_1.mp c_103
            refine lv_iload_n hx hb d_S_contains_38 rfl (lv_at hl 3 rfl) ?_
            refine lv_if_ne (tgt := 46) hx hb d_S_contains_39 (by decide) (fun c_104 => ?_) (fun c_104 => ?_)
            · skip
              have c_104 : b = true := pi_b_1.mp c_104
              refine lv_iconst (v := 0) hx hb d_S_contains_46 (by decide) ?_
              refine lv_istore_n (lv' := [(3, .int 0), (0, .ref a), (1, .int x), (2, .int y), (4, .int (nI i))]) hx hb d_S_contains_47 rfl hl (by decide) rfl (fun ls hl => ?_)
              refine lv_iinc (v := nI (i + 1)) (lv' := [(4, .int (nI (i + 1))), (3, .int 0), (0, .ref a), (1, .int x), (2, .int y)]) hx hb d_S_contains_48 hl (k := 4) rfl (nI_1 i) (by decide) rfl (fun ls hl => ?_)
              refine lv_goto (tgt := 5) hx hb d_S_contains_51 (by decide) ?_
              exact ih (i + 1) false (by omega) (by omega) (by rw [show n - i = (n - (i + 1)) + 1 by omega] at hres; simpa [pc_cont, c_101, c_102, c_103, c_104] using hres) ls (lv_sub hl [2, 3, 4, 1, 0] rfl)
            · skip
              have c_104 : b = false := pi_b_0.mp c_104
              refine lv_iconst (v := 1) hx hb d_S_contains_42 (by decide) ?_
              refine lv_goto (tgt := 47) hx hb d_S_contains_43 (by decide) ?_
              refine lv_istore_n (lv' := [(3, .int 1), (0, .ref a), (1, .int x), (2, .int y), (4, .int (nI i))]) hx hb d_S_contains_47 rfl hl (by decide) rfl (fun ls hl => ?_)
              refine lv_iinc (v := nI (i + 1)) (lv' := [(4, .int (nI (i + 1))), (3, .int 1), (0, .ref a), (1, .int x), (2, .int y)]) hx hb d_S_contains_48 hl (k := 4) rfl (nI_1 i) (by decide) rfl (fun ls hl => ?_)
              refine lv_goto (tgt := 5) hx hb d_S_contains_51 (by decide) ?_
              exact ih (i + 1) true (by omega) (by omega) (by rw [show n - i = (n - (i + 1)) + 1 by omega] at hres; simpa [pc_cont, c_101, c_102, c_103, c_104] using hres) ls (lv_sub hl [2, 3, 4, 1, 0] rfl)
        · skip
          have c_102 : (pc_on xs ys n i x y) = true := pi_b_1.mp c_102
          refine lv_iconst (v := 1) hx hb d_S_contains_25 (by decide) ?_
          exact z_zret hx hb hr hlocks (by rw [show n - i = (n - (i + 1)) + 1 by omega] at hres; simp [pc_cont, c_101, c_102] at hres; simp [pi_b, hres]) d_S_contains_26
  refine lv_iconst (v := 0) hx hb d_S_contains_0 (by decide) ?_
  refine lv_istore_n (lv' := [(3, .int 0), (0, .ref a), (1, .int x), (2, .int y)]) hx hb d_S_contains_1 rfl hl (by decide) rfl (fun ls hl => ?_)
  refine lv_iconst (v := 0) hx hb d_S_contains_2 (by decide) ?_
  refine lv_istore (lv' := [(4, .int 0), (3, .int 0), (0, .ref a), (1, .int x), (2, .int y)]) hx hb d_S_contains_3 hl (by decide) rfl (fun ls hl => ?_)
  exact (loops ((n - 0) + 1)) 0 false (by omega) (by omega) (by simp [pc_in]) ls (lv_sub hl [2, 3, 4, 1, 0] rfl)
set_option maxRecDepth 100000 in
set_option maxHeartbeats 4000000 in
theorem c_S_canClose (G : z_G s0 (dC, dI) cI cS) (a ax ay n : Nat) (num own fr to_ ca : Int32) (pv : Value) (xs ys : Nat → Int32) (hn : n ≤ 12) : Met l y_S_canClose [Cond.code y_S_canClose b_S_canClose 3 (some .boolean)] ({ frames := 6, cells := 0, slots := 0, locals := 139 }) (z_Pc s0 [.ref a] (fun H => z_Sh (dC, dI) cI H a ax ay n num own fr to_ ca pv xs ys)) (z_Qr (some (.int (pi_b (pc_can xs ys n ca))))) 0 0 z_no := by
  refine z_ofW (by decide +kernel) (Nat.le_of_ble_eq_true rfl) ?_
  intro p e s m below meth c hx hb hml hr hown hlocks hnm hW0 hB ls hl
  have hts := z_hts (args := [.ref a].toArray) G.1 hW0
  have hN := z_nstW G.2.1 hW0
  have hK := va_K.moved hW0.alike G.2.2.1
  have hAI := arrOfT_moved hW0.alike G.2.2.2.1
  have hl : lv_has ls 3 [(0, .ref a)] := hl
  obtain ⟨hO, hX, hY⟩ := id hB
  have loops : ∀ f : Nat, (∀ (i : Nat), (n - i) * 14 + 13 < f → (i ≤ n) → (pc_cci xs ys n (n - i) i = pc_can xs ys n ca) → ∀ ls : Array Slot, lv_has ls 3 [(0, .ref a), (1, .int (nI i))] → W p l e ({ frames := 6, cells := 0, slots := 0, locals := 139 }) s m [.ref a].toArray below meth c s.heap [] 0 0 (MQ below (z_Qr (some (.int (pi_b (pc_can xs ys n ca))))) [.ref a].toArray s 0 0 z_no) (F0 m 19 ls [])) ∧ (∀ (i j : Nat), (n - i) * 14 + (n - j) < f → (i < n) → (j ≤ n) → ((if pc_ccj xs ys n i (n - j) j = true then pc_cci xs ys n (n - (i + 1)) (i + 1) else false) = pc_can xs ys n ca) → ∀ ls : Array Slot, lv_has ls 3 [(0, .ref a), (1, .int (nI i)), (2, .int (nI j))] → W p l e ({ frames := 6, cells := 0, slots := 0, locals := 139 }) s m [.ref a].toArray below meth c s.heap [] 0 0 (MQ below (z_Qr (some (.int (pi_b (pc_can xs ys n ca))))) [.ref a].toArray s 0 0 z_no) (F0 m 31 ls [])) := by
    intro f
    induction f with
    | zero => exact ⟨fun _ h => absurd h (Nat.not_lt_zero _), fun _ _ h => absurd h (Nat.not_lt_zero _)⟩
    | succ f ih =>
      refine ⟨?_, ?_⟩
      · skip
        intro i hmu hi hres ls hl
        refine lv_iload_n hx hb d_S_canClose_19 rfl (lv_at hl 1 rfl) ?_
        refine lv_aload_n hx hb d_S_canClose_20 rfl (lv_at hl 0 rfl) ?_
        refine va_get (D := (dC, dI)) (ci := 2) (v := .int (nI n)) (C := R_S) (T := T_S) (N := 9) hx hb hts in_S hown hK hO.P 0 rfl rfl 6 (by decide) (hts _ w_233) (fun _ h9 => h9) rfl d_S_canClose_21 ?_
        refine lv_icmp_ge (tgt := 71) hx hb d_S_canClose_24 (by decide) (fun c_101 => ?_) (fun c_101 => ?_)
        · skip
          have c_101 : n ≤ i := (nI_leI (a := n) (b := i) (by omega) (by omega)).mp c_101
          refine lv_iconst (v := 1) hx hb d_S_canClose_71 (by decide) ?_
          exact z_zret hx hb hr hlocks (by rw [show n - i = 0 by omega] at hres; simp only [pc_cci] at hres; simp [pi_b, ← hres]) d_S_canClose_72
        · skip
          have c_101 : ¬ (n ≤ i) := fun h => c_101 ((nI_leI (a := n) (b := i) (by omega) (by omega)).mpr h)
          refine lv_iload_n hx hb d_S_canClose_27 rfl (lv_at hl 1 rfl) ?_
          refine lv_iconst (v := 1) hx hb d_S_canClose_28 (by decide) ?_
          refine lv_iadd hx hb d_S_canClose_29 ?_
          refine z_topi (y := nI (i + 1)) (nI_add i 1) ?_
          refine lv_istore_n (lv' := [(2, .int (nI (i + 1))), (0, .ref a), (1, .int (nI i))]) hx hb d_S_canClose_30 rfl hl (by decide) rfl (fun ls hl => ?_)
          exact ih.2 i (i + 1) (by omega) (by omega) (by omega) (by rw [show n - i = (n - (i + 1)) + 1 by omega] at hres; simpa only [pc_cci] using hres) ls (lv_sub hl [1, 2, 0] rfl)
      · skip
        intro i j hmu hi hj hres ls hl
        refine lv_iload_n hx hb d_S_canClose_31 rfl (lv_at hl 2 rfl) ?_
        refine lv_aload_n hx hb d_S_canClose_32 rfl (lv_at hl 0 rfl) ?_
        refine va_get (D := (dC, dI)) (ci := 2) (v := .int (nI n)) (C := R_S) (T := T_S) (N := 9) hx hb hts in_S hown hK hO.P 0 rfl rfl 6 (by decide) (hts _ w_233) (fun _ h9 => h9) rfl d_S_canClose_33 ?_
        refine lv_icmp_ge (tgt := 65) hx hb d_S_canClose_36 (by decide) (fun c_201 => ?_) (fun c_201 => ?_)
        · skip
          have c_201 : n ≤ j := (nI_leI (a := n) (b := j) (by omega) (by omega)).mp c_201
          refine lv_iinc (v := nI (i + 1)) (lv' := [(1, .int (nI (i + 1))), (0, .ref a), (2, .int (nI j))]) hx hb d_S_canClose_65 hl (k := 1) rfl (nI_1 i) (by decide) rfl (fun ls hl => ?_)
          refine lv_goto (tgt := 19) hx hb d_S_canClose_68 (by decide) ?_
          exact ih.1 (i + 1) (by omega) (by omega) (by rw [show n - j = 0 by omega] at hres; simpa [pc_ccj] using hres) ls (lv_sub hl [1, 0] rfl)
        · skip
          have c_201 : ¬ (n ≤ j) := fun h => c_201 ((nI_leI (a := n) (b := j) (by omega) (by omega)).mpr h)
          refine lv_aload_n hx hb d_S_canClose_39 rfl (lv_at hl 0 rfl) ?_
          refine lv_iload_n hx hb d_S_canClose_40 rfl (lv_at hl 1 rfl) ?_
          refine lv_iload_n hx hb d_S_canClose_41 rfl (lv_at hl 2 rfl) ?_
          refine z_rdV (n := 2) (C := R_S) (rest := []) ⟨hx, hb, hml, hown, hts⟩ hW0 (c_S_sameCorner G a ax ay n num own fr to_ ca pv xs ys i j (by omega) (by omega) hn) w_301 w_298 w_300 wp_3 w_11 (by decide +kernel) ⟨rfl, rfl, Nat.le_of_ble_eq_true rfl, Nat.le_of_ble_eq_true rfl⟩ (hO.recv hK rfl) (hB) rfl rfl hl.1 (Nat.le_of_ble_eq_true rfl) d_S_canClose_42 ⟨Nat.zero_le _, Nat.zero_le _⟩ ?_
          refine lv_if_ne (tgt := 57) hx hb d_S_canClose_45 (by decide) (fun c_202 => ?_) (fun c_202 => ?_)
          · skip
            have c_202 : (pc_same xs ys i j) = true := pi_b_1.mp c_202
            refine lv_iconst (v := 0) hx hb d_S_canClose_57 (by decide) ?_
            exact z_zret hx hb hr hlocks (by rw [show n - j = (n - (j + 1)) + 1 by omega] at hres; simp [pc_ccj, c_201, c_202] at hres; simp [pi_b, hres]) d_S_canClose_58
          · skip
            have c_202 : (pc_same xs ys i j) = false := pi_b_0.mp c_202
            refine lv_aload_n hx hb d_S_canClose_48 rfl (lv_at hl 0 rfl) ?_
            refine lv_iload_n hx hb d_S_canClose_49 rfl (lv_at hl 1 rfl) ?_
            refine lv_iload_n hx hb d_S_canClose_50 rfl (lv_at hl 2 rfl) ?_
            refine z_rdV (n := 2) (C := R_S) (rest := []) ⟨hx, hb, hml, hown, hts⟩ hW0 (c_S_linesClash G a ax ay n num own fr to_ ca pv xs ys i j (by omega) (by omega) hn) w_305 w_302 w_304 wp_4 w_11 (by decide +kernel) ⟨rfl, rfl, Nat.le_of_ble_eq_true rfl, Nat.le_of_ble_eq_true rfl⟩ (hO.recv hK rfl) (hB) rfl rfl hl.1 (Nat.le_of_ble_eq_true rfl) d_S_canClose_51 ⟨Nat.zero_le _, Nat.zero_le _⟩ ?_
            refine lv_if_eq (tgt := 59) hx hb d_S_canClose_54 (by decide) (fun c_203 => ?_) (fun c_203 => ?_)
            · skip
              have c_203 : (pc_clash xs ys n i j) = false := pi_b_0.mp c_203
              refine lv_iinc (v := nI (j + 1)) (lv' := [(2, .int (nI (j + 1))), (0, .ref a), (1, .int (nI i))]) hx hb d_S_canClose_59 hl (k := 2) rfl (nI_1 j) (by decide) rfl (fun ls hl => ?_)
              refine lv_goto (tgt := 31) hx hb d_S_canClose_62 (by decide) ?_
              exact ih.2 i (j + 1) (by omega) (by omega) (by omega) (by rw [show n - j = (n - (j + 1)) + 1 by omega] at hres; simpa [pc_ccj, c_201, c_202, c_203] using hres) ls (lv_sub hl [1, 2, 0] rfl)
            · skip
              have c_203 : (pc_clash xs ys n i j) = true := pi_b_1.mp c_203
              refine lv_iconst (v := 0) hx hb d_S_canClose_57 (by decide) ?_
              exact z_zret hx hb hr hlocks (by rw [show n - j = (n - (j + 1)) + 1 by omega] at hres; simp [pc_ccj, c_201, c_202, c_203] at hres; simp [pi_b, hres]) d_S_canClose_58
  refine lv_aload_n hx hb d_S_canClose_0 rfl (lv_at hl 0 rfl) ?_
  refine z_rdV (n := 0) (C := R_S) (rest := []) ⟨hx, hb, hml, hown, hts⟩ hW0 (c_S_isClosed G a ax ay n num own fr to_ ca pv xs ys) w_276 w_297 w_274 w_275 w_11 (by decide +kernel) ⟨rfl, rfl, Nat.le_of_ble_eq_true rfl, Nat.le_of_ble_eq_true rfl⟩ (hO.recv hK rfl) (hB) rfl rfl hl.1 (Nat.le_of_ble_eq_true rfl) d_S_canClose_1 ⟨Nat.zero_le _, Nat.zero_le _⟩ ?_
  refine lv_if_ne (tgt := 15) hx hb d_S_canClose_4 (by decide) (fun c_1 => ?_) (fun c_1 => ?_)
  · skip
    have c_1 : (0 < ca) := of_decide_eq_true (pi_b_1.mp c_1)
    refine lv_iconst (v := 0) hx hb d_S_canClose_15 (by decide) ?_
    exact z_zret hx hb hr hlocks (by simp [pi_b, pc_can, c_1]) d_S_canClose_16
  · skip
    have c_1 : ¬ (0 < ca) := of_decide_eq_false (pi_b_0.mp c_1)
    refine lv_aload_n hx hb d_S_canClose_7 rfl (lv_at hl 0 rfl) ?_
    refine va_get (D := (dC, dI)) (ci := 2) (v := .int (nI n)) (C := R_S) (T := T_S) (N := 9) hx hb hts in_S hown hK hO.P 0 rfl rfl 6 (by decide) (hts _ w_233) (fun _ h9 => h9) rfl d_S_canClose_8 ?_
    refine lv_iconst (v := 3) hx hb d_S_canClose_11 (by decide) ?_
    refine lv_icmp_ge (tgt := 17) hx hb d_S_canClose_12 (by decide) (fun c_2 => ?_) (fun c_2 => ?_)
    · skip
      have c_2 : 3 ≤ n := (nI_leI (a := 3) (b := n) (by omega) (by omega)).mp c_2
      refine lv_iconst (v := 0) hx hb d_S_canClose_17 (by decide) ?_
      refine lv_istore_n (lv' := [(1, .int 0), (0, .ref a)]) hx hb d_S_canClose_18 rfl hl (by decide) rfl (fun ls hl => ?_)
      exact (loops (((n - 0) * 14 + 13) + 1)).1 0 (by omega) (by omega) (by rw [pc_can, if_neg c_1, if_neg (by omega)]; rfl) ls (lv_sub hl [1, 0] rfl)
    · skip
      have c_2 : ¬ (3 ≤ n) := fun h => c_2 ((nI_leI (a := 3) (b := n) (by omega) (by omega)).mpr h)
      refine lv_iconst (v := 0) hx hb d_S_canClose_15 (by decide) ?_
      exact z_zret hx hb hr hlocks (by simp [pi_b, pc_can, c_1, c_2]) d_S_canClose_16
set_option maxRecDepth 100000 in
set_option maxHeartbeats 4000000 in
theorem c_S_containsCornersOf (G : z_G s0 (dC, dI) cI cS) (a ax ay n : Nat) (num own fr to_ ca : Int32) (pv : Value) (xs ys : Nat → Int32) (a2 ax2 ay2 n2 : Nat) (num2 own2 fr2 to_2 ca2 : Int32) (pv2 : Value) (xs2 ys2 : Nat → Int32) (hn : n ≤ 12) (hn2 : n2 ≤ 12) : Met l y_S_containsCornersOf [Cond.code y_S_containsCornersOf b_S_containsCornersOf 3 (some .boolean)] ({ frames := 4, cells := 0, slots := 0, locals := 97 }) (z_Pc s0 [.ref a, .ref a2] (fun H => z_Sh (dC, dI) cI H a ax ay n num own fr to_ ca pv xs ys ∧ z_Sh (dC, dI) cI H a2 ax2 ay2 n2 num2 own2 fr2 to_2 ca2 pv2 xs2 ys2)) (z_Qr (some (.int (pi_b (pc_all xs ys n xs2 ys2 n2 0))))) 0 0 z_no := by
  refine z_ofW (by decide +kernel) (Nat.le_of_ble_eq_true rfl) ?_
  intro p e s m below meth c hx hb hml hr hown hlocks hnm hW0 hB ls hl
  have hts := z_hts (args := [.ref a, .ref a2].toArray) G.1 hW0
  have hN := z_nstW G.2.1 hW0
  have hK := va_K.moved hW0.alike G.2.2.1
  have hAI := arrOfT_moved hW0.alike G.2.2.2.1
  have hl : lv_has ls 3 [(0, .ref a), (1, .ref a2)] := hl
  obtain ⟨⟨hO, hX, hY⟩, hO2, hX2, hY2⟩ := id hB
  have loops : ∀ f : Nat, (∀ (i : Nat), n2 - i < f → (i ≤ n2) → (pc_all xs ys n xs2 ys2 (n2 - i) i = pc_all xs ys n xs2 ys2 n2 0) → ∀ ls : Array Slot, lv_has ls 3 [(0, .ref a), (1, .ref a2), (2, .int (nI i))] → W p l e ({ frames := 4, cells := 0, slots := 0, locals := 97 }) s m [.ref a, .ref a2].toArray below meth c s.heap [] 0 0 (MQ below (z_Qr (some (.int (pi_b (pc_all xs ys n xs2 ys2 n2 0))))) [.ref a, .ref a2].toArray s 0 0 z_no) (F0 m 2 ls [])) := by
    intro f
    induction f with
    | zero => exact fun _ h => absurd h (Nat.not_lt_zero _)
    | succ f ih =>
      intro i hmu hi hres ls hl
      refine lv_iload_n hx hb d_S_containsCornersOf_2 rfl (lv_at hl 2 rfl) ?_
      refine lv_aload_n hx hb d_S_containsCornersOf_3 rfl (lv_at hl 1 rfl) ?_
      refine va_get (D := (dC, dI)) (ci := 2) (v := .int (nI n2)) (C := R_S) (T := T_S) (N := 9) hx hb hts in_S hown hK hO2.P 0 rfl rfl 6 (by decide) (hts _ w_233) (fun _ h9 => h9) rfl d_S_containsCornersOf_4 ?_
      refine lv_icmp_ge (tgt := 37) hx hb d_S_containsCornersOf_7 (by decide) (fun c_101 => ?_) (fun c_101 => ?_)
      · skip
        have c_101 : n2 ≤ i := (nI_leI (a := n2) (b := i) (by omega) (by omega)).mp c_101
        refine lv_iconst (v := 1) hx hb d_S_containsCornersOf_37 (by decide) ?_
        exact z_zret hx hb hr hlocks (by rw [show n2 - i = 0 by omega] at hres; simp only [pc_all] at hres; simp [pi_b, ← hres]) d_S_containsCornersOf_38
      · skip
        have c_101 : ¬ (n2 ≤ i) := fun h => c_101 ((nI_leI (a := n2) (b := i) (by omega) (by omega)).mpr h)
        refine lv_aload_n hx hb d_S_containsCornersOf_10 rfl (lv_at hl 0 rfl) ?_
        refine lv_aload_n hx hb d_S_containsCornersOf_11 rfl (lv_at hl 1 rfl) ?_
        refine va_get (D := (dC, dI)) (ci := 2) (v := .ref ax2) (C := R_S) (T := T_S) (N := 9) hx hb hts in_S hown hK hO2.P 0 rfl rfl 4 (by decide) (hts _ w_231) (fun _ h9 => h9) rfl d_S_containsCornersOf_12 ?_
        refine lv_iload_n hx hb d_S_containsCornersOf_15 rfl (lv_at hl 2 rfl) ?_
        refine z_iald hx hb hAI hX2 (by omega) (by decide) d_S_containsCornersOf_16 ?_
        refine lv_aload_n hx hb d_S_containsCornersOf_17 rfl (lv_at hl 1 rfl) ?_
        refine va_get (D := (dC, dI)) (ci := 2) (v := .ref ay2) (C := R_S) (T := T_S) (N := 9) hx hb hts in_S hown hK hO2.P 0 rfl rfl 5 (by decide) (hts _ w_232) (fun _ h9 => h9) rfl d_S_containsCornersOf_18 ?_
        refine lv_iload_n hx hb d_S_containsCornersOf_21 rfl (lv_at hl 2 rfl) ?_
        refine z_iald hx hb hAI hY2 (by omega) (by decide) d_S_containsCornersOf_22 ?_
        refine z_rdV (n := 2) (C := R_S) (rest := []) ⟨hx, hb, hml, hown, hts⟩ hW0 (c_S_contains G a ax ay n num own fr to_ ca pv xs ys (xs2 i) (ys2 i) hn) w_382 w_423 w_380 w_381 w_11 (by decide +kernel) ⟨rfl, rfl, Nat.le_of_ble_eq_true rfl, Nat.le_of_ble_eq_true rfl⟩ (hO.recv hK rfl) (hB.1) rfl rfl hl.1 (Nat.le_of_ble_eq_true rfl) d_S_containsCornersOf_23 ⟨Nat.zero_le _, Nat.zero_le _⟩ ?_
        refine lv_if_ne (tgt := 31) hx hb d_S_containsCornersOf_26 (by decide) (fun c_102 => ?_) (fun c_102 => ?_)
        · skip
          have c_102 : (pc_in xs ys n (xs2 i) (ys2 i)) = true := pi_b_1.mp c_102
          refine lv_iinc (v := nI (i + 1)) (lv' := [(2, .int (nI (i + 1))), (0, .ref a), (1, .ref a2)]) hx hb d_S_containsCornersOf_31 hl (k := 2) rfl (nI_1 i) (by decide) rfl (fun ls hl => ?_)
          refine lv_goto (tgt := 2) hx hb d_S_containsCornersOf_34 (by decide) ?_
          exact ih (i + 1) (by omega) (by omega) (by rw [show n2 - i = (n2 - (i + 1)) + 1 by omega] at hres; simpa [pc_all, c_101, c_102] using hres) ls (lv_sub hl [1, 2, 0] rfl)
        · skip
          have c_102 : (pc_in xs ys n (xs2 i) (ys2 i)) = false := pi_b_0.mp c_102
          refine lv_iconst (v := 0) hx hb d_S_containsCornersOf_29 (by decide) ?_
          exact z_zret hx hb hr hlocks (by rw [show n2 - i = (n2 - (i + 1)) + 1 by omega] at hres; simp [pc_all, c_101, c_102] at hres; simp [pi_b, hres]) d_S_containsCornersOf_30
  refine lv_iconst (v := 0) hx hb d_S_containsCornersOf_0 (by decide) ?_
  refine lv_istore_n (lv' := [(2, .int 0), (0, .ref a), (1, .ref a2)]) hx hb d_S_containsCornersOf_1 rfl hl (by decide) rfl (fun ls hl => ?_)
  exact (loops ((n2 - 0) + 1)) 0 (by omega) (by omega) (by rfl) ls (lv_sub hl [1, 2, 0] rfl)
set_option maxRecDepth 100000 in
set_option maxHeartbeats 4000000 in
theorem c_S_doubledArea (G : z_G s0 (dC, dI) cI cS) (a ax ay n : Nat) (num own fr to_ ca : Int32) (pv : Value) (xs ys : Nat → Int32) (hn : n ≤ 12) : Met l y_S_doubledArea [Cond.code y_S_doubledArea b_S_doubledArea 4 (some .int)] ({ frames := 1, cells := 0, slots := 0, locals := 25 }) (z_Pc s0 [.ref a] (fun H => z_Sh (dC, dI) cI H a ax ay n num own fr to_ ca pv xs ys)) (z_Qr (some (.int (pc_area xs ys n)))) 0 0 z_no := by
  refine z_ofW (by decide +kernel) (Nat.le_of_ble_eq_true rfl) ?_
  intro p e s m below meth c hx hb hml hr hown hlocks hnm hW0 hB ls hl
  have hts := z_hts (args := [.ref a].toArray) G.1 hW0
  have hN := z_nstW G.2.1 hW0
  have hK := va_K.moved hW0.alike G.2.2.1
  have hAI := arrOfT_moved hW0.alike G.2.2.2.1
  have hl : lv_has ls 4 [(0, .ref a)] := hl
  obtain ⟨hO, hX, hY⟩ := id hB
  have loops : ∀ f : Nat, (∀ (i : Nat) (b : Int64), n - i < f → (i ≤ n) → (pc_sum xs ys n (n - i) i b = pc_sum xs ys n n 0 0) → ∀ ls : Array Slot, lv_has ls 4 [(0, .ref a), (1, .long b), (3, .int (nI i))] → W p l e ({ frames := 1, cells := 0, slots := 0, locals := 25 }) s m [.ref a].toArray below meth c s.heap [] 0 0 (MQ below (z_Qr (some (.int (pc_area xs ys n)))) [.ref a].toArray s 0 0 z_no) (F0 m 4 ls [])) := by
    intro f
    induction f with
    | zero => exact fun _ _ h => absurd h (Nat.not_lt_zero _)
    | succ f ih =>
      intro i b hmu hi hres ls hl
      have hx1 : i < n → pc_nx n i < n := pc_nx_lt
      refine lv_iload_n hx hb d_S_doubledArea_4 rfl (lv_at hl 2 rfl) ?_
      refine lv_aload_n hx hb d_S_doubledArea_5 rfl (lv_at hl 0 rfl) ?_
      refine va_get (D := (dC, dI)) (ci := 2) (v := .int (nI n)) (C := R_S) (T := T_S) (N := 9) hx hb hts in_S hown hK hO.P 0 rfl rfl 6 (by decide) (hts _ w_233) (fun _ h9 => h9) rfl d_S_doubledArea_6 ?_
      refine lv_icmp_ge (tgt := 58) hx hb d_S_doubledArea_9 (by decide) (fun c_101 => ?_) (fun c_101 => ?_)
      · skip
        have c_101 : n ≤ i := (nI_leI (a := n) (b := i) (by omega) (by omega)).mp c_101
        refine lv_lload_n hx hb d_S_doubledArea_58 rfl (lv_at hl 1 rfl) ?_
        refine va_mabs_long hx hb (hml.trans hl.1.symm) hown (hts _ w_405) (hts _ w_406) (hts _ w_12) (hts _ w_407) (Nat.le_of_ble_eq_true rfl) (Nat.le_of_ble_eq_true rfl) (Nat.zero_le _) (Nat.zero_le _) d_S_doubledArea_59 ?_
        refine lv_l2i hx hb d_S_doubledArea_62 rfl ?_
        exact z_iret hx hb hr hlocks (by rw [show n - i = 0 by omega] at hres; simp only [pc_sum] at hres; unfold pc_area; rw [← hres]) d_S_doubledArea_63
      · skip
        have c_101 : ¬ (n ≤ i) := fun h => c_101 ((nI_leI (a := n) (b := i) (by omega) (by omega)).mpr h)
        refine lv_lload_n hx hb d_S_doubledArea_12 rfl (lv_at hl 1 rfl) ?_
        refine lv_iconst (v := 0) hx hb d_S_doubledArea_13 (by decide) ?_
        refine lv_iconst (v := 0) hx hb d_S_doubledArea_14 (by decide) ?_
        refine lv_aload_n hx hb d_S_doubledArea_15 rfl (lv_at hl 0 rfl) ?_
        refine va_get (D := (dC, dI)) (ci := 2) (v := .ref ax) (C := R_S) (T := T_S) (N := 9) hx hb hts in_S hown hK hO.P 0 rfl rfl 4 (by decide) (hts _ w_231) (fun _ h9 => h9) rfl d_S_doubledArea_16 ?_
        refine lv_iload_n hx hb d_S_doubledArea_19 rfl (lv_at hl 2 rfl) ?_
        refine z_iald hx hb hAI hX (by omega) (by decide) d_S_doubledArea_20 ?_
        refine lv_aload_n hx hb d_S_doubledArea_21 rfl (lv_at hl 0 rfl) ?_
        refine va_get (D := (dC, dI)) (ci := 2) (v := .ref ay) (C := R_S) (T := T_S) (N := 9) hx hb hts in_S hown hK hO.P 0 rfl rfl 5 (by decide) (hts _ w_232) (fun _ h9 => h9) rfl d_S_doubledArea_22 ?_
        refine lv_iload_n hx hb d_S_doubledArea_25 rfl (lv_at hl 2 rfl) ?_
        refine z_iald hx hb hAI hY (by omega) (by decide) d_S_doubledArea_26 ?_
        refine lv_aload_n hx hb d_S_doubledArea_27 rfl (lv_at hl 0 rfl) ?_
        refine va_get (D := (dC, dI)) (ci := 2) (v := .ref ax) (C := R_S) (T := T_S) (N := 9) hx hb hts in_S hown hK hO.P 0 rfl rfl 4 (by decide) (hts _ w_231) (fun _ h9 => h9) rfl d_S_doubledArea_28 ?_
        refine lv_aload_n hx hb d_S_doubledArea_31 rfl (lv_at hl 0 rfl) ?_
        refine lv_iload_n hx hb d_S_doubledArea_32 rfl (lv_at hl 2 rfl) ?_
        refine z_rdV (n := 1) (C := R_S) (rest := [.ref ax, .int (ys i), .int (xs i), .int 0, .int 0, .long b]) ⟨hx, hb, hml, hown, hts⟩ hW0 (c_S_next G a ax ay n num own fr to_ ca pv xs ys i (by omega) hn) w_309 w_306 w_308 wp_5 w_11 (by decide +kernel) ⟨rfl, rfl, Nat.le_of_ble_eq_true rfl, Nat.le_of_ble_eq_true rfl⟩ (hO.recv hK rfl) (hB) rfl rfl hl.1 (Nat.le_of_ble_eq_true rfl) d_S_doubledArea_33 ⟨Nat.zero_le _, Nat.zero_le _⟩ ?_
        refine z_iald hx hb hAI hX (by omega) (by decide) d_S_doubledArea_36 ?_
        refine lv_aload_n hx hb d_S_doubledArea_37 rfl (lv_at hl 0 rfl) ?_
        refine va_get (D := (dC, dI)) (ci := 2) (v := .ref ay) (C := R_S) (T := T_S) (N := 9) hx hb hts in_S hown hK hO.P 0 rfl rfl 5 (by decide) (hts _ w_232) (fun _ h9 => h9) rfl d_S_doubledArea_38 ?_
        refine lv_aload_n hx hb d_S_doubledArea_41 rfl (lv_at hl 0 rfl) ?_
        refine lv_iload_n hx hb d_S_doubledArea_42 rfl (lv_at hl 2 rfl) ?_
        refine z_rdV (n := 1) (C := R_S) (rest := [.ref ay, .int (xs (pc_nx n i)), .int (ys i), .int (xs i), .int 0, .int 0, .long b]) ⟨hx, hb, hml, hown, hts⟩ hW0 (c_S_next G a ax ay n num own fr to_ ca pv xs ys i (by omega) hn) w_309 w_306 w_308 wp_5 w_11 (by decide +kernel) ⟨rfl, rfl, Nat.le_of_ble_eq_true rfl, Nat.le_of_ble_eq_true rfl⟩ (hO.recv hK rfl) (hB) rfl rfl hl.1 (Nat.le_of_ble_eq_true rfl) d_S_doubledArea_43 ⟨Nat.zero_le _, Nat.zero_le _⟩ ?_
        refine z_iald hx hb hAI hY (by omega) (by decide) d_S_doubledArea_46 ?_
        refine z_rdSN (n := 6) (rest := [.long b]) (host := R_B) ⟨hx, hb, hml, hown, hts⟩ hW0 (c_B_turn G 0 0 (xs i) (ys i) (xs (pc_nx n i)) (ys (pc_nx n i))) w_337 (hN _ (List.mem_of_getElem? (i := 1) rfl)) w_336 w_1 (by decide +kernel) ⟨rfl, rfl, Nat.le_of_ble_eq_true rfl, Nat.le_of_ble_eq_true rfl⟩ (trivial) rfl rfl hl.1 (Nat.le_of_ble_eq_true rfl) d_S_doubledArea_47 ⟨Nat.zero_le _, Nat.zero_le _⟩ ?_
        refine lv_ladd hx hb d_S_doubledArea_50 ?_
        refine lv_lstore_n (lv' := [(1, .long (b + (pc_turn 0 0 (xs i) (ys i) (xs (pc_nx n i)) (ys (pc_nx n i))))), (0, .ref a), (3, .int (nI i))]) hx hb d_S_doubledArea_51 rfl hl (by decide) rfl (fun ls hl => ?_)
        refine lv_iinc (v := nI (i + 1)) (lv' := [(3, .int (nI (i + 1))), (1, .long (b + (pc_turn 0 0 (xs i) (ys i) (xs (pc_nx n i)) (ys (pc_nx n i))))), (0, .ref a)]) hx hb d_S_doubledArea_52 hl (k := 2) rfl (nI_1 i) (by decide) rfl (fun ls hl => ?_)
        refine lv_goto (tgt := 4) hx hb d_S_doubledArea_55 (by decide) ?_
        exact ih (i + 1) (b + (pc_turn 0 0 (xs i) (ys i) (xs (pc_nx n i)) (ys (pc_nx n i)))) (by omega) (by omega) (by rw [show n - i = (n - (i + 1)) + 1 by omega] at hres; simpa only [pc_sum] using hres) ls (lv_sub hl [2, 1, 0] rfl)
  refine lv_lconst (v := 0) hx hb d_S_doubledArea_0 (by decide) ?_
  refine lv_lstore_n (lv' := [(1, .long 0), (0, .ref a)]) hx hb d_S_doubledArea_1 rfl hl (by decide) rfl (fun ls hl => ?_)
  refine lv_iconst (v := 0) hx hb d_S_doubledArea_2 (by decide) ?_
  refine lv_istore_n (lv' := [(3, .int 0), (1, .long 0), (0, .ref a)]) hx hb d_S_doubledArea_3 rfl hl (by decide) rfl (fun ls hl => ?_)
  exact (loops ((n - 0) + 1)) 0 0 (by omega) (by omega) (by rfl) ls (lv_sub hl [2, 1, 0] rfl)
set_option maxRecDepth 100000 in
set_option maxHeartbeats 4000000 in
theorem c_S_leastSquareTo (G : z_G s0 (dC, dI) cI cS) (a ax ay n : Nat) (num own fr to_ ca : Int32) (pv : Value) (xs ys : Nat → Int32) (a2 ax2 ay2 n2 : Nat) (num2 own2 fr2 to_2 ca2 : Int32) (pv2 : Value) (xs2 ys2 : Nat → Int32) (hn : n ≤ 12) (hn2 : n2 ≤ 12) (h0 : 0 < n) (h02 : 0 < n2) : Met l y_S_leastSquareTo [Cond.code y_S_leastSquareTo b_S_leastSquareTo 5 (some .int)] ({ frames := 1, cells := 0, slots := 0, locals := 25 }) (z_Pc s0 [.ref a, .ref a2] (fun H => z_Sh (dC, dI) cI H a ax ay n num own fr to_ ca pv xs ys ∧ z_Sh (dC, dI) cI H a2 ax2 ay2 n2 num2 own2 fr2 to_2 ca2 pv2 xs2 ys2)) (z_Qr (some (.int (pc_least xs ys n xs2 ys2 n2)))) 0 0 z_no := by
  refine z_ofW (by decide +kernel) (Nat.le_of_ble_eq_true rfl) ?_
  intro p e s m below meth c hx hb hml hr hown hlocks hnm hW0 hB ls hl
  have hts := z_hts (args := [.ref a, .ref a2].toArray) G.1 hW0
  have hN := z_nstW G.2.1 hW0
  have hK := va_K.moved hW0.alike G.2.2.1
  have hAI := arrOfT_moved hW0.alike G.2.2.2.1
  have hl : lv_has ls 5 [(0, .ref a), (1, .ref a2)] := hl
  obtain ⟨⟨hO, hX, hY⟩, hO2, hX2, hY2⟩ := id hB
  have loops : ∀ f : Nat, (∀ (i : Nat) (b : Int32), (n - i) * 14 + 13 < f → (i ≤ n) → (pc_li xs ys xs2 ys2 n2 (n - i) i b = pc_least xs ys n xs2 ys2 n2) → ∀ ls : Array Slot, lv_has ls 5 [(0, .ref a), (1, .ref a2), (2, .int b), (3, .int (nI i))] → W p l e ({ frames := 1, cells := 0, slots := 0, locals := 25 }) s m [.ref a, .ref a2].toArray below meth c s.heap [] 0 0 (MQ below (z_Qr (some (.int (pc_least xs ys n xs2 ys2 n2)))) [.ref a, .ref a2].toArray s 0 0 z_no) (F0 m 10 ls [])) ∧ (∀ (i j : Nat) (b : Int32), (n - i) * 14 + (n2 - j) < f → (i < n) → (j ≤ n2) → (pc_li xs ys xs2 ys2 n2 (n - (i + 1)) (i + 1) (pc_lj xs ys xs2 ys2 i (n2 - j) j b) = pc_least xs ys n xs2 ys2 n2) → ∀ ls : Array Slot, lv_has ls 5 [(0, .ref a), (1, .ref a2), (2, .int b), (3, .int (nI i)), (4, .int (nI j))] → W p l e ({ frames := 1, cells := 0, slots := 0, locals := 25 }) s m [.ref a, .ref a2].toArray below meth c s.heap [] 0 0 (MQ below (z_Qr (some (.int (pc_least xs ys n xs2 ys2 n2)))) [.ref a, .ref a2].toArray s 0 0 z_no) (F0 m 21 ls [])) := by
    intro f
    induction f with
    | zero => exact ⟨fun _ _ h => absurd h (Nat.not_lt_zero _), fun _ _ _ h => absurd h (Nat.not_lt_zero _)⟩
    | succ f ih =>
      refine ⟨?_, ?_⟩
      · skip
        intro i b hmu hi hres ls hl
        refine lv_iload_n hx hb d_S_leastSquareTo_10 rfl (lv_at hl 3 rfl) ?_
        refine lv_aload_n hx hb d_S_leastSquareTo_11 rfl (lv_at hl 0 rfl) ?_
        refine va_get (D := (dC, dI)) (ci := 2) (v := .int (nI n)) (C := R_S) (T := T_S) (N := 9) hx hb hts in_S hown hK hO.P 0 rfl rfl 6 (by decide) (hts _ w_233) (fun _ h9 => h9) rfl d_S_leastSquareTo_12 ?_
        refine lv_icmp_ge (tgt := 55) hx hb d_S_leastSquareTo_15 (by decide) (fun c_101 => ?_) (fun c_101 => ?_)
        · skip
          have c_101 : n ≤ i := (nI_leI (a := n) (b := i) (by omega) (by omega)).mp c_101
          refine lv_iload_n hx hb d_S_leastSquareTo_55 rfl (lv_at hl 2 rfl) ?_
          exact z_iret hx hb hr hlocks (by rw [show n - i = 0 by omega] at hres; simpa only [pc_li] using hres) d_S_leastSquareTo_56
        · skip
          have c_101 : ¬ (n ≤ i) := fun h => c_101 ((nI_leI (a := n) (b := i) (by omega) (by omega)).mpr h)
          refine lv_iconst (v := 0) hx hb d_S_leastSquareTo_18 (by decide) ?_
          refine lv_istore (lv' := [(4, .int 0), (0, .ref a), (1, .ref a2), (2, .int b), (3, .int (nI i))]) hx hb d_S_leastSquareTo_19 hl (by decide) rfl (fun ls hl => ?_)
          exact ih.2 i 0 b (by omega) (by omega) (by omega) (by rw [show n - i = (n - (i + 1)) + 1 by omega] at hres; simpa only [pc_li, Nat.sub_zero] using hres) ls (lv_sub hl [1, 2, 3, 4, 0] rfl)
      · skip
        intro i j b hmu hi hj hres ls hl
        refine lv_iload hx hb d_S_leastSquareTo_21 (lv_at hl 4 rfl) ?_
        refine lv_aload_n hx hb d_S_leastSquareTo_23 rfl (lv_at hl 1 rfl) ?_
        refine va_get (D := (dC, dI)) (ci := 2) (v := .int (nI n2)) (C := R_S) (T := T_S) (N := 9) hx hb hts in_S hown hK hO2.P 0 rfl rfl 6 (by decide) (hts _ w_233) (fun _ h9 => h9) rfl d_S_leastSquareTo_24 ?_
        refine lv_icmp_ge (tgt := 49) hx hb d_S_leastSquareTo_27 (by decide) (fun c_201 => ?_) (fun c_201 => ?_)
        · skip
          have c_201 : n2 ≤ j := (nI_leI (a := n2) (b := j) (by omega) (by omega)).mp c_201
          refine lv_iinc (v := nI (i + 1)) (lv' := [(3, .int (nI (i + 1))), (0, .ref a), (1, .ref a2), (2, .int b), (4, .int (nI j))]) hx hb d_S_leastSquareTo_49 hl (k := 3) rfl (nI_1 i) (by decide) rfl (fun ls hl => ?_)
          refine lv_goto (tgt := 10) hx hb d_S_leastSquareTo_52 (by decide) ?_
          exact ih.1 (i + 1) b (by omega) (by omega) (by rw [show n2 - j = 0 by omega] at hres; simpa only [pc_lj] using hres) ls (lv_sub hl [1, 2, 3, 0] rfl)
        · skip
          have c_201 : ¬ (n2 ≤ j) := fun h => c_201 ((nI_leI (a := n2) (b := j) (by omega) (by omega)).mpr h)
          refine lv_iload_n hx hb d_S_leastSquareTo_30 rfl (lv_at hl 2 rfl) ?_
          refine lv_aload_n hx hb d_S_leastSquareTo_31 rfl (lv_at hl 0 rfl) ?_
          refine lv_iload_n hx hb d_S_leastSquareTo_32 rfl (lv_at hl 3 rfl) ?_
          refine lv_aload_n hx hb d_S_leastSquareTo_33 rfl (lv_at hl 1 rfl) ?_
          refine lv_iload hx hb d_S_leastSquareTo_34 (lv_at hl 4 rfl) ?_
          refine z_rdV (n := 3) (C := R_S) (rest := [.int b]) ⟨hx, hb, hml, hown, hts⟩ hW0 (c_S_squareBetween G a ax ay n num own fr to_ ca pv xs ys a2 ax2 ay2 n2 num2 own2 fr2 to_2 ca2 pv2 xs2 ys2 i j (by omega) (by omega) hn hn2) w_438 w_435 w_437 wp_14 w_11 (by decide +kernel) ⟨rfl, rfl, Nat.le_of_ble_eq_true rfl, Nat.le_of_ble_eq_true rfl⟩ (hO.recv hK rfl) (hB) rfl rfl hl.1 (Nat.le_of_ble_eq_true rfl) d_S_leastSquareTo_36 ⟨Nat.zero_le _, Nat.zero_le _⟩ ?_
          refine va_mmin hx hb (hml.trans hl.1.symm) hown (hts _ w_439) (hts _ w_326) (hts _ w_12) (hts _ w_327) (Nat.le_of_ble_eq_true rfl) (Nat.le_of_ble_eq_true rfl) (Nat.zero_le _) (Nat.zero_le _) d_S_leastSquareTo_39 ?_
          refine lv_istore_n (lv' := [(2, .int (if (pc_sq xs ys i xs2 ys2 j) < b then pc_sq xs ys i xs2 ys2 j else b)), (0, .ref a), (1, .ref a2), (3, .int (nI i)), (4, .int (nI j))]) hx hb d_S_leastSquareTo_42 rfl hl (by decide) rfl (fun ls hl => ?_)
          refine lv_iinc (v := nI (j + 1)) (lv' := [(4, .int (nI (j + 1))), (2, .int (if (pc_sq xs ys i xs2 ys2 j) < b then pc_sq xs ys i xs2 ys2 j else b)), (0, .ref a), (1, .ref a2), (3, .int (nI i))]) hx hb d_S_leastSquareTo_43 hl (k := 4) rfl (nI_1 j) (by decide) rfl (fun ls hl => ?_)
          refine lv_goto (tgt := 21) hx hb d_S_leastSquareTo_46 (by decide) ?_
          exact ih.2 i (j + 1) (if (pc_sq xs ys i xs2 ys2 j) < b then pc_sq xs ys i xs2 ys2 j else b) (by omega) (by omega) (by omega) (by rw [show n2 - j = (n2 - (j + 1)) + 1 by omega] at hres; simpa only [pc_lj] using hres) ls (lv_sub hl [2, 3, 1, 4, 0] rfl)
  refine lv_aload_n hx hb d_S_leastSquareTo_0 rfl (lv_at hl 0 rfl) ?_
  refine lv_iconst (v := 0) hx hb d_S_leastSquareTo_1 (by decide) ?_
  refine lv_aload_n hx hb d_S_leastSquareTo_2 rfl (lv_at hl 1 rfl) ?_
  refine lv_iconst (v := 0) hx hb d_S_leastSquareTo_3 (by decide) ?_
  refine z_rdV (n := 3) (C := R_S) (rest := []) ⟨hx, hb, hml, hown, hts⟩ hW0 (c_S_squareBetween G a ax ay n num own fr to_ ca pv xs ys a2 ax2 ay2 n2 num2 own2 fr2 to_2 ca2 pv2 xs2 ys2 0 0 (by omega) (by omega) hn hn2) w_438 w_435 w_437 wp_14 w_11 (by decide +kernel) ⟨rfl, rfl, Nat.le_of_ble_eq_true rfl, Nat.le_of_ble_eq_true rfl⟩ (hO.recv hK rfl) (hB) rfl rfl hl.1 (Nat.le_of_ble_eq_true rfl) d_S_leastSquareTo_4 ⟨Nat.zero_le _, Nat.zero_le _⟩ ?_
  refine lv_istore_n (lv' := [(2, .int (pc_sq xs ys 0 xs2 ys2 0)), (0, .ref a), (1, .ref a2)]) hx hb d_S_leastSquareTo_7 rfl hl (by decide) rfl (fun ls hl => ?_)
  refine lv_iconst (v := 0) hx hb d_S_leastSquareTo_8 (by decide) ?_
  refine lv_istore_n (lv' := [(3, .int 0), (2, .int (pc_sq xs ys 0 xs2 ys2 0)), (0, .ref a), (1, .ref a2)]) hx hb d_S_leastSquareTo_9 rfl hl (by decide) rfl (fun ls hl => ?_)
  exact (loops (((n - 0) * 14 + 13) + 1)).1 0 (pc_sq xs ys 0 xs2 ys2 0) (by omega) (by omega) (by rfl) ls (lv_sub hl [2, 3, 1, 0] rfl)
end S2
end
section
theorem d_J_floorDiv_JJ_0 : decode b_J_floorDiv_JJ 0 = .ok (.lload_n 0, 1) := by decide +kernel
theorem d_J_floorDiv_JJ_1 : decode b_J_floorDiv_JJ 1 = .ok (.lload_n 2, 1) := by decide +kernel
theorem d_J_floorDiv_JJ_2 : decode b_J_floorDiv_JJ 2 = .ok (.ldiv, 1) := by decide +kernel
theorem d_J_floorDiv_JJ_3 : decode b_J_floorDiv_JJ 3 = .ok (.lstore 4, 2) := by decide +kernel
theorem d_J_floorDiv_JJ_5 : decode b_J_floorDiv_JJ 5 = .ok (.lload_n 0, 1) := by decide +kernel
theorem d_J_floorDiv_JJ_6 : decode b_J_floorDiv_JJ 6 = .ok (.lload_n 2, 1) := by decide +kernel
theorem d_J_floorDiv_JJ_7 : decode b_J_floorDiv_JJ 7 = .ok (.lxor, 1) := by decide +kernel
theorem d_J_floorDiv_JJ_8 : decode b_J_floorDiv_JJ 8 = .ok (.lconst 0, 1) := by decide +kernel
theorem d_J_floorDiv_JJ_9 : decode b_J_floorDiv_JJ 9 = .ok (.lcmp, 1) := by decide +kernel
theorem d_J_floorDiv_JJ_10 : decode b_J_floorDiv_JJ 10 = .ok (.ifCond .ge 17, 3) := by decide +kernel
theorem d_J_floorDiv_JJ_13 : decode b_J_floorDiv_JJ 13 = .ok (.lload 4, 2) := by decide +kernel
theorem d_J_floorDiv_JJ_15 : decode b_J_floorDiv_JJ 15 = .ok (.lload_n 2, 1) := by decide +kernel
theorem d_J_floorDiv_JJ_16 : decode b_J_floorDiv_JJ 16 = .ok (.lmul, 1) := by decide +kernel
theorem d_J_floorDiv_JJ_17 : decode b_J_floorDiv_JJ 17 = .ok (.lload_n 0, 1) := by decide +kernel
theorem d_J_floorDiv_JJ_18 : decode b_J_floorDiv_JJ 18 = .ok (.lcmp, 1) := by decide +kernel
theorem d_J_floorDiv_JJ_19 : decode b_J_floorDiv_JJ 19 = .ok (.ifCond .eq 8, 3) := by decide +kernel
theorem d_J_floorDiv_JJ_22 : decode b_J_floorDiv_JJ 22 = .ok (.lload 4, 2) := by decide +kernel
theorem d_J_floorDiv_JJ_24 : decode b_J_floorDiv_JJ 24 = .ok (.lconst 1, 1) := by decide +kernel
theorem d_J_floorDiv_JJ_25 : decode b_J_floorDiv_JJ 25 = .ok (.lsub, 1) := by decide +kernel
theorem d_J_floorDiv_JJ_26 : decode b_J_floorDiv_JJ 26 = .ok (.lreturn, 1) := by decide +kernel
theorem d_J_floorDiv_JJ_27 : decode b_J_floorDiv_JJ 27 = .ok (.lload 4, 2) := by decide +kernel
theorem d_J_floorDiv_JJ_29 : decode b_J_floorDiv_JJ 29 = .ok (.lreturn, 1) := by decide +kernel
theorem d_J_floorDiv_II_0 : decode b_J_floorDiv_II 0 = .ok (.iload_n 0, 1) := by decide +kernel
theorem d_J_floorDiv_II_1 : decode b_J_floorDiv_II 1 = .ok (.iload_n 1, 1) := by decide +kernel
theorem d_J_floorDiv_II_2 : decode b_J_floorDiv_II 2 = .ok (.idiv, 1) := by decide +kernel
theorem d_J_floorDiv_II_3 : decode b_J_floorDiv_II 3 = .ok (.istore_n 2, 1) := by decide +kernel
theorem d_J_floorDiv_II_4 : decode b_J_floorDiv_II 4 = .ok (.iload_n 0, 1) := by decide +kernel
theorem d_J_floorDiv_II_5 : decode b_J_floorDiv_II 5 = .ok (.iload_n 1, 1) := by decide +kernel
theorem d_J_floorDiv_II_6 : decode b_J_floorDiv_II 6 = .ok (.ixor, 1) := by decide +kernel
theorem d_J_floorDiv_II_7 : decode b_J_floorDiv_II 7 = .ok (.ifCond .ge 14, 3) := by decide +kernel
theorem d_J_floorDiv_II_10 : decode b_J_floorDiv_II 10 = .ok (.iload_n 2, 1) := by decide +kernel
theorem d_J_floorDiv_II_11 : decode b_J_floorDiv_II 11 = .ok (.iload_n 1, 1) := by decide +kernel
theorem d_J_floorDiv_II_12 : decode b_J_floorDiv_II 12 = .ok (.imul, 1) := by decide +kernel
theorem d_J_floorDiv_II_13 : decode b_J_floorDiv_II 13 = .ok (.iload_n 0, 1) := by decide +kernel
theorem d_J_floorDiv_II_14 : decode b_J_floorDiv_II 14 = .ok (.if_icmp .eq 7, 3) := by decide +kernel
theorem d_J_floorDiv_II_17 : decode b_J_floorDiv_II 17 = .ok (.iload_n 2, 1) := by decide +kernel
theorem d_J_floorDiv_II_18 : decode b_J_floorDiv_II 18 = .ok (.iconst 1, 1) := by decide +kernel
theorem d_J_floorDiv_II_19 : decode b_J_floorDiv_II 19 = .ok (.isub, 1) := by decide +kernel
theorem d_J_floorDiv_II_20 : decode b_J_floorDiv_II 20 = .ok (.ireturn, 1) := by decide +kernel
theorem d_J_floorDiv_II_21 : decode b_J_floorDiv_II 21 = .ok (.iload_n 2, 1) := by decide +kernel
theorem d_J_floorDiv_II_22 : decode b_J_floorDiv_II 22 = .ok (.ireturn, 1) := by decide +kernel
theorem d_N_init_0 : decode b_N_init 0 = .ok (.aload_n 0, 1) := by decide +kernel
theorem d_N_init_1 : decode b_N_init 1 = .ok (.invokespecial 3, 3) := by decide +kernel
theorem d_N_init_4 : decode b_N_init 4 = .ok (.aload_n 0, 1) := by decide +kernel
theorem d_N_init_5 : decode b_N_init 5 = .ok (.bipush 40, 2) := by decide +kernel
theorem d_N_init_7 : decode b_N_init 7 = .ok (.newarray .int, 2) := by decide +kernel
theorem d_N_init_9 : decode b_N_init 9 = .ok (.putfield 9, 3) := by decide +kernel
theorem d_N_init_12 : decode b_N_init 12 = .ok (.aload_n 0, 1) := by decide +kernel
theorem d_N_init_13 : decode b_N_init 13 = .ok (.bipush 40, 2) := by decide +kernel
theorem d_N_init_15 : decode b_N_init 15 = .ok (.newarray .int, 2) := by decide +kernel
theorem d_N_init_17 : decode b_N_init 17 = .ok (.putfield 15, 3) := by decide +kernel
theorem d_N_init_20 : decode b_N_init 20 = .ok (.aload_n 0, 1) := by decide +kernel
theorem d_N_init_21 : decode b_N_init 21 = .ok (.bipush 40, 2) := by decide +kernel
theorem d_N_init_23 : decode b_N_init 23 = .ok (.newarray .int, 2) := by decide +kernel
theorem d_N_init_25 : decode b_N_init 25 = .ok (.putfield 18, 3) := by decide +kernel
theorem d_N_init_28 : decode b_N_init 28 = .ok (.aload_n 0, 1) := by decide +kernel
theorem d_N_init_29 : decode b_N_init 29 = .ok (.bipush 40, 2) := by decide +kernel
theorem d_N_init_31 : decode b_N_init 31 = .ok (.newarray .int, 2) := by decide +kernel
theorem d_N_init_33 : decode b_N_init 33 = .ok (.putfield 21, 3) := by decide +kernel
theorem d_N_init_36 : decode b_N_init 36 = .ok (.return_, 1) := by decide +kernel
theorem d_N_isFull_0 : decode b_N_isFull 0 = .ok (.aload_n 0, 1) := by decide +kernel
theorem d_N_isFull_1 : decode b_N_isFull 1 = .ok (.getfield 24, 3) := by decide +kernel
theorem d_N_isFull_4 : decode b_N_isFull 4 = .ok (.bipush 40, 2) := by decide +kernel
theorem d_N_isFull_6 : decode b_N_isFull 6 = .ok (.if_icmp .lt 7, 3) := by decide +kernel
theorem d_N_isFull_9 : decode b_N_isFull 9 = .ok (.iconst 1, 1) := by decide +kernel
theorem d_N_isFull_10 : decode b_N_isFull 10 = .ok (.goto 4, 3) := by decide +kernel
theorem d_N_isFull_13 : decode b_N_isFull 13 = .ok (.iconst 0, 1) := by decide +kernel
theorem d_N_isFull_14 : decode b_N_isFull 14 = .ok (.ireturn, 1) := by decide +kernel
theorem d_N_add_0 : decode b_N_add 0 = .ok (.aload_n 0, 1) := by decide +kernel
theorem d_N_add_1 : decode b_N_add 1 = .ok (.getfield 9, 3) := by decide +kernel
theorem d_N_add_4 : decode b_N_add 4 = .ok (.aload_n 0, 1) := by decide +kernel
theorem d_N_add_5 : decode b_N_add 5 = .ok (.getfield 24, 3) := by decide +kernel
theorem d_N_add_8 : decode b_N_add 8 = .ok (.iload_n 1, 1) := by decide +kernel
theorem d_N_add_9 : decode b_N_add 9 = .ok (.iastore, 1) := by decide +kernel
theorem d_N_add_10 : decode b_N_add 10 = .ok (.aload_n 0, 1) := by decide +kernel
theorem d_N_add_11 : decode b_N_add 11 = .ok (.getfield 15, 3) := by decide +kernel
theorem d_N_add_14 : decode b_N_add 14 = .ok (.aload_n 0, 1) := by decide +kernel
theorem d_N_add_15 : decode b_N_add 15 = .ok (.getfield 24, 3) := by decide +kernel
theorem d_N_add_18 : decode b_N_add 18 = .ok (.iload_n 2, 1) := by decide +kernel
theorem d_N_add_19 : decode b_N_add 19 = .ok (.iastore, 1) := by decide +kernel
theorem d_N_add_20 : decode b_N_add 20 = .ok (.aload_n 0, 1) := by decide +kernel
theorem d_N_add_21 : decode b_N_add 21 = .ok (.getfield 18, 3) := by decide +kernel
theorem d_N_add_24 : decode b_N_add 24 = .ok (.aload_n 0, 1) := by decide +kernel
theorem d_N_add_25 : decode b_N_add 25 = .ok (.getfield 24, 3) := by decide +kernel
theorem d_N_add_28 : decode b_N_add 28 = .ok (.iload_n 3, 1) := by decide +kernel
theorem d_N_add_29 : decode b_N_add 29 = .ok (.iastore, 1) := by decide +kernel
theorem d_N_add_30 : decode b_N_add 30 = .ok (.aload_n 0, 1) := by decide +kernel
theorem d_N_add_31 : decode b_N_add 31 = .ok (.getfield 21, 3) := by decide +kernel
theorem d_N_add_34 : decode b_N_add 34 = .ok (.aload_n 0, 1) := by decide +kernel
theorem d_N_add_35 : decode b_N_add 35 = .ok (.getfield 24, 3) := by decide +kernel
theorem d_N_add_38 : decode b_N_add 38 = .ok (.iload 4, 2) := by decide +kernel
theorem d_N_add_40 : decode b_N_add 40 = .ok (.iastore, 1) := by decide +kernel
theorem d_N_add_41 : decode b_N_add 41 = .ok (.aload_n 0, 1) := by decide +kernel
theorem d_N_add_42 : decode b_N_add 42 = .ok (.dup, 1) := by decide +kernel
theorem d_N_add_43 : decode b_N_add 43 = .ok (.getfield 24, 3) := by decide +kernel
theorem d_N_add_46 : decode b_N_add 46 = .ok (.iconst 1, 1) := by decide +kernel
theorem d_N_add_47 : decode b_N_add 47 = .ok (.iadd, 1) := by decide +kernel
theorem d_N_add_48 : decode b_N_add 48 = .ok (.putfield 24, 3) := by decide +kernel
theorem d_N_add_51 : decode b_N_add 51 = .ok (.return_, 1) := by decide +kernel
theorem d_N_find_0 : decode b_N_find 0 = .ok (.aload_n 0, 1) := by decide +kernel
theorem d_N_find_1 : decode b_N_find 1 = .ok (.getfield 24, 3) := by decide +kernel
theorem d_N_find_4 : decode b_N_find 4 = .ok (.iconst 1, 1) := by decide +kernel
theorem d_N_find_5 : decode b_N_find 5 = .ok (.isub, 1) := by decide +kernel
theorem d_N_find_6 : decode b_N_find 6 = .ok (.istore_n 3, 1) := by decide +kernel
theorem d_N_find_7 : decode b_N_find 7 = .ok (.iload_n 3, 1) := by decide +kernel
theorem d_N_find_8 : decode b_N_find 8 = .ok (.ifCond .lt 46, 3) := by decide +kernel
theorem d_N_find_11 : decode b_N_find 11 = .ok (.aload_n 0, 1) := by decide +kernel
theorem d_N_find_12 : decode b_N_find 12 = .ok (.getfield 9, 3) := by decide +kernel
theorem d_N_find_15 : decode b_N_find 15 = .ok (.iload_n 3, 1) := by decide +kernel
theorem d_N_find_16 : decode b_N_find 16 = .ok (.iaload, 1) := by decide +kernel
theorem d_N_find_17 : decode b_N_find 17 = .ok (.iload_n 1, 1) := by decide +kernel
theorem d_N_find_18 : decode b_N_find 18 = .ok (.if_icmp .ne 30, 3) := by decide +kernel
theorem d_N_find_21 : decode b_N_find 21 = .ok (.aload_n 0, 1) := by decide +kernel
theorem d_N_find_22 : decode b_N_find 22 = .ok (.getfield 18, 3) := by decide +kernel
theorem d_N_find_25 : decode b_N_find 25 = .ok (.iload_n 3, 1) := by decide +kernel
theorem d_N_find_26 : decode b_N_find 26 = .ok (.iaload, 1) := by decide +kernel
theorem d_N_find_27 : decode b_N_find 27 = .ok (.iload_n 2, 1) := by decide +kernel
theorem d_N_find_28 : decode b_N_find 28 = .ok (.if_icmp .gt 20, 3) := by decide +kernel
theorem d_N_find_31 : decode b_N_find 31 = .ok (.iload_n 2, 1) := by decide +kernel
theorem d_N_find_32 : decode b_N_find 32 = .ok (.aload_n 0, 1) := by decide +kernel
theorem d_N_find_33 : decode b_N_find 33 = .ok (.getfield 21, 3) := by decide +kernel
theorem d_N_find_36 : decode b_N_find 36 = .ok (.iload_n 3, 1) := by decide +kernel
theorem d_N_find_37 : decode b_N_find 37 = .ok (.iaload, 1) := by decide +kernel
theorem d_N_find_38 : decode b_N_find 38 = .ok (.if_icmp .gt 10, 3) := by decide +kernel
theorem d_N_find_41 : decode b_N_find 41 = .ok (.aload_n 0, 1) := by decide +kernel
theorem d_N_find_42 : decode b_N_find 42 = .ok (.getfield 15, 3) := by decide +kernel
theorem d_N_find_45 : decode b_N_find 45 = .ok (.iload_n 3, 1) := by decide +kernel
theorem d_N_find_46 : decode b_N_find 46 = .ok (.iaload, 1) := by decide +kernel
theorem d_N_find_47 : decode b_N_find 47 = .ok (.ireturn, 1) := by decide +kernel
theorem d_N_find_48 : decode b_N_find 48 = .ok (.iinc 3 (-1), 3) := by decide +kernel
theorem d_N_find_51 : decode b_N_find 51 = .ok (.goto (-44), 3) := by decide +kernel
theorem d_N_find_54 : decode b_N_find 54 = .ok (.iconst (-1), 1) := by decide +kernel
theorem d_N_find_55 : decode b_N_find 55 = .ok (.ireturn, 1) := by decide +kernel
theorem d_O_init_0 : decode b_O_init 0 = .ok (.aload_n 0, 1) := by decide +kernel
theorem d_O_init_1 : decode b_O_init 1 = .ok (.invokespecial 3, 3) := by decide +kernel
theorem d_O_init_4 : decode b_O_init 4 = .ok (.aload_n 0, 1) := by decide +kernel
theorem d_O_init_5 : decode b_O_init 5 = .ok (.bipush 12, 2) := by decide +kernel
theorem d_O_init_7 : decode b_O_init 7 = .ok (.newarray .int, 2) := by decide +kernel
theorem d_O_init_9 : decode b_O_init 9 = .ok (.putfield 9, 3) := by decide +kernel
theorem d_O_init_12 : decode b_O_init 12 = .ok (.aload_n 0, 1) := by decide +kernel
theorem d_O_init_13 : decode b_O_init 13 = .ok (.bipush 12, 2) := by decide +kernel
theorem d_O_init_15 : decode b_O_init 15 = .ok (.newarray .int, 2) := by decide +kernel
theorem d_O_init_17 : decode b_O_init 17 = .ok (.putfield 15, 3) := by decide +kernel
theorem d_O_init_20 : decode b_O_init 20 = .ok (.aload_n 0, 1) := by decide +kernel
theorem d_O_init_21 : decode b_O_init 21 = .ok (.bipush 12, 2) := by decide +kernel
theorem d_O_init_23 : decode b_O_init 23 = .ok (.newarray .int, 2) := by decide +kernel
theorem d_O_init_25 : decode b_O_init 25 = .ok (.putfield 18, 3) := by decide +kernel
theorem d_O_init_28 : decode b_O_init 28 = .ok (.aload_n 0, 1) := by decide +kernel
theorem d_O_init_29 : decode b_O_init 29 = .ok (.bipush 12, 2) := by decide +kernel
theorem d_O_init_31 : decode b_O_init 31 = .ok (.newarray .int, 2) := by decide +kernel
theorem d_O_init_33 : decode b_O_init 33 = .ok (.putfield 21, 3) := by decide +kernel
theorem d_O_init_36 : decode b_O_init 36 = .ok (.return_, 1) := by decide +kernel
theorem d_O_isFull_0 : decode b_O_isFull 0 = .ok (.aload_n 0, 1) := by decide +kernel
theorem d_O_isFull_1 : decode b_O_isFull 1 = .ok (.getfield 24, 3) := by decide +kernel
theorem d_O_isFull_4 : decode b_O_isFull 4 = .ok (.bipush 12, 2) := by decide +kernel
theorem d_O_isFull_6 : decode b_O_isFull 6 = .ok (.if_icmp .lt 7, 3) := by decide +kernel
theorem d_O_isFull_9 : decode b_O_isFull 9 = .ok (.iconst 1, 1) := by decide +kernel
theorem d_O_isFull_10 : decode b_O_isFull 10 = .ok (.goto 4, 3) := by decide +kernel
theorem d_O_isFull_13 : decode b_O_isFull 13 = .ok (.iconst 0, 1) := by decide +kernel
theorem d_O_isFull_14 : decode b_O_isFull 14 = .ok (.ireturn, 1) := by decide +kernel
theorem d_O_add_0 : decode b_O_add 0 = .ok (.aload_n 0, 1) := by decide +kernel
theorem d_O_add_1 : decode b_O_add 1 = .ok (.getfield 9, 3) := by decide +kernel
theorem d_O_add_4 : decode b_O_add 4 = .ok (.aload_n 0, 1) := by decide +kernel
theorem d_O_add_5 : decode b_O_add 5 = .ok (.getfield 24, 3) := by decide +kernel
theorem d_O_add_8 : decode b_O_add 8 = .ok (.iload_n 1, 1) := by decide +kernel
theorem d_O_add_9 : decode b_O_add 9 = .ok (.iastore, 1) := by decide +kernel
theorem d_O_add_10 : decode b_O_add 10 = .ok (.aload_n 0, 1) := by decide +kernel
theorem d_O_add_11 : decode b_O_add 11 = .ok (.getfield 15, 3) := by decide +kernel
theorem d_O_add_14 : decode b_O_add 14 = .ok (.aload_n 0, 1) := by decide +kernel
theorem d_O_add_15 : decode b_O_add 15 = .ok (.getfield 24, 3) := by decide +kernel
theorem d_O_add_18 : decode b_O_add 18 = .ok (.iload_n 2, 1) := by decide +kernel
theorem d_O_add_19 : decode b_O_add 19 = .ok (.iastore, 1) := by decide +kernel
theorem d_O_add_20 : decode b_O_add 20 = .ok (.aload_n 0, 1) := by decide +kernel
theorem d_O_add_21 : decode b_O_add 21 = .ok (.getfield 18, 3) := by decide +kernel
theorem d_O_add_24 : decode b_O_add 24 = .ok (.aload_n 0, 1) := by decide +kernel
theorem d_O_add_25 : decode b_O_add 25 = .ok (.getfield 24, 3) := by decide +kernel
theorem d_O_add_28 : decode b_O_add 28 = .ok (.iload_n 3, 1) := by decide +kernel
theorem d_O_add_29 : decode b_O_add 29 = .ok (.iastore, 1) := by decide +kernel
theorem d_O_add_30 : decode b_O_add 30 = .ok (.aload_n 0, 1) := by decide +kernel
theorem d_O_add_31 : decode b_O_add 31 = .ok (.getfield 21, 3) := by decide +kernel
theorem d_O_add_34 : decode b_O_add 34 = .ok (.aload_n 0, 1) := by decide +kernel
theorem d_O_add_35 : decode b_O_add 35 = .ok (.getfield 24, 3) := by decide +kernel
theorem d_O_add_38 : decode b_O_add 38 = .ok (.iload 4, 2) := by decide +kernel
theorem d_O_add_40 : decode b_O_add 40 = .ok (.iastore, 1) := by decide +kernel
theorem d_O_add_41 : decode b_O_add 41 = .ok (.aload_n 0, 1) := by decide +kernel
theorem d_O_add_42 : decode b_O_add 42 = .ok (.dup, 1) := by decide +kernel
theorem d_O_add_43 : decode b_O_add 43 = .ok (.getfield 24, 3) := by decide +kernel
theorem d_O_add_46 : decode b_O_add 46 = .ok (.iconst 1, 1) := by decide +kernel
theorem d_O_add_47 : decode b_O_add 47 = .ok (.iadd, 1) := by decide +kernel
theorem d_O_add_48 : decode b_O_add 48 = .ok (.putfield 24, 3) := by decide +kernel
theorem d_O_add_51 : decode b_O_add 51 = .ok (.aload_n 0, 1) := by decide +kernel
theorem d_O_add_52 : decode b_O_add 52 = .ok (.getfield 24, 3) := by decide +kernel
theorem d_O_add_55 : decode b_O_add 55 = .ok (.iconst 1, 1) := by decide +kernel
theorem d_O_add_56 : decode b_O_add 56 = .ok (.isub, 1) := by decide +kernel
theorem d_O_add_57 : decode b_O_add 57 = .ok (.ireturn, 1) := by decide +kernel
theorem d_O_find_0 : decode b_O_find 0 = .ok (.iconst 0, 1) := by decide +kernel
theorem d_O_find_1 : decode b_O_find 1 = .ok (.istore 4, 2) := by decide +kernel
theorem d_O_find_3 : decode b_O_find 3 = .ok (.iload 4, 2) := by decide +kernel
theorem d_O_find_5 : decode b_O_find 5 = .ok (.aload_n 0, 1) := by decide +kernel
theorem d_O_find_6 : decode b_O_find 6 = .ok (.getfield 24, 3) := by decide +kernel
theorem d_O_find_9 : decode b_O_find 9 = .ok (.if_icmp .ge 98, 3) := by decide +kernel
theorem d_O_find_12 : decode b_O_find 12 = .ok (.iload 4, 2) := by decide +kernel
theorem d_O_find_14 : decode b_O_find 14 = .ok (.iconst 1, 1) := by decide +kernel
theorem d_O_find_15 : decode b_O_find 15 = .ok (.iadd, 1) := by decide +kernel
theorem d_O_find_16 : decode b_O_find 16 = .ok (.istore 5, 2) := by decide +kernel
theorem d_O_find_18 : decode b_O_find 18 = .ok (.iload 5, 2) := by decide +kernel
theorem d_O_find_20 : decode b_O_find 20 = .ok (.aload_n 0, 1) := by decide +kernel
theorem d_O_find_21 : decode b_O_find 21 = .ok (.getfield 24, 3) := by decide +kernel
theorem d_O_find_24 : decode b_O_find 24 = .ok (.if_icmp .ge 77, 3) := by decide +kernel
theorem d_O_find_27 : decode b_O_find 27 = .ok (.iload 5, 2) := by decide +kernel
theorem d_O_find_29 : decode b_O_find 29 = .ok (.iconst 1, 1) := by decide +kernel
theorem d_O_find_30 : decode b_O_find 30 = .ok (.iadd, 1) := by decide +kernel
theorem d_O_find_31 : decode b_O_find 31 = .ok (.istore 6, 2) := by decide +kernel
theorem d_O_find_33 : decode b_O_find 33 = .ok (.iload 6, 2) := by decide +kernel
theorem d_O_find_35 : decode b_O_find 35 = .ok (.aload_n 0, 1) := by decide +kernel
theorem d_O_find_36 : decode b_O_find 36 = .ok (.getfield 24, 3) := by decide +kernel
theorem d_O_find_39 : decode b_O_find 39 = .ok (.if_icmp .ge 56, 3) := by decide +kernel
theorem d_O_find_42 : decode b_O_find 42 = .ok (.aload_n 0, 1) := by decide +kernel
theorem d_O_find_43 : decode b_O_find 43 = .ok (.iload 4, 2) := by decide +kernel
theorem d_O_find_45 : decode b_O_find 45 = .ok (.iload 5, 2) := by decide +kernel
theorem d_O_find_47 : decode b_O_find 47 = .ok (.iload 6, 2) := by decide +kernel
theorem d_O_find_49 : decode b_O_find 49 = .ok (.iload_n 1, 1) := by decide +kernel
theorem d_O_find_50 : decode b_O_find 50 = .ok (.iload_n 2, 1) := by decide +kernel
theorem d_O_find_51 : decode b_O_find 51 = .ok (.invokevirtual 28, 3) := by decide +kernel
theorem d_O_find_54 : decode b_O_find 54 = .ok (.ifCond .eq 35, 3) := by decide +kernel
theorem d_O_find_57 : decode b_O_find 57 = .ok (.iload_n 3, 1) := by decide +kernel
theorem d_O_find_58 : decode b_O_find 58 = .ok (.ifCond .ne 10, 3) := by decide +kernel
theorem d_O_find_61 : decode b_O_find 61 = .ok (.aload_n 0, 1) := by decide +kernel
theorem d_O_find_62 : decode b_O_find 62 = .ok (.getfield 18, 3) := by decide +kernel
theorem d_O_find_65 : decode b_O_find 65 = .ok (.goto 7, 3) := by decide +kernel
theorem d_O_find_68 : decode b_O_find 68 = .ok (.aload_n 0, 1) := by decide +kernel
theorem d_O_find_69 : decode b_O_find 69 = .ok (.getfield 21, 3) := by decide +kernel
theorem d_O_find_72 : decode b_O_find 72 = .ok (.astore 7, 2) := by decide +kernel
theorem d_O_find_74 : decode b_O_find 74 = .ok (.aload_n 0, 1) := by decide +kernel
theorem d_O_find_75 : decode b_O_find 75 = .ok (.iload 4, 2) := by decide +kernel
theorem d_O_find_77 : decode b_O_find 77 = .ok (.iload 5, 2) := by decide +kernel
theorem d_O_find_79 : decode b_O_find 79 = .ok (.iload 6, 2) := by decide +kernel
theorem d_O_find_81 : decode b_O_find 81 = .ok (.iload_n 1, 1) := by decide +kernel
theorem d_O_find_82 : decode b_O_find 82 = .ok (.iload_n 2, 1) := by decide +kernel
theorem d_O_find_83 : decode b_O_find 83 = .ok (.aload 7, 2) := by decide +kernel
theorem d_O_find_85 : decode b_O_find 85 = .ok (.invokevirtual 32, 3) := by decide +kernel
theorem d_O_find_88 : decode b_O_find 88 = .ok (.ireturn, 1) := by decide +kernel
theorem d_O_find_89 : decode b_O_find 89 = .ok (.iinc 6 1, 3) := by decide +kernel
theorem d_O_find_92 : decode b_O_find 92 = .ok (.goto (-59), 3) := by decide +kernel
theorem d_O_find_95 : decode b_O_find 95 = .ok (.iinc 5 1, 3) := by decide +kernel
theorem d_O_find_98 : decode b_O_find 98 = .ok (.goto (-80), 3) := by decide +kernel
theorem d_O_find_101 : decode b_O_find 101 = .ok (.iinc 4 1, 3) := by decide +kernel
theorem d_O_find_104 : decode b_O_find 104 = .ok (.goto (-101), 3) := by decide +kernel
theorem d_O_find_107 : decode b_O_find 107 = .ok (.new 36, 3) := by decide +kernel
theorem d_O_find_110 : decode b_O_find 110 = .ok (.dup, 1) := by decide +kernel
theorem d_O_find_111 : decode b_O_find 111 = .ok (.ldc 38, 2) := by decide +kernel
theorem d_O_find_113 : decode b_O_find 113 = .ok (.invokespecial 40, 3) := by decide +kernel
theorem d_O_find_116 : decode b_O_find 116 = .ok (.athrow, 1) := by decide +kernel
theorem d_O_haveBetween_0 : decode b_O_haveBetween 0 = .ok (.aload_n 0, 1) := by decide +kernel
theorem d_O_haveBetween_1 : decode b_O_haveBetween 1 = .ok (.getfield 9, 3) := by decide +kernel
theorem d_O_haveBetween_4 : decode b_O_haveBetween 4 = .ok (.iload_n 1, 1) := by decide +kernel
theorem d_O_haveBetween_5 : decode b_O_haveBetween 5 = .ok (.iaload, 1) := by decide +kernel
theorem d_O_haveBetween_6 : decode b_O_haveBetween 6 = .ok (.aload_n 0, 1) := by decide +kernel
theorem d_O_haveBetween_7 : decode b_O_haveBetween 7 = .ok (.getfield 15, 3) := by decide +kernel
theorem d_O_haveBetween_10 : decode b_O_haveBetween 10 = .ok (.iload_n 1, 1) := by decide +kernel
theorem d_O_haveBetween_11 : decode b_O_haveBetween 11 = .ok (.iaload, 1) := by decide +kernel
theorem d_O_haveBetween_12 : decode b_O_haveBetween 12 = .ok (.aload_n 0, 1) := by decide +kernel
theorem d_O_haveBetween_13 : decode b_O_haveBetween 13 = .ok (.getfield 9, 3) := by decide +kernel
theorem d_O_haveBetween_16 : decode b_O_haveBetween 16 = .ok (.iload_n 2, 1) := by decide +kernel
theorem d_O_haveBetween_17 : decode b_O_haveBetween 17 = .ok (.iaload, 1) := by decide +kernel
theorem d_O_haveBetween_18 : decode b_O_haveBetween 18 = .ok (.aload_n 0, 1) := by decide +kernel
theorem d_O_haveBetween_19 : decode b_O_haveBetween 19 = .ok (.getfield 15, 3) := by decide +kernel
theorem d_O_haveBetween_22 : decode b_O_haveBetween 22 = .ok (.iload_n 2, 1) := by decide +kernel
theorem d_O_haveBetween_23 : decode b_O_haveBetween 23 = .ok (.iaload, 1) := by decide +kernel
theorem d_O_haveBetween_24 : decode b_O_haveBetween 24 = .ok (.aload_n 0, 1) := by decide +kernel
theorem d_O_haveBetween_25 : decode b_O_haveBetween 25 = .ok (.getfield 9, 3) := by decide +kernel
theorem d_O_haveBetween_28 : decode b_O_haveBetween 28 = .ok (.iload_n 3, 1) := by decide +kernel
theorem d_O_haveBetween_29 : decode b_O_haveBetween 29 = .ok (.iaload, 1) := by decide +kernel
theorem d_O_haveBetween_30 : decode b_O_haveBetween 30 = .ok (.aload_n 0, 1) := by decide +kernel
theorem d_O_haveBetween_31 : decode b_O_haveBetween 31 = .ok (.getfield 15, 3) := by decide +kernel
theorem d_O_haveBetween_34 : decode b_O_haveBetween 34 = .ok (.iload_n 3, 1) := by decide +kernel
theorem d_O_haveBetween_35 : decode b_O_haveBetween 35 = .ok (.iaload, 1) := by decide +kernel
theorem d_O_haveBetween_36 : decode b_O_haveBetween 36 = .ok (.invokestatic 43, 3) := by decide +kernel
theorem d_O_haveBetween_39 : decode b_O_haveBetween 39 = .ok (.lstore 6, 2) := by decide +kernel
theorem d_O_haveBetween_41 : decode b_O_haveBetween 41 = .ok (.aload_n 0, 1) := by decide +kernel
theorem d_O_haveBetween_42 : decode b_O_haveBetween 42 = .ok (.iload_n 2, 1) := by decide +kernel
theorem d_O_haveBetween_43 : decode b_O_haveBetween 43 = .ok (.iload_n 3, 1) := by decide +kernel
theorem d_O_haveBetween_44 : decode b_O_haveBetween 44 = .ok (.iload 4, 2) := by decide +kernel
theorem d_O_haveBetween_46 : decode b_O_haveBetween 46 = .ok (.iload 5, 2) := by decide +kernel
theorem d_O_haveBetween_48 : decode b_O_haveBetween 48 = .ok (.invokevirtual 47, 3) := by decide +kernel
theorem d_O_haveBetween_51 : decode b_O_haveBetween 51 = .ok (.lstore 8, 2) := by decide +kernel
theorem d_O_haveBetween_53 : decode b_O_haveBetween 53 = .ok (.aload_n 0, 1) := by decide +kernel
theorem d_O_haveBetween_54 : decode b_O_haveBetween 54 = .ok (.iload_n 3, 1) := by decide +kernel
theorem d_O_haveBetween_55 : decode b_O_haveBetween 55 = .ok (.iload_n 1, 1) := by decide +kernel
theorem d_O_haveBetween_56 : decode b_O_haveBetween 56 = .ok (.iload 4, 2) := by decide +kernel
theorem d_O_haveBetween_58 : decode b_O_haveBetween 58 = .ok (.iload 5, 2) := by decide +kernel
theorem d_O_haveBetween_60 : decode b_O_haveBetween 60 = .ok (.invokevirtual 47, 3) := by decide +kernel
theorem d_O_haveBetween_63 : decode b_O_haveBetween 63 = .ok (.lstore 10, 2) := by decide +kernel
theorem d_O_haveBetween_65 : decode b_O_haveBetween 65 = .ok (.aload_n 0, 1) := by decide +kernel
theorem d_O_haveBetween_66 : decode b_O_haveBetween 66 = .ok (.iload_n 1, 1) := by decide +kernel
theorem d_O_haveBetween_67 : decode b_O_haveBetween 67 = .ok (.iload_n 2, 1) := by decide +kernel
theorem d_O_haveBetween_68 : decode b_O_haveBetween 68 = .ok (.iload 4, 2) := by decide +kernel
theorem d_O_haveBetween_70 : decode b_O_haveBetween 70 = .ok (.iload 5, 2) := by decide +kernel
theorem d_O_haveBetween_72 : decode b_O_haveBetween 72 = .ok (.invokevirtual 47, 3) := by decide +kernel
theorem d_O_haveBetween_75 : decode b_O_haveBetween 75 = .ok (.lstore 12, 2) := by decide +kernel
theorem d_O_haveBetween_77 : decode b_O_haveBetween 77 = .ok (.lload 6, 2) := by decide +kernel
theorem d_O_haveBetween_79 : decode b_O_haveBetween 79 = .ok (.lconst 0, 1) := by decide +kernel
theorem d_O_haveBetween_80 : decode b_O_haveBetween 80 = .ok (.lcmp, 1) := by decide +kernel
theorem d_O_haveBetween_81 : decode b_O_haveBetween 81 = .ok (.ifCond .le 24, 3) := by decide +kernel
theorem d_O_haveBetween_84 : decode b_O_haveBetween 84 = .ok (.lload 8, 2) := by decide +kernel
theorem d_O_haveBetween_86 : decode b_O_haveBetween 86 = .ok (.lconst 0, 1) := by decide +kernel
theorem d_O_haveBetween_87 : decode b_O_haveBetween 87 = .ok (.lcmp, 1) := by decide +kernel
theorem d_O_haveBetween_88 : decode b_O_haveBetween 88 = .ok (.ifCond .lt 17, 3) := by decide +kernel
theorem d_O_haveBetween_91 : decode b_O_haveBetween 91 = .ok (.lload 10, 2) := by decide +kernel
theorem d_O_haveBetween_93 : decode b_O_haveBetween 93 = .ok (.lconst 0, 1) := by decide +kernel
theorem d_O_haveBetween_94 : decode b_O_haveBetween 94 = .ok (.lcmp, 1) := by decide +kernel
theorem d_O_haveBetween_95 : decode b_O_haveBetween 95 = .ok (.ifCond .lt 10, 3) := by decide +kernel
theorem d_O_haveBetween_98 : decode b_O_haveBetween 98 = .ok (.lload 12, 2) := by decide +kernel
theorem d_O_haveBetween_100 : decode b_O_haveBetween 100 = .ok (.lconst 0, 1) := by decide +kernel
theorem d_O_haveBetween_101 : decode b_O_haveBetween 101 = .ok (.lcmp, 1) := by decide +kernel
theorem d_O_haveBetween_102 : decode b_O_haveBetween 102 = .ok (.ifCond .ge 31, 3) := by decide +kernel
theorem d_O_haveBetween_105 : decode b_O_haveBetween 105 = .ok (.lload 6, 2) := by decide +kernel
theorem d_O_haveBetween_107 : decode b_O_haveBetween 107 = .ok (.lconst 0, 1) := by decide +kernel
theorem d_O_haveBetween_108 : decode b_O_haveBetween 108 = .ok (.lcmp, 1) := by decide +kernel
theorem d_O_haveBetween_109 : decode b_O_haveBetween 109 = .ok (.ifCond .ge 28, 3) := by decide +kernel
theorem d_O_haveBetween_112 : decode b_O_haveBetween 112 = .ok (.lload 8, 2) := by decide +kernel
theorem d_O_haveBetween_114 : decode b_O_haveBetween 114 = .ok (.lconst 0, 1) := by decide +kernel
theorem d_O_haveBetween_115 : decode b_O_haveBetween 115 = .ok (.lcmp, 1) := by decide +kernel
theorem d_O_haveBetween_116 : decode b_O_haveBetween 116 = .ok (.ifCond .gt 21, 3) := by decide +kernel
theorem d_O_haveBetween_119 : decode b_O_haveBetween 119 = .ok (.lload 10, 2) := by decide +kernel
theorem d_O_haveBetween_121 : decode b_O_haveBetween 121 = .ok (.lconst 0, 1) := by decide +kernel
theorem d_O_haveBetween_122 : decode b_O_haveBetween 122 = .ok (.lcmp, 1) := by decide +kernel
theorem d_O_haveBetween_123 : decode b_O_haveBetween 123 = .ok (.ifCond .gt 14, 3) := by decide +kernel
theorem d_O_haveBetween_126 : decode b_O_haveBetween 126 = .ok (.lload 12, 2) := by decide +kernel
theorem d_O_haveBetween_128 : decode b_O_haveBetween 128 = .ok (.lconst 0, 1) := by decide +kernel
theorem d_O_haveBetween_129 : decode b_O_haveBetween 129 = .ok (.lcmp, 1) := by decide +kernel
theorem d_O_haveBetween_130 : decode b_O_haveBetween 130 = .ok (.ifCond .gt 7, 3) := by decide +kernel
theorem d_O_haveBetween_133 : decode b_O_haveBetween 133 = .ok (.iconst 1, 1) := by decide +kernel
theorem d_O_haveBetween_134 : decode b_O_haveBetween 134 = .ok (.goto 4, 3) := by decide +kernel
theorem d_O_haveBetween_137 : decode b_O_haveBetween 137 = .ok (.iconst 0, 1) := by decide +kernel
theorem d_O_haveBetween_138 : decode b_O_haveBetween 138 = .ok (.ireturn, 1) := by decide +kernel
theorem d_O_valueBetween_0 : decode b_O_valueBetween 0 = .ok (.aload_n 0, 1) := by decide +kernel
theorem d_O_valueBetween_1 : decode b_O_valueBetween 1 = .ok (.iload_n 2, 1) := by decide +kernel
theorem d_O_valueBetween_2 : decode b_O_valueBetween 2 = .ok (.iload_n 3, 1) := by decide +kernel
theorem d_O_valueBetween_3 : decode b_O_valueBetween 3 = .ok (.iload 4, 2) := by decide +kernel
theorem d_O_valueBetween_5 : decode b_O_valueBetween 5 = .ok (.iload 5, 2) := by decide +kernel
theorem d_O_valueBetween_7 : decode b_O_valueBetween 7 = .ok (.invokevirtual 47, 3) := by decide +kernel
theorem d_O_valueBetween_10 : decode b_O_valueBetween 10 = .ok (.lstore 7, 2) := by decide +kernel
theorem d_O_valueBetween_12 : decode b_O_valueBetween 12 = .ok (.aload_n 0, 1) := by decide +kernel
theorem d_O_valueBetween_13 : decode b_O_valueBetween 13 = .ok (.iload_n 3, 1) := by decide +kernel
theorem d_O_valueBetween_14 : decode b_O_valueBetween 14 = .ok (.iload_n 1, 1) := by decide +kernel
theorem d_O_valueBetween_15 : decode b_O_valueBetween 15 = .ok (.iload 4, 2) := by decide +kernel
theorem d_O_valueBetween_17 : decode b_O_valueBetween 17 = .ok (.iload 5, 2) := by decide +kernel
theorem d_O_valueBetween_19 : decode b_O_valueBetween 19 = .ok (.invokevirtual 47, 3) := by decide +kernel
theorem d_O_valueBetween_22 : decode b_O_valueBetween 22 = .ok (.lstore 9, 2) := by decide +kernel
theorem d_O_valueBetween_24 : decode b_O_valueBetween 24 = .ok (.aload_n 0, 1) := by decide +kernel
theorem d_O_valueBetween_25 : decode b_O_valueBetween 25 = .ok (.iload_n 1, 1) := by decide +kernel
theorem d_O_valueBetween_26 : decode b_O_valueBetween 26 = .ok (.iload_n 2, 1) := by decide +kernel
theorem d_O_valueBetween_27 : decode b_O_valueBetween 27 = .ok (.iload 4, 2) := by decide +kernel
theorem d_O_valueBetween_29 : decode b_O_valueBetween 29 = .ok (.iload 5, 2) := by decide +kernel
theorem d_O_valueBetween_31 : decode b_O_valueBetween 31 = .ok (.invokevirtual 47, 3) := by decide +kernel
theorem d_O_valueBetween_34 : decode b_O_valueBetween 34 = .ok (.lstore 11, 2) := by decide +kernel
theorem d_O_valueBetween_36 : decode b_O_valueBetween 36 = .ok (.lload 7, 2) := by decide +kernel
theorem d_O_valueBetween_38 : decode b_O_valueBetween 38 = .ok (.aload 6, 2) := by decide +kernel
theorem d_O_valueBetween_40 : decode b_O_valueBetween 40 = .ok (.iload_n 1, 1) := by decide +kernel
theorem d_O_valueBetween_41 : decode b_O_valueBetween 41 = .ok (.iaload, 1) := by decide +kernel
theorem d_O_valueBetween_42 : decode b_O_valueBetween 42 = .ok (.i2l, 1) := by decide +kernel
theorem d_O_valueBetween_43 : decode b_O_valueBetween 43 = .ok (.lmul, 1) := by decide +kernel
theorem d_O_valueBetween_44 : decode b_O_valueBetween 44 = .ok (.lload 9, 2) := by decide +kernel
theorem d_O_valueBetween_46 : decode b_O_valueBetween 46 = .ok (.aload 6, 2) := by decide +kernel
theorem d_O_valueBetween_48 : decode b_O_valueBetween 48 = .ok (.iload_n 2, 1) := by decide +kernel
theorem d_O_valueBetween_49 : decode b_O_valueBetween 49 = .ok (.iaload, 1) := by decide +kernel
theorem d_O_valueBetween_50 : decode b_O_valueBetween 50 = .ok (.i2l, 1) := by decide +kernel
theorem d_O_valueBetween_51 : decode b_O_valueBetween 51 = .ok (.lmul, 1) := by decide +kernel
theorem d_O_valueBetween_52 : decode b_O_valueBetween 52 = .ok (.ladd, 1) := by decide +kernel
theorem d_O_valueBetween_53 : decode b_O_valueBetween 53 = .ok (.lload 11, 2) := by decide +kernel
theorem d_O_valueBetween_55 : decode b_O_valueBetween 55 = .ok (.aload 6, 2) := by decide +kernel
theorem d_O_valueBetween_57 : decode b_O_valueBetween 57 = .ok (.iload_n 3, 1) := by decide +kernel
theorem d_O_valueBetween_58 : decode b_O_valueBetween 58 = .ok (.iaload, 1) := by decide +kernel
theorem d_O_valueBetween_59 : decode b_O_valueBetween 59 = .ok (.i2l, 1) := by decide +kernel
theorem d_O_valueBetween_60 : decode b_O_valueBetween 60 = .ok (.lmul, 1) := by decide +kernel
theorem d_O_valueBetween_61 : decode b_O_valueBetween 61 = .ok (.ladd, 1) := by decide +kernel
theorem d_O_valueBetween_62 : decode b_O_valueBetween 62 = .ok (.lload 7, 2) := by decide +kernel
theorem d_O_valueBetween_64 : decode b_O_valueBetween 64 = .ok (.lload 9, 2) := by decide +kernel
theorem d_O_valueBetween_66 : decode b_O_valueBetween 66 = .ok (.ladd, 1) := by decide +kernel
theorem d_O_valueBetween_67 : decode b_O_valueBetween 67 = .ok (.lload 11, 2) := by decide +kernel
theorem d_O_valueBetween_69 : decode b_O_valueBetween 69 = .ok (.ladd, 1) := by decide +kernel
theorem d_O_valueBetween_70 : decode b_O_valueBetween 70 = .ok (.invokestatic 51, 3) := by decide +kernel
theorem d_O_valueBetween_73 : decode b_O_valueBetween 73 = .ok (.ireturn, 1) := by decide +kernel
theorem d_O_share_0 : decode b_O_share 0 = .ok (.aload_n 0, 1) := by decide +kernel
theorem d_O_share_1 : decode b_O_share 1 = .ok (.getfield 9, 3) := by decide +kernel
theorem d_O_share_4 : decode b_O_share 4 = .ok (.iload_n 1, 1) := by decide +kernel
theorem d_O_share_5 : decode b_O_share 5 = .ok (.iaload, 1) := by decide +kernel
theorem d_O_share_6 : decode b_O_share 6 = .ok (.aload_n 0, 1) := by decide +kernel
theorem d_O_share_7 : decode b_O_share 7 = .ok (.getfield 15, 3) := by decide +kernel
theorem d_O_share_10 : decode b_O_share 10 = .ok (.iload_n 1, 1) := by decide +kernel
theorem d_O_share_11 : decode b_O_share 11 = .ok (.iaload, 1) := by decide +kernel
theorem d_O_share_12 : decode b_O_share 12 = .ok (.aload_n 0, 1) := by decide +kernel
theorem d_O_share_13 : decode b_O_share 13 = .ok (.getfield 9, 3) := by decide +kernel
theorem d_O_share_16 : decode b_O_share 16 = .ok (.iload_n 2, 1) := by decide +kernel
theorem d_O_share_17 : decode b_O_share 17 = .ok (.iaload, 1) := by decide +kernel
theorem d_O_share_18 : decode b_O_share 18 = .ok (.aload_n 0, 1) := by decide +kernel
theorem d_O_share_19 : decode b_O_share 19 = .ok (.getfield 15, 3) := by decide +kernel
theorem d_O_share_22 : decode b_O_share 22 = .ok (.iload_n 2, 1) := by decide +kernel
theorem d_O_share_23 : decode b_O_share 23 = .ok (.iaload, 1) := by decide +kernel
theorem d_O_share_24 : decode b_O_share 24 = .ok (.iload_n 3, 1) := by decide +kernel
theorem d_O_share_25 : decode b_O_share 25 = .ok (.iload 4, 2) := by decide +kernel
theorem d_O_share_27 : decode b_O_share 27 = .ok (.invokestatic 43, 3) := by decide +kernel
theorem d_O_share_30 : decode b_O_share 30 = .ok (.lreturn, 1) := by decide +kernel
theorem d_O_roundedQuotient_0 : decode b_O_roundedQuotient 0 = .ok (.lload_n 2, 1) := by decide +kernel
theorem d_O_roundedQuotient_1 : decode b_O_roundedQuotient 1 = .ok (.lconst 0, 1) := by decide +kernel
theorem d_O_roundedQuotient_2 : decode b_O_roundedQuotient 2 = .ok (.lcmp, 1) := by decide +kernel
theorem d_O_roundedQuotient_3 : decode b_O_roundedQuotient 3 = .ok (.ifCond .ne 5, 3) := by decide +kernel
theorem d_O_roundedQuotient_6 : decode b_O_roundedQuotient 6 = .ok (.iconst 0, 1) := by decide +kernel
theorem d_O_roundedQuotient_7 : decode b_O_roundedQuotient 7 = .ok (.ireturn, 1) := by decide +kernel
theorem d_O_roundedQuotient_8 : decode b_O_roundedQuotient 8 = .ok (.lload_n 2, 1) := by decide +kernel
theorem d_O_roundedQuotient_9 : decode b_O_roundedQuotient 9 = .ok (.lconst 0, 1) := by decide +kernel
theorem d_O_roundedQuotient_10 : decode b_O_roundedQuotient 10 = .ok (.lcmp, 1) := by decide +kernel
theorem d_O_roundedQuotient_11 : decode b_O_roundedQuotient 11 = .ok (.ifCond .le 7, 3) := by decide +kernel
theorem d_O_roundedQuotient_14 : decode b_O_roundedQuotient 14 = .ok (.lload_n 0, 1) := by decide +kernel
theorem d_O_roundedQuotient_15 : decode b_O_roundedQuotient 15 = .ok (.goto 5, 3) := by decide +kernel
theorem d_O_roundedQuotient_18 : decode b_O_roundedQuotient 18 = .ok (.lload_n 0, 1) := by decide +kernel
theorem d_O_roundedQuotient_19 : decode b_O_roundedQuotient 19 = .ok (.lneg, 1) := by decide +kernel
theorem d_O_roundedQuotient_20 : decode b_O_roundedQuotient 20 = .ok (.lstore 4, 2) := by decide +kernel
theorem d_O_roundedQuotient_22 : decode b_O_roundedQuotient 22 = .ok (.lload_n 2, 1) := by decide +kernel
theorem d_O_roundedQuotient_23 : decode b_O_roundedQuotient 23 = .ok (.invokestatic 55, 3) := by decide +kernel
theorem d_O_roundedQuotient_26 : decode b_O_roundedQuotient 26 = .ok (.lstore 6, 2) := by decide +kernel
theorem d_O_roundedQuotient_28 : decode b_O_roundedQuotient 28 = .ok (.ldc2_w 61, 3) := by decide +kernel
theorem d_O_roundedQuotient_31 : decode b_O_roundedQuotient 31 = .ok (.lload 4, 2) := by decide +kernel
theorem d_O_roundedQuotient_33 : decode b_O_roundedQuotient 33 = .ok (.lmul, 1) := by decide +kernel
theorem d_O_roundedQuotient_34 : decode b_O_roundedQuotient 34 = .ok (.lload 6, 2) := by decide +kernel
theorem d_O_roundedQuotient_36 : decode b_O_roundedQuotient 36 = .ok (.ladd, 1) := by decide +kernel
theorem d_O_roundedQuotient_37 : decode b_O_roundedQuotient 37 = .ok (.ldc2_w 61, 3) := by decide +kernel
theorem d_O_roundedQuotient_40 : decode b_O_roundedQuotient 40 = .ok (.lload 6, 2) := by decide +kernel
theorem d_O_roundedQuotient_42 : decode b_O_roundedQuotient 42 = .ok (.lmul, 1) := by decide +kernel
theorem d_O_roundedQuotient_43 : decode b_O_roundedQuotient 43 = .ok (.invokestatic 63, 3) := by decide +kernel
theorem d_O_roundedQuotient_46 : decode b_O_roundedQuotient 46 = .ok (.l2i, 1) := by decide +kernel
theorem d_O_roundedQuotient_47 : decode b_O_roundedQuotient 47 = .ok (.ireturn, 1) := by decide +kernel
end
section
/-! PURE: names and old maps (own text) -/
theorem z_m1 {k : Nat} (hk : k < 2 ^ 31) (h : nI k - 1 < 0) : k = 0 := by
  rcases k with _ | k
  · rfl
  · rw [nI_pred] at h; exact absurd h (nI_pos (by omega))
theorem z_m0 {k : Nat} (h : ¬ nI k - 1 < 0) : ∃ q, k = q + 1 := by
  rcases k with _ | k
  · exact absurd (by decide) h
  · exact ⟨k, rfl⟩
def pn_find (ow nu fs ts : Nat → Int32) (p d : Int32) : Nat → Int32
  | 0 => -1
  | k + 1 => if ow k = p ∧ fs k ≤ d ∧ d ≤ ts k then nu k else pn_find ow nu fs ts p d k
def po_sh (mx my : Nat → Int32) (i j : Nat) (x y : Int32) : Int64 := pc_turn (mx i) (my i) (mx j) (my j) x y
def po_hb (mx my : Nat → Int32) (i j k : Nat) (x y : Int32) : Bool :=
  (decide (0 < po_sh mx my i j (mx k) (my k)) && (decide (0 ≤ po_sh mx my j k x y) && (decide (0 ≤ po_sh mx my k i x y) && decide (0 ≤ po_sh mx my i j x y)))) ||
  (decide (po_sh mx my i j (mx k) (my k) < 0) && (decide (po_sh mx my j k x y ≤ 0) && (decide (po_sh mx my k i x y ≤ 0) && decide (po_sh mx my i j x y ≤ 0))))
/-- Math.floorDiv of longs -/
def pl_fd (x y : Int64) : Int64 := if (x ^^^ y) < 0 ∧ ¬ (x / y) * y = x then x / y - 1 else x / y
def pl_abs (x : Int64) : Int64 := if 0 < x then x else -x
def po_rq (a w : Int64) : Int32 := if w = 0 then 0 else (pl_fd (2 * (if 0 < w then a else -a) + pl_abs w) (2 * pl_abs w)).toInt32
def po_val (mx my vs : Nat → Int32) (i j k : Nat) (x y : Int32) : Int32 :=
  po_rq (po_sh mx my j k x y * (vs i).toInt64 + po_sh mx my k i x y * (vs j).toInt64 + po_sh mx my i j x y * (vs k).toInt64) (po_sh mx my j k x y + po_sh mx my k i x y + po_sh mx my i j x y)
/-- the first k from k0 on that does it for i, j -/
def po_fk (mx my : Nat → Int32) (x y : Int32) (i j : Nat) : Nat → Nat → Option (Nat × Nat × Nat)
  | 0, _ => none
  | f + 1, k => if po_hb mx my i j k x y = true then some (i, j, k) else po_fk mx my x y i j f (k + 1)
def po_or (a b : Option (Nat × Nat × Nat)) : Option (Nat × Nat × Nat) := match a with
  | some t => some t
  | none => b
def po_fj (mx my : Nat → Int32) (x y : Int32) (n i : Nat) : Nat → Nat → Option (Nat × Nat × Nat)
  | 0, _ => none
  | f + 1, j => po_or (po_fk mx my x y i j (n - (j + 1)) (j + 1)) (po_fj mx my x y n i f (j + 1))
def po_fi (mx my : Nat → Int32) (x y : Int32) (n : Nat) : Nat → Nat → Option (Nat × Nat × Nat)
  | 0, _ => none
  | f + 1, i => po_or (po_fj mx my x y n i (n - (i + 1)) (i + 1)) (po_fi mx my x y n f (i + 1))
/-- Math.floorDiv of ints -/
def pl_fdi (x y : Int32) : Int32 := if (x ^^^ y) < 0 ∧ ¬ (x / y) * y = x then x / y - 1 else x / y
end
section
theorem z_ofWF {l : Launch} {s0 : State} {y : MethodName} {rm : Room} {av : List Value} {B : Heap → Prop} {Qc : Array Value → State → Outcome → State → Prop} {mc ms : Nat} {free : Addr → Prop} {cc : ByteArray} {nL : Nat} {ret : Option FieldType}
    (hy : plainFor y = true) (hn : (lg_sl av).length ≤ nL)
    (body : ∀ (p : Program) (e : Env) (s : State) (m : MethodId) (below : List Frame) (meth : Method) (c : Code), p.tables.exec = Jvm.exec → c.code = cc → c.maxLocals = nL → meth.sig.returnType = ret → s.vm.findClass y.cls = some m.cls → meth.locks = false → meth.name = y.name → s0.WarmedH s.vm → B s.heap →
      ∀ ls : Array Slot, lv_has ls nL (lv_args 0 av) → W p l e rm s m av.toArray below meth c s.heap [] 0 0 (MQ below Qc av.toArray s mc ms free) (F0 m 0 ls [])) :
    Met l y [Cond.code y cc nL ret] rm (z_Pc s0 av B) Qc mc ms free := by
  refine va_MetF (cc := cc) (maxL := nL) (ret := ret) hy rfl ?_
  intro p e s m args below meth c s₁ H hml hv
  obtain ⟨rfl, hW, hB⟩ := hv
  have hl := lv_entry av (n := nL) hn
  rw [lg_entry_eq]
  exact body p e s m below meth c H.exec H.bytes hml H.returns (findClass_of_methodNamed H.named) H.notSynchronized (name_of_methodNamed H.named H.method).1 hW hB _ hl
/-- a Names, and its four arrays -/
def z_Nm (D : va_G) (cI : ClassId) (H : Heap) (a b1 b2 b3 b4 n : Nat) (ow nu fs ts : Nat → Int32) : Prop :=
  z_O D H a 0 [.ref b1, .ref b2, .ref b3, .ref b4, .int (nI n)] ∧ z_A cI H b1 40 ow ∧ z_A cI H b2 40 nu ∧ z_A cI H b3 40 fs ∧ z_A cI H b4 40 ts
/-- an OldMap, and its four arrays -/
def z_Om (D : va_G) (cI : ClassId) (H : Heap) (a b1 b2 b3 b4 n : Nat) (mx my px py : Nat → Int32) : Prop :=
  z_O D H a 1 [.ref b1, .ref b2, .ref b3, .ref b4, .int (nI n)] ∧ z_A cI H b1 12 mx ∧ z_A cI H b2 12 my ∧ z_A cI H b3 12 px ∧ z_A cI H b4 12 py
section S3
variable {s0 : State} {dC : Nat → ClassId} {dI : Nat → Nat → Nat} {cI cS : ClassId} {l : Launch}
set_option maxRecDepth 100000 in
set_option maxHeartbeats 4000000 in
theorem c_J_floorDiv_JJ (G : z_G s0 (dC, dI) cI cS) (x y : Int64) (hy : ¬ y = 0) : Met l y_J_floorDiv_JJ [Cond.code y_J_floorDiv_JJ b_J_floorDiv_JJ 6 (some .long)] ({ frames := 0, cells := 0, slots := 0, locals := 0 }) (z_Pc s0 [.long x, .long y] (fun H => True)) (z_Qr (some (.long (pl_fd x y)))) 0 0 z_no := by
  refine z_ofWF (by decide +kernel) (Nat.le_of_ble_eq_true rfl) ?_
  intro p e s m below meth c hx hb hml hr hown hlocks hnm hW0 hB ls hl
  have hts := z_hts (args := [.long x, .long y].toArray) G.1 hW0
  have hl : lv_has ls 6 [(0, .long x), (2, .long y)] := hl
  refine lv_lload_n hx hb d_J_floorDiv_JJ_0 rfl (lv_at hl 0 rfl) ?_
  refine lv_lload_n hx hb d_J_floorDiv_JJ_1 rfl (lv_at hl 1 rfl) ?_
  refine lv_ldiv hx hb d_J_floorDiv_JJ_2 (by assumption) ?_
  refine lv_lstore (lv' := [(4, .long (x / y)), (0, .long x), (2, .long y)]) hx hb d_J_floorDiv_JJ_3 hl (by decide) rfl (fun ls hl => ?_)
  refine lv_lload_n hx hb d_J_floorDiv_JJ_5 rfl (lv_at hl 1 rfl) ?_
  refine lv_lload_n hx hb d_J_floorDiv_JJ_6 rfl (lv_at hl 2 rfl) ?_
  refine lv_lxor hx hb d_J_floorDiv_JJ_7 ?_
  refine lv_lconst (v := 0) hx hb d_J_floorDiv_JJ_8 (by decide) ?_
  refine W.lcmp hx hb d_J_floorDiv_JJ_9 ?_
  refine lv_if_ge (tgt := 27) hx hb d_J_floorDiv_JJ_10 (by decide) (fun c_1 => ?_) (fun c_1 => ?_)
  · skip
    have c_1 : 0 ≤ (x ^^^ y) := (lg_cmp_ge _ _).mp c_1
    have c_1' : ¬ ((x ^^^ y) < 0) := Int64.not_lt.mpr c_1
    refine lv_lload hx hb d_J_floorDiv_JJ_27 (lv_at hl 0 rfl) ?_
    exact z_lret hx hb hr hlocks (by simp [pl_fd, c_1, c_1']) d_J_floorDiv_JJ_29
  · skip
    have c_1 : ¬ (0 ≤ (x ^^^ y)) := fun h => c_1 ((lg_cmp_ge _ _).mpr h)
    have c_1' : (x ^^^ y) < 0 := Int64.not_le.mp c_1
    refine lv_lload hx hb d_J_floorDiv_JJ_13 (lv_at hl 0 rfl) ?_
    refine lv_lload_n hx hb d_J_floorDiv_JJ_15 rfl (lv_at hl 2 rfl) ?_
    refine lv_lmul hx hb d_J_floorDiv_JJ_16 ?_
    refine lv_lload_n hx hb d_J_floorDiv_JJ_17 rfl (lv_at hl 1 rfl) ?_
    refine W.lcmp hx hb d_J_floorDiv_JJ_18 ?_
    refine lv_if_eq (tgt := 27) hx hb d_J_floorDiv_JJ_19 (by decide) (fun c_2 => ?_) (fun c_2 => ?_)
    · skip
      have c_2 : ((x / y) * y) = x := (lg_cmp_eq _ _).mp c_2
      refine lv_lload hx hb d_J_floorDiv_JJ_27 (lv_at hl 0 rfl) ?_
      exact z_lret hx hb hr hlocks (by simp [pl_fd, c_1, c_1', c_2]) d_J_floorDiv_JJ_29
    · skip
      have c_2 : ¬ (((x / y) * y) = x) := fun h => c_2 ((lg_cmp_eq _ _).mpr h)
      refine lv_lload hx hb d_J_floorDiv_JJ_22 (lv_at hl 0 rfl) ?_
      refine lv_lconst (v := 1) hx hb d_J_floorDiv_JJ_24 (by decide) ?_
      refine lv_lsub hx hb d_J_floorDiv_JJ_25 ?_
      exact z_lret hx hb hr hlocks (by simp [pl_fd, c_1, c_1', c_2]) d_J_floorDiv_JJ_26
set_option maxRecDepth 100000 in
set_option maxHeartbeats 4000000 in
theorem c_J_floorDiv_II (G : z_G s0 (dC, dI) cI cS) (x y : Int32) (hy : ¬ y = 0) : Met l y_J_floorDiv_II [Cond.code y_J_floorDiv_II b_J_floorDiv_II 3 (some .int)] ({ frames := 0, cells := 0, slots := 0, locals := 0 }) (z_Pc s0 [.int x, .int y] (fun H => True)) (z_Qr (some (.int (pl_fdi x y)))) 0 0 z_no := by
  refine z_ofWF (by decide +kernel) (Nat.le_of_ble_eq_true rfl) ?_
  intro p e s m below meth c hx hb hml hr hown hlocks hnm hW0 hB ls hl
  have hts := z_hts (args := [.int x, .int y].toArray) G.1 hW0
  have hl : lv_has ls 3 [(0, .int x), (1, .int y)] := hl
  refine lv_iload_n hx hb d_J_floorDiv_II_0 rfl (lv_at hl 0 rfl) ?_
  refine lv_iload_n hx hb d_J_floorDiv_II_1 rfl (lv_at hl 1 rfl) ?_
  refine lv_idiv hx hb d_J_floorDiv_II_2 (by assumption) ?_
  refine lv_istore_n (lv' := [(2, .int (x / y)), (0, .int x), (1, .int y)]) hx hb d_J_floorDiv_II_3 rfl hl (by decide) rfl (fun ls hl => ?_)
  refine lv_iload_n hx hb d_J_floorDiv_II_4 rfl (lv_at hl 1 rfl) ?_
  refine lv_iload_n hx hb d_J_floorDiv_II_5 rfl (lv_at hl 2 rfl) ?_
  refine lv_ixor hx hb d_J_floorDiv_II_6 ?_
  refine lv_if_ge (tgt := 21) hx hb d_J_floorDiv_II_7 (by decide) (fun c_1 => ?_) (fun c_1 => ?_)
  · skip
    have c_1' : ¬ ((x ^^^ y) < (0 : Int32)) := Int32.not_lt.mpr c_1
    refine lv_iload_n hx hb d_J_floorDiv_II_21 rfl (lv_at hl 0 rfl) ?_
    exact z_iret hx hb hr hlocks (by simp [pl_fdi, c_1, c_1']) d_J_floorDiv_II_22
  · skip
    have c_1' : (x ^^^ y) < (0 : Int32) := Int32.not_le.mp c_1
    refine lv_iload_n hx hb d_J_floorDiv_II_10 rfl (lv_at hl 0 rfl) ?_
    refine lv_iload_n hx hb d_J_floorDiv_II_11 rfl (lv_at hl 2 rfl) ?_
    refine lv_imul hx hb d_J_floorDiv_II_12 ?_
    refine lv_iload_n hx hb d_J_floorDiv_II_13 rfl (lv_at hl 1 rfl) ?_
    refine lv_icmp_eq (tgt := 21) hx hb d_J_floorDiv_II_14 (by decide) (fun c_2 => ?_) (fun c_2 => ?_)
    · skip
      refine lv_iload_n hx hb d_J_floorDiv_II_21 rfl (lv_at hl 0 rfl) ?_
      exact z_iret hx hb hr hlocks (by simp [pl_fdi, c_1, c_1', c_2]) d_J_floorDiv_II_22
    · skip
      refine lv_iload_n hx hb d_J_floorDiv_II_17 rfl (lv_at hl 0 rfl) ?_
      refine lv_iconst (v := 1) hx hb d_J_floorDiv_II_18 (by decide) ?_
      refine lv_isub hx hb d_J_floorDiv_II_19 ?_
      exact z_iret hx hb hr hlocks (by simp [pl_fdi, c_1, c_1', c_2]) d_J_floorDiv_II_20
set_option maxRecDepth 100000 in
set_option maxHeartbeats 4000000 in
theorem c_N_isFull (G : z_G s0 (dC, dI) cI cS) (a b1 b2 b3 b4 n : Nat) (ow nu fs ts : Nat → Int32) (hn : n ≤ 40) : Met l y_N_isFull [Cond.code y_N_isFull b_N_isFull 1 (some .boolean)] ({ frames := 0, cells := 0, slots := 0, locals := 0 }) (z_Pc s0 [.ref a] (fun H => z_Nm (dC, dI) cI H a b1 b2 b3 b4 n ow nu fs ts)) (z_Qr (some (.int (pi_b (decide (40 ≤ n)))))) 0 0 z_no := by
  refine z_ofW (by decide +kernel) (Nat.le_of_ble_eq_true rfl) ?_
  intro p e s m below meth c hx hb hml hr hown hlocks hnm hW0 hB ls hl
  have hts := z_hts (args := [.ref a].toArray) G.1 hW0
  have hN := z_nstW G.2.1 hW0
  have hK := va_K.moved hW0.alike G.2.2.1
  have hAI := arrOfT_moved hW0.alike G.2.2.2.1
  have hl : lv_has ls 1 [(0, .ref a)] := hl
  obtain ⟨hO, hA1, hA2, hA3, hA4⟩ := id hB
  refine lv_aload_n hx hb d_N_isFull_0 rfl (lv_at hl 0 rfl) ?_
  refine va_get (D := (dC, dI)) (ci := 0) (v := .int (nI n)) (C := R_N) (T := T_N) (N := 5) hx hb hts in_N hown hK hO.P 0 rfl rfl 4 (by decide) (hts _ w_33) (fun _ h9 => h9) rfl d_N_isFull_1 ?_
  refine lv_bipush (v := 40) hx hb d_N_isFull_4 (by decide) ?_
  refine lv_icmp_lt (tgt := 13) hx hb d_N_isFull_6 (by decide) (fun c_1 => ?_) (fun c_1 => ?_)
  · skip
    have c_1 : n < 40 := (nI_ltI (a := n) (b := 40) (by omega) (by omega)).mp c_1
    refine lv_iconst (v := 0) hx hb d_N_isFull_13 (by decide) ?_
    exact z_zret hx hb hr hlocks (by simp only [pi_b, decide_eq_true_eq]; first | rw [if_pos (by omega)] | rw [if_neg (by omega)]) d_N_isFull_14
  · skip
    have c_1 : ¬ (n < 40) := fun h => c_1 ((nI_ltI (a := n) (b := 40) (by omega) (by omega)).mpr h)
    refine lv_iconst (v := 1) hx hb d_N_isFull_9 (by decide) ?_
    refine lv_goto (tgt := 14) hx hb d_N_isFull_10 (by decide) ?_
    exact z_zret hx hb hr hlocks (by simp only [pi_b, decide_eq_true_eq]; first | rw [if_pos (by omega)] | rw [if_neg (by omega)]) d_N_isFull_14
set_option maxRecDepth 100000 in
set_option maxHeartbeats 4000000 in
theorem c_N_find (G : z_G s0 (dC, dI) cI cS) (a b1 b2 b3 b4 n : Nat) (ow nu fs ts : Nat → Int32) (p1 d1 : Int32) (hn : n ≤ 40) : Met l y_N_find [Cond.code y_N_find b_N_find 4 (some .int)] ({ frames := 0, cells := 0, slots := 0, locals := 0 }) (z_Pc s0 [.ref a, .int p1, .int d1] (fun H => z_Nm (dC, dI) cI H a b1 b2 b3 b4 n ow nu fs ts)) (z_Qr (some (.int (pn_find ow nu fs ts p1 d1 n)))) 0 0 z_no := by
  refine z_ofW (by decide +kernel) (Nat.le_of_ble_eq_true rfl) ?_
  intro p e s m below meth c hx hb hml hr hown hlocks hnm hW0 hB ls hl
  have hts := z_hts (args := [.ref a, .int p1, .int d1].toArray) G.1 hW0
  have hN := z_nstW G.2.1 hW0
  have hK := va_K.moved hW0.alike G.2.2.1
  have hAI := arrOfT_moved hW0.alike G.2.2.2.1
  have hl : lv_has ls 4 [(0, .ref a), (1, .int p1), (2, .int d1)] := hl
  obtain ⟨hO, hA1, hA2, hA3, hA4⟩ := id hB
  have loops : ∀ f : Nat, (∀ (k : Nat), k < f → (k ≤ n) → (pn_find ow nu fs ts p1 d1 k = pn_find ow nu fs ts p1 d1 n) → ∀ ls : Array Slot, lv_has ls 4 [(0, .ref a), (1, .int p1), (2, .int d1), (3, .int (nI k - 1))] → W p l e ({ frames := 0, cells := 0, slots := 0, locals := 0 }) s m [.ref a, .int p1, .int d1].toArray below meth c s.heap [] 0 0 (MQ below (z_Qr (some (.int (pn_find ow nu fs ts p1 d1 n)))) [.ref a, .int p1, .int d1].toArray s 0 0 z_no) (F0 m 7 ls [])) := by
    intro f
    induction f with
    | zero => exact fun _ h => absurd h (Nat.not_lt_zero _)
    | succ f ih =>
      intro k hmu hk hres ls hl
      refine lv_iload_n hx hb d_N_find_7 rfl (lv_at hl 3 rfl) ?_
      refine lv_if_lt (tgt := 54) hx hb d_N_find_8 (by decide) (fun c_101 => ?_) (fun c_101 => ?_)
      · skip
        have c_101' : ¬ ((0 : Int32) ≤ (nI k - 1)) := Int32.not_le.mpr c_101
        refine lv_iconst (v := (-1)) hx hb d_N_find_54 (by decide) ?_
        exact z_iret hx hb hr hlocks (by rw [z_m1 (by omega) c_101] at hres; simpa [pn_find] using hres) d_N_find_55
      · skip
        have c_101' : (0 : Int32) ≤ (nI k - 1) := Int32.not_lt.mp c_101
        obtain ⟨q, rfl⟩ := z_m0 c_101
        rw [nI_pred] at hl
        refine lv_aload_n hx hb d_N_find_11 rfl (lv_at hl 0 rfl) ?_
        refine va_get (D := (dC, dI)) (ci := 0) (v := .ref b1) (C := R_N) (T := T_N) (N := 5) hx hb hts in_N hown hK hO.P 0 rfl rfl 0 (by decide) (hts _ w_29) (fun _ h9 => h9) rfl d_N_find_12 ?_
        refine lv_iload_n hx hb d_N_find_15 rfl (lv_at hl 3 rfl) ?_
        refine z_iald hx hb hAI hA1 (by omega) (by decide) d_N_find_16 ?_
        refine lv_iload_n hx hb d_N_find_17 rfl (lv_at hl 1 rfl) ?_
        refine lv_icmp_ne (tgt := 48) hx hb d_N_find_18 (by decide) (fun c_102 => ?_) (fun c_102 => ?_)
        · skip
          refine lv_iinc (v := nI q - 1) (lv' := [(3, .int (nI q - 1)), (0, .ref a), (1, .int p1), (2, .int d1)]) hx hb d_N_find_48 hl (k := 3) rfl (by rw [Int32.sub_eq_add_neg]; rfl) (by decide) rfl (fun ls hl => ?_)
          refine lv_goto (tgt := 7) hx hb d_N_find_51 (by decide) ?_
          exact ih q (by omega) (by omega) (by simpa [pn_find, c_102] using hres) ls (lv_sub hl [1, 2, 3, 0] rfl)
        · skip
          refine lv_aload_n hx hb d_N_find_21 rfl (lv_at hl 0 rfl) ?_
          refine va_get (D := (dC, dI)) (ci := 0) (v := .ref b3) (C := R_N) (T := T_N) (N := 5) hx hb hts in_N hown hK hO.P 0 rfl rfl 2 (by decide) (hts _ w_31) (fun _ h9 => h9) rfl d_N_find_22 ?_
          refine lv_iload_n hx hb d_N_find_25 rfl (lv_at hl 3 rfl) ?_
          refine z_iald hx hb hAI hA3 (by omega) (by decide) d_N_find_26 ?_
          refine lv_iload_n hx hb d_N_find_27 rfl (lv_at hl 2 rfl) ?_
          refine lv_icmp_gt (tgt := 48) hx hb d_N_find_28 (by decide) (fun c_103 => ?_) (fun c_103 => ?_)
          · skip
            have c_103' : ¬ ((fs q) ≤ d1) := Int32.not_le.mpr c_103
            refine lv_iinc (v := nI q - 1) (lv' := [(3, .int (nI q - 1)), (0, .ref a), (1, .int p1), (2, .int d1)]) hx hb d_N_find_48 hl (k := 3) rfl (by rw [Int32.sub_eq_add_neg]; rfl) (by decide) rfl (fun ls hl => ?_)
            refine lv_goto (tgt := 7) hx hb d_N_find_51 (by decide) ?_
            exact ih q (by omega) (by omega) (by simpa [pn_find, c_102, c_103, c_103'] using hres) ls (lv_sub hl [1, 2, 3, 0] rfl)
          · skip
            have c_103' : (fs q) ≤ d1 := Int32.not_lt.mp c_103
            refine lv_iload_n hx hb d_N_find_31 rfl (lv_at hl 2 rfl) ?_
            refine lv_aload_n hx hb d_N_find_32 rfl (lv_at hl 0 rfl) ?_
            refine va_get (D := (dC, dI)) (ci := 0) (v := .ref b4) (C := R_N) (T := T_N) (N := 5) hx hb hts in_N hown hK hO.P 0 rfl rfl 3 (by decide) (hts _ w_32) (fun _ h9 => h9) rfl d_N_find_33 ?_
            refine lv_iload_n hx hb d_N_find_36 rfl (lv_at hl 3 rfl) ?_
            refine z_iald hx hb hAI hA4 (by omega) (by decide) d_N_find_37 ?_
            refine lv_icmp_gt (tgt := 48) hx hb d_N_find_38 (by decide) (fun c_104 => ?_) (fun c_104 => ?_)
            · skip
              have c_104' : ¬ (d1 ≤ (ts q)) := Int32.not_le.mpr c_104
              refine lv_iinc (v := nI q - 1) (lv' := [(3, .int (nI q - 1)), (0, .ref a), (1, .int p1), (2, .int d1)]) hx hb d_N_find_48 hl (k := 3) rfl (by rw [Int32.sub_eq_add_neg]; rfl) (by decide) rfl (fun ls hl => ?_)
              refine lv_goto (tgt := 7) hx hb d_N_find_51 (by decide) ?_
              exact ih q (by omega) (by omega) (by simpa [pn_find, c_102, c_103, c_103', c_104, c_104'] using hres) ls (lv_sub hl [1, 2, 3, 0] rfl)
            · skip
              have c_104' : d1 ≤ (ts q) := Int32.not_lt.mp c_104
              refine lv_aload_n hx hb d_N_find_41 rfl (lv_at hl 0 rfl) ?_
              refine va_get (D := (dC, dI)) (ci := 0) (v := .ref b2) (C := R_N) (T := T_N) (N := 5) hx hb hts in_N hown hK hO.P 0 rfl rfl 1 (by decide) (hts _ w_30) (fun _ h9 => h9) rfl d_N_find_42 ?_
              refine lv_iload_n hx hb d_N_find_45 rfl (lv_at hl 3 rfl) ?_
              refine z_iald hx hb hAI hA2 (by omega) (by decide) d_N_find_46 ?_
              exact z_iret hx hb hr hlocks (by simpa [pn_find, c_102, c_103, c_103', c_104, c_104'] using hres) d_N_find_47
  refine lv_aload_n hx hb d_N_find_0 rfl (lv_at hl 0 rfl) ?_
  refine va_get (D := (dC, dI)) (ci := 0) (v := .int (nI n)) (C := R_N) (T := T_N) (N := 5) hx hb hts in_N hown hK hO.P 0 rfl rfl 4 (by decide) (hts _ w_33) (fun _ h9 => h9) rfl d_N_find_1 ?_
  refine lv_iconst (v := 1) hx hb d_N_find_4 (by decide) ?_
  refine lv_isub hx hb d_N_find_5 ?_
  refine lv_istore_n (lv' := [(3, .int ((nI n) - 1)), (0, .ref a), (1, .int p1), (2, .int d1)]) hx hb d_N_find_6 rfl hl (by decide) rfl (fun ls hl => ?_)
  exact (loops (n + 1)) n (by omega) (by omega) (by rfl) ls (lv_sub hl [1, 2, 3, 0] rfl)
set_option maxRecDepth 100000 in
set_option maxHeartbeats 4000000 in
theorem c_O_isFull (G : z_G s0 (dC, dI) cI cS) (a b1 b2 b3 b4 n : Nat) (mx my px py : Nat → Int32) (hn : n ≤ 12) : Met l y_O_isFull [Cond.code y_O_isFull b_O_isFull 1 (some .boolean)] ({ frames := 0, cells := 0, slots := 0, locals := 0 }) (z_Pc s0 [.ref a] (fun H => z_Om (dC, dI) cI H a b1 b2 b3 b4 n mx my px py)) (z_Qr (some (.int (pi_b (decide (12 ≤ n)))))) 0 0 z_no := by
  refine z_ofW (by decide +kernel) (Nat.le_of_ble_eq_true rfl) ?_
  intro p e s m below meth c hx hb hml hr hown hlocks hnm hW0 hB ls hl
  have hts := z_hts (args := [.ref a].toArray) G.1 hW0
  have hN := z_nstW G.2.1 hW0
  have hK := va_K.moved hW0.alike G.2.2.1
  have hAI := arrOfT_moved hW0.alike G.2.2.2.1
  have hl : lv_has ls 1 [(0, .ref a)] := hl
  obtain ⟨hO, hA1, hA2, hA3, hA4⟩ := id hB
  refine lv_aload_n hx hb d_O_isFull_0 rfl (lv_at hl 0 rfl) ?_
  refine va_get (D := (dC, dI)) (ci := 1) (v := .int (nI n)) (C := R_O) (T := T_O) (N := 5) hx hb hts in_O hown hK hO.P 0 rfl rfl 4 (by decide) (hts _ w_56) (fun _ h9 => h9) rfl d_O_isFull_1 ?_
  refine lv_bipush (v := 12) hx hb d_O_isFull_4 (by decide) ?_
  refine lv_icmp_lt (tgt := 13) hx hb d_O_isFull_6 (by decide) (fun c_1 => ?_) (fun c_1 => ?_)
  · skip
    have c_1 : n < 12 := (nI_ltI (a := n) (b := 12) (by omega) (by omega)).mp c_1
    refine lv_iconst (v := 0) hx hb d_O_isFull_13 (by decide) ?_
    exact z_zret hx hb hr hlocks (by simp only [pi_b, decide_eq_true_eq]; first | rw [if_pos (by omega)] | rw [if_neg (by omega)]) d_O_isFull_14
  · skip
    have c_1 : ¬ (n < 12) := fun h => c_1 ((nI_ltI (a := n) (b := 12) (by omega) (by omega)).mpr h)
    refine lv_iconst (v := 1) hx hb d_O_isFull_9 (by decide) ?_
    refine lv_goto (tgt := 14) hx hb d_O_isFull_10 (by decide) ?_
    exact z_zret hx hb hr hlocks (by simp only [pi_b, decide_eq_true_eq]; first | rw [if_pos (by omega)] | rw [if_neg (by omega)]) d_O_isFull_14
set_option maxRecDepth 100000 in
set_option maxHeartbeats 4000000 in
theorem c_O_share (G : z_G s0 (dC, dI) cI cS) (a b1 b2 b3 b4 n : Nat) (mx my px py : Nat → Int32) (i j : Nat) (x y : Int32) (hi : i < 12) (hj : j < 12) : Met l y_O_share [Cond.code y_O_share b_O_share 5 (some .long)] ({ frames := 1, cells := 0, slots := 0, locals := 25 }) (z_Pc s0 [.ref a, .int (nI i), .int (nI j), .int x, .int y] (fun H => z_Om (dC, dI) cI H a b1 b2 b3 b4 n mx my px py)) (z_Qr (some (.long (po_sh mx my i j x y)))) 0 0 z_no := by
  refine z_ofW (by decide +kernel) (Nat.le_of_ble_eq_true rfl) ?_
  intro p e s m below meth c hx hb hml hr hown hlocks hnm hW0 hB ls hl
  have hts := z_hts (args := [.ref a, .int (nI i), .int (nI j), .int x, .int y].toArray) G.1 hW0
  have hN := z_nstW G.2.1 hW0
  have hK := va_K.moved hW0.alike G.2.2.1
  have hAI := arrOfT_moved hW0.alike G.2.2.2.1
  have hl : lv_has ls 5 [(0, .ref a), (1, .int (nI i)), (2, .int (nI j)), (3, .int x), (4, .int y)] := hl
  obtain ⟨hO, hA1, hA2, hA3, hA4⟩ := id hB
  refine lv_aload_n hx hb d_O_share_0 rfl (lv_at hl 0 rfl) ?_
  refine va_get (D := (dC, dI)) (ci := 1) (v := .ref b1) (C := R_O) (T := T_O) (N := 5) hx hb hts in_O hown hK hO.P 0 rfl rfl 0 (by decide) (hts _ w_52) (fun _ h9 => h9) rfl d_O_share_1 ?_
  refine lv_iload_n hx hb d_O_share_4 rfl (lv_at hl 1 rfl) ?_
  refine z_iald hx hb hAI hA1 (by omega) (by decide) d_O_share_5 ?_
  refine lv_aload_n hx hb d_O_share_6 rfl (lv_at hl 0 rfl) ?_
  refine va_get (D := (dC, dI)) (ci := 1) (v := .ref b2) (C := R_O) (T := T_O) (N := 5) hx hb hts in_O hown hK hO.P 0 rfl rfl 1 (by decide) (hts _ w_53) (fun _ h9 => h9) rfl d_O_share_7 ?_
  refine lv_iload_n hx hb d_O_share_10 rfl (lv_at hl 1 rfl) ?_
  refine z_iald hx hb hAI hA2 (by omega) (by decide) d_O_share_11 ?_
  refine lv_aload_n hx hb d_O_share_12 rfl (lv_at hl 0 rfl) ?_
  refine va_get (D := (dC, dI)) (ci := 1) (v := .ref b1) (C := R_O) (T := T_O) (N := 5) hx hb hts in_O hown hK hO.P 0 rfl rfl 0 (by decide) (hts _ w_52) (fun _ h9 => h9) rfl d_O_share_13 ?_
  refine lv_iload_n hx hb d_O_share_16 rfl (lv_at hl 2 rfl) ?_
  refine z_iald hx hb hAI hA1 (by omega) (by decide) d_O_share_17 ?_
  refine lv_aload_n hx hb d_O_share_18 rfl (lv_at hl 0 rfl) ?_
  refine va_get (D := (dC, dI)) (ci := 1) (v := .ref b2) (C := R_O) (T := T_O) (N := 5) hx hb hts in_O hown hK hO.P 0 rfl rfl 1 (by decide) (hts _ w_53) (fun _ h9 => h9) rfl d_O_share_19 ?_
  refine lv_iload_n hx hb d_O_share_22 rfl (lv_at hl 2 rfl) ?_
  refine z_iald hx hb hAI hA2 (by omega) (by decide) d_O_share_23 ?_
  refine lv_iload_n hx hb d_O_share_24 rfl (lv_at hl 3 rfl) ?_
  refine lv_iload hx hb d_O_share_25 (lv_at hl 4 rfl) ?_
  refine z_rdSN (n := 6) (rest := []) (host := R_B) ⟨hx, hb, hml, hown, hts⟩ hW0 (c_B_turn G (mx i) (my i) (mx j) (my j) x y) w_337 (hN _ (List.mem_of_getElem? (i := 2) rfl)) w_336 w_1 (by decide +kernel) ⟨rfl, rfl, Nat.le_of_ble_eq_true rfl, Nat.le_of_ble_eq_true rfl⟩ (trivial) rfl rfl hl.1 (Nat.le_of_ble_eq_true rfl) d_O_share_27 ⟨Nat.zero_le _, Nat.zero_le _⟩ ?_
  exact z_lret hx hb hr hlocks (by rfl) d_O_share_30
set_option maxRecDepth 100000 in
set_option maxHeartbeats 4000000 in
theorem c_O_haveBetween (G : z_G s0 (dC, dI) cI cS) (a b1 b2 b3 b4 n : Nat) (mx my px py : Nat → Int32) (i j k : Nat) (x y : Int32) (hi : i < 12) (hj : j < 12) (hk : k < 12) : Met l y_O_haveBetween [Cond.code y_O_haveBetween b_O_haveBetween 14 (some .boolean)] ({ frames := 2, cells := 0, slots := 0, locals := 49 }) (z_Pc s0 [.ref a, .int (nI i), .int (nI j), .int (nI k), .int x, .int y] (fun H => z_Om (dC, dI) cI H a b1 b2 b3 b4 n mx my px py)) (z_Qr (some (.int (pi_b (po_hb mx my i j k x y))))) 0 0 z_no := by
  refine z_ofW (by decide +kernel) (Nat.le_of_ble_eq_true rfl) ?_
  intro p e s m below meth c hx hb hml hr hown hlocks hnm hW0 hB ls hl
  have hts := z_hts (args := [.ref a, .int (nI i), .int (nI j), .int (nI k), .int x, .int y].toArray) G.1 hW0
  have hN := z_nstW G.2.1 hW0
  have hK := va_K.moved hW0.alike G.2.2.1
  have hAI := arrOfT_moved hW0.alike G.2.2.2.1
  have hl : lv_has ls 14 [(0, .ref a), (1, .int (nI i)), (2, .int (nI j)), (3, .int (nI k)), (4, .int x), (5, .int y)] := hl
  obtain ⟨hO, hA1, hA2, hA3, hA4⟩ := id hB
  refine lv_aload_n hx hb d_O_haveBetween_0 rfl (lv_at hl 0 rfl) ?_
  refine va_get (D := (dC, dI)) (ci := 1) (v := .ref b1) (C := R_O) (T := T_O) (N := 5) hx hb hts in_O hown hK hO.P 0 rfl rfl 0 (by decide) (hts _ w_52) (fun _ h9 => h9) rfl d_O_haveBetween_1 ?_
  refine lv_iload_n hx hb d_O_haveBetween_4 rfl (lv_at hl 1 rfl) ?_
  refine z_iald hx hb hAI hA1 (by omega) (by decide) d_O_haveBetween_5 ?_
  refine lv_aload_n hx hb d_O_haveBetween_6 rfl (lv_at hl 0 rfl) ?_
  refine va_get (D := (dC, dI)) (ci := 1) (v := .ref b2) (C := R_O) (T := T_O) (N := 5) hx hb hts in_O hown hK hO.P 0 rfl rfl 1 (by decide) (hts _ w_53) (fun _ h9 => h9) rfl d_O_haveBetween_7 ?_
  refine lv_iload_n hx hb d_O_haveBetween_10 rfl (lv_at hl 1 rfl) ?_
  refine z_iald hx hb hAI hA2 (by omega) (by decide) d_O_haveBetween_11 ?_
  refine lv_aload_n hx hb d_O_haveBetween_12 rfl (lv_at hl 0 rfl) ?_
  refine va_get (D := (dC, dI)) (ci := 1) (v := .ref b1) (C := R_O) (T := T_O) (N := 5) hx hb hts in_O hown hK hO.P 0 rfl rfl 0 (by decide) (hts _ w_52) (fun _ h9 => h9) rfl d_O_haveBetween_13 ?_
  refine lv_iload_n hx hb d_O_haveBetween_16 rfl (lv_at hl 2 rfl) ?_
  refine z_iald hx hb hAI hA1 (by omega) (by decide) d_O_haveBetween_17 ?_
  refine lv_aload_n hx hb d_O_haveBetween_18 rfl (lv_at hl 0 rfl) ?_
  refine va_get (D := (dC, dI)) (ci := 1) (v := .ref b2) (C := R_O) (T := T_O) (N := 5) hx hb hts in_O hown hK hO.P 0 rfl rfl 1 (by decide) (hts _ w_53) (fun _ h9 => h9) rfl d_O_haveBetween_19 ?_
  refine lv_iload_n hx hb d_O_haveBetween_22 rfl (lv_at hl 2 rfl) ?_
  refine z_iald hx hb hAI hA2 (by omega) (by decide) d_O_haveBetween_23 ?_
  refine lv_aload_n hx hb d_O_haveBetween_24 rfl (lv_at hl 0 rfl) ?_
  refine va_get (D := (dC, dI)) (ci := 1) (v := .ref b1) (C := R_O) (T := T_O) (N := 5) hx hb hts in_O hown hK hO.P 0 rfl rfl 0 (by decide) (hts _ w_52) (fun _ h9 => h9) rfl d_O_haveBetween_25 ?_
  refine lv_iload_n hx hb d_O_haveBetween_28 rfl (lv_at hl 3 rfl) ?_
  refine z_iald hx hb hAI hA1 (by omega) (by decide) d_O_haveBetween_29 ?_
  refine lv_aload_n hx hb d_O_haveBetween_30 rfl (lv_at hl 0 rfl) ?_
  refine va_get (D := (dC, dI)) (ci := 1) (v := .ref b2) (C := R_O) (T := T_O) (N := 5) hx hb hts in_O hown hK hO.P 0 rfl rfl 1 (by decide) (hts _ w_53) (fun _ h9 => h9) rfl d_O_haveBetween_31 ?_
  refine lv_iload_n hx hb d_O_haveBetween_34 rfl (lv_at hl 3 rfl) ?_
  refine z_iald hx hb hAI hA2 (by omega) (by decide) d_O_haveBetween_35 ?_
  refine z_rdSN (n := 6) (rest := []) (host := R_B) ⟨hx, hb, hml, hown, hts⟩ hW0 (c_B_turn G (mx i) (my i) (mx j) (my j) (mx k) (my k)) w_337 (hN _ (List.mem_of_getElem? (i := 2) rfl)) w_336 w_1 (by decide +kernel) ⟨rfl, rfl, Nat.le_of_ble_eq_true rfl, Nat.le_of_ble_eq_true rfl⟩ (trivial) rfl rfl hl.1 (Nat.le_of_ble_eq_true rfl) d_O_haveBetween_36 ⟨Nat.zero_le _, Nat.zero_le _⟩ ?_
  refine lv_lstore (lv' := [(6, .long (po_sh mx my i j (mx k) (my k))), (0, .ref a), (1, .int (nI i)), (2, .int (nI j)), (3, .int (nI k)), (4, .int x), (5, .int y)]) hx hb d_O_haveBetween_39 hl (by decide) rfl (fun ls hl => ?_)
  refine lv_aload_n hx hb d_O_haveBetween_41 rfl (lv_at hl 1 rfl) ?_
  refine lv_iload_n hx hb d_O_haveBetween_42 rfl (lv_at hl 3 rfl) ?_
  refine lv_iload_n hx hb d_O_haveBetween_43 rfl (lv_at hl 4 rfl) ?_
  refine lv_iload hx hb d_O_haveBetween_44 (lv_at hl 5 rfl) ?_
  refine lv_iload hx hb d_O_haveBetween_46 (lv_at hl 6 rfl) ?_
  refine z_rdV (n := 4) (C := R_O) (rest := []) ⟨hx, hb, hml, hown, hts⟩ hW0 (c_O_share G a b1 b2 b3 b4 n mx my px py j k x y (by omega) (by omega)) w_507 w_504 w_506 wp_16 w_3 (by decide +kernel) ⟨rfl, rfl, Nat.le_of_ble_eq_true rfl, Nat.le_of_ble_eq_true rfl⟩ (hO.recv hK rfl) (hB) rfl rfl hl.1 (Nat.le_of_ble_eq_true rfl) d_O_haveBetween_48 ⟨Nat.zero_le _, Nat.zero_le _⟩ ?_
  refine lv_lstore (lv' := [(8, .long (po_sh mx my j k x y)), (6, .long (po_sh mx my i j (mx k) (my k))), (0, .ref a), (1, .int (nI i)), (2, .int (nI j)), (3, .int (nI k)), (4, .int x), (5, .int y)]) hx hb d_O_haveBetween_51 hl (by decide) rfl (fun ls hl => ?_)
  refine lv_aload_n hx hb d_O_haveBetween_53 rfl (lv_at hl 2 rfl) ?_
  refine lv_iload_n hx hb d_O_haveBetween_54 rfl (lv_at hl 5 rfl) ?_
  refine lv_iload_n hx hb d_O_haveBetween_55 rfl (lv_at hl 3 rfl) ?_
  refine lv_iload hx hb d_O_haveBetween_56 (lv_at hl 6 rfl) ?_
  refine lv_iload hx hb d_O_haveBetween_58 (lv_at hl 7 rfl) ?_
  refine z_rdV (n := 4) (C := R_O) (rest := []) ⟨hx, hb, hml, hown, hts⟩ hW0 (c_O_share G a b1 b2 b3 b4 n mx my px py k i x y (by omega) (by omega)) w_507 w_504 w_506 wp_16 w_3 (by decide +kernel) ⟨rfl, rfl, Nat.le_of_ble_eq_true rfl, Nat.le_of_ble_eq_true rfl⟩ (hO.recv hK rfl) (hB) rfl rfl hl.1 (Nat.le_of_ble_eq_true rfl) d_O_haveBetween_60 ⟨Nat.zero_le _, Nat.zero_le _⟩ ?_
  refine lv_lstore (lv' := [(10, .long (po_sh mx my k i x y)), (8, .long (po_sh mx my j k x y)), (6, .long (po_sh mx my i j (mx k) (my k))), (0, .ref a), (1, .int (nI i)), (2, .int (nI j)), (3, .int (nI k)), (4, .int x), (5, .int y)]) hx hb d_O_haveBetween_63 hl (by decide) rfl (fun ls hl => ?_)
  refine lv_aload_n hx hb d_O_haveBetween_65 rfl (lv_at hl 3 rfl) ?_
  refine lv_iload_n hx hb d_O_haveBetween_66 rfl (lv_at hl 4 rfl) ?_
  refine lv_iload_n hx hb d_O_haveBetween_67 rfl (lv_at hl 5 rfl) ?_
  refine lv_iload hx hb d_O_haveBetween_68 (lv_at hl 7 rfl) ?_
  refine lv_iload hx hb d_O_haveBetween_70 (lv_at hl 8 rfl) ?_
  refine z_rdV (n := 4) (C := R_O) (rest := []) ⟨hx, hb, hml, hown, hts⟩ hW0 (c_O_share G a b1 b2 b3 b4 n mx my px py i j x y (by omega) (by omega)) w_507 w_504 w_506 wp_16 w_3 (by decide +kernel) ⟨rfl, rfl, Nat.le_of_ble_eq_true rfl, Nat.le_of_ble_eq_true rfl⟩ (hO.recv hK rfl) (hB) rfl rfl hl.1 (Nat.le_of_ble_eq_true rfl) d_O_haveBetween_72 ⟨Nat.zero_le _, Nat.zero_le _⟩ ?_
  refine lv_lstore (lv' := [(12, .long (po_sh mx my i j x y)), (10, .long (po_sh mx my k i x y)), (8, .long (po_sh mx my j k x y)), (6, .long (po_sh mx my i j (mx k) (my k))), (0, .ref a), (1, .int (nI i)), (2, .int (nI j)), (3, .int (nI k)), (4, .int x), (5, .int y)]) hx hb d_O_haveBetween_75 hl (by decide) rfl (fun ls hl => ?_)
  refine lv_lload hx hb d_O_haveBetween_77 (lv_at hl 3 rfl) ?_
  refine lv_lconst (v := 0) hx hb d_O_haveBetween_79 (by decide) ?_
  refine W.lcmp hx hb d_O_haveBetween_80 ?_
  refine lv_if_le (tgt := 105) hx hb d_O_haveBetween_81 (by decide) (fun c_1 => ?_) (fun c_1 => ?_)
  · skip
    have c_1 : (po_sh mx my i j (mx k) (my k)) ≤ 0 := (lg_cmp_le _ _).mp c_1
    have c_1' : ¬ (0 < (po_sh mx my i j (mx k) (my k))) := Int64.not_lt.mpr c_1
    refine lv_lload hx hb d_O_haveBetween_105 (lv_at hl 3 rfl) ?_
    refine lv_lconst (v := 0) hx hb d_O_haveBetween_107 (by decide) ?_
    refine W.lcmp hx hb d_O_haveBetween_108 ?_
    refine lv_if_ge (tgt := 137) hx hb d_O_haveBetween_109 (by decide) (fun c_2 => ?_) (fun c_2 => ?_)
    · skip
      have c_2 : 0 ≤ (po_sh mx my i j (mx k) (my k)) := (lg_cmp_ge _ _).mp c_2
      have c_2' : ¬ ((po_sh mx my i j (mx k) (my k)) < 0) := Int64.not_lt.mpr c_2
      refine lv_iconst (v := 0) hx hb d_O_haveBetween_137 (by decide) ?_
      exact z_zret hx hb hr hlocks (by simp [pi_b, po_hb, c_1, c_1', c_2, c_2']) d_O_haveBetween_138
    · skip
      have c_2 : ¬ (0 ≤ (po_sh mx my i j (mx k) (my k))) := fun h => c_2 ((lg_cmp_ge _ _).mpr h)
      have c_2' : (po_sh mx my i j (mx k) (my k)) < 0 := Int64.not_le.mp c_2
      refine lv_lload hx hb d_O_haveBetween_112 (lv_at hl 2 rfl) ?_
      refine lv_lconst (v := 0) hx hb d_O_haveBetween_114 (by decide) ?_
      refine W.lcmp hx hb d_O_haveBetween_115 ?_
      refine lv_if_gt (tgt := 137) hx hb d_O_haveBetween_116 (by decide) (fun c_3 => ?_) (fun c_3 => ?_)
      · skip
        have c_3 : 0 < (po_sh mx my j k x y) := (lg_cmp_gt _ _).mp c_3
        have c_3' : ¬ ((po_sh mx my j k x y) ≤ 0) := Int64.not_le.mpr c_3
        refine lv_iconst (v := 0) hx hb d_O_haveBetween_137 (by decide) ?_
        exact z_zret hx hb hr hlocks (by simp [pi_b, po_hb, c_1, c_1', c_2, c_2', c_3, c_3']) d_O_haveBetween_138
      · skip
        have c_3 : ¬ (0 < (po_sh mx my j k x y)) := fun h => c_3 ((lg_cmp_gt _ _).mpr h)
        have c_3' : (po_sh mx my j k x y) ≤ 0 := Int64.not_lt.mp c_3
        refine lv_lload hx hb d_O_haveBetween_119 (lv_at hl 1 rfl) ?_
        refine lv_lconst (v := 0) hx hb d_O_haveBetween_121 (by decide) ?_
        refine W.lcmp hx hb d_O_haveBetween_122 ?_
        refine lv_if_gt (tgt := 137) hx hb d_O_haveBetween_123 (by decide) (fun c_4 => ?_) (fun c_4 => ?_)
        · skip
          have c_4 : 0 < (po_sh mx my k i x y) := (lg_cmp_gt _ _).mp c_4
          have c_4' : ¬ ((po_sh mx my k i x y) ≤ 0) := Int64.not_le.mpr c_4
          refine lv_iconst (v := 0) hx hb d_O_haveBetween_137 (by decide) ?_
          exact z_zret hx hb hr hlocks (by simp [pi_b, po_hb, c_1, c_1', c_2, c_2', c_3, c_3', c_4, c_4']) d_O_haveBetween_138
        · skip
          have c_4 : ¬ (0 < (po_sh mx my k i x y)) := fun h => c_4 ((lg_cmp_gt _ _).mpr h)
          have c_4' : (po_sh mx my k i x y) ≤ 0 := Int64.not_lt.mp c_4
          refine lv_lload hx hb d_O_haveBetween_126 (lv_at hl 0 rfl) ?_
          refine lv_lconst (v := 0) hx hb d_O_haveBetween_128 (by decide) ?_
          refine W.lcmp hx hb d_O_haveBetween_129 ?_
          refine lv_if_gt (tgt := 137) hx hb d_O_haveBetween_130 (by decide) (fun c_5 => ?_) (fun c_5 => ?_)
          · skip
            have c_5 : 0 < (po_sh mx my i j x y) := (lg_cmp_gt _ _).mp c_5
            have c_5' : ¬ ((po_sh mx my i j x y) ≤ 0) := Int64.not_le.mpr c_5
            refine lv_iconst (v := 0) hx hb d_O_haveBetween_137 (by decide) ?_
            exact z_zret hx hb hr hlocks (by simp [pi_b, po_hb, c_1, c_1', c_2, c_2', c_3, c_3', c_4, c_4', c_5, c_5']) d_O_haveBetween_138
          · skip
            have c_5 : ¬ (0 < (po_sh mx my i j x y)) := fun h => c_5 ((lg_cmp_gt _ _).mpr h)
            have c_5' : (po_sh mx my i j x y) ≤ 0 := Int64.not_lt.mp c_5
            refine lv_iconst (v := 1) hx hb d_O_haveBetween_133 (by decide) ?_
            refine lv_goto (tgt := 138) hx hb d_O_haveBetween_134 (by decide) ?_
            exact z_zret hx hb hr hlocks (by simp [pi_b, po_hb, c_1, c_1', c_2, c_2', c_3, c_3', c_4, c_4', c_5, c_5']) d_O_haveBetween_138
  · skip
    have c_1 : ¬ ((po_sh mx my i j (mx k) (my k)) ≤ 0) := fun h => c_1 ((lg_cmp_le _ _).mpr h)
    have c_1' : 0 < (po_sh mx my i j (mx k) (my k)) := Int64.not_le.mp c_1
    refine lv_lload hx hb d_O_haveBetween_84 (lv_at hl 2 rfl) ?_
    refine lv_lconst (v := 0) hx hb d_O_haveBetween_86 (by decide) ?_
    refine W.lcmp hx hb d_O_haveBetween_87 ?_
    refine lv_if_lt (tgt := 105) hx hb d_O_haveBetween_88 (by decide) (fun c_6 => ?_) (fun c_6 => ?_)
    · skip
      have c_6 : (po_sh mx my j k x y) < 0 := (lg_cmp_lt _ _).mp c_6
      have c_6' : ¬ (0 ≤ (po_sh mx my j k x y)) := Int64.not_le.mpr c_6
      refine lv_lload hx hb d_O_haveBetween_105 (lv_at hl 3 rfl) ?_
      refine lv_lconst (v := 0) hx hb d_O_haveBetween_107 (by decide) ?_
      refine W.lcmp hx hb d_O_haveBetween_108 ?_
      refine lv_if_ge (tgt := 137) hx hb d_O_haveBetween_109 (by decide) (fun c_7 => ?_) (fun c_7 => ?_)
      · skip
        have c_7 : 0 ≤ (po_sh mx my i j (mx k) (my k)) := (lg_cmp_ge _ _).mp c_7
        have c_7' : ¬ ((po_sh mx my i j (mx k) (my k)) < 0) := Int64.not_lt.mpr c_7
        refine lv_iconst (v := 0) hx hb d_O_haveBetween_137 (by decide) ?_
        exact z_zret hx hb hr hlocks (by simp [pi_b, po_hb, c_1, c_1', c_6, c_6', c_7, c_7']) d_O_haveBetween_138
      · skip
        have c_7 : ¬ (0 ≤ (po_sh mx my i j (mx k) (my k))) := fun h => c_7 ((lg_cmp_ge _ _).mpr h)
        have c_7' : (po_sh mx my i j (mx k) (my k)) < 0 := Int64.not_le.mp c_7
        refine lv_lload hx hb d_O_haveBetween_112 (lv_at hl 2 rfl) ?_
        refine lv_lconst (v := 0) hx hb d_O_haveBetween_114 (by decide) ?_
        refine W.lcmp hx hb d_O_haveBetween_115 ?_
        refine lv_if_gt (tgt := 137) hx hb d_O_haveBetween_116 (by decide) (fun c_8 => ?_) (fun c_8 => ?_)
        · skip
          have c_8 : 0 < (po_sh mx my j k x y) := (lg_cmp_gt _ _).mp c_8
          have c_8' : ¬ ((po_sh mx my j k x y) ≤ 0) := Int64.not_le.mpr c_8
          refine lv_iconst (v := 0) hx hb d_O_haveBetween_137 (by decide) ?_
          exact z_zret hx hb hr hlocks (by simp [pi_b, po_hb, c_1, c_1', c_6, c_6', c_7, c_7', c_8, c_8']) d_O_haveBetween_138
        · skip
          have c_8 : ¬ (0 < (po_sh mx my j k x y)) := fun h => c_8 ((lg_cmp_gt _ _).mpr h)
          have c_8' : (po_sh mx my j k x y) ≤ 0 := Int64.not_lt.mp c_8
          refine lv_lload hx hb d_O_haveBetween_119 (lv_at hl 1 rfl) ?_
          refine lv_lconst (v := 0) hx hb d_O_haveBetween_121 (by decide) ?_
          refine W.lcmp hx hb d_O_haveBetween_122 ?_
          refine lv_if_gt (tgt := 137) hx hb d_O_haveBetween_123 (by decide) (fun c_9 => ?_) (fun c_9 => ?_)
          · skip
            have c_9 : 0 < (po_sh mx my k i x y) := (lg_cmp_gt _ _).mp c_9
            have c_9' : ¬ ((po_sh mx my k i x y) ≤ 0) := Int64.not_le.mpr c_9
            refine lv_iconst (v := 0) hx hb d_O_haveBetween_137 (by decide) ?_
            exact z_zret hx hb hr hlocks (by simp [pi_b, po_hb, c_1, c_1', c_6, c_6', c_7, c_7', c_8, c_8', c_9, c_9']) d_O_haveBetween_138
          · skip
            have c_9 : ¬ (0 < (po_sh mx my k i x y)) := fun h => c_9 ((lg_cmp_gt _ _).mpr h)
            have c_9' : (po_sh mx my k i x y) ≤ 0 := Int64.not_lt.mp c_9
            refine lv_lload hx hb d_O_haveBetween_126 (lv_at hl 0 rfl) ?_
            refine lv_lconst (v := 0) hx hb d_O_haveBetween_128 (by decide) ?_
            refine W.lcmp hx hb d_O_haveBetween_129 ?_
            refine lv_if_gt (tgt := 137) hx hb d_O_haveBetween_130 (by decide) (fun c_10 => ?_) (fun c_10 => ?_)
            · skip
              have c_10 : 0 < (po_sh mx my i j x y) := (lg_cmp_gt _ _).mp c_10
              have c_10' : ¬ ((po_sh mx my i j x y) ≤ 0) := Int64.not_le.mpr c_10
              refine lv_iconst (v := 0) hx hb d_O_haveBetween_137 (by decide) ?_
              exact z_zret hx hb hr hlocks (by simp [pi_b, po_hb, c_1, c_1', c_6, c_6', c_7, c_7', c_8, c_8', c_9, c_9', c_10, c_10']) d_O_haveBetween_138
            · skip
              have c_10 : ¬ (0 < (po_sh mx my i j x y)) := fun h => c_10 ((lg_cmp_gt _ _).mpr h)
              have c_10' : (po_sh mx my i j x y) ≤ 0 := Int64.not_lt.mp c_10
              refine lv_iconst (v := 1) hx hb d_O_haveBetween_133 (by decide) ?_
              refine lv_goto (tgt := 138) hx hb d_O_haveBetween_134 (by decide) ?_
              exact z_zret hx hb hr hlocks (by simp [pi_b, po_hb, c_1, c_1', c_6, c_6', c_7, c_7', c_8, c_8', c_9, c_9', c_10, c_10']) d_O_haveBetween_138
    · skip
      have c_6 : ¬ ((po_sh mx my j k x y) < 0) := fun h => c_6 ((lg_cmp_lt _ _).mpr h)
      have c_6' : 0 ≤ (po_sh mx my j k x y) := Int64.not_lt.mp c_6
      refine lv_lload hx hb d_O_haveBetween_91 (lv_at hl 1 rfl) ?_
      refine lv_lconst (v := 0) hx hb d_O_haveBetween_93 (by decide) ?_
      refine W.lcmp hx hb d_O_haveBetween_94 ?_
      refine lv_if_lt (tgt := 105) hx hb d_O_haveBetween_95 (by decide) (fun c_11 => ?_) (fun c_11 => ?_)
      · skip
        have c_11 : (po_sh mx my k i x y) < 0 := (lg_cmp_lt _ _).mp c_11
        have c_11' : ¬ (0 ≤ (po_sh mx my k i x y)) := Int64.not_le.mpr c_11
        refine lv_lload hx hb d_O_haveBetween_105 (lv_at hl 3 rfl) ?_
        refine lv_lconst (v := 0) hx hb d_O_haveBetween_107 (by decide) ?_
        refine W.lcmp hx hb d_O_haveBetween_108 ?_
        refine lv_if_ge (tgt := 137) hx hb d_O_haveBetween_109 (by decide) (fun c_12 => ?_) (fun c_12 => ?_)
        · skip
          have c_12 : 0 ≤ (po_sh mx my i j (mx k) (my k)) := (lg_cmp_ge _ _).mp c_12
          have c_12' : ¬ ((po_sh mx my i j (mx k) (my k)) < 0) := Int64.not_lt.mpr c_12
          refine lv_iconst (v := 0) hx hb d_O_haveBetween_137 (by decide) ?_
          exact z_zret hx hb hr hlocks (by simp [pi_b, po_hb, c_1, c_1', c_6, c_6', c_11, c_11', c_12, c_12']) d_O_haveBetween_138
        · skip
          have c_12 : ¬ (0 ≤ (po_sh mx my i j (mx k) (my k))) := fun h => c_12 ((lg_cmp_ge _ _).mpr h)
          have c_12' : (po_sh mx my i j (mx k) (my k)) < 0 := Int64.not_le.mp c_12
          refine lv_lload hx hb d_O_haveBetween_112 (lv_at hl 2 rfl) ?_
          refine lv_lconst (v := 0) hx hb d_O_haveBetween_114 (by decide) ?_
          refine W.lcmp hx hb d_O_haveBetween_115 ?_
          refine lv_if_gt (tgt := 137) hx hb d_O_haveBetween_116 (by decide) (fun c_13 => ?_) (fun c_13 => ?_)
          · skip
            have c_13 : 0 < (po_sh mx my j k x y) := (lg_cmp_gt _ _).mp c_13
            have c_13' : ¬ ((po_sh mx my j k x y) ≤ 0) := Int64.not_le.mpr c_13
            refine lv_iconst (v := 0) hx hb d_O_haveBetween_137 (by decide) ?_
            exact z_zret hx hb hr hlocks (by simp [pi_b, po_hb, c_1, c_1', c_6, c_6', c_11, c_11', c_12, c_12', c_13, c_13']) d_O_haveBetween_138
          · skip
            have c_13 : ¬ (0 < (po_sh mx my j k x y)) := fun h => c_13 ((lg_cmp_gt _ _).mpr h)
            have c_13' : (po_sh mx my j k x y) ≤ 0 := Int64.not_lt.mp c_13
            refine lv_lload hx hb d_O_haveBetween_119 (lv_at hl 1 rfl) ?_
            refine lv_lconst (v := 0) hx hb d_O_haveBetween_121 (by decide) ?_
            refine W.lcmp hx hb d_O_haveBetween_122 ?_
            refine lv_if_gt (tgt := 137) hx hb d_O_haveBetween_123 (by decide) (fun c_14 => ?_) (fun c_14 => ?_)
            · skip
              have c_14 : 0 < (po_sh mx my k i x y) := (lg_cmp_gt _ _).mp c_14
              have c_14' : ¬ ((po_sh mx my k i x y) ≤ 0) := Int64.not_le.mpr c_14
              refine lv_iconst (v := 0) hx hb d_O_haveBetween_137 (by decide) ?_
              exact z_zret hx hb hr hlocks (by simp [pi_b, po_hb, c_1, c_1', c_6, c_6', c_11, c_11', c_12, c_12', c_13, c_13', c_14, c_14']) d_O_haveBetween_138
            · skip
              have c_14 : ¬ (0 < (po_sh mx my k i x y)) := fun h => c_14 ((lg_cmp_gt _ _).mpr h)
              have c_14' : (po_sh mx my k i x y) ≤ 0 := Int64.not_lt.mp c_14
              refine lv_lload hx hb d_O_haveBetween_126 (lv_at hl 0 rfl) ?_
              refine lv_lconst (v := 0) hx hb d_O_haveBetween_128 (by decide) ?_
              refine W.lcmp hx hb d_O_haveBetween_129 ?_
              refine lv_if_gt (tgt := 137) hx hb d_O_haveBetween_130 (by decide) (fun c_15 => ?_) (fun c_15 => ?_)
              · skip
                have c_15 : 0 < (po_sh mx my i j x y) := (lg_cmp_gt _ _).mp c_15
                have c_15' : ¬ ((po_sh mx my i j x y) ≤ 0) := Int64.not_le.mpr c_15
                refine lv_iconst (v := 0) hx hb d_O_haveBetween_137 (by decide) ?_
                exact z_zret hx hb hr hlocks (by simp [pi_b, po_hb, c_1, c_1', c_6, c_6', c_11, c_11', c_12, c_12', c_13, c_13', c_14, c_14', c_15, c_15']) d_O_haveBetween_138
              · skip
                have c_15 : ¬ (0 < (po_sh mx my i j x y)) := fun h => c_15 ((lg_cmp_gt _ _).mpr h)
                have c_15' : (po_sh mx my i j x y) ≤ 0 := Int64.not_lt.mp c_15
                refine lv_iconst (v := 1) hx hb d_O_haveBetween_133 (by decide) ?_
                refine lv_goto (tgt := 138) hx hb d_O_haveBetween_134 (by decide) ?_
                exact z_zret hx hb hr hlocks (by simp [pi_b, po_hb, c_1, c_1', c_6, c_6', c_11, c_11', c_12, c_12', c_13, c_13', c_14, c_14', c_15, c_15']) d_O_haveBetween_138
      · skip
        have c_11 : ¬ ((po_sh mx my k i x y) < 0) := fun h => c_11 ((lg_cmp_lt _ _).mpr h)
        have c_11' : 0 ≤ (po_sh mx my k i x y) := Int64.not_lt.mp c_11
        refine lv_lload hx hb d_O_haveBetween_98 (lv_at hl 0 rfl) ?_
        refine lv_lconst (v := 0) hx hb d_O_haveBetween_100 (by decide) ?_
        refine W.lcmp hx hb d_O_haveBetween_101 ?_
        refine lv_if_ge (tgt := 133) hx hb d_O_haveBetween_102 (by decide) (fun c_16 => ?_) (fun c_16 => ?_)
        · skip
          have c_16 : 0 ≤ (po_sh mx my i j x y) := (lg_cmp_ge _ _).mp c_16
          have c_16' : ¬ ((po_sh mx my i j x y) < 0) := Int64.not_lt.mpr c_16
          refine lv_iconst (v := 1) hx hb d_O_haveBetween_133 (by decide) ?_
          refine lv_goto (tgt := 138) hx hb d_O_haveBetween_134 (by decide) ?_
          exact z_zret hx hb hr hlocks (by simp [pi_b, po_hb, c_1, c_1', c_6, c_6', c_11, c_11', c_16, c_16']) d_O_haveBetween_138
        · skip
          have c_16 : ¬ (0 ≤ (po_sh mx my i j x y)) := fun h => c_16 ((lg_cmp_ge _ _).mpr h)
          have c_16' : (po_sh mx my i j x y) < 0 := Int64.not_le.mp c_16
          refine lv_lload hx hb d_O_haveBetween_105 (lv_at hl 3 rfl) ?_
          refine lv_lconst (v := 0) hx hb d_O_haveBetween_107 (by decide) ?_
          refine W.lcmp hx hb d_O_haveBetween_108 ?_
          refine lv_if_ge (tgt := 137) hx hb d_O_haveBetween_109 (by decide) (fun c_17 => ?_) (fun c_17 => ?_)
          · skip
            have c_17 : 0 ≤ (po_sh mx my i j (mx k) (my k)) := (lg_cmp_ge _ _).mp c_17
            have c_17' : ¬ ((po_sh mx my i j (mx k) (my k)) < 0) := Int64.not_lt.mpr c_17
            refine lv_iconst (v := 0) hx hb d_O_haveBetween_137 (by decide) ?_
            exact z_zret hx hb hr hlocks (by simp [pi_b, po_hb, c_1, c_1', c_6, c_6', c_11, c_11', c_16, c_16', c_17, c_17']) d_O_haveBetween_138
          · skip
            have c_17 : ¬ (0 ≤ (po_sh mx my i j (mx k) (my k))) := fun h => c_17 ((lg_cmp_ge _ _).mpr h)
            have c_17' : (po_sh mx my i j (mx k) (my k)) < 0 := Int64.not_le.mp c_17
            refine lv_lload hx hb d_O_haveBetween_112 (lv_at hl 2 rfl) ?_
            refine lv_lconst (v := 0) hx hb d_O_haveBetween_114 (by decide) ?_
            refine W.lcmp hx hb d_O_haveBetween_115 ?_
            refine lv_if_gt (tgt := 137) hx hb d_O_haveBetween_116 (by decide) (fun c_18 => ?_) (fun c_18 => ?_)
            · skip
              have c_18 : 0 < (po_sh mx my j k x y) := (lg_cmp_gt _ _).mp c_18
              have c_18' : ¬ ((po_sh mx my j k x y) ≤ 0) := Int64.not_le.mpr c_18
              refine lv_iconst (v := 0) hx hb d_O_haveBetween_137 (by decide) ?_
              exact z_zret hx hb hr hlocks (by simp [pi_b, po_hb, c_1, c_1', c_6, c_6', c_11, c_11', c_16, c_16', c_17, c_17', c_18, c_18']) d_O_haveBetween_138
            · skip
              have c_18 : ¬ (0 < (po_sh mx my j k x y)) := fun h => c_18 ((lg_cmp_gt _ _).mpr h)
              have c_18' : (po_sh mx my j k x y) ≤ 0 := Int64.not_lt.mp c_18
              refine lv_lload hx hb d_O_haveBetween_119 (lv_at hl 1 rfl) ?_
              refine lv_lconst (v := 0) hx hb d_O_haveBetween_121 (by decide) ?_
              refine W.lcmp hx hb d_O_haveBetween_122 ?_
              refine lv_if_gt (tgt := 137) hx hb d_O_haveBetween_123 (by decide) (fun c_19 => ?_) (fun c_19 => ?_)
              · skip
                have c_19 : 0 < (po_sh mx my k i x y) := (lg_cmp_gt _ _).mp c_19
                have c_19' : ¬ ((po_sh mx my k i x y) ≤ 0) := Int64.not_le.mpr c_19
                refine lv_iconst (v := 0) hx hb d_O_haveBetween_137 (by decide) ?_
                exact z_zret hx hb hr hlocks (by simp [pi_b, po_hb, c_1, c_1', c_6, c_6', c_11, c_11', c_16, c_16', c_17, c_17', c_18, c_18', c_19, c_19']) d_O_haveBetween_138
              · skip
                have c_19 : ¬ (0 < (po_sh mx my k i x y)) := fun h => c_19 ((lg_cmp_gt _ _).mpr h)
                have c_19' : (po_sh mx my k i x y) ≤ 0 := Int64.not_lt.mp c_19
                refine lv_lload hx hb d_O_haveBetween_126 (lv_at hl 0 rfl) ?_
                refine lv_lconst (v := 0) hx hb d_O_haveBetween_128 (by decide) ?_
                refine W.lcmp hx hb d_O_haveBetween_129 ?_
                refine lv_if_gt (tgt := 137) hx hb d_O_haveBetween_130 (by decide) (fun c_20 => ?_) (fun c_20 => ?_)
                · skip
                  have c_20 : 0 < (po_sh mx my i j x y) := (lg_cmp_gt _ _).mp c_20
                  have c_20' : ¬ ((po_sh mx my i j x y) ≤ 0) := Int64.not_le.mpr c_20
                  refine lv_iconst (v := 0) hx hb d_O_haveBetween_137 (by decide) ?_
                  exact z_zret hx hb hr hlocks (by simp [pi_b, po_hb, c_1, c_1', c_6, c_6', c_11, c_11', c_16, c_16', c_17, c_17', c_18, c_18', c_19, c_19', c_20, c_20']) d_O_haveBetween_138
                · skip
                  have c_20 : ¬ (0 < (po_sh mx my i j x y)) := fun h => c_20 ((lg_cmp_gt _ _).mpr h)
                  have c_20' : (po_sh mx my i j x y) ≤ 0 := Int64.not_lt.mp c_20
                  refine lv_iconst (v := 1) hx hb d_O_haveBetween_133 (by decide) ?_
                  refine lv_goto (tgt := 138) hx hb d_O_haveBetween_134 (by decide) ?_
                  exact z_zret hx hb hr hlocks (by simp [pi_b, po_hb, c_1, c_1', c_6, c_6', c_11, c_11', c_16, c_16', c_17, c_17', c_18, c_18', c_19, c_19', c_20, c_20']) d_O_haveBetween_138
set_option maxRecDepth 100000 in
set_option maxHeartbeats 4000000 in
theorem c_O_roundedQuotient (G : z_G s0 (dC, dI) cI cS) (p1 w1 : Int64) (hq : ¬ w1 = 0 → ¬ 2 * (if 0 < w1 then w1 else -w1) = 0) : Met l y_O_roundedQuotient [Cond.code y_O_roundedQuotient b_O_roundedQuotient 8 (some .int)] ({ frames := 1, cells := 0, slots := 0, locals := 25 }) (z_Pc s0 [.long p1, .long w1] (fun H => True)) (z_Qr (some (.int (po_rq p1 w1)))) 0 0 z_no := by
  refine z_ofW (by decide +kernel) (Nat.le_of_ble_eq_true rfl) ?_
  intro p e s m below meth c hx hb hml hr hown hlocks hnm hW0 hB ls hl
  have hts := z_hts (args := [.long p1, .long w1].toArray) G.1 hW0
  have hN := z_nstW G.2.1 hW0
  have hK := va_K.moved hW0.alike G.2.2.1
  have hAI := arrOfT_moved hW0.alike G.2.2.2.1
  have hl : lv_has ls 8 [(0, .long p1), (2, .long w1)] := hl
  refine lv_lload_n hx hb d_O_roundedQuotient_0 rfl (lv_at hl 1 rfl) ?_
  refine lv_lconst (v := 0) hx hb d_O_roundedQuotient_1 (by decide) ?_
  refine W.lcmp hx hb d_O_roundedQuotient_2 ?_
  refine lv_if_ne (tgt := 8) hx hb d_O_roundedQuotient_3 (by decide) (fun c_1 => ?_) (fun c_1 => ?_)
  · skip
    have c_1 : ¬ (w1 = 0) := fun h => c_1 ((lg_cmp_eq _ _).mpr h)
    refine lv_lload_n hx hb d_O_roundedQuotient_8 rfl (lv_at hl 1 rfl) ?_
    refine lv_lconst (v := 0) hx hb d_O_roundedQuotient_9 (by decide) ?_
    refine W.lcmp hx hb d_O_roundedQuotient_10 ?_
    refine lv_if_le (tgt := 18) hx hb d_O_roundedQuotient_11 (by decide) (fun c_2 => ?_) (fun c_2 => ?_)
    · skip
      have c_2 : w1 ≤ 0 := (lg_cmp_le _ _).mp c_2
      have c_2' : ¬ (0 < w1) := Int64.not_lt.mpr c_2
      refine lv_lload_n hx hb d_O_roundedQuotient_18 rfl (lv_at hl 0 rfl) ?_
      refine lv_lneg hx hb d_O_roundedQuotient_19 ?_
      refine lv_lstore (lv' := [(4, .long (-p1)), (0, .long p1), (2, .long w1)]) hx hb d_O_roundedQuotient_20 hl (by decide) rfl (fun ls hl => ?_)
      refine lv_lload_n hx hb d_O_roundedQuotient_22 rfl (lv_at hl 2 rfl) ?_
      refine va_mabs_long hx hb (hml.trans hl.1.symm) hown (hts _ w_515) (hts _ w_406) (hts _ w_12) (hts _ w_407) (Nat.le_of_ble_eq_true rfl) (Nat.le_of_ble_eq_true rfl) (Nat.zero_le _) (Nat.zero_le _) d_O_roundedQuotient_23 ?_
      refine lv_lstore (lv' := [(6, .long (if 0 < w1 then w1 else -w1)), (4, .long (-p1)), (0, .long p1), (2, .long w1)]) hx hb d_O_roundedQuotient_26 hl (by decide) rfl (fun ls hl => ?_)
      refine lv_ldc2 hx hb hown (hts _ w_516) d_O_roundedQuotient_28 ?_
      refine lv_lload hx hb d_O_roundedQuotient_31 (lv_at hl 1 rfl) ?_
      refine lv_lmul hx hb d_O_roundedQuotient_33 ?_
      refine lv_lload hx hb d_O_roundedQuotient_34 (lv_at hl 0 rfl) ?_
      refine lv_ladd hx hb d_O_roundedQuotient_36 ?_
      refine lv_ldc2 hx hb hown (hts _ w_516) d_O_roundedQuotient_37 ?_
      refine lv_lload hx hb d_O_roundedQuotient_40 (lv_at hl 0 rfl) ?_
      refine lv_lmul hx hb d_O_roundedQuotient_42 ?_
      refine z_rdS (n := 2) (rest := []) ⟨hx, hb, hml, hown, hts⟩ hW0 (c_J_floorDiv_JJ G ((2 * (-p1)) + (if 0 < w1 then w1 else -w1)) (2 * (if 0 < w1 then w1 else -w1)) (hq c_1)) w_519 w_517 w_518 w_12 (by decide +kernel) ⟨rfl, rfl, Nat.le_of_ble_eq_true rfl, Nat.le_of_ble_eq_true rfl⟩ (trivial) rfl rfl hl.1 (Nat.le_of_ble_eq_true rfl) d_O_roundedQuotient_43 ⟨Nat.zero_le _, Nat.zero_le _⟩ ?_
      refine lv_l2i hx hb d_O_roundedQuotient_46 rfl ?_
      exact z_iret hx hb hr hlocks (by simp [po_rq, pl_abs, c_1, c_2, c_2']) d_O_roundedQuotient_47
    · skip
      have c_2 : ¬ (w1 ≤ 0) := fun h => c_2 ((lg_cmp_le _ _).mpr h)
      have c_2' : 0 < w1 := Int64.not_le.mp c_2
      refine lv_lload_n hx hb d_O_roundedQuotient_14 rfl (lv_at hl 0 rfl) ?_
      refine lv_goto (tgt := 20) hx hb d_O_roundedQuotient_15 (by decide) ?_
      refine lv_lstore (lv' := [(4, .long p1), (0, .long p1), (2, .long w1)]) hx hb d_O_roundedQuotient_20 hl (by decide) rfl (fun ls hl => ?_)
      refine lv_lload_n hx hb d_O_roundedQuotient_22 rfl (lv_at hl 2 rfl) ?_
      refine va_mabs_long hx hb (hml.trans hl.1.symm) hown (hts _ w_515) (hts _ w_406) (hts _ w_12) (hts _ w_407) (Nat.le_of_ble_eq_true rfl) (Nat.le_of_ble_eq_true rfl) (Nat.zero_le _) (Nat.zero_le _) d_O_roundedQuotient_23 ?_
      refine lv_lstore (lv' := [(6, .long (if 0 < w1 then w1 else -w1)), (4, .long p1), (0, .long p1), (2, .long w1)]) hx hb d_O_roundedQuotient_26 hl (by decide) rfl (fun ls hl => ?_)
      refine lv_ldc2 hx hb hown (hts _ w_516) d_O_roundedQuotient_28 ?_
      refine lv_lload hx hb d_O_roundedQuotient_31 (lv_at hl 1 rfl) ?_
      refine lv_lmul hx hb d_O_roundedQuotient_33 ?_
      refine lv_lload hx hb d_O_roundedQuotient_34 (lv_at hl 0 rfl) ?_
      refine lv_ladd hx hb d_O_roundedQuotient_36 ?_
      refine lv_ldc2 hx hb hown (hts _ w_516) d_O_roundedQuotient_37 ?_
      refine lv_lload hx hb d_O_roundedQuotient_40 (lv_at hl 0 rfl) ?_
      refine lv_lmul hx hb d_O_roundedQuotient_42 ?_
      refine z_rdS (n := 2) (rest := []) ⟨hx, hb, hml, hown, hts⟩ hW0 (c_J_floorDiv_JJ G ((2 * p1) + (if 0 < w1 then w1 else -w1)) (2 * (if 0 < w1 then w1 else -w1)) (hq c_1)) w_519 w_517 w_518 w_12 (by decide +kernel) ⟨rfl, rfl, Nat.le_of_ble_eq_true rfl, Nat.le_of_ble_eq_true rfl⟩ (trivial) rfl rfl hl.1 (Nat.le_of_ble_eq_true rfl) d_O_roundedQuotient_43 ⟨Nat.zero_le _, Nat.zero_le _⟩ ?_
      refine lv_l2i hx hb d_O_roundedQuotient_46 rfl ?_
      exact z_iret hx hb hr hlocks (by simp [po_rq, pl_abs, c_1, c_2, c_2']) d_O_roundedQuotient_47
  · skip
    have c_1 : w1 = 0 := (lg_cmp_eq _ _).mp c_1
    refine lv_iconst (v := 0) hx hb d_O_roundedQuotient_6 (by decide) ?_
    exact z_iret hx hb hr hlocks (by simp [po_rq, pl_abs, c_1]) d_O_roundedQuotient_7
set_option maxRecDepth 100000 in
set_option maxHeartbeats 4000000 in
theorem c_O_valueBetween (G : z_G s0 (dC, dI) cI cS) (a b1 b2 b3 b4 n : Nat) (mx my px py : Nat → Int32) (bv : Nat) (vs : Nat → Int32) (i j k : Nat) (x y : Int32) (hi : i < 12) (hj : j < 12) (hk : k < 12) (hq : ¬ po_sh mx my j k x y + po_sh mx my k i x y + po_sh mx my i j x y = 0 → ¬ 2 * (if 0 < po_sh mx my j k x y + po_sh mx my k i x y + po_sh mx my i j x y then po_sh mx my j k x y + po_sh mx my k i x y + po_sh mx my i j x y else -(po_sh mx my j k x y + po_sh mx my k i x y + po_sh mx my i j x y)) = 0) : Met l y_O_valueBetween [Cond.code y_O_valueBetween b_O_valueBetween 13 (some .int)] ({ frames := 2, cells := 0, slots := 0, locals := 52 }) (z_Pc s0 [.ref a, .int (nI i), .int (nI j), .int (nI k), .int x, .int y, .ref bv] (fun H => z_Om (dC, dI) cI H a b1 b2 b3 b4 n mx my px py ∧ z_A cI H bv 12 vs)) (z_Qr (some (.int (po_val mx my vs i j k x y)))) 0 0 z_no := by
  refine z_ofW (by decide +kernel) (Nat.le_of_ble_eq_true rfl) ?_
  intro p e s m below meth c hx hb hml hr hown hlocks hnm hW0 hB ls hl
  have hts := z_hts (args := [.ref a, .int (nI i), .int (nI j), .int (nI k), .int x, .int y, .ref bv].toArray) G.1 hW0
  have hN := z_nstW G.2.1 hW0
  have hK := va_K.moved hW0.alike G.2.2.1
  have hAI := arrOfT_moved hW0.alike G.2.2.2.1
  have hl : lv_has ls 13 [(0, .ref a), (1, .int (nI i)), (2, .int (nI j)), (3, .int (nI k)), (4, .int x), (5, .int y), (6, .ref bv)] := hl
  obtain ⟨⟨hO, hA1, hA2, hA3, hA4⟩, hV⟩ := id hB
  refine lv_aload_n hx hb d_O_valueBetween_0 rfl (lv_at hl 0 rfl) ?_
  refine lv_iload_n hx hb d_O_valueBetween_1 rfl (lv_at hl 2 rfl) ?_
  refine lv_iload_n hx hb d_O_valueBetween_2 rfl (lv_at hl 3 rfl) ?_
  refine lv_iload hx hb d_O_valueBetween_3 (lv_at hl 4 rfl) ?_
  refine lv_iload hx hb d_O_valueBetween_5 (lv_at hl 5 rfl) ?_
  refine z_rdV (n := 4) (C := R_O) (rest := []) ⟨hx, hb, hml, hown, hts⟩ hW0 (c_O_share G a b1 b2 b3 b4 n mx my px py j k x y (by omega) (by omega)) w_507 w_504 w_506 wp_16 w_3 (by decide +kernel) ⟨rfl, rfl, Nat.le_of_ble_eq_true rfl, Nat.le_of_ble_eq_true rfl⟩ (hO.recv hK rfl) (hB.1) rfl rfl hl.1 (Nat.le_of_ble_eq_true rfl) d_O_valueBetween_7 ⟨Nat.zero_le _, Nat.zero_le _⟩ ?_
  refine lv_lstore (lv' := [(7, .long (po_sh mx my j k x y)), (0, .ref a), (1, .int (nI i)), (2, .int (nI j)), (3, .int (nI k)), (4, .int x), (5, .int y), (6, .ref bv)]) hx hb d_O_valueBetween_10 hl (by decide) rfl (fun ls hl => ?_)
  refine lv_aload_n hx hb d_O_valueBetween_12 rfl (lv_at hl 1 rfl) ?_
  refine lv_iload_n hx hb d_O_valueBetween_13 rfl (lv_at hl 4 rfl) ?_
  refine lv_iload_n hx hb d_O_valueBetween_14 rfl (lv_at hl 2 rfl) ?_
  refine lv_iload hx hb d_O_valueBetween_15 (lv_at hl 5 rfl) ?_
  refine lv_iload hx hb d_O_valueBetween_17 (lv_at hl 6 rfl) ?_
  refine z_rdV (n := 4) (C := R_O) (rest := []) ⟨hx, hb, hml, hown, hts⟩ hW0 (c_O_share G a b1 b2 b3 b4 n mx my px py k i x y (by omega) (by omega)) w_507 w_504 w_506 wp_16 w_3 (by decide +kernel) ⟨rfl, rfl, Nat.le_of_ble_eq_true rfl, Nat.le_of_ble_eq_true rfl⟩ (hO.recv hK rfl) (hB.1) rfl rfl hl.1 (Nat.le_of_ble_eq_true rfl) d_O_valueBetween_19 ⟨Nat.zero_le _, Nat.zero_le _⟩ ?_
  refine lv_lstore (lv' := [(9, .long (po_sh mx my k i x y)), (7, .long (po_sh mx my j k x y)), (0, .ref a), (1, .int (nI i)), (2, .int (nI j)), (3, .int (nI k)), (4, .int x), (5, .int y), (6, .ref bv)]) hx hb d_O_valueBetween_22 hl (by decide) rfl (fun ls hl => ?_)
  refine lv_aload_n hx hb d_O_valueBetween_24 rfl (lv_at hl 2 rfl) ?_
  refine lv_iload_n hx hb d_O_valueBetween_25 rfl (lv_at hl 3 rfl) ?_
  refine lv_iload_n hx hb d_O_valueBetween_26 rfl (lv_at hl 4 rfl) ?_
  refine lv_iload hx hb d_O_valueBetween_27 (lv_at hl 6 rfl) ?_
  refine lv_iload hx hb d_O_valueBetween_29 (lv_at hl 7 rfl) ?_
  refine z_rdV (n := 4) (C := R_O) (rest := []) ⟨hx, hb, hml, hown, hts⟩ hW0 (c_O_share G a b1 b2 b3 b4 n mx my px py i j x y (by omega) (by omega)) w_507 w_504 w_506 wp_16 w_3 (by decide +kernel) ⟨rfl, rfl, Nat.le_of_ble_eq_true rfl, Nat.le_of_ble_eq_true rfl⟩ (hO.recv hK rfl) (hB.1) rfl rfl hl.1 (Nat.le_of_ble_eq_true rfl) d_O_valueBetween_31 ⟨Nat.zero_le _, Nat.zero_le _⟩ ?_
  refine lv_lstore (lv' := [(11, .long (po_sh mx my i j x y)), (9, .long (po_sh mx my k i x y)), (7, .long (po_sh mx my j k x y)), (0, .ref a), (1, .int (nI i)), (2, .int (nI j)), (3, .int (nI k)), (4, .int x), (5, .int y), (6, .ref bv)]) hx hb d_O_valueBetween_34 hl (by decide) rfl (fun ls hl => ?_)
  refine lv_lload hx hb d_O_valueBetween_36 (lv_at hl 2 rfl) ?_
  refine lv_aload hx hb d_O_valueBetween_38 (lv_at hl 9 rfl) ?_
  refine lv_iload_n hx hb d_O_valueBetween_40 rfl (lv_at hl 4 rfl) ?_
  refine z_iald hx hb hAI hV (by omega) (by decide) d_O_valueBetween_41 ?_
  refine lv_i2l hx hb d_O_valueBetween_42 rfl ?_
  refine lv_lmul hx hb d_O_valueBetween_43 ?_
  refine lv_lload hx hb d_O_valueBetween_44 (lv_at hl 1 rfl) ?_
  refine lv_aload hx hb d_O_valueBetween_46 (lv_at hl 9 rfl) ?_
  refine lv_iload_n hx hb d_O_valueBetween_48 rfl (lv_at hl 5 rfl) ?_
  refine z_iald hx hb hAI hV (by omega) (by decide) d_O_valueBetween_49 ?_
  refine lv_i2l hx hb d_O_valueBetween_50 rfl ?_
  refine lv_lmul hx hb d_O_valueBetween_51 ?_
  refine lv_ladd hx hb d_O_valueBetween_52 ?_
  refine lv_lload hx hb d_O_valueBetween_53 (lv_at hl 0 rfl) ?_
  refine lv_aload hx hb d_O_valueBetween_55 (lv_at hl 9 rfl) ?_
  refine lv_iload_n hx hb d_O_valueBetween_57 rfl (lv_at hl 6 rfl) ?_
  refine z_iald hx hb hAI hV (by omega) (by decide) d_O_valueBetween_58 ?_
  refine lv_i2l hx hb d_O_valueBetween_59 rfl ?_
  refine lv_lmul hx hb d_O_valueBetween_60 ?_
  refine lv_ladd hx hb d_O_valueBetween_61 ?_
  refine lv_lload hx hb d_O_valueBetween_62 (lv_at hl 2 rfl) ?_
  refine lv_lload hx hb d_O_valueBetween_64 (lv_at hl 1 rfl) ?_
  refine lv_ladd hx hb d_O_valueBetween_66 ?_
  refine lv_lload hx hb d_O_valueBetween_67 (lv_at hl 0 rfl) ?_
  refine lv_ladd hx hb d_O_valueBetween_69 ?_
  refine z_rdS (n := 2) (rest := []) ⟨hx, hb, hml, hown, hts⟩ hW0 (c_O_roundedQuotient G ((((po_sh mx my j k x y) * ((vs i).toInt64)) + ((po_sh mx my k i x y) * ((vs j).toInt64))) + ((po_sh mx my i j x y) * ((vs k).toInt64))) (((po_sh mx my j k x y) + (po_sh mx my k i x y)) + (po_sh mx my i j x y)) hq) w_514 w_512 w_513 w_3 (by decide +kernel) ⟨rfl, rfl, Nat.le_of_ble_eq_true rfl, Nat.le_of_ble_eq_true rfl⟩ (trivial) rfl rfl hl.1 (Nat.le_of_ble_eq_true rfl) d_O_valueBetween_70 ⟨Nat.zero_le _, Nat.zero_le _⟩ ?_
  exact z_iret hx hb hr hlocks (by rfl) d_O_valueBetween_73
end S3
end
section
/-! A NEW EXCEPTION IS THROWN (own text): its words, moved from s0 to any later state; the five instructions in one row -/
/-- nothing of s0's heap has been written -/
def z_Old (s0 : State) (H : Heap) : Prop := s0.heap.size ≤ H.size ∧ ∀ q : Nat, q < s0.heap.size → H[q]? = s0.heap[q]?
theorem z_Old.rf {s0 : State} : z_Old s0 s0.heap := ⟨Nat.le_refl _, fun _ _ => rfl⟩
theorem xt_ref {s0 s : State} {args : Array Value} {C n d : String} (hW : s0.WarmedH s.vm) (hO : z_Old s0 s.heap) (hl : (Cond.laysStatic C n d).before #[] s0 = true) (hini : (Cond.initialized C).before #[] s0 = true) (h : (Cond.isRef (.static C n d)).before #[] s0 = true) : (Cond.isRef (.static C n d)).before args s = true := by
  have z := va_Zqof (A := fun q => s0.heap.size ≤ q) hl hini h (fun a ha => Nat.not_le.mpr ha)
  have z2 := va_Zq.moved hW.alike (z.kept (H1 := s.heap) (fun a ha _ => hO.2 a ha))
  have key : ∀ v : Value, v.isRef = true → va_Z C n d v (fun q => s0.heap.size ≤ q) s s.heap → (Cond.isRef (.static C n d)).before args s = true := by
    intro v hv hz
    obtain ⟨cf, kf, fi, f, a, cell, h1, h2, h3, h4, h5, h6, h7, -⟩ := hz
    have he : (Term.static C n d).eval args s none [] s = some v := by
      simp [Term.eval, State.fieldNamed?, h1, h2, h4, h5, h6, h7]
    simp only [Cond.before, Cond.holds, Cond.value, he]
    cases v <;> simp_all [Value.isRef]
  rcases z2 with h | ⟨t, h⟩
  · exact key _ rfl h
  · exact key _ rfl h
theorem xt_lays {s0 s : State} {args : Array Value} {C n d : String} (hW : s0.WarmedH s.vm) (hO : z_Old s0 s.heap) (hl : (Cond.laysStatic C n d).before #[] s0 = true) : (Cond.laysStatic C n d).before args s = true := by
  obtain ⟨c, k, i, f, a, cell, h1, h2, h3, h4, h5, h6, h7, h8, h9⟩ := Cond.laysStatic_spec hl
  obtain ⟨k', hi', he⟩ := State.fieldFound?_setVm hW.alike h2
  show (Cond.laysStatic C n d).holds args s none s [] = true
  exact Cond.laysStatic_of (by rw [hW.alike.findClass]; exact h1) hi' h3 (by rw [he]; exact h4) (by rw [hO.2 a (Array.getElem?_eq_some_iff.mp h5).1]; exact h5) h6 h7 h8 (by rw [he]; exact h9)
/-- the words of 'throw new X("..")' where X's constructor hands on to RuntimeException's by its entry ix -/
def xt_atoms (own : String) (ic : Nat) (X : String) (ix : Nat) (bytes : ByteArray) : List Cond :=
  Bundle.throwableAtoms ++ Bundle.throwableSAtoms ++ Bundle.passSAtoms X "java/lang/RuntimeException" ix bytes ++ Bundle.chainSAtoms "java/lang/RuntimeException" ["java/lang/Exception"] ++
  [.methodLink own ic (Bundle.initS X), .instantiable X 6, .castable X X, .selects X Bundle.tFill0 Bundle.tFill0, .selects X Bundle.tFill Bundle.tFill,
   .lays X Bundle.tN "cause" "Ljava/lang/Throwable;", .lays X Bundle.tN "stackTrace" Bundle.steD, .lays X Bundle.tN "suppressedExceptions" Bundle.listD, .lays X Bundle.tN "detailMessage" "Ljava/lang/String;",
   .isRef (.static Bundle.tN "UNASSIGNED_STACK" Bundle.steD), .isRef (.static Bundle.tN "SUPPRESSED_SENTINEL" Bundle.listD),
   .fieldLink Bundle.tN 198 Bundle.tN "backtrace" "Ljava/lang/Object;", .lays Bundle.tN Bundle.tN "backtrace" "Ljava/lang/Object;", .lays X Bundle.tN "backtrace" "Ljava/lang/Object;"]
set_option maxHeartbeats 1000000 in
/-- from the constructor's call to the throw's end (by the library's rows; the library's own such law has X's entry at 7) -/
theorem xt_ctor {p : Program} {l : Launch} {e : Env} {R : Room} {s : State} {m₀ : MethodId} {args : Array Value} {below : List Frame} {meth : Method} {c : Code} {V : State} {cells slots : Nat}
    (X : Stand p l e R s m₀ args below meth c V [] cells slots) (hexec : p.tables.exec = Jvm.exec) (htr : e.platform.stackTraces = false) {own cls : String} {ic ix : Nat} {bytes : ByteArray}
    (hown : s.vm.findClass own = some m₀.cls) (hcls : Bundle.fit cls = true) (h : ∀ a ∈ xt_atoms own ic cls ix bytes, a.before args s = true)
    (b0 : decode bytes 0 = .ok (.aload_n 0, 1)) (b1 : decode bytes 1 = .ok (.aload_n 1, 1)) (b2 : decode bytes 2 = .ok (.invokespecial ix, 3)) (b5 : decode bytes 5 = .ok (.return_, 1))
    {a : Addr} {cX : ClassId} {kX : Class} (hfoundX : s.vm.findClass cls = some cX) (hkX : s.vm.classes[cX]? = some kX) (hcell : V.heap[a]? = some (freshCell cX kX)) (hnew : s.heap.size ≤ a)
    {msg : Value} (hmsg : msg.isRef = true)
    {g : JFrame} (hg : g.method = m₀) (hsize : g.locals.size = c.maxLocals) (hlocked : g.locked = none) (hentered : g.entered = []) {rest : List Value} (hstack : g.stack = msg :: .ref a :: .ref a :: rest)
    (hd6 : decode c.code g.pc = .ok (.invokespecial ic, 3)) (hd9 : decode c.code (g.pc + 3) = .ok (.athrow, 1)) (hout : ∀ x ∈ c.exceptionTable.toList, covers x (g.pc + 3) = false)
    (hRframes : 5 < R.frames) (hRlocals : 2 * g.monitorRoom + ((Value.ref a :: rest).map fun v => v.category).sum + 81 ≤ R.locals) (hlocks : meth.locks = false) :
    ∃ U : State, Steps p.tables e below (V.setTop g) U ∧ U.status = .running ∧ Ended U below (.threw a) ∧ s.WarmedH U.vm ∧ s.sameButNew ({ U with vm := s.vm } : State) [] cells slots ∧
      ∃ ce, U.heap[a]? = some ce ∧ ce.vm = .none ∧ s.vm.findClass cls = some ce.cls := by
  have howns : e.platform.frameOwnsMonitors = true := by rw [X.admits.platform]
  have hfin : e.platform.finalization = false := by rw [X.admits.platform]
  have hpl : e.platform.magicAccessors = ({} : Platform).magicAccessors := by rw [X.admits.platform]
  have a' : ∀ x, x ∈ xt_atoms own ic cls ix bytes → x.holds args s none s [] = true := fun x hx => h x hx
  obtain ⟨T, Z0, L, -, Y⟩ := ThrowableC.of_atoms (args := args) howns hfin hpl (fun x hx => h x (by simp [xt_atoms, hx]))
  obtain ⟨Z, M, LZ, LM, hnZ⟩ := Init0T.ofS_atoms (args := args) hpl L Y (fun x hx => h x (by simp [xt_atoms, hx]))
  obtain ⟨P1, L1, hP1m, hP1s⟩ := PassC.ofS_atoms (args := args) (s := s) hpl (X := cls) (Y := "java/lang/RuntimeException") (index := ix) (bytes := bytes) (Bundle.fit_spec hcls).1 (by decide +kernel) b0 b1 b2 b5 (fun x hx => h x (by simp only [xt_atoms, List.mem_append]; exact Or.inl (Or.inl (Or.inr hx))))
  obtain ⟨P2, Ps2, hlen2, L2, hL2, hP2m, hlink2, hpass2⟩ := Bundle.chainS (args := args) hpl hnZ ["java/lang/Exception"] "java/lang/RuntimeException" (by decide +kernel) (by decide +kernel) (fun x hx => h x (by simp only [xt_atoms, List.mem_append]; exact Or.inl (Or.inr hx)))
  have hs12 : P1.sup = P2.m := Option.some.inj (hP1s.symm.trans hP2m)
  have hlen : (P2 :: Ps2).length = 2 := by simp [hlen2]
  have hfound : s.vm.findClass cls = some P1.m.cls := findClass_of_methodNamed hP1m
  cases Option.some.inj (hfoundX.symm.trans hfound)
  obtain ⟨c1, kX', hc1, hk, hord, -, -, hn6⟩ := Cond.instantiable_spec (a' (.instantiable cls 6) (by simp [xt_atoms]))
  cases Option.some.inj (hc1.symm.trans hfound)
  cases Option.some.inj (hkX.symm.trans hk)
  have hsel0 : selectMethod e.platform s.vm P1.m.cls T.fill0 = .method T.fill0 := by
    obtain ⟨c2, r2, m2, q1, q2, q3, q4, -⟩ := Cond.selects_spec (a' (.selects cls Bundle.tFill0 Bundle.tFill0) (by simp [xt_atoms]))
    cases Option.some.inj (q1.symm.trans hfound)
    cases Option.some.inj (q2.symm.trans (State.methodFound?_of_named Y.fill0 (by decide)))
    cases Option.some.inj (q3.symm.trans Y.fill0)
    rw [Launch.admits_selectMethod X.admits]; exact q4
  have hselF : selectMethod e.platform s.vm P1.m.cls T.fill = .method T.fill := by
    obtain ⟨c2, r2, m2, q1, q2, q3, q4, -⟩ := Cond.selects_spec (a' (.selects cls Bundle.tFill Bundle.tFill) (by simp [xt_atoms]))
    cases Option.some.inj (q1.symm.trans hfound)
    cases Option.some.inj (q2.symm.trans (State.methodFound?_of_named Y.fill (by decide)))
    cases Option.some.inj (q3.symm.trans Y.fill)
    rw [Launch.admits_selectMethod X.admits]; exact q4
  obtain ⟨cellS0, hcS0, hiss⟩ := Y.statics
  obtain ⟨u0, hu0⟩ := Cond.staticRefV Y.unassigned L.unassignedStatic L.statics hcS0 hiss (a' (.isRef (.static Bundle.tN "UNASSIGNED_STACK" Bundle.steD)) (by simp [xt_atoms]))
  obtain ⟨sen, hsen⟩ := Cond.staticRefV Y.sentinel L.sentinelStatic L.statics hcS0 hiss (a' (.isRef (.static Bundle.tN "SUPPRESSED_SENTINEL" Bundle.listD)) (by simp [xt_atoms]))
  obtain ⟨ci198, i198, fB, hk198, hg198, ha198, hsB, -, hnB, htB, hffB⟩ := Cond.ownField (t := .object "java/lang/Object") Y.found L.cls (by decide +kernel) (a' (.fieldLink Bundle.tN 198 Bundle.tN "backtrace" "Ljava/lang/Object;") (by simp [xt_atoms])) (a' (.lays Bundle.tN Bundle.tN "backtrace" "Ljava/lang/Object;") (by simp [xt_atoms])) e.platform hpl
  obtain ⟨cellS, hcS', heS, -, hkeep⟩ := X.same.2.2.2.2.2 T.aS cellS0 hcS0
  have hcellS : V.heap[T.aS]? = some cellS := hcS'
  have hknownS : cellS.vm ≠ .unknown := by
    rw [heS]; intro hu
    rw [show cellS0.vm = .unknown from hu] at hiss
    cases hiss
  have hneS : T.aS ≠ a := Nat.ne_of_lt (Nat.lt_of_lt_of_le (Array.getElem?_eq_some_iff.mp hcS0).1 hnew)
  obtain ⟨iM, hffM⟩ := Y.msg
  obtain ⟨tyC, dC, hdC, hdnC⟩ := Cond.laysAt hfound hk Y.cause (a' (.lays cls Bundle.tN "cause" "Ljava/lang/Throwable;") (by simp [xt_atoms]))
  obtain ⟨tyS, dS, hdS, hdnS⟩ := Cond.laysAt hfound hk Y.stack (a' (.lays cls Bundle.tN "stackTrace" Bundle.steD) (by simp [xt_atoms]))
  obtain ⟨tyP, dP, hdP, hdnP⟩ := Cond.laysAt hfound hk Y.supp (a' (.lays cls Bundle.tN "suppressedExceptions" Bundle.listD) (by simp [xt_atoms]))
  obtain ⟨tyM, dM, hdM, hdnM⟩ := Cond.laysAt hfound hk hffM (a' (.lays cls Bundle.tN "detailMessage" "Ljava/lang/String;") (by simp [xt_atoms]))
  obtain ⟨tyB, dB, hdB, hdnB⟩ := Cond.laysAt hfound hk hffB (a' (.lays cls Bundle.tN "backtrace" "Ljava/lang/Object;") (by simp [xt_atoms]))
  have bC := Cond.laysApart hdB hdC hdnB hdnC (by rw [hnB, Y.causeName]; decide)
  have bS := Cond.laysApart hdB hdS hdnB hdnS (by rw [hnB, Y.stackName]; decide)
  have bP := Cond.laysApart hdB hdP hdnB hdnP (by rw [hnB, Y.suppName]; decide)
  have hskip : SkipFacts T e.platform s (fun u => u) u0 ((preparedCellV T.toThrowableT (freshCell P1.m.cls kX) a u0 sen).withEntry V.cur) :=
    ⟨{ ci198 := ci198, i198 := i198, fBack := fB }, ⟨hk198, hg198, ha198, hsB⟩, by
      have := fresh_default (c := P1.m.cls) tyB
      rw [htB] at this
      simpa [preparedCellV, Cell.setSlot, Cell.withEntry, Array.getElem?_setIfInBounds, bC, bS, bP, bC.symm, bS.symm, bP.symm, defaultValue] using this, fun _ _ => rfl⟩
  obtain ⟨tm, methC, cdC, kC, vm₁, hnC, -, -, -, -, -, -, -, hW₁, st1⟩ := Steps.initColdS (tb := p.tables) (e := e) (below := below) (s := s) (U := V) X.here hexec X.warmed hpl hown (t := Bundle.initS cls) rfl rfl (Bundle.fit_spec hcls).2
    (a' (.methodLink own ic (Bundle.initS cls)) (by simp [xt_atoms])) (h (.instanceMethod (Bundle.initS cls)) (by simp [xt_atoms, Bundle.passSAtoms])) (bytes := bytes) (maxL := 2) (h (.code (Bundle.initS cls) bytes 2 none) (by simp [xt_atoms, Bundle.passSAtoms]))
    (f := g) hg (a := a) (msg := msg) (rest := .ref a :: rest) hstack hd6
  cases Option.some.inj (hnC.symm.trans hP1m)
  have X₁ := X.noted hW₁
  obtain ⟨vm₂, X₂, st2⟩ := X₁.ctorMessageOffV hexec (g := { g with stack := .ref a :: rest }) hg hsize T L Z LZ M LM (P1 :: P2 :: Ps2)
    (fun P hP => by
      rcases List.mem_cons.mp hP with rfl | hP
      · exact L1
      · rcases List.mem_cons.mp hP with rfl | hP
        · exact L2
        · exact hL2 P hP) ⟨hs12, hlink2, hpass2⟩ (u0 := u0) (sen := sen) (self := a) hmsg (cell := freshCell P1.m.cls kX) (cellS := cellS)
    hcell (fun _ => by simp) (by simp) rfl rfl hsel0 hselF hcellS hneS hknownS (by rw [hkeep _ (by simp)]; exact hu0) (by rw [hkeep _ (by simp)]; exact hsen)
    (Takes.of_laid hk hord tyC (by rw [Y.causeType]; rfl)) (Takes.of_laid hk hord tyS (by rw [Y.stackType]; exact fits_refV_array _ u0)) (Takes.of_laid hk hord tyP (by rw [Y.suppType]; exact fits_refV_object _ sen))
    (Takes.of_laid hk hord tyM (by rw [Y.msgType]; exact fits_refV_object _ ⟨msg, hmsg⟩)) Y.objLocals hskip htr [] hd6
    (by simp only [List.length_cons] at hlen ⊢; omega) (by simp only [List.length_cons] at hlen ⊢; rw [hlen]; exact hRlocals)
  obtain ⟨hwalk, hrun, hended, hWU, hsame⟩ := X₂.athrowLeaves hexec (g := { g with stack := .ref a :: rest, pc := g.pc + 3 }) hg hlocked hentered hout (a := a) (rest := rest) rfl hd9 hlocks
  have hlt : a < ((V.setVm vm₁).setVm vm₂).heap.size := (Array.getElem?_eq_some_iff.mp hcell).1
  have hU := heapAt_setCell_self (s := (V.setVm vm₁).setVm vm₂) (plainBareV T.toThrowableT (freshCell P1.m.cls kX) a u0 sen msg) hlt
  refine ⟨_, st1 _ (fun acts => ?_), hrun, hended, hWU, hsame.weaken (fun y hy hlt' => ?_) (Nat.le_refl _) (Nat.le_refl _), _, hU, rfl, hfound⟩
  · rw [doInvoke_state]
    exact st2 _ hwalk
  · simp at hy
    exact absurd hlt' (by rcases hy with rfl | rfl | rfl | rfl | rfl <;> exact Nat.not_lt.mpr hnew)
/-- the words of a throw that the tables' growth leaves -/
def xt_kind : Cond → Bool
  | .declares _ => true
  | .castable _ _ => true
  | .laysStatic _ _ _ => true
  | .isRef (.static C n d) => decide (Cond.isRef (.static C n d) = .isRef (.static Bundle.tN "UNASSIGNED_STACK" Bundle.steD)) || decide (Cond.isRef (.static C n d) = .isRef (.static Bundle.tN "SUPPRESSED_SENTINEL" Bundle.listD))
  | w => goodWord w
def xt_At (own : String) (ic : Nat) (X : String) (ix : Nat) (by6 : ByteArray) (s0 : State) : Prop := ∀ w ∈ xt_atoms own ic X ix by6, w.before #[] s0 = true
theorem xt_move {s0 s : State} {args : Array Value} {own X : String} {ic ix : Nat} {by6 : ByteArray} (hW : s0.WarmedH s.vm) (hO : z_Old s0 s.heap) (hA : xt_At own ic X ix by6 s0) (hk : (xt_atoms own ic X ix by6).all xt_kind = true) :
    ∀ w ∈ xt_atoms own ic X ix by6, w.before args s = true := by
  intro w hw
  have h := hA w hw
  have hg := List.all_eq_true.mp hk w hw
  have good : goodWord w = true → w.before args s = true := fun g => word_at hW (good_of_word g) h
  have hini : (Cond.initialized Bundle.tN).before #[] s0 = true := hA _ (by simp [xt_atoms, Bundle.throwableAtoms])
  unfold xt_kind at hg
  split at hg
  · exact va_Nw.use rfl (va_Nw.warmD hW h)
  · exact va_Nw.use rfl (va_Nw.warmC hW h)
  · exact xt_lays hW hO h
  · simp only [Bool.or_eq_true, decide_eq_true_eq] at hg
    rcases hg with e | e
    · rw [e] at h ⊢; exact xt_ref hW hO (hA _ (by simp [xt_atoms, Bundle.throwableAtoms])) hini h
    · rw [e] at h ⊢; exact xt_ref hW hO (hA _ (by simp [xt_atoms, Bundle.throwableAtoms])) hini h
  · exact good hg
section XN
variable {p : Program} {l : Launch} {e : Env} {R : Room} {s0 s : State} {m : MethodId} {args : Array Value} {below : List Frame} {meth : Method} {c : Code} {cc : ByteArray} {pc : Nat} {ls : Array Slot}
/-- 'throw new X("text")' where nothing has been written yet -/
theorem xt_new (hx : p.tables.exec = Jvm.exec) (hb : c.code = cc) (hl0 : l.stackTraces = false) {own X tx : String} {ia ib ic : Nat} (hown : s.vm.findClass own = some m.cls) (hW0 : s0.WarmedH s.vm) (hO : z_Old s0 s.heap)
    (hfit : Bundle.fit X = true) {ix : Nat} {by6 : ByteArray} (hat : xt_At own ic X ix by6 s0) (hk : (xt_atoms own ic X ix by6).all xt_kind = true) (hby : decode by6 0 = .ok (.aload_n 0, 1) ∧ decode by6 1 = .ok (.aload_n 1, 1) ∧ decode by6 2 = .ok (.invokespecial ix, 3) ∧ decode by6 5 = .ok (.return_, 1)) (hstr : ∃ q, vk_R own ib tx q s0)
    (hlink : (Cond.classLink own ia X).before args s = true) (hini : (Cond.initialized X).before args s = true) (hno : c.exceptionTable.isEmpty = true) (hlocks : meth.locks = false) (hsize : ls.size = c.maxLocals)
    (d0 : decode cc pc = .ok (.new ia, 3)) (d3 : decode cc (pc + 3) = .ok (.dup, 1)) (d4 : decode cc (pc + 4) = .ok (.ldc ib, 2)) (d6 : decode cc (pc + 6) = .ok (.invokespecial ic, 3)) (d9 : decode cc (pc + 9) = .ok (.athrow, 1))
    (hRf : 5 < R.frames) (hRl : 82 ≤ R.locals) (hRc : 1 ≤ R.cells) (hRs : 6 ≤ R.slots) :
    W p l e R s m args below meth c s.heap [] 0 0 (xt_Z below X args s) (F0 m pc ls []) := by
  have hall := xt_move (args := args) hW0 hO hat hk
  have hins : (Cond.instantiable X 6).before args s = true := hall _ (by simp [xt_atoms])
  refine W.newc hx hb hown hlink hins hini (g := F0 m pc ls []) rfl d0 (by omega) (by omega) fun cC kC h1 h2 h3 h4 => ?_
  show W p l e R s m args below meth c _ [] (0 + 1) (0 + 6) (xt_Z below X args s) (F0 m (pc + 3) ls [.ref s.heap.size])
  refine lv_dup hx hb d3 rfl ?_
  obtain ⟨q, hq⟩ := hstr
  refine va_ldcS hx hb hown (vk_R.warm hW0 hq) d4 ?_
  intro T hT Xs
  have htr : e.platform.stackTraces = false := (show e.platform.stackTraces = l.stackTraces by rw [Xs.admits.platform]).trans hl0
  subst hb
  have hout : ∀ z ∈ c.exceptionTable.toList, covers z (pc + 9) = false := fun z hz => by
    have h0 : c.exceptionTable = #[] := Array.isEmpty_iff.mp hno
    rw [h0] at hz; cases hz
  obtain ⟨U, a1, a2, a3, a4, a5, ce, hce, O1, O2⟩ := xt_ctor Xs hx htr (own := own) (cls := X) (ic := ic) hown hfit hall hby.1 hby.2.1 hby.2.2.1 hby.2.2.2 h1 h2 (a := s.heap.size) (by rw [hT]; simp [freshCell]) (Nat.le_refl _) (msg := .ref q) rfl
    (g := F0 m (pc + 6) ls [.ref q, .ref s.heap.size, .ref s.heap.size]) rfl hsize rfl rfl (rest := []) rfl d6 d9 hout hRf (by show 2 * 0 + 1 + 81 ≤ _; omega) hlocks
  exact ⟨U, a1, .threw s.heap.size, a2, a3, ⟨_, ce, rfl, hce, O1, by rw [a4.alike.findClass]; exact O2⟩, ⟨_, rfl⟩, a4, a5⟩
end XN
end
section
/-! THE CLASS'S STATE (own text). A: the addresses: 0 the object, 1 its Names, 2 its OldMap, 3 its array of shapes, 4 + k its k-th int array
(0 parents; 1 to 4 the names' owners, numbers, froms, tos; 5 to 8 the marks' mapXs, mapYs, xs, ys), 13 + 3 i, 14 + 3 i, 15 + 3 i the i-th shape and its two arrays -/
def z_len (k : Nat) : Nat := if k = 0 then 16 else if k < 5 then 40 else 12
def z_pv (A : Nat → Nat) (o : Option Nat) : Value := match o with
  | none => .null
  | some j => .ref (A (13 + 3 * j))
def z_BD (D : va_G) (cI cS : ClassId) (H : Heap) (A : Nat → Nat) (np ns nc nn nm : Nat) (fv : Nat → Nat → Int32) (so sf st : Nat → Int32) (sn sc : Nat → Nat) (sp : Nat → Option Nat) (sx sy : Nat → Nat → Int32) : Prop :=
  (z_O D H (A 0) 3 [.ref (A 4), .int (nI np), .ref (A 3), .int (nI ns), .int (nI nc), .ref (A 1), .ref (A 2)] ∧
  z_O D H (A 1) 0 [.ref (A 5), .ref (A 6), .ref (A 7), .ref (A 8), .int (nI nn)] ∧
  z_O D H (A 2) 1 [.ref (A 9), .ref (A 10), .ref (A 11), .ref (A 12), .int (nI nm)] ∧
  z_B cS H (A 3) 32 (fun i => if i < ns then some (A (13 + 3 * i)) else none) ∧
  (∀ k, k < 9 → z_A cI H (A (4 + k)) (z_len k) (fv k)) ∧
  (∀ i, i < ns → z_Sh D cI H (A (13 + 3 * i)) (A (14 + 3 * i)) (A (15 + 3 * i)) (sn i) (nI i) (so i) (sf i) (st i) (nI (sc i)) (z_pv A (sp i)) (sx i) (sy i))) ∧
  (∀ i j, i < 13 + 3 * ns → j < 13 + 3 * ns → A i = A j → i = j) ∧
  (np ≤ 16 ∧ ns ≤ 32 ∧ nn ≤ 40 ∧ nm ≤ 12 ∧ nc < 2 ^ 30) ∧ (∀ i, i < ns → sn i ≤ 12 ∧ sc i ≤ nc ∧ (0 < sc i → 3 ≤ sn i) ∧ ∀ j, sp i = some j → j < ns)
/-- the sites of throws: class, its constructor's entry, the exception, the entry by which its own constructor hands on, that constructor's bytes -/
def z_b13 : ByteArray := ⟨#[0x2a, 0x2b, 0xb7, 0x00, 0x0d, 0xb1]⟩
/-- what throws rest on, at s0 -/
def z_T (s0 : State) (l : Launch) : Prop := l.stackTraces = false ∧
  (xt_At R_B 164 "java/util/NoSuchElementException" 13 z_b13 s0 ∧ xt_At R_B 45 "java/lang/IllegalStateException" 7 Bundle.six s0 ∧ xt_At R_B 131 "java/lang/IllegalArgumentException" 7 Bundle.six s0 ∧ xt_At R_O 40 "java/lang/IllegalStateException" 7 Bundle.six s0) ∧
  (∀ q ∈ [(R_B, 172, "there is no such place"), (R_B, 43, "there are sixteen places"), (R_B, 179, "a day is not 0 to 100000"), (R_B, 181, "the first day is above the last"), (R_B, 55, "there are 32 shapes"), (R_B, 162, "there is no such shape"), (R_B, 183, "a point is not within -10000 to 10000"), (R_B, 74, "the shape is closed or has twelve corners"), (R_B, 174, "k is below 0"), (R_B, 129, "a name is below 0"), (R_B, 133, "there are 40 names"), (R_B, 142, "there are twelve marks"), (R_B, 176, "there is no such axis"), (R_O, 38, "no three marks place the point"), (R_B, 153, "a cell's size is not 1 to 10000")], ∃ a, vk_R q.1 q.2.1 q.2.2 a s0)
theorem k_B_NSE : (xt_atoms R_B 164 "java/util/NoSuchElementException" 13 z_b13).all xt_kind = true := by decide +kernel
theorem k_B_ISE : (xt_atoms R_B 45 "java/lang/IllegalStateException" 7 Bundle.six).all xt_kind = true := by decide +kernel
theorem k_B_IAE : (xt_atoms R_B 131 "java/lang/IllegalArgumentException" 7 Bundle.six).all xt_kind = true := by decide +kernel
theorem k_O_ISE : (xt_atoms R_O 40 "java/lang/IllegalStateException" 7 Bundle.six).all xt_kind = true := by decide +kernel
theorem k_13 : decode z_b13 0 = .ok (.aload_n 0, 1) ∧ decode z_b13 1 = .ok (.aload_n 1, 1) ∧ decode z_b13 2 = .ok (.invokespecial 13, 3) ∧ decode z_b13 5 = .ok (.return_, 1) := by decide +kernel
theorem k_7 : decode Bundle.six 0 = .ok (.aload_n 0, 1) ∧ decode Bundle.six 1 = .ok (.aload_n 1, 1) ∧ decode Bundle.six 2 = .ok (.invokespecial 7, 3) ∧ decode Bundle.six 5 = .ok (.return_, 1) := by decide +kernel
def z_pt (x y : Int32) : Prop := (-10000) ≤ x ∧ x ≤ 10000 ∧ (-10000) ≤ y ∧ y ≤ 10000
def z_day (d : Int32) : Prop := 0 ≤ d ∧ d ≤ 100000
section ZX
variable {p : Program} {l : Launch} {e : Env} {R : Room} {s : State} {m : MethodId} {args : Array Value} {below : List Frame} {meth : Method} {c : Code} {H : Heap} {locs : List Loc} {cells slots : Nat} {Q : State → Prop}
variable {cc : ByteArray} {pc : Nat} {ls : Array Slot} {rest : List Value}
theorem z_aald {cS : ClassId} {C : String} {a n k q : Nat} {f : Nat → Option Nat} (hx : p.tables.exec = Jvm.exec) (hb : c.code = cc) (hAS : ArrOfT s cS (.object C)) (hA : z_B cS H a n f) (hk : k < n) (hn : n < 2 ^ 31) (hf : f k = some q) (hdg : decode cc pc = .ok (.aaload, 1))
    (kk : W p l e R s m args below meth c H locs cells slots Q (F0 m (pc + 1) ls (.ref q :: rest))) : W p l e R s m args below meth c H locs cells slots Q (F0 m pc ls (.int (nI k) :: .ref a :: rest)) := by
  have hc : (nI k).toNatClampNeg = k := nI_clamp (by omega)
  refine W.aald (v := .ref q) (ty := .object C) hx hb hA (hAS n (fun j => va_rf (f j))) rfl (fun q => by cases q) ?_ ?_ rfl rfl hdg kk
  · show ¬ (nI k < 0 ∨ (arrV _ _ _).slots.size ≤ _)
    rw [arrV_size]; exact nI_in hk hn
  · show (arrV _ _ _).slots[_]? = _
    rw [hc, arrV_read _ _ hk, hf]; rfl
/-- a call of a thrower, seen in a method that has no handler: virtual; static -/
theorem z_thV {s0 : State} {y : MethodName} {bytes : ByteArray} {maxL nL n index : Nat} {ret : Option FieldType} {rm : Room} {own C X : String} {a : Nat} {As stk : List Value} {B : Heap → Prop}
    (S : CallFix p m c cc nL s args z_tbl own) (hW0 : s0.WarmedH s.vm) (hno : c.exceptionTable.isEmpty = true) (hlocks : meth.locks = false) (hM : xt_Met l y [Cond.code y bytes maxL ret] rm (z_Pc s0 (.ref a :: As) B) X)
    (w1 : Cond.code y bytes maxL ret ∈ z_tbl) (w2 : Cond.methodLink own index y ∈ z_tbl) (w3 : Cond.instanceMethod y ∈ z_tbl) (w4 : Cond.selects C y y ∈ z_tbl) (w5 : Cond.initialized y.cls ∈ z_tbl)
    (hd : z_dsc y n) (hR : z_rmk rm R maxL 1 6)
    (hrecv : ∃ cell : Cell, H[a]? = some cell ∧ cell.vm.isStatics = false ∧ s.vm.findClass C = some cell.cls) (hB : B H) (hn : As.length = n) (hstk : stk = As.reverse ++ .ref a :: rest) (hsize : ls.size = nL) (hst : (rest.map fun v => v.category).sum ≤ 8)
    (hdg : decode cc pc = .ok (.invokevirtual index, 3)) (hf : 1 ≤ R.cells ∧ 6 ≤ R.slots) :
    W p l e R s m args below meth c H [] 0 0 (xt_Z below X args s) (F0 m pc ls stk) :=
  xt_leave (xt_runV (C := C) S hM ⟨z_callB S.2.2.2.2 w1 w2 w5 hd hR, S.2.2.2.2 _ w3, S.2.2.2.2 _ w4⟩
    ⟨z_blind, hrecv, fun U hU hW => ⟨rfl, hW0.trans hW, by rw [hU]; exact hB⟩⟩ rfl hn hsize hstk (by show 2 * 0 + _ ≤ 8; omega) hdg ⟨by omega, by omega⟩) hno hlocks
theorem z_thS {s0 : State} {y : MethodName} {bytes : ByteArray} {maxL nL n index : Nat} {ret : Option FieldType} {rm : Room} {own X : String} {As stk : List Value} {B : Heap → Prop}
    (S : CallFix p m c cc nL s args z_tbl own) (hW0 : s0.WarmedH s.vm) (hno : c.exceptionTable.isEmpty = true) (hlocks : meth.locks = false) (hM : xt_Met l y [Cond.code y bytes maxL ret] rm (z_Pc s0 As B) X)
    (w1 : Cond.code y bytes maxL ret ∈ z_tbl) (w2 : Cond.methodLink own index y ∈ z_tbl) (w3 : Cond.static y ∈ z_tbl) (w5 : Cond.initialized y.cls ∈ z_tbl)
    (hd : z_dsc y n) (hR : z_rmk rm R maxL 1 6) (hB : B H) (hn : As.length = n) (hstk : stk = As.reverse ++ rest) (hsize : ls.size = nL) (hst : (rest.map fun v => v.category).sum ≤ 8)
    (hdg : decode cc pc = .ok (.invokestatic index, 3)) (hf : 1 ≤ R.cells ∧ 6 ≤ R.slots) :
    W p l e R s m args below meth c H [] 0 0 (xt_Z below X args s) (F0 m pc ls stk) :=
  xt_leave (xt_runS S hM ⟨z_callB S.2.2.2.2 w1 w2 w5 hd hR, S.2.2.2.2 _ w3⟩
    ⟨z_blind, fun U hU hW => ⟨rfl, hW0.trans hW, by rw [hU]; exact hB⟩⟩ rfl hn hsize hstk (by show 2 * 0 + _ ≤ 8; omega) hdg ⟨by omega, by omega⟩) hno hlocks
end ZX
section ZY
variable {p : Program} {l : Launch} {e : Env} {R : Room} {s : State} {m : MethodId} {args : Array Value} {below : List Frame} {meth : Method} {c : Code} {H : Heap} {locs : List Loc} {cells slots : Nat} {Q : State → Prop} {pc : Nat} {ls : Array Slot} {rest : List Value}
theorem z_topv {v w : Value} (h : v = w) (k : W p l e R s m args below meth c H locs cells slots Q (F0 m pc ls (w :: rest))) : W p l e R s m args below meth c H locs cells slots Q (F0 m pc ls (v :: rest)) := h ▸ k
end ZY
/-! PURE: the shape in force -/
def pb_h (so sf st : Nat → Int32) (sc : Nat → Nat) (p d : Int32) (i : Nat) : Bool := decide (0 < nI (sc i)) && (decide (so i = p) && (decide (sf i ≤ d) && decide (d ≤ st i)))
def pb_nx (sc : Nat → Nat) (b : Option Nat) (i : Nat) : Option Nat := match b with
  | none => some i
  | some j => if sc i ≤ sc j then some j else some i
def pb_on (so sf st : Nat → Int32) (sc : Nat → Nat) (p d : Int32) : Nat → Nat → Option Nat → Option Nat
  | 0, _, b => b
  | k + 1, i, b => pb_on so sf st sc p d k (i + 1) (if pb_h so sf st sc p d i = true then pb_nx sc b i else b)
abbrev pb_f (so sf st : Nat → Int32) (sc : Nat → Nat) (ns : Nat) (p d : Int32) : Option Nat := pb_on so sf st sc p d ns 0 none
theorem pb_on_ok {so sf st : Nat → Int32} {sc : Nat → Nat} {p d : Int32} {ns : Nat} : ∀ (k i : Nat) (b : Option Nat), i + k = ns → (∀ j, b = some j → j < ns ∧ 0 < sc j) → ∀ j, pb_on so sf st sc p d k i b = some j → j < ns ∧ 0 < sc j := by
  intro k
  induction k with
  | zero => intro i b _ hb j hj; exact hb j hj
  | succ k ih =>
    intro i b hik hb j hj
    refine ih (i + 1) _ (by omega) ?_ j hj
    intro q hq
    by_cases h : pb_h so sf st sc p d i = true
    · rw [if_pos h] at hq
      have hp : 0 < sc i := by
        simp only [pb_h, Bool.and_eq_true, decide_eq_true_eq] at h
        rcases Nat.eq_zero_or_pos (sc i) with e | e
        · rw [e] at h; exact absurd h.1 (by decide)
        · exact e
      have hi : i < ns := by omega
      unfold pb_nx at hq
      split at hq
      · cases hq; exact ⟨hi, hp⟩
      · split at hq
        · cases hq; exact hb _ rfl
        · cases hq; exact ⟨hi, hp⟩
    · rw [if_neg h] at hq; exact hb q hq
theorem pb_f_ok {so sf st : Nat → Int32} {sc : Nat → Nat} {p d : Int32} {ns j : Nat} (h : pb_f so sf st sc ns p d = some j) : j < ns ∧ 0 < sc j :=
  pb_on_ok ns 0 none (by omega) (fun _ h => by cases h) j h
end
section
theorem d_B_init_0 : decode b_B_init 0 = .ok (.aload_n 0, 1) := by decide +kernel
theorem d_B_init_1 : decode b_B_init 1 = .ok (.invokespecial 1, 3) := by decide +kernel
theorem d_B_init_4 : decode b_B_init 4 = .ok (.aload_n 0, 1) := by decide +kernel
theorem d_B_init_5 : decode b_B_init 5 = .ok (.bipush 16, 2) := by decide +kernel
theorem d_B_init_7 : decode b_B_init 7 = .ok (.newarray .int, 2) := by decide +kernel
theorem d_B_init_9 : decode b_B_init 9 = .ok (.putfield 9, 3) := by decide +kernel
theorem d_B_init_12 : decode b_B_init 12 = .ok (.aload_n 0, 1) := by decide +kernel
theorem d_B_init_13 : decode b_B_init 13 = .ok (.bipush 32, 2) := by decide +kernel
theorem d_B_init_15 : decode b_B_init 15 = .ok (.anewarray 13, 3) := by decide +kernel
theorem d_B_init_18 : decode b_B_init 18 = .ok (.putfield 15, 3) := by decide +kernel
theorem d_B_init_21 : decode b_B_init 21 = .ok (.aload_n 0, 1) := by decide +kernel
theorem d_B_init_22 : decode b_B_init 22 = .ok (.new 19, 3) := by decide +kernel
theorem d_B_init_25 : decode b_B_init 25 = .ok (.dup, 1) := by decide +kernel
theorem d_B_init_26 : decode b_B_init 26 = .ok (.invokespecial 21, 3) := by decide +kernel
theorem d_B_init_29 : decode b_B_init 29 = .ok (.putfield 22, 3) := by decide +kernel
theorem d_B_init_32 : decode b_B_init 32 = .ok (.aload_n 0, 1) := by decide +kernel
theorem d_B_init_33 : decode b_B_init 33 = .ok (.new 26, 3) := by decide +kernel
theorem d_B_init_36 : decode b_B_init 36 = .ok (.dup, 1) := by decide +kernel
theorem d_B_init_37 : decode b_B_init 37 = .ok (.invokespecial 28, 3) := by decide +kernel
theorem d_B_init_40 : decode b_B_init 40 = .ok (.putfield 29, 3) := by decide +kernel
theorem d_B_init_43 : decode b_B_init 43 = .ok (.return_, 1) := by decide +kernel
theorem d_B_place_0 : decode b_B_place 0 = .ok (.iload_n 1, 1) := by decide +kernel
theorem d_B_place_1 : decode b_B_place 1 = .ok (.iconst (-1), 1) := by decide +kernel
theorem d_B_place_2 : decode b_B_place 2 = .ok (.if_icmp .eq 8, 3) := by decide +kernel
theorem d_B_place_5 : decode b_B_place 5 = .ok (.aload_n 0, 1) := by decide +kernel
theorem d_B_place_6 : decode b_B_place 6 = .ok (.iload_n 1, 1) := by decide +kernel
theorem d_B_place_7 : decode b_B_place 7 = .ok (.invokevirtual 33, 3) := by decide +kernel
theorem d_B_place_10 : decode b_B_place 10 = .ok (.aload_n 0, 1) := by decide +kernel
theorem d_B_place_11 : decode b_B_place 11 = .ok (.getfield 37, 3) := by decide +kernel
theorem d_B_place_14 : decode b_B_place 14 = .ok (.bipush 16, 2) := by decide +kernel
theorem d_B_place_16 : decode b_B_place 16 = .ok (.if_icmp .lt 13, 3) := by decide +kernel
theorem d_B_place_19 : decode b_B_place 19 = .ok (.new 41, 3) := by decide +kernel
theorem d_B_place_22 : decode b_B_place 22 = .ok (.dup, 1) := by decide +kernel
theorem d_B_place_23 : decode b_B_place 23 = .ok (.ldc 43, 2) := by decide +kernel
theorem d_B_place_25 : decode b_B_place 25 = .ok (.invokespecial 45, 3) := by decide +kernel
theorem d_B_place_28 : decode b_B_place 28 = .ok (.athrow, 1) := by decide +kernel
theorem d_B_place_29 : decode b_B_place 29 = .ok (.aload_n 0, 1) := by decide +kernel
theorem d_B_place_30 : decode b_B_place 30 = .ok (.getfield 9, 3) := by decide +kernel
theorem d_B_place_33 : decode b_B_place 33 = .ok (.aload_n 0, 1) := by decide +kernel
theorem d_B_place_34 : decode b_B_place 34 = .ok (.getfield 37, 3) := by decide +kernel
theorem d_B_place_37 : decode b_B_place 37 = .ok (.iload_n 1, 1) := by decide +kernel
theorem d_B_place_38 : decode b_B_place 38 = .ok (.iastore, 1) := by decide +kernel
theorem d_B_place_39 : decode b_B_place 39 = .ok (.aload_n 0, 1) := by decide +kernel
theorem d_B_place_40 : decode b_B_place 40 = .ok (.dup, 1) := by decide +kernel
theorem d_B_place_41 : decode b_B_place 41 = .ok (.getfield 37, 3) := by decide +kernel
theorem d_B_place_44 : decode b_B_place 44 = .ok (.iconst 1, 1) := by decide +kernel
theorem d_B_place_45 : decode b_B_place 45 = .ok (.iadd, 1) := by decide +kernel
theorem d_B_place_46 : decode b_B_place 46 = .ok (.putfield 37, 3) := by decide +kernel
theorem d_B_place_49 : decode b_B_place 49 = .ok (.aload_n 0, 1) := by decide +kernel
theorem d_B_place_50 : decode b_B_place 50 = .ok (.getfield 37, 3) := by decide +kernel
theorem d_B_place_53 : decode b_B_place 53 = .ok (.iconst 1, 1) := by decide +kernel
theorem d_B_place_54 : decode b_B_place 54 = .ok (.isub, 1) := by decide +kernel
theorem d_B_place_55 : decode b_B_place 55 = .ok (.ireturn, 1) := by decide +kernel
theorem d_B_shape_0 : decode b_B_shape 0 = .ok (.aload_n 0, 1) := by decide +kernel
theorem d_B_shape_1 : decode b_B_shape 1 = .ok (.iload_n 1, 1) := by decide +kernel
theorem d_B_shape_2 : decode b_B_shape 2 = .ok (.invokevirtual 33, 3) := by decide +kernel
theorem d_B_shape_5 : decode b_B_shape 5 = .ok (.iload_n 2, 1) := by decide +kernel
theorem d_B_shape_6 : decode b_B_shape 6 = .ok (.iload_n 3, 1) := by decide +kernel
theorem d_B_shape_7 : decode b_B_shape 7 = .ok (.invokestatic 48, 3) := by decide +kernel
theorem d_B_shape_10 : decode b_B_shape 10 = .ok (.aload_n 0, 1) := by decide +kernel
theorem d_B_shape_11 : decode b_B_shape 11 = .ok (.getfield 52, 3) := by decide +kernel
theorem d_B_shape_14 : decode b_B_shape 14 = .ok (.bipush 32, 2) := by decide +kernel
theorem d_B_shape_16 : decode b_B_shape 16 = .ok (.if_icmp .lt 13, 3) := by decide +kernel
theorem d_B_shape_19 : decode b_B_shape 19 = .ok (.new 41, 3) := by decide +kernel
theorem d_B_shape_22 : decode b_B_shape 22 = .ok (.dup, 1) := by decide +kernel
theorem d_B_shape_23 : decode b_B_shape 23 = .ok (.ldc 55, 2) := by decide +kernel
theorem d_B_shape_25 : decode b_B_shape 25 = .ok (.invokespecial 45, 3) := by decide +kernel
theorem d_B_shape_28 : decode b_B_shape 28 = .ok (.athrow, 1) := by decide +kernel
theorem d_B_shape_29 : decode b_B_shape 29 = .ok (.aload_n 0, 1) := by decide +kernel
theorem d_B_shape_30 : decode b_B_shape 30 = .ok (.getfield 15, 3) := by decide +kernel
theorem d_B_shape_33 : decode b_B_shape 33 = .ok (.aload_n 0, 1) := by decide +kernel
theorem d_B_shape_34 : decode b_B_shape 34 = .ok (.getfield 52, 3) := by decide +kernel
theorem d_B_shape_37 : decode b_B_shape 37 = .ok (.new 13, 3) := by decide +kernel
theorem d_B_shape_40 : decode b_B_shape 40 = .ok (.dup, 1) := by decide +kernel
theorem d_B_shape_41 : decode b_B_shape 41 = .ok (.aload_n 0, 1) := by decide +kernel
theorem d_B_shape_42 : decode b_B_shape 42 = .ok (.getfield 52, 3) := by decide +kernel
theorem d_B_shape_45 : decode b_B_shape 45 = .ok (.iload_n 1, 1) := by decide +kernel
theorem d_B_shape_46 : decode b_B_shape 46 = .ok (.iload_n 2, 1) := by decide +kernel
theorem d_B_shape_47 : decode b_B_shape 47 = .ok (.iload_n 3, 1) := by decide +kernel
theorem d_B_shape_48 : decode b_B_shape 48 = .ok (.invokespecial 57, 3) := by decide +kernel
theorem d_B_shape_51 : decode b_B_shape 51 = .ok (.aastore, 1) := by decide +kernel
theorem d_B_shape_52 : decode b_B_shape 52 = .ok (.aload_n 0, 1) := by decide +kernel
theorem d_B_shape_53 : decode b_B_shape 53 = .ok (.dup, 1) := by decide +kernel
theorem d_B_shape_54 : decode b_B_shape 54 = .ok (.getfield 52, 3) := by decide +kernel
theorem d_B_shape_57 : decode b_B_shape 57 = .ok (.iconst 1, 1) := by decide +kernel
theorem d_B_shape_58 : decode b_B_shape 58 = .ok (.iadd, 1) := by decide +kernel
theorem d_B_shape_59 : decode b_B_shape 59 = .ok (.putfield 52, 3) := by decide +kernel
theorem d_B_shape_62 : decode b_B_shape 62 = .ok (.aload_n 0, 1) := by decide +kernel
theorem d_B_shape_63 : decode b_B_shape 63 = .ok (.getfield 52, 3) := by decide +kernel
theorem d_B_shape_66 : decode b_B_shape 66 = .ok (.iconst 1, 1) := by decide +kernel
theorem d_B_shape_67 : decode b_B_shape 67 = .ok (.isub, 1) := by decide +kernel
theorem d_B_shape_68 : decode b_B_shape 68 = .ok (.ireturn, 1) := by decide +kernel
theorem d_B_corner_0 : decode b_B_corner 0 = .ok (.aload_n 0, 1) := by decide +kernel
theorem d_B_corner_1 : decode b_B_corner 1 = .ok (.iload_n 1, 1) := by decide +kernel
theorem d_B_corner_2 : decode b_B_corner 2 = .ok (.invokevirtual 60, 3) := by decide +kernel
theorem d_B_corner_5 : decode b_B_corner 5 = .ok (.astore 4, 2) := by decide +kernel
theorem d_B_corner_7 : decode b_B_corner 7 = .ok (.iload_n 2, 1) := by decide +kernel
theorem d_B_corner_8 : decode b_B_corner 8 = .ok (.iload_n 3, 1) := by decide +kernel
theorem d_B_corner_9 : decode b_B_corner 9 = .ok (.invokestatic 64, 3) := by decide +kernel
theorem d_B_corner_12 : decode b_B_corner 12 = .ok (.aload 4, 2) := by decide +kernel
theorem d_B_corner_14 : decode b_B_corner 14 = .ok (.invokevirtual 67, 3) := by decide +kernel
theorem d_B_corner_17 : decode b_B_corner 17 = .ok (.ifCond .ne 11, 3) := by decide +kernel
theorem d_B_corner_20 : decode b_B_corner 20 = .ok (.aload 4, 2) := by decide +kernel
theorem d_B_corner_22 : decode b_B_corner 22 = .ok (.invokevirtual 71, 3) := by decide +kernel
theorem d_B_corner_25 : decode b_B_corner 25 = .ok (.ifCond .eq 13, 3) := by decide +kernel
theorem d_B_corner_28 : decode b_B_corner 28 = .ok (.new 41, 3) := by decide +kernel
theorem d_B_corner_31 : decode b_B_corner 31 = .ok (.dup, 1) := by decide +kernel
theorem d_B_corner_32 : decode b_B_corner 32 = .ok (.ldc 74, 2) := by decide +kernel
theorem d_B_corner_34 : decode b_B_corner 34 = .ok (.invokespecial 45, 3) := by decide +kernel
theorem d_B_corner_37 : decode b_B_corner 37 = .ok (.athrow, 1) := by decide +kernel
theorem d_B_corner_38 : decode b_B_corner 38 = .ok (.aload 4, 2) := by decide +kernel
theorem d_B_corner_40 : decode b_B_corner 40 = .ok (.iload_n 2, 1) := by decide +kernel
theorem d_B_corner_41 : decode b_B_corner 41 = .ok (.iload_n 3, 1) := by decide +kernel
theorem d_B_corner_42 : decode b_B_corner 42 = .ok (.invokevirtual 76, 3) := by decide +kernel
theorem d_B_corner_45 : decode b_B_corner 45 = .ok (.ireturn, 1) := by decide +kernel
theorem d_B_close_0 : decode b_B_close 0 = .ok (.aload_n 0, 1) := by decide +kernel
theorem d_B_close_1 : decode b_B_close 1 = .ok (.iload_n 1, 1) := by decide +kernel
theorem d_B_close_2 : decode b_B_close 2 = .ok (.invokevirtual 60, 3) := by decide +kernel
theorem d_B_close_5 : decode b_B_close 5 = .ok (.astore_n 2, 1) := by decide +kernel
theorem d_B_close_6 : decode b_B_close 6 = .ok (.aload_n 2, 1) := by decide +kernel
theorem d_B_close_7 : decode b_B_close 7 = .ok (.invokevirtual 80, 3) := by decide +kernel
theorem d_B_close_10 : decode b_B_close 10 = .ok (.ifCond .ne 5, 3) := by decide +kernel
theorem d_B_close_13 : decode b_B_close 13 = .ok (.iconst 0, 1) := by decide +kernel
theorem d_B_close_14 : decode b_B_close 14 = .ok (.ireturn, 1) := by decide +kernel
theorem d_B_close_15 : decode b_B_close 15 = .ok (.aload_n 0, 1) := by decide +kernel
theorem d_B_close_16 : decode b_B_close 16 = .ok (.dup, 1) := by decide +kernel
theorem d_B_close_17 : decode b_B_close 17 = .ok (.getfield 83, 3) := by decide +kernel
theorem d_B_close_20 : decode b_B_close 20 = .ok (.iconst 1, 1) := by decide +kernel
theorem d_B_close_21 : decode b_B_close 21 = .ok (.iadd, 1) := by decide +kernel
theorem d_B_close_22 : decode b_B_close 22 = .ok (.putfield 83, 3) := by decide +kernel
theorem d_B_close_25 : decode b_B_close 25 = .ok (.aload_n 2, 1) := by decide +kernel
theorem d_B_close_26 : decode b_B_close 26 = .ok (.aload_n 0, 1) := by decide +kernel
theorem d_B_close_27 : decode b_B_close 27 = .ok (.getfield 83, 3) := by decide +kernel
theorem d_B_close_30 : decode b_B_close 30 = .ok (.putfield 86, 3) := by decide +kernel
theorem d_B_close_33 : decode b_B_close 33 = .ok (.iconst 1, 1) := by decide +kernel
theorem d_B_close_34 : decode b_B_close 34 = .ok (.ireturn, 1) := by decide +kernel
theorem d_B_unsure_0 : decode b_B_unsure 0 = .ok (.aload_n 0, 1) := by decide +kernel
theorem d_B_unsure_1 : decode b_B_unsure 1 = .ok (.iload_n 1, 1) := by decide +kernel
theorem d_B_unsure_2 : decode b_B_unsure 2 = .ok (.invokevirtual 60, 3) := by decide +kernel
theorem d_B_unsure_5 : decode b_B_unsure 5 = .ok (.astore_n 3, 1) := by decide +kernel
theorem d_B_unsure_6 : decode b_B_unsure 6 = .ok (.aload_n 0, 1) := by decide +kernel
theorem d_B_unsure_7 : decode b_B_unsure 7 = .ok (.iload_n 2, 1) := by decide +kernel
theorem d_B_unsure_8 : decode b_B_unsure 8 = .ok (.invokevirtual 60, 3) := by decide +kernel
theorem d_B_unsure_11 : decode b_B_unsure 11 = .ok (.astore 4, 2) := by decide +kernel
theorem d_B_unsure_13 : decode b_B_unsure 13 = .ok (.aload_n 3, 1) := by decide +kernel
theorem d_B_unsure_14 : decode b_B_unsure 14 = .ok (.aload 4, 2) := by decide +kernel
theorem d_B_unsure_16 : decode b_B_unsure 16 = .ok (.if_acmp .eq 30, 3) := by decide +kernel
theorem d_B_unsure_19 : decode b_B_unsure 19 = .ok (.aload_n 3, 1) := by decide +kernel
theorem d_B_unsure_20 : decode b_B_unsure 20 = .ok (.getfield 89, 3) := by decide +kernel
theorem d_B_unsure_23 : decode b_B_unsure 23 = .ok (.aload 4, 2) := by decide +kernel
theorem d_B_unsure_25 : decode b_B_unsure 25 = .ok (.getfield 89, 3) := by decide +kernel
theorem d_B_unsure_28 : decode b_B_unsure 28 = .ok (.if_icmp .ne 18, 3) := by decide +kernel
theorem d_B_unsure_31 : decode b_B_unsure 31 = .ok (.aload_n 3, 1) := by decide +kernel
theorem d_B_unsure_32 : decode b_B_unsure 32 = .ok (.invokevirtual 67, 3) := by decide +kernel
theorem d_B_unsure_35 : decode b_B_unsure 35 = .ok (.ifCond .eq 11, 3) := by decide +kernel
theorem d_B_unsure_38 : decode b_B_unsure 38 = .ok (.aload 4, 2) := by decide +kernel
theorem d_B_unsure_40 : decode b_B_unsure 40 = .ok (.invokevirtual 67, 3) := by decide +kernel
theorem d_B_unsure_43 : decode b_B_unsure 43 = .ok (.ifCond .ne 5, 3) := by decide +kernel
theorem d_B_unsure_46 : decode b_B_unsure 46 = .ok (.iconst 0, 1) := by decide +kernel
theorem d_B_unsure_47 : decode b_B_unsure 47 = .ok (.ireturn, 1) := by decide +kernel
theorem d_B_unsure_48 : decode b_B_unsure 48 = .ok (.aload_n 3, 1) := by decide +kernel
theorem d_B_unsure_49 : decode b_B_unsure 49 = .ok (.invokevirtual 92, 3) := by decide +kernel
theorem d_B_unsure_52 : decode b_B_unsure 52 = .ok (.aload 4, 2) := by decide +kernel
theorem d_B_unsure_54 : decode b_B_unsure 54 = .ok (.invokevirtual 92, 3) := by decide +kernel
theorem d_B_unsure_57 : decode b_B_unsure 57 = .ok (.aload_n 3, 1) := by decide +kernel
theorem d_B_unsure_58 : decode b_B_unsure 58 = .ok (.aload 4, 2) := by decide +kernel
theorem d_B_unsure_60 : decode b_B_unsure 60 = .ok (.putfield 95, 3) := by decide +kernel
theorem d_B_unsure_63 : decode b_B_unsure 63 = .ok (.aload 4, 2) := by decide +kernel
theorem d_B_unsure_65 : decode b_B_unsure 65 = .ok (.aload_n 3, 1) := by decide +kernel
theorem d_B_unsure_66 : decode b_B_unsure 66 = .ok (.putfield 95, 3) := by decide +kernel
theorem d_B_unsure_69 : decode b_B_unsure 69 = .ok (.iconst 1, 1) := by decide +kernel
theorem d_B_unsure_70 : decode b_B_unsure 70 = .ok (.ireturn, 1) := by decide +kernel
theorem d_B_force_0 : decode b_B_force 0 = .ok (.aload_n 0, 1) := by decide +kernel
theorem d_B_force_1 : decode b_B_force 1 = .ok (.iload_n 1, 1) := by decide +kernel
theorem d_B_force_2 : decode b_B_force 2 = .ok (.invokevirtual 33, 3) := by decide +kernel
theorem d_B_force_5 : decode b_B_force 5 = .ok (.iload_n 2, 1) := by decide +kernel
theorem d_B_force_6 : decode b_B_force 6 = .ok (.invokestatic 99, 3) := by decide +kernel
theorem d_B_force_9 : decode b_B_force 9 = .ok (.aload_n 0, 1) := by decide +kernel
theorem d_B_force_10 : decode b_B_force 10 = .ok (.iload_n 1, 1) := by decide +kernel
theorem d_B_force_11 : decode b_B_force 11 = .ok (.iload_n 2, 1) := by decide +kernel
theorem d_B_force_12 : decode b_B_force 12 = .ok (.invokevirtual 102, 3) := by decide +kernel
theorem d_B_force_15 : decode b_B_force 15 = .ok (.astore_n 3, 1) := by decide +kernel
theorem d_B_force_16 : decode b_B_force 16 = .ok (.aload_n 3, 1) := by decide +kernel
theorem d_B_force_17 : decode b_B_force 17 = .ok (.ifnonnull 7, 3) := by decide +kernel
theorem d_B_force_20 : decode b_B_force 20 = .ok (.iconst (-1), 1) := by decide +kernel
theorem d_B_force_21 : decode b_B_force 21 = .ok (.goto 7, 3) := by decide +kernel
theorem d_B_force_24 : decode b_B_force 24 = .ok (.aload_n 3, 1) := by decide +kernel
theorem d_B_force_25 : decode b_B_force 25 = .ok (.getfield 106, 3) := by decide +kernel
theorem d_B_force_28 : decode b_B_force 28 = .ok (.ireturn, 1) := by decide +kernel
theorem d_B_inside_0 : decode b_B_inside 0 = .ok (.iload 4, 2) := by decide +kernel
theorem d_B_inside_2 : decode b_B_inside 2 = .ok (.invokestatic 109, 3) := by decide +kernel
theorem d_B_inside_5 : decode b_B_inside 5 = .ok (.iload_n 1, 1) := by decide +kernel
theorem d_B_inside_6 : decode b_B_inside 6 = .ok (.iload_n 2, 1) := by decide +kernel
theorem d_B_inside_7 : decode b_B_inside 7 = .ok (.invokestatic 64, 3) := by decide +kernel
theorem d_B_inside_10 : decode b_B_inside 10 = .ok (.iload_n 3, 1) := by decide +kernel
theorem d_B_inside_11 : decode b_B_inside 11 = .ok (.invokestatic 99, 3) := by decide +kernel
theorem d_B_inside_14 : decode b_B_inside 14 = .ok (.iload 4, 2) := by decide +kernel
theorem d_B_inside_16 : decode b_B_inside 16 = .ok (.istore 5, 2) := by decide +kernel
theorem d_B_inside_18 : decode b_B_inside 18 = .ok (.iconst 0, 1) := by decide +kernel
theorem d_B_inside_19 : decode b_B_inside 19 = .ok (.istore 6, 2) := by decide +kernel
theorem d_B_inside_21 : decode b_B_inside 21 = .ok (.iload 6, 2) := by decide +kernel
theorem d_B_inside_23 : decode b_B_inside 23 = .ok (.aload_n 0, 1) := by decide +kernel
theorem d_B_inside_24 : decode b_B_inside 24 = .ok (.getfield 37, 3) := by decide +kernel
theorem d_B_inside_27 : decode b_B_inside 27 = .ok (.if_icmp .ge 44, 3) := by decide +kernel
theorem d_B_inside_30 : decode b_B_inside 30 = .ok (.aload_n 0, 1) := by decide +kernel
theorem d_B_inside_31 : decode b_B_inside 31 = .ok (.iload 6, 2) := by decide +kernel
theorem d_B_inside_33 : decode b_B_inside 33 = .ok (.iload_n 3, 1) := by decide +kernel
theorem d_B_inside_34 : decode b_B_inside 34 = .ok (.invokevirtual 102, 3) := by decide +kernel
theorem d_B_inside_37 : decode b_B_inside 37 = .ok (.astore 7, 2) := by decide +kernel
theorem d_B_inside_39 : decode b_B_inside 39 = .ok (.aload 7, 2) := by decide +kernel
theorem d_B_inside_41 : decode b_B_inside 41 = .ok (.ifnull 24, 3) := by decide +kernel
theorem d_B_inside_44 : decode b_B_inside 44 = .ok (.aload 7, 2) := by decide +kernel
theorem d_B_inside_46 : decode b_B_inside 46 = .ok (.iload_n 1, 1) := by decide +kernel
theorem d_B_inside_47 : decode b_B_inside 47 = .ok (.iload_n 2, 1) := by decide +kernel
theorem d_B_inside_48 : decode b_B_inside 48 = .ok (.invokevirtual 112, 3) := by decide +kernel
theorem d_B_inside_51 : decode b_B_inside 51 = .ok (.ifCond .eq 14, 3) := by decide +kernel
theorem d_B_inside_54 : decode b_B_inside 54 = .ok (.iload 5, 2) := by decide +kernel
theorem d_B_inside_56 : decode b_B_inside 56 = .ok (.ifCond .ne 6, 3) := by decide +kernel
theorem d_B_inside_59 : decode b_B_inside 59 = .ok (.iload 6, 2) := by decide +kernel
theorem d_B_inside_61 : decode b_B_inside 61 = .ok (.ireturn, 1) := by decide +kernel
theorem d_B_inside_62 : decode b_B_inside 62 = .ok (.iinc 5 (-1), 3) := by decide +kernel
theorem d_B_inside_65 : decode b_B_inside 65 = .ok (.iinc 6 1, 3) := by decide +kernel
theorem d_B_inside_68 : decode b_B_inside 68 = .ok (.goto (-47), 3) := by decide +kernel
theorem d_B_inside_71 : decode b_B_inside 71 = .ok (.iconst (-1), 1) := by decide +kernel
theorem d_B_inside_72 : decode b_B_inside 72 = .ok (.ireturn, 1) := by decide +kernel
theorem d_B_threeWay_0 : decode b_B_threeWay 0 = .ok (.aload_n 0, 1) := by decide +kernel
theorem d_B_threeWay_1 : decode b_B_threeWay 1 = .ok (.iload_n 1, 1) := by decide +kernel
theorem d_B_threeWay_2 : decode b_B_threeWay 2 = .ok (.invokevirtual 33, 3) := by decide +kernel
theorem d_B_threeWay_5 : decode b_B_threeWay 5 = .ok (.iload_n 2, 1) := by decide +kernel
theorem d_B_threeWay_6 : decode b_B_threeWay 6 = .ok (.iload_n 3, 1) := by decide +kernel
theorem d_B_threeWay_7 : decode b_B_threeWay 7 = .ok (.invokestatic 64, 3) := by decide +kernel
theorem d_B_threeWay_10 : decode b_B_threeWay 10 = .ok (.iload 4, 2) := by decide +kernel
theorem d_B_threeWay_12 : decode b_B_threeWay 12 = .ok (.invokestatic 99, 3) := by decide +kernel
theorem d_B_threeWay_15 : decode b_B_threeWay 15 = .ok (.aload_n 0, 1) := by decide +kernel
theorem d_B_threeWay_16 : decode b_B_threeWay 16 = .ok (.iload_n 1, 1) := by decide +kernel
theorem d_B_threeWay_17 : decode b_B_threeWay 17 = .ok (.iload 4, 2) := by decide +kernel
theorem d_B_threeWay_19 : decode b_B_threeWay 19 = .ok (.invokevirtual 102, 3) := by decide +kernel
theorem d_B_threeWay_22 : decode b_B_threeWay 22 = .ok (.astore 5, 2) := by decide +kernel
theorem d_B_threeWay_24 : decode b_B_threeWay 24 = .ok (.aload 5, 2) := by decide +kernel
theorem d_B_threeWay_26 : decode b_B_threeWay 26 = .ok (.ifnonnull 5, 3) := by decide +kernel
theorem d_B_threeWay_29 : decode b_B_threeWay 29 = .ok (.iconst (-1), 1) := by decide +kernel
theorem d_B_threeWay_30 : decode b_B_threeWay 30 = .ok (.ireturn, 1) := by decide +kernel
theorem d_B_threeWay_31 : decode b_B_threeWay 31 = .ok (.aload 5, 2) := by decide +kernel
theorem d_B_threeWay_33 : decode b_B_threeWay 33 = .ok (.getfield 95, 3) := by decide +kernel
theorem d_B_threeWay_36 : decode b_B_threeWay 36 = .ok (.ifnonnull 8, 3) := by decide +kernel
theorem d_B_threeWay_39 : decode b_B_threeWay 39 = .ok (.aload 5, 2) := by decide +kernel
theorem d_B_threeWay_41 : decode b_B_threeWay 41 = .ok (.goto 8, 3) := by decide +kernel
theorem d_B_threeWay_44 : decode b_B_threeWay 44 = .ok (.aload 5, 2) := by decide +kernel
theorem d_B_threeWay_46 : decode b_B_threeWay 46 = .ok (.getfield 95, 3) := by decide +kernel
theorem d_B_threeWay_49 : decode b_B_threeWay 49 = .ok (.astore 6, 2) := by decide +kernel
theorem d_B_threeWay_51 : decode b_B_threeWay 51 = .ok (.aload 5, 2) := by decide +kernel
theorem d_B_threeWay_53 : decode b_B_threeWay 53 = .ok (.iload_n 2, 1) := by decide +kernel
theorem d_B_threeWay_54 : decode b_B_threeWay 54 = .ok (.iload_n 3, 1) := by decide +kernel
theorem d_B_threeWay_55 : decode b_B_threeWay 55 = .ok (.invokevirtual 112, 3) := by decide +kernel
theorem d_B_threeWay_58 : decode b_B_threeWay 58 = .ok (.ifCond .eq 7, 3) := by decide +kernel
theorem d_B_threeWay_61 : decode b_B_threeWay 61 = .ok (.iconst 1, 1) := by decide +kernel
theorem d_B_threeWay_62 : decode b_B_threeWay 62 = .ok (.goto 4, 3) := by decide +kernel
theorem d_B_threeWay_65 : decode b_B_threeWay 65 = .ok (.iconst 0, 1) := by decide +kernel
theorem d_B_threeWay_66 : decode b_B_threeWay 66 = .ok (.aload 6, 2) := by decide +kernel
theorem d_B_threeWay_68 : decode b_B_threeWay 68 = .ok (.iload_n 2, 1) := by decide +kernel
theorem d_B_threeWay_69 : decode b_B_threeWay 69 = .ok (.iload_n 3, 1) := by decide +kernel
theorem d_B_threeWay_70 : decode b_B_threeWay 70 = .ok (.invokevirtual 112, 3) := by decide +kernel
theorem d_B_threeWay_73 : decode b_B_threeWay 73 = .ok (.ifCond .eq 7, 3) := by decide +kernel
theorem d_B_threeWay_76 : decode b_B_threeWay 76 = .ok (.iconst 1, 1) := by decide +kernel
theorem d_B_threeWay_77 : decode b_B_threeWay 77 = .ok (.goto 4, 3) := by decide +kernel
theorem d_B_threeWay_80 : decode b_B_threeWay 80 = .ok (.iconst 0, 1) := by decide +kernel
theorem d_B_threeWay_81 : decode b_B_threeWay 81 = .ok (.iadd, 1) := by decide +kernel
theorem d_B_threeWay_82 : decode b_B_threeWay 82 = .ok (.ireturn, 1) := by decide +kernel
theorem d_B_area_0 : decode b_B_area 0 = .ok (.aload_n 0, 1) := by decide +kernel
theorem d_B_area_1 : decode b_B_area 1 = .ok (.iload_n 1, 1) := by decide +kernel
theorem d_B_area_2 : decode b_B_area 2 = .ok (.invokevirtual 33, 3) := by decide +kernel
theorem d_B_area_5 : decode b_B_area 5 = .ok (.iload_n 2, 1) := by decide +kernel
theorem d_B_area_6 : decode b_B_area 6 = .ok (.invokestatic 99, 3) := by decide +kernel
theorem d_B_area_9 : decode b_B_area 9 = .ok (.aload_n 0, 1) := by decide +kernel
theorem d_B_area_10 : decode b_B_area 10 = .ok (.iload_n 1, 1) := by decide +kernel
theorem d_B_area_11 : decode b_B_area 11 = .ok (.iload_n 2, 1) := by decide +kernel
theorem d_B_area_12 : decode b_B_area 12 = .ok (.invokevirtual 102, 3) := by decide +kernel
theorem d_B_area_15 : decode b_B_area 15 = .ok (.astore_n 3, 1) := by decide +kernel
theorem d_B_area_16 : decode b_B_area 16 = .ok (.aload_n 3, 1) := by decide +kernel
theorem d_B_area_17 : decode b_B_area 17 = .ok (.ifnonnull 7, 3) := by decide +kernel
theorem d_B_area_20 : decode b_B_area 20 = .ok (.iconst 0, 1) := by decide +kernel
theorem d_B_area_21 : decode b_B_area 21 = .ok (.goto 7, 3) := by decide +kernel
theorem d_B_area_24 : decode b_B_area 24 = .ok (.aload_n 3, 1) := by decide +kernel
theorem d_B_area_25 : decode b_B_area 25 = .ok (.invokevirtual 116, 3) := by decide +kernel
theorem d_B_area_28 : decode b_B_area 28 = .ok (.ireturn, 1) := by decide +kernel
theorem d_B_misfit_0 : decode b_B_misfit 0 = .ok (.iload_n 1, 1) := by decide +kernel
theorem d_B_misfit_1 : decode b_B_misfit 1 = .ok (.invokestatic 109, 3) := by decide +kernel
theorem d_B_misfit_4 : decode b_B_misfit 4 = .ok (.iload_n 2, 1) := by decide +kernel
theorem d_B_misfit_5 : decode b_B_misfit 5 = .ok (.invokestatic 99, 3) := by decide +kernel
theorem d_B_misfit_8 : decode b_B_misfit 8 = .ok (.iload_n 1, 1) := by decide +kernel
theorem d_B_misfit_9 : decode b_B_misfit 9 = .ok (.istore_n 3, 1) := by decide +kernel
theorem d_B_misfit_10 : decode b_B_misfit 10 = .ok (.iconst 0, 1) := by decide +kernel
theorem d_B_misfit_11 : decode b_B_misfit 11 = .ok (.istore 4, 2) := by decide +kernel
theorem d_B_misfit_13 : decode b_B_misfit 13 = .ok (.iload 4, 2) := by decide +kernel
theorem d_B_misfit_15 : decode b_B_misfit 15 = .ok (.aload_n 0, 1) := by decide +kernel
theorem d_B_misfit_16 : decode b_B_misfit 16 = .ok (.getfield 37, 3) := by decide +kernel
theorem d_B_misfit_19 : decode b_B_misfit 19 = .ok (.if_icmp .ge 29, 3) := by decide +kernel
theorem d_B_misfit_22 : decode b_B_misfit 22 = .ok (.aload_n 0, 1) := by decide +kernel
theorem d_B_misfit_23 : decode b_B_misfit 23 = .ok (.iload 4, 2) := by decide +kernel
theorem d_B_misfit_25 : decode b_B_misfit 25 = .ok (.iload_n 2, 1) := by decide +kernel
theorem d_B_misfit_26 : decode b_B_misfit 26 = .ok (.invokevirtual 120, 3) := by decide +kernel
theorem d_B_misfit_29 : decode b_B_misfit 29 = .ok (.ifCond .eq 13, 3) := by decide +kernel
theorem d_B_misfit_32 : decode b_B_misfit 32 = .ok (.iload_n 3, 1) := by decide +kernel
theorem d_B_misfit_33 : decode b_B_misfit 33 = .ok (.ifCond .ne 6, 3) := by decide +kernel
theorem d_B_misfit_36 : decode b_B_misfit 36 = .ok (.iload 4, 2) := by decide +kernel
theorem d_B_misfit_38 : decode b_B_misfit 38 = .ok (.ireturn, 1) := by decide +kernel
theorem d_B_misfit_39 : decode b_B_misfit 39 = .ok (.iinc 3 (-1), 3) := by decide +kernel
theorem d_B_misfit_42 : decode b_B_misfit 42 = .ok (.iinc 4 1, 3) := by decide +kernel
theorem d_B_misfit_45 : decode b_B_misfit 45 = .ok (.goto (-32), 3) := by decide +kernel
theorem d_B_misfit_48 : decode b_B_misfit 48 = .ok (.iconst (-1), 1) := by decide +kernel
theorem d_B_misfit_49 : decode b_B_misfit 49 = .ok (.ireturn, 1) := by decide +kernel
theorem d_B_distance_0 : decode b_B_distance 0 = .ok (.aload_n 0, 1) := by decide +kernel
theorem d_B_distance_1 : decode b_B_distance 1 = .ok (.iload_n 1, 1) := by decide +kernel
theorem d_B_distance_2 : decode b_B_distance 2 = .ok (.invokevirtual 33, 3) := by decide +kernel
theorem d_B_distance_5 : decode b_B_distance 5 = .ok (.aload_n 0, 1) := by decide +kernel
theorem d_B_distance_6 : decode b_B_distance 6 = .ok (.iload_n 2, 1) := by decide +kernel
theorem d_B_distance_7 : decode b_B_distance 7 = .ok (.invokevirtual 33, 3) := by decide +kernel
theorem d_B_distance_10 : decode b_B_distance 10 = .ok (.iload_n 3, 1) := by decide +kernel
theorem d_B_distance_11 : decode b_B_distance 11 = .ok (.invokestatic 99, 3) := by decide +kernel
theorem d_B_distance_14 : decode b_B_distance 14 = .ok (.aload_n 0, 1) := by decide +kernel
theorem d_B_distance_15 : decode b_B_distance 15 = .ok (.iload_n 1, 1) := by decide +kernel
theorem d_B_distance_16 : decode b_B_distance 16 = .ok (.iload_n 3, 1) := by decide +kernel
theorem d_B_distance_17 : decode b_B_distance 17 = .ok (.invokevirtual 102, 3) := by decide +kernel
theorem d_B_distance_20 : decode b_B_distance 20 = .ok (.astore 4, 2) := by decide +kernel
theorem d_B_distance_22 : decode b_B_distance 22 = .ok (.aload_n 0, 1) := by decide +kernel
theorem d_B_distance_23 : decode b_B_distance 23 = .ok (.iload_n 2, 1) := by decide +kernel
theorem d_B_distance_24 : decode b_B_distance 24 = .ok (.iload_n 3, 1) := by decide +kernel
theorem d_B_distance_25 : decode b_B_distance 25 = .ok (.invokevirtual 102, 3) := by decide +kernel
theorem d_B_distance_28 : decode b_B_distance 28 = .ok (.astore 5, 2) := by decide +kernel
theorem d_B_distance_30 : decode b_B_distance 30 = .ok (.aload 4, 2) := by decide +kernel
theorem d_B_distance_32 : decode b_B_distance 32 = .ok (.ifnull 8, 3) := by decide +kernel
theorem d_B_distance_35 : decode b_B_distance 35 = .ok (.aload 5, 2) := by decide +kernel
theorem d_B_distance_37 : decode b_B_distance 37 = .ok (.ifnonnull 7, 3) := by decide +kernel
theorem d_B_distance_40 : decode b_B_distance 40 = .ok (.iconst (-1), 1) := by decide +kernel
theorem d_B_distance_41 : decode b_B_distance 41 = .ok (.goto 10, 3) := by decide +kernel
theorem d_B_distance_44 : decode b_B_distance 44 = .ok (.aload 4, 2) := by decide +kernel
theorem d_B_distance_46 : decode b_B_distance 46 = .ok (.aload 5, 2) := by decide +kernel
theorem d_B_distance_48 : decode b_B_distance 48 = .ok (.invokevirtual 123, 3) := by decide +kernel
theorem d_B_distance_51 : decode b_B_distance 51 = .ok (.ireturn, 1) := by decide +kernel
theorem d_B_name_0 : decode b_B_name 0 = .ok (.aload_n 0, 1) := by decide +kernel
theorem d_B_name_1 : decode b_B_name 1 = .ok (.iload_n 1, 1) := by decide +kernel
theorem d_B_name_2 : decode b_B_name 2 = .ok (.invokevirtual 33, 3) := by decide +kernel
theorem d_B_name_5 : decode b_B_name 5 = .ok (.iload_n 3, 1) := by decide +kernel
theorem d_B_name_6 : decode b_B_name 6 = .ok (.iload 4, 2) := by decide +kernel
theorem d_B_name_8 : decode b_B_name 8 = .ok (.invokestatic 48, 3) := by decide +kernel
theorem d_B_name_11 : decode b_B_name 11 = .ok (.iload_n 2, 1) := by decide +kernel
theorem d_B_name_12 : decode b_B_name 12 = .ok (.ifCond .ge 13, 3) := by decide +kernel
theorem d_B_name_15 : decode b_B_name 15 = .ok (.new 127, 3) := by decide +kernel
theorem d_B_name_18 : decode b_B_name 18 = .ok (.dup, 1) := by decide +kernel
theorem d_B_name_19 : decode b_B_name 19 = .ok (.ldc 129, 2) := by decide +kernel
theorem d_B_name_21 : decode b_B_name 21 = .ok (.invokespecial 131, 3) := by decide +kernel
theorem d_B_name_24 : decode b_B_name 24 = .ok (.athrow, 1) := by decide +kernel
theorem d_B_name_25 : decode b_B_name 25 = .ok (.aload_n 0, 1) := by decide +kernel
theorem d_B_name_26 : decode b_B_name 26 = .ok (.getfield 22, 3) := by decide +kernel
theorem d_B_name_29 : decode b_B_name 29 = .ok (.invokevirtual 132, 3) := by decide +kernel
theorem d_B_name_32 : decode b_B_name 32 = .ok (.ifCond .eq 13, 3) := by decide +kernel
theorem d_B_name_35 : decode b_B_name 35 = .ok (.new 41, 3) := by decide +kernel
theorem d_B_name_38 : decode b_B_name 38 = .ok (.dup, 1) := by decide +kernel
theorem d_B_name_39 : decode b_B_name 39 = .ok (.ldc 133, 2) := by decide +kernel
theorem d_B_name_41 : decode b_B_name 41 = .ok (.invokespecial 45, 3) := by decide +kernel
theorem d_B_name_44 : decode b_B_name 44 = .ok (.athrow, 1) := by decide +kernel
theorem d_B_name_45 : decode b_B_name 45 = .ok (.aload_n 0, 1) := by decide +kernel
theorem d_B_name_46 : decode b_B_name 46 = .ok (.getfield 22, 3) := by decide +kernel
theorem d_B_name_49 : decode b_B_name 49 = .ok (.iload_n 1, 1) := by decide +kernel
theorem d_B_name_50 : decode b_B_name 50 = .ok (.iload_n 2, 1) := by decide +kernel
theorem d_B_name_51 : decode b_B_name 51 = .ok (.iload_n 3, 1) := by decide +kernel
theorem d_B_name_52 : decode b_B_name 52 = .ok (.iload 4, 2) := by decide +kernel
theorem d_B_name_54 : decode b_B_name 54 = .ok (.invokevirtual 135, 3) := by decide +kernel
theorem d_B_name_57 : decode b_B_name 57 = .ok (.return_, 1) := by decide +kernel
theorem d_B_nameOn_0 : decode b_B_nameOn 0 = .ok (.aload_n 0, 1) := by decide +kernel
theorem d_B_nameOn_1 : decode b_B_nameOn 1 = .ok (.iload_n 1, 1) := by decide +kernel
theorem d_B_nameOn_2 : decode b_B_nameOn 2 = .ok (.invokevirtual 33, 3) := by decide +kernel
theorem d_B_nameOn_5 : decode b_B_nameOn 5 = .ok (.iload_n 2, 1) := by decide +kernel
theorem d_B_nameOn_6 : decode b_B_nameOn 6 = .ok (.invokestatic 99, 3) := by decide +kernel
theorem d_B_nameOn_9 : decode b_B_nameOn 9 = .ok (.aload_n 0, 1) := by decide +kernel
theorem d_B_nameOn_10 : decode b_B_nameOn 10 = .ok (.getfield 22, 3) := by decide +kernel
theorem d_B_nameOn_13 : decode b_B_nameOn 13 = .ok (.iload_n 1, 1) := by decide +kernel
theorem d_B_nameOn_14 : decode b_B_nameOn 14 = .ok (.iload_n 2, 1) := by decide +kernel
theorem d_B_nameOn_15 : decode b_B_nameOn 15 = .ok (.invokevirtual 138, 3) := by decide +kernel
theorem d_B_nameOn_18 : decode b_B_nameOn 18 = .ok (.ireturn, 1) := by decide +kernel
theorem d_B_mark_0 : decode b_B_mark 0 = .ok (.iload_n 1, 1) := by decide +kernel
theorem d_B_mark_1 : decode b_B_mark 1 = .ok (.iload_n 2, 1) := by decide +kernel
theorem d_B_mark_2 : decode b_B_mark 2 = .ok (.invokestatic 64, 3) := by decide +kernel
theorem d_B_mark_5 : decode b_B_mark 5 = .ok (.iload_n 3, 1) := by decide +kernel
theorem d_B_mark_6 : decode b_B_mark 6 = .ok (.iload 4, 2) := by decide +kernel
theorem d_B_mark_8 : decode b_B_mark 8 = .ok (.invokestatic 64, 3) := by decide +kernel
theorem d_B_mark_11 : decode b_B_mark 11 = .ok (.aload_n 0, 1) := by decide +kernel
theorem d_B_mark_12 : decode b_B_mark 12 = .ok (.getfield 29, 3) := by decide +kernel
theorem d_B_mark_15 : decode b_B_mark 15 = .ok (.invokevirtual 141, 3) := by decide +kernel
theorem d_B_mark_18 : decode b_B_mark 18 = .ok (.ifCond .eq 13, 3) := by decide +kernel
theorem d_B_mark_21 : decode b_B_mark 21 = .ok (.new 41, 3) := by decide +kernel
theorem d_B_mark_24 : decode b_B_mark 24 = .ok (.dup, 1) := by decide +kernel
theorem d_B_mark_25 : decode b_B_mark 25 = .ok (.ldc 142, 2) := by decide +kernel
theorem d_B_mark_27 : decode b_B_mark 27 = .ok (.invokespecial 45, 3) := by decide +kernel
theorem d_B_mark_30 : decode b_B_mark 30 = .ok (.athrow, 1) := by decide +kernel
theorem d_B_mark_31 : decode b_B_mark 31 = .ok (.aload_n 0, 1) := by decide +kernel
theorem d_B_mark_32 : decode b_B_mark 32 = .ok (.getfield 29, 3) := by decide +kernel
theorem d_B_mark_35 : decode b_B_mark 35 = .ok (.iload_n 1, 1) := by decide +kernel
theorem d_B_mark_36 : decode b_B_mark 36 = .ok (.iload_n 2, 1) := by decide +kernel
theorem d_B_mark_37 : decode b_B_mark 37 = .ok (.iload_n 3, 1) := by decide +kernel
theorem d_B_mark_38 : decode b_B_mark 38 = .ok (.iload 4, 2) := by decide +kernel
theorem d_B_mark_40 : decode b_B_mark 40 = .ok (.invokevirtual 144, 3) := by decide +kernel
theorem d_B_mark_43 : decode b_B_mark 43 = .ok (.ireturn, 1) := by decide +kernel
theorem d_B_placed_0 : decode b_B_placed 0 = .ok (.iload_n 3, 1) := by decide +kernel
theorem d_B_placed_1 : decode b_B_placed 1 = .ok (.invokestatic 147, 3) := by decide +kernel
theorem d_B_placed_4 : decode b_B_placed 4 = .ok (.iload_n 1, 1) := by decide +kernel
theorem d_B_placed_5 : decode b_B_placed 5 = .ok (.iload_n 2, 1) := by decide +kernel
theorem d_B_placed_6 : decode b_B_placed 6 = .ok (.invokestatic 64, 3) := by decide +kernel
theorem d_B_placed_9 : decode b_B_placed 9 = .ok (.aload_n 0, 1) := by decide +kernel
theorem d_B_placed_10 : decode b_B_placed 10 = .ok (.getfield 29, 3) := by decide +kernel
theorem d_B_placed_13 : decode b_B_placed 13 = .ok (.iload_n 1, 1) := by decide +kernel
theorem d_B_placed_14 : decode b_B_placed 14 = .ok (.iload_n 2, 1) := by decide +kernel
theorem d_B_placed_15 : decode b_B_placed 15 = .ok (.iload_n 3, 1) := by decide +kernel
theorem d_B_placed_16 : decode b_B_placed 16 = .ok (.invokevirtual 150, 3) := by decide +kernel
theorem d_B_placed_19 : decode b_B_placed 19 = .ok (.ireturn, 1) := by decide +kernel
theorem d_B_masked_0 : decode b_B_masked 0 = .ok (.iload 4, 2) := by decide +kernel
theorem d_B_masked_2 : decode b_B_masked 2 = .ok (.invokestatic 147, 3) := by decide +kernel
theorem d_B_masked_5 : decode b_B_masked 5 = .ok (.iload_n 1, 1) := by decide +kernel
theorem d_B_masked_6 : decode b_B_masked 6 = .ok (.iload_n 2, 1) := by decide +kernel
theorem d_B_masked_7 : decode b_B_masked 7 = .ok (.invokestatic 64, 3) := by decide +kernel
theorem d_B_masked_10 : decode b_B_masked 10 = .ok (.iload_n 3, 1) := by decide +kernel
theorem d_B_masked_11 : decode b_B_masked 11 = .ok (.iconst 1, 1) := by decide +kernel
theorem d_B_masked_12 : decode b_B_masked 12 = .ok (.if_icmp .lt 10, 3) := by decide +kernel
theorem d_B_masked_15 : decode b_B_masked 15 = .ok (.iload_n 3, 1) := by decide +kernel
theorem d_B_masked_16 : decode b_B_masked 16 = .ok (.sipush 10000, 3) := by decide +kernel
theorem d_B_masked_19 : decode b_B_masked 19 = .ok (.if_icmp .le 13, 3) := by decide +kernel
theorem d_B_masked_22 : decode b_B_masked 22 = .ok (.new 127, 3) := by decide +kernel
theorem d_B_masked_25 : decode b_B_masked 25 = .ok (.dup, 1) := by decide +kernel
theorem d_B_masked_26 : decode b_B_masked 26 = .ok (.ldc 153, 2) := by decide +kernel
theorem d_B_masked_28 : decode b_B_masked 28 = .ok (.invokespecial 131, 3) := by decide +kernel
theorem d_B_masked_31 : decode b_B_masked 31 = .ok (.athrow, 1) := by decide +kernel
theorem d_B_masked_32 : decode b_B_masked 32 = .ok (.iload 4, 2) := by decide +kernel
theorem d_B_masked_34 : decode b_B_masked 34 = .ok (.ifCond .ne 7, 3) := by decide +kernel
theorem d_B_masked_37 : decode b_B_masked 37 = .ok (.iload_n 1, 1) := by decide +kernel
theorem d_B_masked_38 : decode b_B_masked 38 = .ok (.goto 4, 3) := by decide +kernel
theorem d_B_masked_41 : decode b_B_masked 41 = .ok (.iload_n 2, 1) := by decide +kernel
theorem d_B_masked_42 : decode b_B_masked 42 = .ok (.iload_n 3, 1) := by decide +kernel
theorem d_B_masked_43 : decode b_B_masked 43 = .ok (.invokestatic 155, 3) := by decide +kernel
theorem d_B_masked_46 : decode b_B_masked 46 = .ok (.iload_n 3, 1) := by decide +kernel
theorem d_B_masked_47 : decode b_B_masked 47 = .ok (.imul, 1) := by decide +kernel
theorem d_B_masked_48 : decode b_B_masked 48 = .ok (.ireturn, 1) := by decide +kernel
theorem d_B_shapeNumbered_0 : decode b_B_shapeNumbered 0 = .ok (.iload_n 1, 1) := by decide +kernel
theorem d_B_shapeNumbered_1 : decode b_B_shapeNumbered 1 = .ok (.ifCond .lt 11, 3) := by decide +kernel
theorem d_B_shapeNumbered_4 : decode b_B_shapeNumbered 4 = .ok (.iload_n 1, 1) := by decide +kernel
theorem d_B_shapeNumbered_5 : decode b_B_shapeNumbered 5 = .ok (.aload_n 0, 1) := by decide +kernel
theorem d_B_shapeNumbered_6 : decode b_B_shapeNumbered 6 = .ok (.getfield 52, 3) := by decide +kernel
theorem d_B_shapeNumbered_9 : decode b_B_shapeNumbered 9 = .ok (.if_icmp .lt 13, 3) := by decide +kernel
theorem d_B_shapeNumbered_12 : decode b_B_shapeNumbered 12 = .ok (.new 160, 3) := by decide +kernel
theorem d_B_shapeNumbered_15 : decode b_B_shapeNumbered 15 = .ok (.dup, 1) := by decide +kernel
theorem d_B_shapeNumbered_16 : decode b_B_shapeNumbered 16 = .ok (.ldc 162, 2) := by decide +kernel
theorem d_B_shapeNumbered_18 : decode b_B_shapeNumbered 18 = .ok (.invokespecial 164, 3) := by decide +kernel
theorem d_B_shapeNumbered_21 : decode b_B_shapeNumbered 21 = .ok (.athrow, 1) := by decide +kernel
theorem d_B_shapeNumbered_22 : decode b_B_shapeNumbered 22 = .ok (.aload_n 0, 1) := by decide +kernel
theorem d_B_shapeNumbered_23 : decode b_B_shapeNumbered 23 = .ok (.getfield 15, 3) := by decide +kernel
theorem d_B_shapeNumbered_26 : decode b_B_shapeNumbered 26 = .ok (.iload_n 1, 1) := by decide +kernel
theorem d_B_shapeNumbered_27 : decode b_B_shapeNumbered 27 = .ok (.aaload, 1) := by decide +kernel
theorem d_B_shapeNumbered_28 : decode b_B_shapeNumbered 28 = .ok (.areturn, 1) := by decide +kernel
theorem d_B_shapeOn_0 : decode b_B_shapeOn 0 = .ok (.aconst_null, 1) := by decide +kernel
theorem d_B_shapeOn_1 : decode b_B_shapeOn 1 = .ok (.astore_n 3, 1) := by decide +kernel
theorem d_B_shapeOn_2 : decode b_B_shapeOn 2 = .ok (.iconst 0, 1) := by decide +kernel
theorem d_B_shapeOn_3 : decode b_B_shapeOn 3 = .ok (.istore 4, 2) := by decide +kernel
theorem d_B_shapeOn_5 : decode b_B_shapeOn 5 = .ok (.iload 4, 2) := by decide +kernel
theorem d_B_shapeOn_7 : decode b_B_shapeOn 7 = .ok (.aload_n 0, 1) := by decide +kernel
theorem d_B_shapeOn_8 : decode b_B_shapeOn 8 = .ok (.getfield 52, 3) := by decide +kernel
theorem d_B_shapeOn_11 : decode b_B_shapeOn 11 = .ok (.if_icmp .ge 47, 3) := by decide +kernel
theorem d_B_shapeOn_14 : decode b_B_shapeOn 14 = .ok (.aload_n 0, 1) := by decide +kernel
theorem d_B_shapeOn_15 : decode b_B_shapeOn 15 = .ok (.getfield 15, 3) := by decide +kernel
theorem d_B_shapeOn_18 : decode b_B_shapeOn 18 = .ok (.iload 4, 2) := by decide +kernel
theorem d_B_shapeOn_20 : decode b_B_shapeOn 20 = .ok (.aaload, 1) := by decide +kernel
theorem d_B_shapeOn_21 : decode b_B_shapeOn 21 = .ok (.astore 5, 2) := by decide +kernel
theorem d_B_shapeOn_23 : decode b_B_shapeOn 23 = .ok (.aload 5, 2) := by decide +kernel
theorem d_B_shapeOn_25 : decode b_B_shapeOn 25 = .ok (.iload_n 1, 1) := by decide +kernel
theorem d_B_shapeOn_26 : decode b_B_shapeOn 26 = .ok (.iload_n 2, 1) := by decide +kernel
theorem d_B_shapeOn_27 : decode b_B_shapeOn 27 = .ok (.invokevirtual 165, 3) := by decide +kernel
theorem d_B_shapeOn_30 : decode b_B_shapeOn 30 = .ok (.ifCond .eq 22, 3) := by decide +kernel
theorem d_B_shapeOn_33 : decode b_B_shapeOn 33 = .ok (.aload_n 3, 1) := by decide +kernel
theorem d_B_shapeOn_34 : decode b_B_shapeOn 34 = .ok (.ifnull 15, 3) := by decide +kernel
theorem d_B_shapeOn_37 : decode b_B_shapeOn 37 = .ok (.aload 5, 2) := by decide +kernel
theorem d_B_shapeOn_39 : decode b_B_shapeOn 39 = .ok (.getfield 86, 3) := by decide +kernel
theorem d_B_shapeOn_42 : decode b_B_shapeOn 42 = .ok (.aload_n 3, 1) := by decide +kernel
theorem d_B_shapeOn_43 : decode b_B_shapeOn 43 = .ok (.getfield 86, 3) := by decide +kernel
theorem d_B_shapeOn_46 : decode b_B_shapeOn 46 = .ok (.if_icmp .le 6, 3) := by decide +kernel
theorem d_B_shapeOn_49 : decode b_B_shapeOn 49 = .ok (.aload 5, 2) := by decide +kernel
theorem d_B_shapeOn_51 : decode b_B_shapeOn 51 = .ok (.astore_n 3, 1) := by decide +kernel
theorem d_B_shapeOn_52 : decode b_B_shapeOn 52 = .ok (.iinc 4 1, 3) := by decide +kernel
theorem d_B_shapeOn_55 : decode b_B_shapeOn 55 = .ok (.goto (-50), 3) := by decide +kernel
theorem d_B_shapeOn_58 : decode b_B_shapeOn 58 = .ok (.aload_n 3, 1) := by decide +kernel
theorem d_B_shapeOn_59 : decode b_B_shapeOn 59 = .ok (.areturn, 1) := by decide +kernel
theorem d_B_misfitsOn_0 : decode b_B_misfitsOn 0 = .ok (.aload_n 0, 1) := by decide +kernel
theorem d_B_misfitsOn_1 : decode b_B_misfitsOn 1 = .ok (.getfield 9, 3) := by decide +kernel
theorem d_B_misfitsOn_4 : decode b_B_misfitsOn 4 = .ok (.iload_n 1, 1) := by decide +kernel
theorem d_B_misfitsOn_5 : decode b_B_misfitsOn 5 = .ok (.iaload, 1) := by decide +kernel
theorem d_B_misfitsOn_6 : decode b_B_misfitsOn 6 = .ok (.istore_n 3, 1) := by decide +kernel
theorem d_B_misfitsOn_7 : decode b_B_misfitsOn 7 = .ok (.iload_n 3, 1) := by decide +kernel
theorem d_B_misfitsOn_8 : decode b_B_misfitsOn 8 = .ok (.iconst (-1), 1) := by decide +kernel
theorem d_B_misfitsOn_9 : decode b_B_misfitsOn 9 = .ok (.if_icmp .ne 5, 3) := by decide +kernel
theorem d_B_misfitsOn_12 : decode b_B_misfitsOn 12 = .ok (.iconst 0, 1) := by decide +kernel
theorem d_B_misfitsOn_13 : decode b_B_misfitsOn 13 = .ok (.ireturn, 1) := by decide +kernel
theorem d_B_misfitsOn_14 : decode b_B_misfitsOn 14 = .ok (.aload_n 0, 1) := by decide +kernel
theorem d_B_misfitsOn_15 : decode b_B_misfitsOn 15 = .ok (.iload_n 1, 1) := by decide +kernel
theorem d_B_misfitsOn_16 : decode b_B_misfitsOn 16 = .ok (.iload_n 2, 1) := by decide +kernel
theorem d_B_misfitsOn_17 : decode b_B_misfitsOn 17 = .ok (.invokevirtual 102, 3) := by decide +kernel
theorem d_B_misfitsOn_20 : decode b_B_misfitsOn 20 = .ok (.astore 4, 2) := by decide +kernel
theorem d_B_misfitsOn_22 : decode b_B_misfitsOn 22 = .ok (.aload_n 0, 1) := by decide +kernel
theorem d_B_misfitsOn_23 : decode b_B_misfitsOn 23 = .ok (.iload_n 3, 1) := by decide +kernel
theorem d_B_misfitsOn_24 : decode b_B_misfitsOn 24 = .ok (.iload_n 2, 1) := by decide +kernel
theorem d_B_misfitsOn_25 : decode b_B_misfitsOn 25 = .ok (.invokevirtual 102, 3) := by decide +kernel
theorem d_B_misfitsOn_28 : decode b_B_misfitsOn 28 = .ok (.astore 5, 2) := by decide +kernel
theorem d_B_misfitsOn_30 : decode b_B_misfitsOn 30 = .ok (.aload 4, 2) := by decide +kernel
theorem d_B_misfitsOn_32 : decode b_B_misfitsOn 32 = .ok (.ifnull 22, 3) := by decide +kernel
theorem d_B_misfitsOn_35 : decode b_B_misfitsOn 35 = .ok (.aload 5, 2) := by decide +kernel
theorem d_B_misfitsOn_37 : decode b_B_misfitsOn 37 = .ok (.ifnull 17, 3) := by decide +kernel
theorem d_B_misfitsOn_40 : decode b_B_misfitsOn 40 = .ok (.aload 5, 2) := by decide +kernel
theorem d_B_misfitsOn_42 : decode b_B_misfitsOn 42 = .ok (.aload 4, 2) := by decide +kernel
theorem d_B_misfitsOn_44 : decode b_B_misfitsOn 44 = .ok (.invokevirtual 168, 3) := by decide +kernel
theorem d_B_misfitsOn_47 : decode b_B_misfitsOn 47 = .ok (.ifCond .ne 7, 3) := by decide +kernel
theorem d_B_misfitsOn_50 : decode b_B_misfitsOn 50 = .ok (.iconst 1, 1) := by decide +kernel
theorem d_B_misfitsOn_51 : decode b_B_misfitsOn 51 = .ok (.goto 4, 3) := by decide +kernel
theorem d_B_misfitsOn_54 : decode b_B_misfitsOn 54 = .ok (.iconst 0, 1) := by decide +kernel
theorem d_B_misfitsOn_55 : decode b_B_misfitsOn 55 = .ok (.ireturn, 1) := by decide +kernel
theorem d_B_requirePlace_0 : decode b_B_requirePlace 0 = .ok (.iload_n 1, 1) := by decide +kernel
theorem d_B_requirePlace_1 : decode b_B_requirePlace 1 = .ok (.ifCond .lt 11, 3) := by decide +kernel
theorem d_B_requirePlace_4 : decode b_B_requirePlace 4 = .ok (.iload_n 1, 1) := by decide +kernel
theorem d_B_requirePlace_5 : decode b_B_requirePlace 5 = .ok (.aload_n 0, 1) := by decide +kernel
theorem d_B_requirePlace_6 : decode b_B_requirePlace 6 = .ok (.getfield 37, 3) := by decide +kernel
theorem d_B_requirePlace_9 : decode b_B_requirePlace 9 = .ok (.if_icmp .lt 13, 3) := by decide +kernel
theorem d_B_requirePlace_12 : decode b_B_requirePlace 12 = .ok (.new 160, 3) := by decide +kernel
theorem d_B_requirePlace_15 : decode b_B_requirePlace 15 = .ok (.dup, 1) := by decide +kernel
theorem d_B_requirePlace_16 : decode b_B_requirePlace 16 = .ok (.ldc 172, 2) := by decide +kernel
theorem d_B_requirePlace_18 : decode b_B_requirePlace 18 = .ok (.invokespecial 164, 3) := by decide +kernel
theorem d_B_requirePlace_21 : decode b_B_requirePlace 21 = .ok (.athrow, 1) := by decide +kernel
theorem d_B_requirePlace_22 : decode b_B_requirePlace 22 = .ok (.return_, 1) := by decide +kernel
theorem d_B_requireRank_0 : decode b_B_requireRank 0 = .ok (.iload_n 0, 1) := by decide +kernel
theorem d_B_requireRank_1 : decode b_B_requireRank 1 = .ok (.ifCond .ge 13, 3) := by decide +kernel
theorem d_B_requireRank_4 : decode b_B_requireRank 4 = .ok (.new 160, 3) := by decide +kernel
theorem d_B_requireRank_7 : decode b_B_requireRank 7 = .ok (.dup, 1) := by decide +kernel
theorem d_B_requireRank_8 : decode b_B_requireRank 8 = .ok (.ldc 174, 2) := by decide +kernel
theorem d_B_requireRank_10 : decode b_B_requireRank 10 = .ok (.invokespecial 164, 3) := by decide +kernel
theorem d_B_requireRank_13 : decode b_B_requireRank 13 = .ok (.athrow, 1) := by decide +kernel
theorem d_B_requireRank_14 : decode b_B_requireRank 14 = .ok (.return_, 1) := by decide +kernel
theorem d_B_requireAxis_0 : decode b_B_requireAxis 0 = .ok (.iload_n 0, 1) := by decide +kernel
theorem d_B_requireAxis_1 : decode b_B_requireAxis 1 = .ok (.ifCond .eq 18, 3) := by decide +kernel
theorem d_B_requireAxis_4 : decode b_B_requireAxis 4 = .ok (.iload_n 0, 1) := by decide +kernel
theorem d_B_requireAxis_5 : decode b_B_requireAxis 5 = .ok (.iconst 1, 1) := by decide +kernel
theorem d_B_requireAxis_6 : decode b_B_requireAxis 6 = .ok (.if_icmp .eq 13, 3) := by decide +kernel
theorem d_B_requireAxis_9 : decode b_B_requireAxis 9 = .ok (.new 160, 3) := by decide +kernel
theorem d_B_requireAxis_12 : decode b_B_requireAxis 12 = .ok (.dup, 1) := by decide +kernel
theorem d_B_requireAxis_13 : decode b_B_requireAxis 13 = .ok (.ldc 176, 2) := by decide +kernel
theorem d_B_requireAxis_15 : decode b_B_requireAxis 15 = .ok (.invokespecial 164, 3) := by decide +kernel
theorem d_B_requireAxis_18 : decode b_B_requireAxis 18 = .ok (.athrow, 1) := by decide +kernel
theorem d_B_requireAxis_19 : decode b_B_requireAxis 19 = .ok (.return_, 1) := by decide +kernel
theorem d_B_requireDay_0 : decode b_B_requireDay 0 = .ok (.iload_n 0, 1) := by decide +kernel
theorem d_B_requireDay_1 : decode b_B_requireDay 1 = .ok (.ifCond .lt 9, 3) := by decide +kernel
theorem d_B_requireDay_4 : decode b_B_requireDay 4 = .ok (.iload_n 0, 1) := by decide +kernel
theorem d_B_requireDay_5 : decode b_B_requireDay 5 = .ok (.ldc 178, 2) := by decide +kernel
theorem d_B_requireDay_7 : decode b_B_requireDay 7 = .ok (.if_icmp .le 13, 3) := by decide +kernel
theorem d_B_requireDay_10 : decode b_B_requireDay 10 = .ok (.new 127, 3) := by decide +kernel
theorem d_B_requireDay_13 : decode b_B_requireDay 13 = .ok (.dup, 1) := by decide +kernel
theorem d_B_requireDay_14 : decode b_B_requireDay 14 = .ok (.ldc 179, 2) := by decide +kernel
theorem d_B_requireDay_16 : decode b_B_requireDay 16 = .ok (.invokespecial 131, 3) := by decide +kernel
theorem d_B_requireDay_19 : decode b_B_requireDay 19 = .ok (.athrow, 1) := by decide +kernel
theorem d_B_requireDay_20 : decode b_B_requireDay 20 = .ok (.return_, 1) := by decide +kernel
theorem d_B_requireSpan_0 : decode b_B_requireSpan 0 = .ok (.iload_n 0, 1) := by decide +kernel
theorem d_B_requireSpan_1 : decode b_B_requireSpan 1 = .ok (.invokestatic 99, 3) := by decide +kernel
theorem d_B_requireSpan_4 : decode b_B_requireSpan 4 = .ok (.iload_n 1, 1) := by decide +kernel
theorem d_B_requireSpan_5 : decode b_B_requireSpan 5 = .ok (.invokestatic 99, 3) := by decide +kernel
theorem d_B_requireSpan_8 : decode b_B_requireSpan 8 = .ok (.iload_n 0, 1) := by decide +kernel
theorem d_B_requireSpan_9 : decode b_B_requireSpan 9 = .ok (.iload_n 1, 1) := by decide +kernel
theorem d_B_requireSpan_10 : decode b_B_requireSpan 10 = .ok (.if_icmp .le 13, 3) := by decide +kernel
theorem d_B_requireSpan_13 : decode b_B_requireSpan 13 = .ok (.new 127, 3) := by decide +kernel
theorem d_B_requireSpan_16 : decode b_B_requireSpan 16 = .ok (.dup, 1) := by decide +kernel
theorem d_B_requireSpan_17 : decode b_B_requireSpan 17 = .ok (.ldc 181, 2) := by decide +kernel
theorem d_B_requireSpan_19 : decode b_B_requireSpan 19 = .ok (.invokespecial 131, 3) := by decide +kernel
theorem d_B_requireSpan_22 : decode b_B_requireSpan 22 = .ok (.athrow, 1) := by decide +kernel
theorem d_B_requireSpan_23 : decode b_B_requireSpan 23 = .ok (.return_, 1) := by decide +kernel
theorem d_B_requirePoint_0 : decode b_B_requirePoint 0 = .ok (.iload_n 0, 1) := by decide +kernel
theorem d_B_requirePoint_1 : decode b_B_requirePoint 1 = .ok (.sipush (-10000), 3) := by decide +kernel
theorem d_B_requirePoint_4 : decode b_B_requirePoint 4 = .ok (.if_icmp .lt 24, 3) := by decide +kernel
theorem d_B_requirePoint_7 : decode b_B_requirePoint 7 = .ok (.iload_n 0, 1) := by decide +kernel
theorem d_B_requirePoint_8 : decode b_B_requirePoint 8 = .ok (.sipush 10000, 3) := by decide +kernel
theorem d_B_requirePoint_11 : decode b_B_requirePoint 11 = .ok (.if_icmp .gt 17, 3) := by decide +kernel
theorem d_B_requirePoint_14 : decode b_B_requirePoint 14 = .ok (.iload_n 1, 1) := by decide +kernel
theorem d_B_requirePoint_15 : decode b_B_requirePoint 15 = .ok (.sipush (-10000), 3) := by decide +kernel
theorem d_B_requirePoint_18 : decode b_B_requirePoint 18 = .ok (.if_icmp .lt 10, 3) := by decide +kernel
theorem d_B_requirePoint_21 : decode b_B_requirePoint 21 = .ok (.iload_n 1, 1) := by decide +kernel
theorem d_B_requirePoint_22 : decode b_B_requirePoint 22 = .ok (.sipush 10000, 3) := by decide +kernel
theorem d_B_requirePoint_25 : decode b_B_requirePoint 25 = .ok (.if_icmp .le 13, 3) := by decide +kernel
theorem d_B_requirePoint_28 : decode b_B_requirePoint 28 = .ok (.new 127, 3) := by decide +kernel
theorem d_B_requirePoint_31 : decode b_B_requirePoint 31 = .ok (.dup, 1) := by decide +kernel
theorem d_B_requirePoint_32 : decode b_B_requirePoint 32 = .ok (.ldc 183, 2) := by decide +kernel
theorem d_B_requirePoint_34 : decode b_B_requirePoint 34 = .ok (.invokespecial 131, 3) := by decide +kernel
theorem d_B_requirePoint_37 : decode b_B_requirePoint 37 = .ok (.athrow, 1) := by decide +kernel
theorem d_B_requirePoint_38 : decode b_B_requirePoint 38 = .ok (.return_, 1) := by decide +kernel
end
section
section S4
variable {s0 : State} {dC : Nat → ClassId} {dI : Nat → Nat → Nat} {cI cS : ClassId} {l : Launch}
set_option maxRecDepth 100000 in
set_option maxHeartbeats 4000000 in
theorem c_B_requirePlace (G : z_G s0 (dC, dI) cI cS) (A : Nat → Nat) (np ns nc nn nm : Nat) (fv : Nat → Nat → Int32) (so sf st : Nat → Int32) (sn sc : Nat → Nat) (sp : Nat → Option Nat) (sx sy : Nat → Nat → Int32) (k : Nat) (hk : k < np) : Met l y_B_requirePlace [Cond.code y_B_requirePlace b_B_requirePlace 2 none] ({ frames := 0, cells := 0, slots := 0, locals := 0 }) (z_Pc s0 [.ref (A 0), .int (nI k)] (fun H => z_BD (dC, dI) cI cS H A np ns nc nn nm fv so sf st sn sc sp sx sy)) (z_Qr (none)) 0 0 z_no := by
  refine z_ofW (by decide +kernel) (Nat.le_of_ble_eq_true rfl) ?_
  intro p e s m below meth c hx hb hml hr hown hlocks hnm hW0 hB ls hl
  have hts := z_hts (args := [.ref (A 0), .int (nI k)].toArray) G.1 hW0
  have hN := z_nstW G.2.1 hW0
  have hK := va_K.moved hW0.alike G.2.2.1
  have hAI := arrOfT_moved hW0.alike G.2.2.2.1
  have hl : lv_has ls 2 [(0, .ref (A 0)), (1, .int (nI k))] := hl
  obtain ⟨⟨hO0, hO1, hO2, hB3, hFA, hSH⟩, hinj, ⟨hnp, hns, hnn, hnm, hnc⟩, hsb⟩ := id hB
  have hAS := arrOfT_moved hW0.alike G.2.2.2.2.1
  refine lv_iload_n hx hb d_B_requirePlace_0 rfl (lv_at hl 1 rfl) ?_
  refine lv_if_lt (tgt := 12) hx hb d_B_requirePlace_1 (by decide) (fun c_1 => ?_) (fun c_1 => ?_)
  · skip
    have c_1 : k < 0 := (nI_ltI (a := k) (b := 0) (by omega) (by omega)).mp c_1
    exfalso
    omega
  · skip
    have c_1 : ¬ (k < 0) := fun h => c_1 ((nI_ltI (a := k) (b := 0) (by omega) (by omega)).mpr h)
    refine lv_iload_n hx hb d_B_requirePlace_4 rfl (lv_at hl 1 rfl) ?_
    refine lv_aload_n hx hb d_B_requirePlace_5 rfl (lv_at hl 0 rfl) ?_
    refine va_get (D := (dC, dI)) (ci := 3) (v := .int (nI np)) (C := R_B) (T := T_B) (N := 7) hx hb hts in_B hown hK hO0.P 0 rfl rfl 1 (by decide) (hts _ w_69) (fun _ h9 => h9) rfl d_B_requirePlace_6 ?_
    refine lv_icmp_lt (tgt := 22) hx hb d_B_requirePlace_9 (by decide) (fun c_2 => ?_) (fun c_2 => ?_)
    · skip
      have c_2 : k < np := (nI_ltI (a := k) (b := np) (by omega) (by omega)).mp c_2
      exact z_vret hx hb hr hlocks d_B_requirePlace_22
    · skip
      have c_2 : ¬ (k < np) := fun h => c_2 ((nI_ltI (a := k) (b := np) (by omega) (by omega)).mpr h)
      exfalso
      omega
set_option maxRecDepth 100000 in
set_option maxHeartbeats 4000000 in
theorem t_B_requirePlace (G : z_G s0 (dC, dI) cI cS) (hT : z_T s0 l) (A : Nat → Nat) (np ns nc nn nm : Nat) (fv : Nat → Nat → Int32) (so sf st : Nat → Int32) (sn sc : Nat → Nat) (sp : Nat → Option Nat) (sx sy : Nat → Nat → Int32) (x : Int32) (hx0 : x < 0 ∨ nI np ≤ x) : xt_Met l y_B_requirePlace [Cond.code y_B_requirePlace b_B_requirePlace 2 none] ({ frames := 6, cells := 1, slots := 6, locals := 82 }) (z_Pc s0 [.ref (A 0), .int x] (fun H => z_Old s0 H ∧ z_BD (dC, dI) cI cS H A np ns nc nn nm fv so sf st sn sc sp sx sy)) "java/util/NoSuchElementException" := by
  refine z_ofWX (by decide +kernel) (Nat.le_of_ble_eq_true rfl) ?_
  intro p e s m below meth c hx hb hml hadm hown hlocks hno hW0 hB ls hl
  have hts := z_hts (args := [.ref (A 0), .int x].toArray) G.1 hW0
  have hN := z_nstW G.2.1 hW0
  have hK := va_K.moved hW0.alike G.2.2.1
  have hAI := arrOfT_moved hW0.alike G.2.2.2.1
  have hl : lv_has ls 2 [(0, .ref (A 0)), (1, .int x)] := hl
  obtain ⟨hOld, hB1⟩ := id hB
  obtain ⟨⟨hO0, hO1, hO2, hB3, hFA, hSH⟩, hinj, ⟨hnp, hns, hnn, hnm, hnc⟩, hsb⟩ := id hB1
  have hAS := arrOfT_moved hW0.alike G.2.2.2.2.1
  refine lv_iload_n hx hb d_B_requirePlace_0 rfl (lv_at hl 1 rfl) ?_
  refine lv_if_lt (tgt := 12) hx hb d_B_requirePlace_1 (by decide) (fun c_1 => ?_) (fun c_1 => ?_)
  · skip
    have c_1' : ¬ ((0 : Int32) ≤ x) := Int32.not_le.mpr c_1
    exact xt_new hx hb hT.1 hown hW0 hOld (by decide +kernel) hT.2.1.1 k_B_NSE k_13 (hT.2.2 (R_B, 172, "there is no such place") (List.mem_of_getElem? (i := 0) rfl)) (hts _ w_103) (hts _ w_8) hno hlocks (hl.1.trans hml.symm) d_B_requirePlace_12 d_B_requirePlace_15 d_B_requirePlace_16 d_B_requirePlace_18 d_B_requirePlace_21 (Nat.le_of_ble_eq_true rfl) (Nat.le_of_ble_eq_true rfl) (Nat.le_of_ble_eq_true rfl) (Nat.le_of_ble_eq_true rfl)
  · skip
    have c_1' : (0 : Int32) ≤ x := Int32.not_lt.mp c_1
    refine lv_iload_n hx hb d_B_requirePlace_4 rfl (lv_at hl 1 rfl) ?_
    refine lv_aload_n hx hb d_B_requirePlace_5 rfl (lv_at hl 0 rfl) ?_
    refine va_get (D := (dC, dI)) (ci := 3) (v := .int (nI np)) (C := R_B) (T := T_B) (N := 7) hx hb hts in_B hown hK hO0.P 0 rfl rfl 1 (by decide) (hts _ w_69) (fun _ h9 => h9) rfl d_B_requirePlace_6 ?_
    refine lv_icmp_lt (tgt := 22) hx hb d_B_requirePlace_9 (by decide) (fun c_2 => ?_) (fun c_2 => ?_)
    · skip
      have c_2' : ¬ ((nI np) ≤ x) := Int32.not_le.mpr c_2
      exact absurd hx0 (fun h => h.elim c_1 c_2')
    · skip
      have c_2' : (nI np) ≤ x := Int32.not_lt.mp c_2
      exact xt_new hx hb hT.1 hown hW0 hOld (by decide +kernel) hT.2.1.1 k_B_NSE k_13 (hT.2.2 (R_B, 172, "there is no such place") (List.mem_of_getElem? (i := 0) rfl)) (hts _ w_103) (hts _ w_8) hno hlocks (hl.1.trans hml.symm) d_B_requirePlace_12 d_B_requirePlace_15 d_B_requirePlace_16 d_B_requirePlace_18 d_B_requirePlace_21 (Nat.le_of_ble_eq_true rfl) (Nat.le_of_ble_eq_true rfl) (Nat.le_of_ble_eq_true rfl) (Nat.le_of_ble_eq_true rfl)
set_option maxRecDepth 100000 in
set_option maxHeartbeats 4000000 in
theorem c_B_requireRank (G : z_G s0 (dC, dI) cI cS) (x : Int32) (hx0 : 0 ≤ x) : Met l y_B_requireRank [Cond.code y_B_requireRank b_B_requireRank 1 none] ({ frames := 0, cells := 0, slots := 0, locals := 0 }) (z_Pc s0 [.int x] (fun H => True)) (z_Qr (none)) 0 0 z_no := by
  refine z_ofW (by decide +kernel) (Nat.le_of_ble_eq_true rfl) ?_
  intro p e s m below meth c hx hb hml hr hown hlocks hnm hW0 hB ls hl
  have hts := z_hts (args := [.int x].toArray) G.1 hW0
  have hN := z_nstW G.2.1 hW0
  have hK := va_K.moved hW0.alike G.2.2.1
  have hAI := arrOfT_moved hW0.alike G.2.2.2.1
  have hl : lv_has ls 1 [(0, .int x)] := hl
  refine lv_iload_n hx hb d_B_requireRank_0 rfl (lv_at hl 0 rfl) ?_
  refine lv_if_ge (tgt := 14) hx hb d_B_requireRank_1 (by decide) (fun c_1 => ?_) (fun c_1 => ?_)
  · skip
    have c_1' : ¬ (x < (0 : Int32)) := Int32.not_lt.mpr c_1
    exact z_vret hx hb hr hlocks d_B_requireRank_14
  · skip
    have c_1' : x < (0 : Int32) := Int32.not_le.mp c_1
    exfalso
    exact absurd hx0 c_1
set_option maxRecDepth 100000 in
set_option maxHeartbeats 4000000 in
theorem t_B_requireRank (G : z_G s0 (dC, dI) cI cS) (hT : z_T s0 l) (x : Int32) (hx0 : x < 0) : xt_Met l y_B_requireRank [Cond.code y_B_requireRank b_B_requireRank 1 none] ({ frames := 6, cells := 1, slots := 6, locals := 82 }) (z_Pc s0 [.int x] (fun H => z_Old s0 H)) "java/util/NoSuchElementException" := by
  refine z_ofWX (by decide +kernel) (Nat.le_of_ble_eq_true rfl) ?_
  intro p e s m below meth c hx hb hml hadm hown hlocks hno hW0 hB ls hl
  have hts := z_hts (args := [.int x].toArray) G.1 hW0
  have hN := z_nstW G.2.1 hW0
  have hK := va_K.moved hW0.alike G.2.2.1
  have hAI := arrOfT_moved hW0.alike G.2.2.2.1
  have hl : lv_has ls 1 [(0, .int x)] := hl
  refine lv_iload_n hx hb d_B_requireRank_0 rfl (lv_at hl 0 rfl) ?_
  refine lv_if_ge (tgt := 14) hx hb d_B_requireRank_1 (by decide) (fun c_1 => ?_) (fun c_1 => ?_)
  · skip
    have c_1' : ¬ (x < (0 : Int32)) := Int32.not_lt.mpr c_1
    exact absurd hx0 c_1'
  · skip
    have c_1' : x < (0 : Int32) := Int32.not_le.mp c_1
    exact xt_new hx hb hT.1 hown hW0 hB (by decide +kernel) hT.2.1.1 k_B_NSE k_13 (hT.2.2 (R_B, 174, "k is below 0") (List.mem_of_getElem? (i := 8) rfl)) (hts _ w_103) (hts _ w_8) hno hlocks (hl.1.trans hml.symm) d_B_requireRank_4 d_B_requireRank_7 d_B_requireRank_8 d_B_requireRank_10 d_B_requireRank_13 (Nat.le_of_ble_eq_true rfl) (Nat.le_of_ble_eq_true rfl) (Nat.le_of_ble_eq_true rfl) (Nat.le_of_ble_eq_true rfl)
set_option maxRecDepth 100000 in
set_option maxHeartbeats 4000000 in
theorem c_B_requireAxis (G : z_G s0 (dC, dI) cI cS) (x : Int32) (hx0 : x = 0 ∨ x = 1) : Met l y_B_requireAxis [Cond.code y_B_requireAxis b_B_requireAxis 1 none] ({ frames := 0, cells := 0, slots := 0, locals := 0 }) (z_Pc s0 [.int x] (fun H => True)) (z_Qr (none)) 0 0 z_no := by
  refine z_ofW (by decide +kernel) (Nat.le_of_ble_eq_true rfl) ?_
  intro p e s m below meth c hx hb hml hr hown hlocks hnm hW0 hB ls hl
  have hts := z_hts (args := [.int x].toArray) G.1 hW0
  have hN := z_nstW G.2.1 hW0
  have hK := va_K.moved hW0.alike G.2.2.1
  have hAI := arrOfT_moved hW0.alike G.2.2.2.1
  have hl : lv_has ls 1 [(0, .int x)] := hl
  refine lv_iload_n hx hb d_B_requireAxis_0 rfl (lv_at hl 0 rfl) ?_
  refine lv_if_eq (tgt := 19) hx hb d_B_requireAxis_1 (by decide) (fun c_1 => ?_) (fun c_1 => ?_)
  · skip
    exact z_vret hx hb hr hlocks d_B_requireAxis_19
  · skip
    refine lv_iload_n hx hb d_B_requireAxis_4 rfl (lv_at hl 0 rfl) ?_
    refine lv_iconst (v := 1) hx hb d_B_requireAxis_5 (by decide) ?_
    refine lv_icmp_eq (tgt := 19) hx hb d_B_requireAxis_6 (by decide) (fun c_2 => ?_) (fun c_2 => ?_)
    · skip
      exact z_vret hx hb hr hlocks d_B_requireAxis_19
    · skip
      exfalso
      exact hx0.elim c_1 c_2
set_option maxRecDepth 100000 in
set_option maxHeartbeats 4000000 in
theorem t_B_requireAxis (G : z_G s0 (dC, dI) cI cS) (hT : z_T s0 l) (x : Int32) (hx0 : ¬ (x = 0 ∨ x = 1)) : xt_Met l y_B_requireAxis [Cond.code y_B_requireAxis b_B_requireAxis 1 none] ({ frames := 6, cells := 1, slots := 6, locals := 82 }) (z_Pc s0 [.int x] (fun H => z_Old s0 H)) "java/util/NoSuchElementException" := by
  refine z_ofWX (by decide +kernel) (Nat.le_of_ble_eq_true rfl) ?_
  intro p e s m below meth c hx hb hml hadm hown hlocks hno hW0 hB ls hl
  have hts := z_hts (args := [.int x].toArray) G.1 hW0
  have hN := z_nstW G.2.1 hW0
  have hK := va_K.moved hW0.alike G.2.2.1
  have hAI := arrOfT_moved hW0.alike G.2.2.2.1
  have hl : lv_has ls 1 [(0, .int x)] := hl
  refine lv_iload_n hx hb d_B_requireAxis_0 rfl (lv_at hl 0 rfl) ?_
  refine lv_if_eq (tgt := 19) hx hb d_B_requireAxis_1 (by decide) (fun c_1 => ?_) (fun c_1 => ?_)
  · skip
    exact absurd (Or.inl c_1) hx0
  · skip
    refine lv_iload_n hx hb d_B_requireAxis_4 rfl (lv_at hl 0 rfl) ?_
    refine lv_iconst (v := 1) hx hb d_B_requireAxis_5 (by decide) ?_
    refine lv_icmp_eq (tgt := 19) hx hb d_B_requireAxis_6 (by decide) (fun c_2 => ?_) (fun c_2 => ?_)
    · skip
      exact absurd (Or.inr c_2) hx0
    · skip
      exact xt_new hx hb hT.1 hown hW0 hB (by decide +kernel) hT.2.1.1 k_B_NSE k_13 (hT.2.2 (R_B, 176, "there is no such axis") (List.mem_of_getElem? (i := 12) rfl)) (hts _ w_103) (hts _ w_8) hno hlocks (hl.1.trans hml.symm) d_B_requireAxis_9 d_B_requireAxis_12 d_B_requireAxis_13 d_B_requireAxis_15 d_B_requireAxis_18 (Nat.le_of_ble_eq_true rfl) (Nat.le_of_ble_eq_true rfl) (Nat.le_of_ble_eq_true rfl) (Nat.le_of_ble_eq_true rfl)
set_option maxRecDepth 100000 in
set_option maxHeartbeats 4000000 in
theorem c_B_requireDay (G : z_G s0 (dC, dI) cI cS) (x : Int32) (hd : z_day x) : Met l y_B_requireDay [Cond.code y_B_requireDay b_B_requireDay 1 none] ({ frames := 0, cells := 0, slots := 0, locals := 0 }) (z_Pc s0 [.int x] (fun H => True)) (z_Qr (none)) 0 0 z_no := by
  refine z_ofW (by decide +kernel) (Nat.le_of_ble_eq_true rfl) ?_
  intro p e s m below meth c hx hb hml hr hown hlocks hnm hW0 hB ls hl
  have hts := z_hts (args := [.int x].toArray) G.1 hW0
  have hN := z_nstW G.2.1 hW0
  have hK := va_K.moved hW0.alike G.2.2.1
  have hAI := arrOfT_moved hW0.alike G.2.2.2.1
  have hl : lv_has ls 1 [(0, .int x)] := hl
  refine lv_iload_n hx hb d_B_requireDay_0 rfl (lv_at hl 0 rfl) ?_
  refine lv_if_lt (tgt := 10) hx hb d_B_requireDay_1 (by decide) (fun c_1 => ?_) (fun c_1 => ?_)
  · skip
    have c_1' : ¬ ((0 : Int32) ≤ x) := Int32.not_le.mpr c_1
    exfalso
    exact absurd hd.1 c_1'
  · skip
    have c_1' : (0 : Int32) ≤ x := Int32.not_lt.mp c_1
    refine lv_iload_n hx hb d_B_requireDay_4 rfl (lv_at hl 0 rfl) ?_
    refine lv_ldc hx hb hown (hts _ w_201) d_B_requireDay_5 ?_
    refine lv_icmp_le (tgt := 20) hx hb d_B_requireDay_7 (by decide) (fun c_2 => ?_) (fun c_2 => ?_)
    · skip
      have c_2' : ¬ ((100000 : Int32) < x) := Int32.not_lt.mpr c_2
      exact z_vret hx hb hr hlocks d_B_requireDay_20
    · skip
      have c_2' : (100000 : Int32) < x := Int32.not_le.mp c_2
      exfalso
      exact absurd hd.2 c_2
set_option maxRecDepth 100000 in
set_option maxHeartbeats 4000000 in
theorem t_B_requireDay (G : z_G s0 (dC, dI) cI cS) (hT : z_T s0 l) (x : Int32) (hd : ¬ z_day x) : xt_Met l y_B_requireDay [Cond.code y_B_requireDay b_B_requireDay 1 none] ({ frames := 6, cells := 1, slots := 6, locals := 82 }) (z_Pc s0 [.int x] (fun H => z_Old s0 H)) "java/lang/IllegalArgumentException" := by
  refine z_ofWX (by decide +kernel) (Nat.le_of_ble_eq_true rfl) ?_
  intro p e s m below meth c hx hb hml hadm hown hlocks hno hW0 hB ls hl
  have hts := z_hts (args := [.int x].toArray) G.1 hW0
  have hN := z_nstW G.2.1 hW0
  have hK := va_K.moved hW0.alike G.2.2.1
  have hAI := arrOfT_moved hW0.alike G.2.2.2.1
  have hl : lv_has ls 1 [(0, .int x)] := hl
  refine lv_iload_n hx hb d_B_requireDay_0 rfl (lv_at hl 0 rfl) ?_
  refine lv_if_lt (tgt := 10) hx hb d_B_requireDay_1 (by decide) (fun c_1 => ?_) (fun c_1 => ?_)
  · skip
    have c_1' : ¬ ((0 : Int32) ≤ x) := Int32.not_le.mpr c_1
    exact xt_new hx hb hT.1 hown hW0 hB (by decide +kernel) hT.2.1.2.2.1 k_B_IAE k_7 (hT.2.2 (R_B, 179, "a day is not 0 to 100000") (List.mem_of_getElem? (i := 2) rfl)) (hts _ w_202) (hts _ w_10) hno hlocks (hl.1.trans hml.symm) d_B_requireDay_10 d_B_requireDay_13 d_B_requireDay_14 d_B_requireDay_16 d_B_requireDay_19 (Nat.le_of_ble_eq_true rfl) (Nat.le_of_ble_eq_true rfl) (Nat.le_of_ble_eq_true rfl) (Nat.le_of_ble_eq_true rfl)
  · skip
    have c_1' : (0 : Int32) ≤ x := Int32.not_lt.mp c_1
    refine lv_iload_n hx hb d_B_requireDay_4 rfl (lv_at hl 0 rfl) ?_
    refine lv_ldc hx hb hown (hts _ w_201) d_B_requireDay_5 ?_
    refine lv_icmp_le (tgt := 20) hx hb d_B_requireDay_7 (by decide) (fun c_2 => ?_) (fun c_2 => ?_)
    · skip
      have c_2' : ¬ ((100000 : Int32) < x) := Int32.not_lt.mpr c_2
      exact absurd ⟨c_1', c_2⟩ hd
    · skip
      have c_2' : (100000 : Int32) < x := Int32.not_le.mp c_2
      exact xt_new hx hb hT.1 hown hW0 hB (by decide +kernel) hT.2.1.2.2.1 k_B_IAE k_7 (hT.2.2 (R_B, 179, "a day is not 0 to 100000") (List.mem_of_getElem? (i := 2) rfl)) (hts _ w_202) (hts _ w_10) hno hlocks (hl.1.trans hml.symm) d_B_requireDay_10 d_B_requireDay_13 d_B_requireDay_14 d_B_requireDay_16 d_B_requireDay_19 (Nat.le_of_ble_eq_true rfl) (Nat.le_of_ble_eq_true rfl) (Nat.le_of_ble_eq_true rfl) (Nat.le_of_ble_eq_true rfl)
set_option maxRecDepth 100000 in
set_option maxHeartbeats 4000000 in
theorem c_B_requireSpan (G : z_G s0 (dC, dI) cI cS) (x y : Int32) (hd1 : z_day x) (hd2 : z_day y) (hle : x ≤ y) : Met l y_B_requireSpan [Cond.code y_B_requireSpan b_B_requireSpan 2 none] ({ frames := 1, cells := 0, slots := 0, locals := 20 }) (z_Pc s0 [.int x, .int y] (fun H => True)) (z_Qr (none)) 0 0 z_no := by
  refine z_ofW (by decide +kernel) (Nat.le_of_ble_eq_true rfl) ?_
  intro p e s m below meth c hx hb hml hr hown hlocks hnm hW0 hB ls hl
  have hts := z_hts (args := [.int x, .int y].toArray) G.1 hW0
  have hN := z_nstW G.2.1 hW0
  have hK := va_K.moved hW0.alike G.2.2.1
  have hAI := arrOfT_moved hW0.alike G.2.2.2.1
  have hl : lv_has ls 2 [(0, .int x), (1, .int y)] := hl
  refine lv_iload_n hx hb d_B_requireSpan_0 rfl (lv_at hl 0 rfl) ?_
  refine z_rdSv (n := 1) (rest := []) ⟨hx, hb, hml, hown, hts⟩ hW0 (c_B_requireDay G x hd1) w_200 w_198 w_199 w_1 (by decide +kernel) ⟨rfl, rfl, Nat.le_of_ble_eq_true rfl, Nat.le_of_ble_eq_true rfl⟩ (trivial) rfl rfl hl.1 (Nat.le_of_ble_eq_true rfl) d_B_requireSpan_1 ⟨Nat.zero_le _, Nat.zero_le _⟩ ?_
  refine lv_iload_n hx hb d_B_requireSpan_4 rfl (lv_at hl 1 rfl) ?_
  refine z_rdSv (n := 1) (rest := []) ⟨hx, hb, hml, hown, hts⟩ hW0 (c_B_requireDay G y hd2) w_200 w_198 w_199 w_1 (by decide +kernel) ⟨rfl, rfl, Nat.le_of_ble_eq_true rfl, Nat.le_of_ble_eq_true rfl⟩ (trivial) rfl rfl hl.1 (Nat.le_of_ble_eq_true rfl) d_B_requireSpan_5 ⟨Nat.zero_le _, Nat.zero_le _⟩ ?_
  refine lv_iload_n hx hb d_B_requireSpan_8 rfl (lv_at hl 0 rfl) ?_
  refine lv_iload_n hx hb d_B_requireSpan_9 rfl (lv_at hl 1 rfl) ?_
  refine lv_icmp_le (tgt := 23) hx hb d_B_requireSpan_10 (by decide) (fun c_1 => ?_) (fun c_1 => ?_)
  · skip
    have c_1' : ¬ (y < x) := Int32.not_lt.mpr c_1
    exact z_vret hx hb hr hlocks d_B_requireSpan_23
  · skip
    have c_1' : y < x := Int32.not_le.mp c_1
    exfalso
    exact absurd hle c_1
set_option maxRecDepth 100000 in
set_option maxHeartbeats 4000000 in
theorem t_B_requireSpan1 (G : z_G s0 (dC, dI) cI cS) (hT : z_T s0 l) (x y : Int32) (hd1 : ¬ z_day x) : xt_Met l y_B_requireSpan [Cond.code y_B_requireSpan b_B_requireSpan 2 none] ({ frames := 7, cells := 1, slots := 6, locals := 102 }) (z_Pc s0 [.int x, .int y] (fun H => z_Old s0 H)) "java/lang/IllegalArgumentException" := by
  refine z_ofWX (by decide +kernel) (Nat.le_of_ble_eq_true rfl) ?_
  intro p e s m below meth c hx hb hml hadm hown hlocks hno hW0 hB ls hl
  have hts := z_hts (args := [.int x, .int y].toArray) G.1 hW0
  have hN := z_nstW G.2.1 hW0
  have hK := va_K.moved hW0.alike G.2.2.1
  have hAI := arrOfT_moved hW0.alike G.2.2.2.1
  have hl : lv_has ls 2 [(0, .int x), (1, .int y)] := hl
  refine lv_iload_n hx hb d_B_requireSpan_0 rfl (lv_at hl 0 rfl) ?_
  exact z_thS (n := 1) (rest := []) ⟨hx, hb, hml, hown, hts⟩ hW0 hno hlocks (t_B_requireDay G hT x hd1) w_200 w_198 w_199 w_1 (by decide +kernel) ⟨rfl, rfl, Nat.le_of_ble_eq_true rfl, Nat.le_of_ble_eq_true rfl⟩ (hB) rfl rfl hl.1 (Nat.le_of_ble_eq_true rfl) d_B_requireSpan_1 ⟨Nat.le_of_ble_eq_true rfl, Nat.le_of_ble_eq_true rfl⟩
set_option maxRecDepth 100000 in
set_option maxHeartbeats 4000000 in
theorem t_B_requireSpan2 (G : z_G s0 (dC, dI) cI cS) (hT : z_T s0 l) (x y : Int32) (hd1 : z_day x) (hd2 : ¬ z_day y) : xt_Met l y_B_requireSpan [Cond.code y_B_requireSpan b_B_requireSpan 2 none] ({ frames := 7, cells := 1, slots := 6, locals := 102 }) (z_Pc s0 [.int x, .int y] (fun H => z_Old s0 H)) "java/lang/IllegalArgumentException" := by
  refine z_ofWX (by decide +kernel) (Nat.le_of_ble_eq_true rfl) ?_
  intro p e s m below meth c hx hb hml hadm hown hlocks hno hW0 hB ls hl
  have hts := z_hts (args := [.int x, .int y].toArray) G.1 hW0
  have hN := z_nstW G.2.1 hW0
  have hK := va_K.moved hW0.alike G.2.2.1
  have hAI := arrOfT_moved hW0.alike G.2.2.2.1
  have hl : lv_has ls 2 [(0, .int x), (1, .int y)] := hl
  refine lv_iload_n hx hb d_B_requireSpan_0 rfl (lv_at hl 0 rfl) ?_
  refine z_rdSv (n := 1) (rest := []) ⟨hx, hb, hml, hown, hts⟩ hW0 (c_B_requireDay G x hd1) w_200 w_198 w_199 w_1 (by decide +kernel) ⟨rfl, rfl, Nat.le_of_ble_eq_true rfl, Nat.le_of_ble_eq_true rfl⟩ (trivial) rfl rfl hl.1 (Nat.le_of_ble_eq_true rfl) d_B_requireSpan_1 ⟨Nat.zero_le _, Nat.zero_le _⟩ ?_
  refine lv_iload_n hx hb d_B_requireSpan_4 rfl (lv_at hl 1 rfl) ?_
  exact z_thS (n := 1) (rest := []) ⟨hx, hb, hml, hown, hts⟩ hW0 hno hlocks (t_B_requireDay G hT y hd2) w_200 w_198 w_199 w_1 (by decide +kernel) ⟨rfl, rfl, Nat.le_of_ble_eq_true rfl, Nat.le_of_ble_eq_true rfl⟩ (hB) rfl rfl hl.1 (Nat.le_of_ble_eq_true rfl) d_B_requireSpan_5 ⟨Nat.le_of_ble_eq_true rfl, Nat.le_of_ble_eq_true rfl⟩
set_option maxRecDepth 100000 in
set_option maxHeartbeats 4000000 in
theorem t_B_requireSpan3 (G : z_G s0 (dC, dI) cI cS) (hT : z_T s0 l) (x y : Int32) (hd1 : z_day x) (hd2 : z_day y) (hlt : ¬ x ≤ y) : xt_Met l y_B_requireSpan [Cond.code y_B_requireSpan b_B_requireSpan 2 none] ({ frames := 6, cells := 1, slots := 6, locals := 82 }) (z_Pc s0 [.int x, .int y] (fun H => z_Old s0 H)) "java/lang/IllegalArgumentException" := by
  refine z_ofWX (by decide +kernel) (Nat.le_of_ble_eq_true rfl) ?_
  intro p e s m below meth c hx hb hml hadm hown hlocks hno hW0 hB ls hl
  have hts := z_hts (args := [.int x, .int y].toArray) G.1 hW0
  have hN := z_nstW G.2.1 hW0
  have hK := va_K.moved hW0.alike G.2.2.1
  have hAI := arrOfT_moved hW0.alike G.2.2.2.1
  have hl : lv_has ls 2 [(0, .int x), (1, .int y)] := hl
  refine lv_iload_n hx hb d_B_requireSpan_0 rfl (lv_at hl 0 rfl) ?_
  refine z_rdSv (n := 1) (rest := []) ⟨hx, hb, hml, hown, hts⟩ hW0 (c_B_requireDay G x hd1) w_200 w_198 w_199 w_1 (by decide +kernel) ⟨rfl, rfl, Nat.le_of_ble_eq_true rfl, Nat.le_of_ble_eq_true rfl⟩ (trivial) rfl rfl hl.1 (Nat.le_of_ble_eq_true rfl) d_B_requireSpan_1 ⟨Nat.zero_le _, Nat.zero_le _⟩ ?_
  refine lv_iload_n hx hb d_B_requireSpan_4 rfl (lv_at hl 1 rfl) ?_
  refine z_rdSv (n := 1) (rest := []) ⟨hx, hb, hml, hown, hts⟩ hW0 (c_B_requireDay G y hd2) w_200 w_198 w_199 w_1 (by decide +kernel) ⟨rfl, rfl, Nat.le_of_ble_eq_true rfl, Nat.le_of_ble_eq_true rfl⟩ (trivial) rfl rfl hl.1 (Nat.le_of_ble_eq_true rfl) d_B_requireSpan_5 ⟨Nat.zero_le _, Nat.zero_le _⟩ ?_
  refine lv_iload_n hx hb d_B_requireSpan_8 rfl (lv_at hl 0 rfl) ?_
  refine lv_iload_n hx hb d_B_requireSpan_9 rfl (lv_at hl 1 rfl) ?_
  refine lv_icmp_le (tgt := 23) hx hb d_B_requireSpan_10 (by decide) (fun c_1 => ?_) (fun c_1 => ?_)
  · skip
    have c_1' : ¬ (y < x) := Int32.not_lt.mpr c_1
    exact absurd c_1 hlt
  · skip
    have c_1' : y < x := Int32.not_le.mp c_1
    exact xt_new hx hb hT.1 hown hW0 hB (by decide +kernel) hT.2.1.2.2.1 k_B_IAE k_7 (hT.2.2 (R_B, 181, "the first day is above the last") (List.mem_of_getElem? (i := 3) rfl)) (hts _ w_202) (hts _ w_10) hno hlocks (hl.1.trans hml.symm) d_B_requireSpan_13 d_B_requireSpan_16 d_B_requireSpan_17 d_B_requireSpan_19 d_B_requireSpan_22 (Nat.le_of_ble_eq_true rfl) (Nat.le_of_ble_eq_true rfl) (Nat.le_of_ble_eq_true rfl) (Nat.le_of_ble_eq_true rfl)
set_option maxRecDepth 100000 in
set_option maxHeartbeats 4000000 in
theorem c_B_requirePoint (G : z_G s0 (dC, dI) cI cS) (x y : Int32) (hp : z_pt x y) : Met l y_B_requirePoint [Cond.code y_B_requirePoint b_B_requirePoint 2 none] ({ frames := 0, cells := 0, slots := 0, locals := 0 }) (z_Pc s0 [.int x, .int y] (fun H => True)) (z_Qr (none)) 0 0 z_no := by
  refine z_ofW (by decide +kernel) (Nat.le_of_ble_eq_true rfl) ?_
  intro p e s m below meth c hx hb hml hr hown hlocks hnm hW0 hB ls hl
  have hts := z_hts (args := [.int x, .int y].toArray) G.1 hW0
  have hN := z_nstW G.2.1 hW0
  have hK := va_K.moved hW0.alike G.2.2.1
  have hAI := arrOfT_moved hW0.alike G.2.2.2.1
  have hl : lv_has ls 2 [(0, .int x), (1, .int y)] := hl
  refine lv_iload_n hx hb d_B_requirePoint_0 rfl (lv_at hl 0 rfl) ?_
  refine lv_sipush (v := (-10000)) hx hb d_B_requirePoint_1 (by decide) ?_
  refine lv_icmp_lt (tgt := 28) hx hb d_B_requirePoint_4 (by decide) (fun c_1 => ?_) (fun c_1 => ?_)
  · skip
    have c_1' : ¬ ((-10000) ≤ x) := Int32.not_le.mpr c_1
    exfalso
    exact absurd hp.1 c_1'
  · skip
    have c_1' : (-10000) ≤ x := Int32.not_lt.mp c_1
    refine lv_iload_n hx hb d_B_requirePoint_7 rfl (lv_at hl 0 rfl) ?_
    refine lv_sipush (v := 10000) hx hb d_B_requirePoint_8 (by decide) ?_
    refine lv_icmp_gt (tgt := 28) hx hb d_B_requirePoint_11 (by decide) (fun c_2 => ?_) (fun c_2 => ?_)
    · skip
      have c_2' : ¬ (x ≤ (10000 : Int32)) := Int32.not_le.mpr c_2
      exfalso
      exact absurd hp.2.1 c_2'
    · skip
      have c_2' : x ≤ (10000 : Int32) := Int32.not_lt.mp c_2
      refine lv_iload_n hx hb d_B_requirePoint_14 rfl (lv_at hl 1 rfl) ?_
      refine lv_sipush (v := (-10000)) hx hb d_B_requirePoint_15 (by decide) ?_
      refine lv_icmp_lt (tgt := 28) hx hb d_B_requirePoint_18 (by decide) (fun c_3 => ?_) (fun c_3 => ?_)
      · skip
        have c_3' : ¬ ((-10000) ≤ y) := Int32.not_le.mpr c_3
        exfalso
        exact absurd hp.2.2.1 c_3'
      · skip
        have c_3' : (-10000) ≤ y := Int32.not_lt.mp c_3
        refine lv_iload_n hx hb d_B_requirePoint_21 rfl (lv_at hl 1 rfl) ?_
        refine lv_sipush (v := 10000) hx hb d_B_requirePoint_22 (by decide) ?_
        refine lv_icmp_le (tgt := 38) hx hb d_B_requirePoint_25 (by decide) (fun c_4 => ?_) (fun c_4 => ?_)
        · skip
          have c_4' : ¬ ((10000 : Int32) < y) := Int32.not_lt.mpr c_4
          exact z_vret hx hb hr hlocks d_B_requirePoint_38
        · skip
          have c_4' : (10000 : Int32) < y := Int32.not_le.mp c_4
          exfalso
          exact absurd hp.2.2.2 c_4
set_option maxRecDepth 100000 in
set_option maxHeartbeats 4000000 in
theorem t_B_requirePoint (G : z_G s0 (dC, dI) cI cS) (hT : z_T s0 l) (x y : Int32) (hp : ¬ z_pt x y) : xt_Met l y_B_requirePoint [Cond.code y_B_requirePoint b_B_requirePoint 2 none] ({ frames := 6, cells := 1, slots := 6, locals := 82 }) (z_Pc s0 [.int x, .int y] (fun H => z_Old s0 H)) "java/lang/IllegalArgumentException" := by
  refine z_ofWX (by decide +kernel) (Nat.le_of_ble_eq_true rfl) ?_
  intro p e s m below meth c hx hb hml hadm hown hlocks hno hW0 hB ls hl
  have hts := z_hts (args := [.int x, .int y].toArray) G.1 hW0
  have hN := z_nstW G.2.1 hW0
  have hK := va_K.moved hW0.alike G.2.2.1
  have hAI := arrOfT_moved hW0.alike G.2.2.2.1
  have hl : lv_has ls 2 [(0, .int x), (1, .int y)] := hl
  refine lv_iload_n hx hb d_B_requirePoint_0 rfl (lv_at hl 0 rfl) ?_
  refine lv_sipush (v := (-10000)) hx hb d_B_requirePoint_1 (by decide) ?_
  refine lv_icmp_lt (tgt := 28) hx hb d_B_requirePoint_4 (by decide) (fun c_1 => ?_) (fun c_1 => ?_)
  · skip
    have c_1' : ¬ ((-10000) ≤ x) := Int32.not_le.mpr c_1
    exact xt_new hx hb hT.1 hown hW0 hB (by decide +kernel) hT.2.1.2.2.1 k_B_IAE k_7 (hT.2.2 (R_B, 183, "a point is not within -10000 to 10000") (List.mem_of_getElem? (i := 6) rfl)) (hts _ w_202) (hts _ w_10) hno hlocks (hl.1.trans hml.symm) d_B_requirePoint_28 d_B_requirePoint_31 d_B_requirePoint_32 d_B_requirePoint_34 d_B_requirePoint_37 (Nat.le_of_ble_eq_true rfl) (Nat.le_of_ble_eq_true rfl) (Nat.le_of_ble_eq_true rfl) (Nat.le_of_ble_eq_true rfl)
  · skip
    have c_1' : (-10000) ≤ x := Int32.not_lt.mp c_1
    refine lv_iload_n hx hb d_B_requirePoint_7 rfl (lv_at hl 0 rfl) ?_
    refine lv_sipush (v := 10000) hx hb d_B_requirePoint_8 (by decide) ?_
    refine lv_icmp_gt (tgt := 28) hx hb d_B_requirePoint_11 (by decide) (fun c_2 => ?_) (fun c_2 => ?_)
    · skip
      have c_2' : ¬ (x ≤ (10000 : Int32)) := Int32.not_le.mpr c_2
      exact xt_new hx hb hT.1 hown hW0 hB (by decide +kernel) hT.2.1.2.2.1 k_B_IAE k_7 (hT.2.2 (R_B, 183, "a point is not within -10000 to 10000") (List.mem_of_getElem? (i := 6) rfl)) (hts _ w_202) (hts _ w_10) hno hlocks (hl.1.trans hml.symm) d_B_requirePoint_28 d_B_requirePoint_31 d_B_requirePoint_32 d_B_requirePoint_34 d_B_requirePoint_37 (Nat.le_of_ble_eq_true rfl) (Nat.le_of_ble_eq_true rfl) (Nat.le_of_ble_eq_true rfl) (Nat.le_of_ble_eq_true rfl)
    · skip
      have c_2' : x ≤ (10000 : Int32) := Int32.not_lt.mp c_2
      refine lv_iload_n hx hb d_B_requirePoint_14 rfl (lv_at hl 1 rfl) ?_
      refine lv_sipush (v := (-10000)) hx hb d_B_requirePoint_15 (by decide) ?_
      refine lv_icmp_lt (tgt := 28) hx hb d_B_requirePoint_18 (by decide) (fun c_3 => ?_) (fun c_3 => ?_)
      · skip
        have c_3' : ¬ ((-10000) ≤ y) := Int32.not_le.mpr c_3
        exact xt_new hx hb hT.1 hown hW0 hB (by decide +kernel) hT.2.1.2.2.1 k_B_IAE k_7 (hT.2.2 (R_B, 183, "a point is not within -10000 to 10000") (List.mem_of_getElem? (i := 6) rfl)) (hts _ w_202) (hts _ w_10) hno hlocks (hl.1.trans hml.symm) d_B_requirePoint_28 d_B_requirePoint_31 d_B_requirePoint_32 d_B_requirePoint_34 d_B_requirePoint_37 (Nat.le_of_ble_eq_true rfl) (Nat.le_of_ble_eq_true rfl) (Nat.le_of_ble_eq_true rfl) (Nat.le_of_ble_eq_true rfl)
      · skip
        have c_3' : (-10000) ≤ y := Int32.not_lt.mp c_3
        refine lv_iload_n hx hb d_B_requirePoint_21 rfl (lv_at hl 1 rfl) ?_
        refine lv_sipush (v := 10000) hx hb d_B_requirePoint_22 (by decide) ?_
        refine lv_icmp_le (tgt := 38) hx hb d_B_requirePoint_25 (by decide) (fun c_4 => ?_) (fun c_4 => ?_)
        · skip
          have c_4' : ¬ ((10000 : Int32) < y) := Int32.not_lt.mpr c_4
          exact absurd ⟨c_1', c_2', c_3', c_4⟩ hp
        · skip
          have c_4' : (10000 : Int32) < y := Int32.not_le.mp c_4
          exact xt_new hx hb hT.1 hown hW0 hB (by decide +kernel) hT.2.1.2.2.1 k_B_IAE k_7 (hT.2.2 (R_B, 183, "a point is not within -10000 to 10000") (List.mem_of_getElem? (i := 6) rfl)) (hts _ w_202) (hts _ w_10) hno hlocks (hl.1.trans hml.symm) d_B_requirePoint_28 d_B_requirePoint_31 d_B_requirePoint_32 d_B_requirePoint_34 d_B_requirePoint_37 (Nat.le_of_ble_eq_true rfl) (Nat.le_of_ble_eq_true rfl) (Nat.le_of_ble_eq_true rfl) (Nat.le_of_ble_eq_true rfl)
set_option maxRecDepth 100000 in
set_option maxHeartbeats 4000000 in
theorem c_B_shapeNumbered (G : z_G s0 (dC, dI) cI cS) (A : Nat → Nat) (np ns nc nn nm : Nat) (fv : Nat → Nat → Int32) (so sf st : Nat → Int32) (sn sc : Nat → Nat) (sp : Nat → Option Nat) (sx sy : Nat → Nat → Int32) (k : Nat) (hk : k < ns) : Met l y_B_shapeNumbered [Cond.code y_B_shapeNumbered b_B_shapeNumbered 2 (some (.object "BorderDays$Shape"))] ({ frames := 0, cells := 0, slots := 0, locals := 0 }) (z_Pc s0 [.ref (A 0), .int (nI k)] (fun H => z_BD (dC, dI) cI cS H A np ns nc nn nm fv so sf st sn sc sp sx sy)) (z_Qr (some (.ref (A (13 + 3 * k))))) 0 0 z_no := by
  refine z_ofW (by decide +kernel) (Nat.le_of_ble_eq_true rfl) ?_
  intro p e s m below meth c hx hb hml hr hown hlocks hnm hW0 hB ls hl
  have hts := z_hts (args := [.ref (A 0), .int (nI k)].toArray) G.1 hW0
  have hN := z_nstW G.2.1 hW0
  have hK := va_K.moved hW0.alike G.2.2.1
  have hAI := arrOfT_moved hW0.alike G.2.2.2.1
  have hl : lv_has ls 2 [(0, .ref (A 0)), (1, .int (nI k))] := hl
  obtain ⟨⟨hO0, hO1, hO2, hB3, hFA, hSH⟩, hinj, ⟨hnp, hns, hnn, hnm, hnc⟩, hsb⟩ := id hB
  have hAS := arrOfT_moved hW0.alike G.2.2.2.2.1
  refine lv_iload_n hx hb d_B_shapeNumbered_0 rfl (lv_at hl 1 rfl) ?_
  refine lv_if_lt (tgt := 12) hx hb d_B_shapeNumbered_1 (by decide) (fun c_1 => ?_) (fun c_1 => ?_)
  · skip
    have c_1 : k < 0 := (nI_ltI (a := k) (b := 0) (by omega) (by omega)).mp c_1
    exfalso
    omega
  · skip
    have c_1 : ¬ (k < 0) := fun h => c_1 ((nI_ltI (a := k) (b := 0) (by omega) (by omega)).mpr h)
    refine lv_iload_n hx hb d_B_shapeNumbered_4 rfl (lv_at hl 1 rfl) ?_
    refine lv_aload_n hx hb d_B_shapeNumbered_5 rfl (lv_at hl 0 rfl) ?_
    refine va_get (D := (dC, dI)) (ci := 3) (v := .int (nI ns)) (C := R_B) (T := T_B) (N := 7) hx hb hts in_B hown hK hO0.P 0 rfl rfl 3 (by decide) (hts _ w_71) (fun _ h9 => h9) rfl d_B_shapeNumbered_6 ?_
    refine lv_icmp_lt (tgt := 22) hx hb d_B_shapeNumbered_9 (by decide) (fun c_2 => ?_) (fun c_2 => ?_)
    · skip
      have c_2 : k < ns := (nI_ltI (a := k) (b := ns) (by omega) (by omega)).mp c_2
      refine lv_aload_n hx hb d_B_shapeNumbered_22 rfl (lv_at hl 0 rfl) ?_
      refine va_get (D := (dC, dI)) (ci := 3) (v := .ref (A 3)) (C := R_B) (T := T_B) (N := 7) hx hb hts in_B hown hK hO0.P 0 rfl rfl 2 (by decide) (hts _ w_70) (fun _ h9 => h9) rfl d_B_shapeNumbered_23 ?_
      refine lv_iload_n hx hb d_B_shapeNumbered_26 rfl (lv_at hl 1 rfl) ?_
      refine z_aald (k := k) (q := A (13 + 3 * k)) hx hb hAS hB3 (by omega) (by decide) (if_pos (by omega)) d_B_shapeNumbered_27 ?_
      have hS_k := hSH k (by omega)
      have hb_k := hsb k (by omega)
      obtain ⟨hO_k, hX_k, hY_k⟩ := id hS_k
      exact z_aret hx hb hr hlocks (Or.inl ⟨_, rfl⟩) (Or.inr ⟨_, rfl⟩) (by rfl) d_B_shapeNumbered_28
    · skip
      have c_2 : ¬ (k < ns) := fun h => c_2 ((nI_ltI (a := k) (b := ns) (by omega) (by omega)).mpr h)
      exfalso
      omega
set_option maxRecDepth 100000 in
set_option maxHeartbeats 4000000 in
theorem t_B_shapeNumbered (G : z_G s0 (dC, dI) cI cS) (hT : z_T s0 l) (A : Nat → Nat) (np ns nc nn nm : Nat) (fv : Nat → Nat → Int32) (so sf st : Nat → Int32) (sn sc : Nat → Nat) (sp : Nat → Option Nat) (sx sy : Nat → Nat → Int32) (x : Int32) (hx0 : x < 0 ∨ nI ns ≤ x) : xt_Met l y_B_shapeNumbered [Cond.code y_B_shapeNumbered b_B_shapeNumbered 2 (some (.object "BorderDays$Shape"))] ({ frames := 6, cells := 1, slots := 6, locals := 82 }) (z_Pc s0 [.ref (A 0), .int x] (fun H => z_Old s0 H ∧ z_BD (dC, dI) cI cS H A np ns nc nn nm fv so sf st sn sc sp sx sy)) "java/util/NoSuchElementException" := by
  refine z_ofWX (by decide +kernel) (Nat.le_of_ble_eq_true rfl) ?_
  intro p e s m below meth c hx hb hml hadm hown hlocks hno hW0 hB ls hl
  have hts := z_hts (args := [.ref (A 0), .int x].toArray) G.1 hW0
  have hN := z_nstW G.2.1 hW0
  have hK := va_K.moved hW0.alike G.2.2.1
  have hAI := arrOfT_moved hW0.alike G.2.2.2.1
  have hl : lv_has ls 2 [(0, .ref (A 0)), (1, .int x)] := hl
  obtain ⟨hOld, hB1⟩ := id hB
  obtain ⟨⟨hO0, hO1, hO2, hB3, hFA, hSH⟩, hinj, ⟨hnp, hns, hnn, hnm, hnc⟩, hsb⟩ := id hB1
  have hAS := arrOfT_moved hW0.alike G.2.2.2.2.1
  refine lv_iload_n hx hb d_B_shapeNumbered_0 rfl (lv_at hl 1 rfl) ?_
  refine lv_if_lt (tgt := 12) hx hb d_B_shapeNumbered_1 (by decide) (fun c_1 => ?_) (fun c_1 => ?_)
  · skip
    have c_1' : ¬ ((0 : Int32) ≤ x) := Int32.not_le.mpr c_1
    exact xt_new hx hb hT.1 hown hW0 hOld (by decide +kernel) hT.2.1.1 k_B_NSE k_13 (hT.2.2 (R_B, 162, "there is no such shape") (List.mem_of_getElem? (i := 5) rfl)) (hts _ w_103) (hts _ w_8) hno hlocks (hl.1.trans hml.symm) d_B_shapeNumbered_12 d_B_shapeNumbered_15 d_B_shapeNumbered_16 d_B_shapeNumbered_18 d_B_shapeNumbered_21 (Nat.le_of_ble_eq_true rfl) (Nat.le_of_ble_eq_true rfl) (Nat.le_of_ble_eq_true rfl) (Nat.le_of_ble_eq_true rfl)
  · skip
    have c_1' : (0 : Int32) ≤ x := Int32.not_lt.mp c_1
    refine lv_iload_n hx hb d_B_shapeNumbered_4 rfl (lv_at hl 1 rfl) ?_
    refine lv_aload_n hx hb d_B_shapeNumbered_5 rfl (lv_at hl 0 rfl) ?_
    refine va_get (D := (dC, dI)) (ci := 3) (v := .int (nI ns)) (C := R_B) (T := T_B) (N := 7) hx hb hts in_B hown hK hO0.P 0 rfl rfl 3 (by decide) (hts _ w_71) (fun _ h9 => h9) rfl d_B_shapeNumbered_6 ?_
    refine lv_icmp_lt (tgt := 22) hx hb d_B_shapeNumbered_9 (by decide) (fun c_2 => ?_) (fun c_2 => ?_)
    · skip
      have c_2' : ¬ ((nI ns) ≤ x) := Int32.not_le.mpr c_2
      exact absurd hx0 (fun h => h.elim c_1 c_2')
    · skip
      have c_2' : (nI ns) ≤ x := Int32.not_lt.mp c_2
      exact xt_new hx hb hT.1 hown hW0 hOld (by decide +kernel) hT.2.1.1 k_B_NSE k_13 (hT.2.2 (R_B, 162, "there is no such shape") (List.mem_of_getElem? (i := 5) rfl)) (hts _ w_103) (hts _ w_8) hno hlocks (hl.1.trans hml.symm) d_B_shapeNumbered_12 d_B_shapeNumbered_15 d_B_shapeNumbered_16 d_B_shapeNumbered_18 d_B_shapeNumbered_21 (Nat.le_of_ble_eq_true rfl) (Nat.le_of_ble_eq_true rfl) (Nat.le_of_ble_eq_true rfl) (Nat.le_of_ble_eq_true rfl)
end S4
end
section
section S5
variable {s0 : State} {dC : Nat → ClassId} {dI : Nat → Nat → Nat} {cI cS : ClassId} {l : Launch}
set_option maxRecDepth 100000 in
set_option maxHeartbeats 4000000 in
theorem c_B_shapeOn (G : z_G s0 (dC, dI) cI cS) (A : Nat → Nat) (np ns nc nn nm : Nat) (fv : Nat → Nat → Int32) (so sf st : Nat → Int32) (sn sc : Nat → Nat) (sp : Nat → Option Nat) (sx sy : Nat → Nat → Int32) (p1 d1 : Int32) : Met l y_B_shapeOn [Cond.code y_B_shapeOn b_B_shapeOn 6 (some (.object "BorderDays$Shape"))] ({ frames := 2, cells := 0, slots := 0, locals := 42 }) (z_Pc s0 [.ref (A 0), .int p1, .int d1] (fun H => z_BD (dC, dI) cI cS H A np ns nc nn nm fv so sf st sn sc sp sx sy)) (z_Qr (some (z_pv A (pb_f so sf st sc ns p1 d1)))) 0 0 z_no := by
  refine z_ofW (by decide +kernel) (Nat.le_of_ble_eq_true rfl) ?_
  intro p e s m below meth c hx hb hml hr hown hlocks hnm hW0 hB ls hl
  have hts := z_hts (args := [.ref (A 0), .int p1, .int d1].toArray) G.1 hW0
  have hN := z_nstW G.2.1 hW0
  have hK := va_K.moved hW0.alike G.2.2.1
  have hAI := arrOfT_moved hW0.alike G.2.2.2.1
  have hl : lv_has ls 6 [(0, .ref (A 0)), (1, .int p1), (2, .int d1)] := hl
  obtain ⟨⟨hO0, hO1, hO2, hB3, hFA, hSH⟩, hinj, ⟨hnp, hns, hnn, hnm, hnc⟩, hsb⟩ := id hB
  have hAS := arrOfT_moved hW0.alike G.2.2.2.2.1
  have loops : ∀ f : Nat, (∀ (i : Nat), ns - i < f → (i ≤ ns) → (pb_on so sf st sc p1 d1 (ns - i) i none = pb_f so sf st sc ns p1 d1) → ∀ ls : Array Slot, lv_has ls 6 [(0, .ref (A 0)), (1, .int p1), (2, .int d1), (3, .null), (4, .int (nI i))] → W p l e ({ frames := 2, cells := 0, slots := 0, locals := 42 }) s m [.ref (A 0), .int p1, .int d1].toArray below meth c s.heap [] 0 0 (MQ below (z_Qr (some (z_pv A (pb_f so sf st sc ns p1 d1)))) [.ref (A 0), .int p1, .int d1].toArray s 0 0 z_no) (F0 m 5 ls [])) ∧ (∀ (i j : Nat), ns - i < f → (i ≤ ns) → (j < ns) → (pb_on so sf st sc p1 d1 (ns - i) i (some j) = pb_f so sf st sc ns p1 d1) → ∀ ls : Array Slot, lv_has ls 6 [(0, .ref (A 0)), (1, .int p1), (2, .int d1), (3, .ref (A (13 + 3 * j))), (4, .int (nI i))] → W p l e ({ frames := 2, cells := 0, slots := 0, locals := 42 }) s m [.ref (A 0), .int p1, .int d1].toArray below meth c s.heap [] 0 0 (MQ below (z_Qr (some (z_pv A (pb_f so sf st sc ns p1 d1)))) [.ref (A 0), .int p1, .int d1].toArray s 0 0 z_no) (F0 m 5 ls [])) := by
    intro f
    induction f with
    | zero => exact ⟨fun _ h => absurd h (Nat.not_lt_zero _), fun _ _ h => absurd h (Nat.not_lt_zero _)⟩
    | succ f ih =>
      refine ⟨?_, ?_⟩
      · skip
        intro i hmu hi hres ls hl
        refine lv_iload hx hb d_B_shapeOn_5 (lv_at hl 4 rfl) ?_
        refine lv_aload_n hx hb d_B_shapeOn_7 rfl (lv_at hl 0 rfl) ?_
        refine va_get (D := (dC, dI)) (ci := 3) (v := .int (nI ns)) (C := R_B) (T := T_B) (N := 7) hx hb hts in_B hown hK hO0.P 0 rfl rfl 3 (by decide) (hts _ w_71) (fun _ h9 => h9) rfl d_B_shapeOn_8 ?_
        refine lv_icmp_ge (tgt := 58) hx hb d_B_shapeOn_11 (by decide) (fun c_101 => ?_) (fun c_101 => ?_)
        · skip
          have c_101 : ns ≤ i := (nI_leI (a := ns) (b := i) (by omega) (by omega)).mp c_101
          refine lv_aload_nN hx hb d_B_shapeOn_58 rfl (lv_at hl 3 rfl) ?_
          exact z_aret hx hb hr hlocks (Or.inl ⟨_, rfl⟩) (Or.inl rfl) (by rw [show ns - i = 0 by omega] at hres; simp only [pb_on] at hres; rw [← hres]; rfl) d_B_shapeOn_59
        · skip
          have c_101 : ¬ (ns ≤ i) := fun h => c_101 ((nI_leI (a := ns) (b := i) (by omega) (by omega)).mpr h)
          refine lv_aload_n hx hb d_B_shapeOn_14 rfl (lv_at hl 0 rfl) ?_
          refine va_get (D := (dC, dI)) (ci := 3) (v := .ref (A 3)) (C := R_B) (T := T_B) (N := 7) hx hb hts in_B hown hK hO0.P 0 rfl rfl 2 (by decide) (hts _ w_70) (fun _ h9 => h9) rfl d_B_shapeOn_15 ?_
          refine lv_iload hx hb d_B_shapeOn_18 (lv_at hl 4 rfl) ?_
          refine z_aald (k := i) (q := A (13 + 3 * i)) hx hb hAS hB3 (by omega) (by decide) (if_pos (by omega)) d_B_shapeOn_20 ?_
          have hS_i := hSH i (by omega)
          have hb_i := hsb i (by omega)
          obtain ⟨hO_i, hX_i, hY_i⟩ := id hS_i
          refine lv_astore (lv' := [(5, .ref (A (13 + 3 * i))), (0, .ref (A 0)), (1, .int p1), (2, .int d1), (3, .null), (4, .int (nI i))]) hx hb d_B_shapeOn_21 hl (by decide) rfl (fun ls hl => ?_)
          refine lv_aload hx hb d_B_shapeOn_23 (lv_at hl 0 rfl) ?_
          refine lv_iload_n hx hb d_B_shapeOn_25 rfl (lv_at hl 2 rfl) ?_
          refine lv_iload_n hx hb d_B_shapeOn_26 rfl (lv_at hl 3 rfl) ?_
          refine z_rdV (n := 2) (C := R_S) (rest := []) ⟨hx, hb, hml, hown, hts⟩ hW0 (c_S_holdsFor G (A (13 + 3 * i)) (A (14 + 3 * i)) (A (15 + 3 * i)) (sn i) (nI i) (so i) (sf i) (st i) (nI (sc i)) (z_pv A (sp i)) (sx i) (sy i) p1 d1) w_367 w_364 w_365 w_366 w_11 (by decide +kernel) ⟨rfl, rfl, Nat.le_of_ble_eq_true rfl, Nat.le_of_ble_eq_true rfl⟩ (hO_i.recv hK rfl) (hS_i) rfl rfl hl.1 (Nat.le_of_ble_eq_true rfl) d_B_shapeOn_27 ⟨Nat.zero_le _, Nat.zero_le _⟩ ?_
          refine lv_if_eq (tgt := 52) hx hb d_B_shapeOn_30 (by decide) (fun c_102 => ?_) (fun c_102 => ?_)
          · skip
            have c_102 : (pb_h so sf st sc p1 d1 i) = false := pi_b_0.mp c_102
            refine lv_iinc (v := nI (i + 1)) (lv' := [(4, .int (nI (i + 1))), (5, .ref (A (13 + 3 * i))), (0, .ref (A 0)), (1, .int p1), (2, .int d1), (3, .null)]) hx hb d_B_shapeOn_52 hl (k := 5) rfl (nI_1 i) (by decide) rfl (fun ls hl => ?_)
            refine lv_goto (tgt := 5) hx hb d_B_shapeOn_55 (by decide) ?_
            exact ih.1 (i + 1) (by omega) (by omega) (by rw [show ns - i = (ns - (i + 1)) + 1 by omega] at hres; simpa [pb_on, pb_nx, c_101, c_102] using hres) ls (lv_sub hl [2, 3, 4, 5, 0] rfl)
          · skip
            have c_102 : (pb_h so sf st sc p1 d1 i) = true := pi_b_1.mp c_102
            refine lv_aload_nN hx hb d_B_shapeOn_33 rfl (lv_at hl 4 rfl) ?_
            refine lv_ifnullN (tgt := 49) hx hb d_B_shapeOn_34 (by decide) ?_
            refine lv_aload hx hb d_B_shapeOn_49 (lv_at hl 0 rfl) ?_
            refine lv_astore_n (lv' := [(3, .ref (A (13 + 3 * i))), (5, .ref (A (13 + 3 * i))), (0, .ref (A 0)), (1, .int p1), (2, .int d1), (4, .int (nI i))]) hx hb d_B_shapeOn_51 rfl hl (by decide) rfl (fun ls hl => ?_)
            refine lv_iinc (v := nI (i + 1)) (lv' := [(4, .int (nI (i + 1))), (3, .ref (A (13 + 3 * i))), (5, .ref (A (13 + 3 * i))), (0, .ref (A 0)), (1, .int p1), (2, .int d1)]) hx hb d_B_shapeOn_52 hl (k := 5) rfl (nI_1 i) (by decide) rfl (fun ls hl => ?_)
            refine lv_goto (tgt := 5) hx hb d_B_shapeOn_55 (by decide) ?_
            exact ih.2 (i + 1) i (by omega) (by omega) (by omega) (by rw [show ns - i = (ns - (i + 1)) + 1 by omega] at hres; simpa [pb_on, pb_nx, c_101, c_102] using hres) ls (lv_sub hl [3, 4, 5, 1, 0] rfl)
      · skip
        intro i j hmu hi hj hres ls hl
        have hS_j := hSH j hj
        have hb_j := hsb j hj
        obtain ⟨hO_j, hX_j, hY_j⟩ := id hS_j
        refine lv_iload hx hb d_B_shapeOn_5 (lv_at hl 4 rfl) ?_
        refine lv_aload_n hx hb d_B_shapeOn_7 rfl (lv_at hl 0 rfl) ?_
        refine va_get (D := (dC, dI)) (ci := 3) (v := .int (nI ns)) (C := R_B) (T := T_B) (N := 7) hx hb hts in_B hown hK hO0.P 0 rfl rfl 3 (by decide) (hts _ w_71) (fun _ h9 => h9) rfl d_B_shapeOn_8 ?_
        refine lv_icmp_ge (tgt := 58) hx hb d_B_shapeOn_11 (by decide) (fun c_201 => ?_) (fun c_201 => ?_)
        · skip
          have c_201 : ns ≤ i := (nI_leI (a := ns) (b := i) (by omega) (by omega)).mp c_201
          refine lv_aload_n hx hb d_B_shapeOn_58 rfl (lv_at hl 3 rfl) ?_
          exact z_aret hx hb hr hlocks (Or.inl ⟨_, rfl⟩) (Or.inr ⟨_, rfl⟩) (by rw [show ns - i = 0 by omega] at hres; simp only [pb_on] at hres; rw [← hres]; rfl) d_B_shapeOn_59
        · skip
          have c_201 : ¬ (ns ≤ i) := fun h => c_201 ((nI_leI (a := ns) (b := i) (by omega) (by omega)).mpr h)
          refine lv_aload_n hx hb d_B_shapeOn_14 rfl (lv_at hl 0 rfl) ?_
          refine va_get (D := (dC, dI)) (ci := 3) (v := .ref (A 3)) (C := R_B) (T := T_B) (N := 7) hx hb hts in_B hown hK hO0.P 0 rfl rfl 2 (by decide) (hts _ w_70) (fun _ h9 => h9) rfl d_B_shapeOn_15 ?_
          refine lv_iload hx hb d_B_shapeOn_18 (lv_at hl 4 rfl) ?_
          refine z_aald (k := i) (q := A (13 + 3 * i)) hx hb hAS hB3 (by omega) (by decide) (if_pos (by omega)) d_B_shapeOn_20 ?_
          have hS_i := hSH i (by omega)
          have hb_i := hsb i (by omega)
          obtain ⟨hO_i, hX_i, hY_i⟩ := id hS_i
          refine lv_astore (lv' := [(5, .ref (A (13 + 3 * i))), (0, .ref (A 0)), (1, .int p1), (2, .int d1), (3, .ref (A (13 + 3 * j))), (4, .int (nI i))]) hx hb d_B_shapeOn_21 hl (by decide) rfl (fun ls hl => ?_)
          refine lv_aload hx hb d_B_shapeOn_23 (lv_at hl 0 rfl) ?_
          refine lv_iload_n hx hb d_B_shapeOn_25 rfl (lv_at hl 2 rfl) ?_
          refine lv_iload_n hx hb d_B_shapeOn_26 rfl (lv_at hl 3 rfl) ?_
          refine z_rdV (n := 2) (C := R_S) (rest := []) ⟨hx, hb, hml, hown, hts⟩ hW0 (c_S_holdsFor G (A (13 + 3 * i)) (A (14 + 3 * i)) (A (15 + 3 * i)) (sn i) (nI i) (so i) (sf i) (st i) (nI (sc i)) (z_pv A (sp i)) (sx i) (sy i) p1 d1) w_367 w_364 w_365 w_366 w_11 (by decide +kernel) ⟨rfl, rfl, Nat.le_of_ble_eq_true rfl, Nat.le_of_ble_eq_true rfl⟩ (hO_i.recv hK rfl) (hS_i) rfl rfl hl.1 (Nat.le_of_ble_eq_true rfl) d_B_shapeOn_27 ⟨Nat.zero_le _, Nat.zero_le _⟩ ?_
          refine lv_if_eq (tgt := 52) hx hb d_B_shapeOn_30 (by decide) (fun c_202 => ?_) (fun c_202 => ?_)
          · skip
            have c_202 : (pb_h so sf st sc p1 d1 i) = false := pi_b_0.mp c_202
            refine lv_iinc (v := nI (i + 1)) (lv' := [(4, .int (nI (i + 1))), (5, .ref (A (13 + 3 * i))), (0, .ref (A 0)), (1, .int p1), (2, .int d1), (3, .ref (A (13 + 3 * j)))]) hx hb d_B_shapeOn_52 hl (k := 5) rfl (nI_1 i) (by decide) rfl (fun ls hl => ?_)
            refine lv_goto (tgt := 5) hx hb d_B_shapeOn_55 (by decide) ?_
            exact ih.2 (i + 1) j (by omega) (by omega) (by omega) (by rw [show ns - i = (ns - (i + 1)) + 1 by omega] at hres; simpa [pb_on, pb_nx, c_201, c_202] using hres) ls (lv_sub hl [2, 3, 4, 5, 0] rfl)
          · skip
            have c_202 : (pb_h so sf st sc p1 d1 i) = true := pi_b_1.mp c_202
            refine lv_aload_n hx hb d_B_shapeOn_33 rfl (lv_at hl 4 rfl) ?_
            refine lv_ifnull hx hb d_B_shapeOn_34 ?_
            refine lv_aload hx hb d_B_shapeOn_37 (lv_at hl 0 rfl) ?_
            refine va_get (D := (dC, dI)) (ci := 2) (v := .int (nI (sc i))) (C := R_S) (T := T_S) (N := 9) hx hb hts in_S hown hK hO_i.P 0 rfl rfl 7 (by decide) (hts _ w_235) (fun _ h9 => h9) rfl d_B_shapeOn_39 ?_
            refine lv_aload_n hx hb d_B_shapeOn_42 rfl (lv_at hl 4 rfl) ?_
            refine va_get (D := (dC, dI)) (ci := 2) (v := .int (nI (sc j))) (C := R_S) (T := T_S) (N := 9) hx hb hts in_S hown hK hO_j.P 0 rfl rfl 7 (by decide) (hts _ w_235) (fun _ h9 => h9) rfl d_B_shapeOn_43 ?_
            refine lv_icmp_le (tgt := 52) hx hb d_B_shapeOn_46 (by decide) (fun c_203 => ?_) (fun c_203 => ?_)
            · skip
              have c_203 : (sc i) ≤ (sc j) := (nI_leI (a := sc i) (b := sc j) (by omega) (by omega)).mp c_203
              refine lv_iinc (v := nI (i + 1)) (lv' := [(4, .int (nI (i + 1))), (5, .ref (A (13 + 3 * i))), (0, .ref (A 0)), (1, .int p1), (2, .int d1), (3, .ref (A (13 + 3 * j)))]) hx hb d_B_shapeOn_52 hl (k := 5) rfl (nI_1 i) (by decide) rfl (fun ls hl => ?_)
              refine lv_goto (tgt := 5) hx hb d_B_shapeOn_55 (by decide) ?_
              exact ih.2 (i + 1) j (by omega) (by omega) (by omega) (by rw [show ns - i = (ns - (i + 1)) + 1 by omega] at hres; simpa [pb_on, pb_nx, c_201, c_202, c_203] using hres) ls (lv_sub hl [2, 3, 4, 5, 0] rfl)
            · skip
              have c_203 : ¬ ((sc i) ≤ (sc j)) := fun h => c_203 ((nI_leI (a := sc i) (b := sc j) (by omega) (by omega)).mpr h)
              refine lv_aload hx hb d_B_shapeOn_49 (lv_at hl 0 rfl) ?_
              refine lv_astore_n (lv' := [(3, .ref (A (13 + 3 * i))), (5, .ref (A (13 + 3 * i))), (0, .ref (A 0)), (1, .int p1), (2, .int d1), (4, .int (nI i))]) hx hb d_B_shapeOn_51 rfl hl (by decide) rfl (fun ls hl => ?_)
              refine lv_iinc (v := nI (i + 1)) (lv' := [(4, .int (nI (i + 1))), (3, .ref (A (13 + 3 * i))), (5, .ref (A (13 + 3 * i))), (0, .ref (A 0)), (1, .int p1), (2, .int d1)]) hx hb d_B_shapeOn_52 hl (k := 5) rfl (nI_1 i) (by decide) rfl (fun ls hl => ?_)
              refine lv_goto (tgt := 5) hx hb d_B_shapeOn_55 (by decide) ?_
              exact ih.2 (i + 1) i (by omega) (by omega) (by omega) (by rw [show ns - i = (ns - (i + 1)) + 1 by omega] at hres; simpa [pb_on, pb_nx, c_201, c_202, c_203] using hres) ls (lv_sub hl [3, 4, 5, 1, 0] rfl)
  refine lv_null hx hb d_B_shapeOn_0 ?_
  refine lv_astore_nN (lv' := [(3, .null), (0, .ref (A 0)), (1, .int p1), (2, .int d1)]) hx hb d_B_shapeOn_1 rfl hl (by decide) rfl (fun ls hl => ?_)
  refine lv_iconst (v := 0) hx hb d_B_shapeOn_2 (by decide) ?_
  refine lv_istore (lv' := [(4, .int 0), (3, .null), (0, .ref (A 0)), (1, .int p1), (2, .int d1)]) hx hb d_B_shapeOn_3 hl (by decide) rfl (fun ls hl => ?_)
  exact (loops ((ns - 0) + 1)).1 0 (by omega) (by omega) (by simp) ls (lv_sub hl [2, 3, 4, 1, 0] rfl)
end S5
end
section
/-! PURE: the class's public readers (own text) -/
theorem z_dec {b : Nat} (h : ¬ b = 0) : nI b + Int32.ofInt (-1) = nI (b - 1) := by
  obtain ⟨q, rfl⟩ : ∃ q, b = q + 1 := ⟨b - 1, by omega⟩
  rw [show nI (q + 1) + Int32.ofInt (-1) = nI (q + 1) - 1 by rw [Int32.sub_eq_add_neg]; rfl, nI_pred]; rfl
def pb_num (o : Option Nat) : Int32 := match o with
  | none => -1
  | some j => nI j
def pb_kth (P : Nat → Bool) : Nat → Nat → Nat → Int32
  | 0, _, _ => -1
  | f + 1, i, b => if P i = true then (if b = 0 then nI i else pb_kth P f (i + 1) (b - 1)) else pb_kth P f (i + 1) b
def pb_inO (sx sy : Nat → Nat → Int32) (sn : Nat → Nat) (x y : Int32) (o : Option Nat) : Bool := match o with
  | none => false
  | some j => pc_in (sx j) (sy j) (sn j) x y
def pb_tw (sx sy : Nat → Nat → Int32) (sn : Nat → Nat) (sp : Nat → Option Nat) (x y : Int32) (o : Option Nat) : Int32 := match o with
  | none => -1
  | some j => pi_b (pc_in (sx j) (sy j) (sn j) x y) + pi_b (match sp j with
    | none => pc_in (sx j) (sy j) (sn j) x y
    | some q => pc_in (sx q) (sy q) (sn q) x y)
def pb_ar (sx sy : Nat → Nat → Int32) (sn : Nat → Nat) (o : Option Nat) : Int32 := match o with
  | none => 0
  | some j => pc_area (sx j) (sy j) (sn j)
def pb_di (sx sy : Nat → Nat → Int32) (sn : Nat → Nat) (a b : Option Nat) : Int32 := match a, b with
  | some i, some j => pc_least (sx i) (sy i) (sn i) (sx j) (sy j) (sn j)
  | _, _ => -1
def pb_mf (sx sy : Nat → Nat → Int32) (sn : Nat → Nat) (a b : Option Nat) : Bool := match a, b with
  | some i, some j => !(pc_all (sx j) (sy j) (sn j) (sx i) (sy i) (sn i) 0)
  | _, _ => false
def pb_mis (fv : Nat → Nat → Int32) (so sf st : Nat → Int32) (sn sc : Nat → Nat) (sx sy : Nat → Nat → Int32) (ns : Nat) (d : Int32) (i : Nat) : Bool :=
  if fv 0 i = -1 then false else pb_mf sx sy sn (pb_f so sf st sc ns (nI i) d) (pb_f so sf st sc ns (fv 0 i) d)
theorem z_ne1 {k : Nat} (h : k < 2 ^ 31) : ¬ nI k = -1 := fun e => absurd (show nI k < 0 by rw [e]; decide) (nI_pos h)
end
section
section S6
variable {s0 : State} {dC : Nat → ClassId} {dI : Nat → Nat → Nat} {cI cS : ClassId} {l : Launch}
set_option maxRecDepth 100000 in
set_option maxHeartbeats 4000000 in
theorem c_B_force (G : z_G s0 (dC, dI) cI cS) (A : Nat → Nat) (np ns nc nn nm : Nat) (fv : Nat → Nat → Int32) (so sf st : Nat → Int32) (sn sc : Nat → Nat) (sp : Nat → Option Nat) (sx sy : Nat → Nat → Int32) (k : Nat) (hk : k < np) (d : Int32) (hd : z_day d) : Met l y_B_force [Cond.code y_B_force b_B_force 4 (some .int)] ({ frames := 3, cells := 0, slots := 0, locals := 67 }) (z_Pc s0 [.ref (A 0), .int (nI k), .int d] (fun H => z_BD (dC, dI) cI cS H A np ns nc nn nm fv so sf st sn sc sp sx sy)) (z_Qr (some (.int (pb_num (pb_f so sf st sc ns (nI k) d))))) 0 0 z_no := by
  refine z_ofW (by decide +kernel) (Nat.le_of_ble_eq_true rfl) ?_
  intro p e s m below meth c hx hb hml hr hown hlocks hnm hW0 hB ls hl
  have hts := z_hts (args := [.ref (A 0), .int (nI k), .int d].toArray) G.1 hW0
  have hN := z_nstW G.2.1 hW0
  have hK := va_K.moved hW0.alike G.2.2.1
  have hAI := arrOfT_moved hW0.alike G.2.2.2.1
  have hl : lv_has ls 4 [(0, .ref (A 0)), (1, .int (nI k)), (2, .int d)] := hl
  obtain ⟨⟨hO0, hO1, hO2, hB3, hFA, hSH⟩, hinj, ⟨hnp, hns, hnn, hnm, hnc⟩, hsb⟩ := id hB
  have hAS := arrOfT_moved hW0.alike G.2.2.2.2.1
  refine lv_aload_n hx hb d_B_force_0 rfl (lv_at hl 0 rfl) ?_
  refine lv_iload_n hx hb d_B_force_1 rfl (lv_at hl 1 rfl) ?_
  refine z_rdVv (n := 1) (C := R_B) (rest := []) ⟨hx, hb, hml, hown, hts⟩ hW0 (c_B_requirePlace G A np ns nc nn nm fv so sf st sn sc sp sx sy k (by omega)) w_102 w_99 w_101 wp_0 w_1 (by decide +kernel) ⟨rfl, rfl, Nat.le_of_ble_eq_true rfl, Nat.le_of_ble_eq_true rfl⟩ (hO0.recv hK rfl) (hB) rfl rfl hl.1 (Nat.le_of_ble_eq_true rfl) d_B_force_2 ⟨Nat.zero_le _, Nat.zero_le _⟩ ?_
  refine lv_iload_n hx hb d_B_force_5 rfl (lv_at hl 2 rfl) ?_
  refine z_rdSv (n := 1) (rest := []) ⟨hx, hb, hml, hown, hts⟩ hW0 (c_B_requireDay G d hd) w_200 w_198 w_199 w_1 (by decide +kernel) ⟨rfl, rfl, Nat.le_of_ble_eq_true rfl, Nat.le_of_ble_eq_true rfl⟩ (trivial) rfl rfl hl.1 (Nat.le_of_ble_eq_true rfl) d_B_force_6 ⟨Nat.zero_le _, Nat.zero_le _⟩ ?_
  refine lv_aload_n hx hb d_B_force_9 rfl (lv_at hl 0 rfl) ?_
  refine lv_iload_n hx hb d_B_force_10 rfl (lv_at hl 1 rfl) ?_
  refine lv_iload_n hx hb d_B_force_11 rfl (lv_at hl 2 rfl) ?_
  refine z_rdV (n := 2) (C := R_B) (rest := []) ⟨hx, hb, hml, hown, hts⟩ hW0 (c_B_shapeOn G A np ns nc nn nm fv so sf st sn sc sp sx sy (nI k) d) w_363 w_360 w_362 wp_11 w_1 (by decide +kernel) ⟨rfl, rfl, Nat.le_of_ble_eq_true rfl, Nat.le_of_ble_eq_true rfl⟩ (hO0.recv hK rfl) (hB) rfl rfl hl.1 (Nat.le_of_ble_eq_true rfl) d_B_force_12 ⟨Nat.zero_le _, Nat.zero_le _⟩ ?_
  obtain ⟨o_12, hq_12⟩ : ∃ o, pb_f so sf st sc ns (nI k) d = o := ⟨_, rfl⟩
  rcases o_12 with _ | j_12
  · skip
    refine z_topv (w := .null) (by rw [hq_12]; rfl) ?_
    refine lv_astore_nN (lv' := [(3, .null), (0, .ref (A 0)), (1, .int (nI k)), (2, .int d)]) hx hb d_B_force_15 rfl hl (by decide) rfl (fun ls hl => ?_)
    refine lv_aload_nN hx hb d_B_force_16 rfl (lv_at hl 0 rfl) ?_
    refine lv_ifnonnullN hx hb d_B_force_17 ?_
    refine lv_iconst (v := (-1)) hx hb d_B_force_20 (by decide) ?_
    refine lv_goto (tgt := 28) hx hb d_B_force_21 (by decide) ?_
    exact z_iret hx hb hr hlocks (by simp [pi_b, pb_num, hq_12]) d_B_force_28
  · skip
    have hj_12 := pb_f_ok hq_12
    have hS_j_12 := hSH j_12 hj_12.1
    have hb_j_12 := hsb j_12 hj_12.1
    obtain ⟨hO_j_12, hX_j_12, hY_j_12⟩ := id hS_j_12
    refine z_topv (w := .ref (A (13 + 3 * j_12))) (by rw [hq_12]; rfl) ?_
    refine lv_astore_n (lv' := [(3, .ref (A (13 + 3 * j_12))), (0, .ref (A 0)), (1, .int (nI k)), (2, .int d)]) hx hb d_B_force_15 rfl hl (by decide) rfl (fun ls hl => ?_)
    refine lv_aload_n hx hb d_B_force_16 rfl (lv_at hl 0 rfl) ?_
    refine lv_ifnonnull (tgt := 24) hx hb d_B_force_17 (by decide) ?_
    refine lv_aload_n hx hb d_B_force_24 rfl (lv_at hl 0 rfl) ?_
    refine va_get (D := (dC, dI)) (ci := 2) (v := .int (nI j_12)) (C := R_S) (T := T_S) (N := 9) hx hb hts in_S hown hK hO_j_12.P 0 rfl rfl 0 (by decide) (hts _ w_226) (fun _ h9 => h9) rfl d_B_force_25 ?_
    exact z_iret hx hb hr hlocks (by simp [pi_b, pb_num, hq_12]) d_B_force_28
set_option maxRecDepth 100000 in
set_option maxHeartbeats 4000000 in
theorem c_B_area (G : z_G s0 (dC, dI) cI cS) (A : Nat → Nat) (np ns nc nn nm : Nat) (fv : Nat → Nat → Int32) (so sf st : Nat → Int32) (sn sc : Nat → Nat) (sp : Nat → Option Nat) (sx sy : Nat → Nat → Int32) (k : Nat) (hk : k < np) (d : Int32) (hd : z_day d) : Met l y_B_area [Cond.code y_B_area b_B_area 4 (some .int)] ({ frames := 3, cells := 0, slots := 0, locals := 67 }) (z_Pc s0 [.ref (A 0), .int (nI k), .int d] (fun H => z_BD (dC, dI) cI cS H A np ns nc nn nm fv so sf st sn sc sp sx sy)) (z_Qr (some (.int (pb_ar sx sy sn (pb_f so sf st sc ns (nI k) d))))) 0 0 z_no := by
  refine z_ofW (by decide +kernel) (Nat.le_of_ble_eq_true rfl) ?_
  intro p e s m below meth c hx hb hml hr hown hlocks hnm hW0 hB ls hl
  have hts := z_hts (args := [.ref (A 0), .int (nI k), .int d].toArray) G.1 hW0
  have hN := z_nstW G.2.1 hW0
  have hK := va_K.moved hW0.alike G.2.2.1
  have hAI := arrOfT_moved hW0.alike G.2.2.2.1
  have hl : lv_has ls 4 [(0, .ref (A 0)), (1, .int (nI k)), (2, .int d)] := hl
  obtain ⟨⟨hO0, hO1, hO2, hB3, hFA, hSH⟩, hinj, ⟨hnp, hns, hnn, hnm, hnc⟩, hsb⟩ := id hB
  have hAS := arrOfT_moved hW0.alike G.2.2.2.2.1
  refine lv_aload_n hx hb d_B_area_0 rfl (lv_at hl 0 rfl) ?_
  refine lv_iload_n hx hb d_B_area_1 rfl (lv_at hl 1 rfl) ?_
  refine z_rdVv (n := 1) (C := R_B) (rest := []) ⟨hx, hb, hml, hown, hts⟩ hW0 (c_B_requirePlace G A np ns nc nn nm fv so sf st sn sc sp sx sy k (by omega)) w_102 w_99 w_101 wp_0 w_1 (by decide +kernel) ⟨rfl, rfl, Nat.le_of_ble_eq_true rfl, Nat.le_of_ble_eq_true rfl⟩ (hO0.recv hK rfl) (hB) rfl rfl hl.1 (Nat.le_of_ble_eq_true rfl) d_B_area_2 ⟨Nat.zero_le _, Nat.zero_le _⟩ ?_
  refine lv_iload_n hx hb d_B_area_5 rfl (lv_at hl 2 rfl) ?_
  refine z_rdSv (n := 1) (rest := []) ⟨hx, hb, hml, hown, hts⟩ hW0 (c_B_requireDay G d hd) w_200 w_198 w_199 w_1 (by decide +kernel) ⟨rfl, rfl, Nat.le_of_ble_eq_true rfl, Nat.le_of_ble_eq_true rfl⟩ (trivial) rfl rfl hl.1 (Nat.le_of_ble_eq_true rfl) d_B_area_6 ⟨Nat.zero_le _, Nat.zero_le _⟩ ?_
  refine lv_aload_n hx hb d_B_area_9 rfl (lv_at hl 0 rfl) ?_
  refine lv_iload_n hx hb d_B_area_10 rfl (lv_at hl 1 rfl) ?_
  refine lv_iload_n hx hb d_B_area_11 rfl (lv_at hl 2 rfl) ?_
  refine z_rdV (n := 2) (C := R_B) (rest := []) ⟨hx, hb, hml, hown, hts⟩ hW0 (c_B_shapeOn G A np ns nc nn nm fv so sf st sn sc sp sx sy (nI k) d) w_363 w_360 w_362 wp_11 w_1 (by decide +kernel) ⟨rfl, rfl, Nat.le_of_ble_eq_true rfl, Nat.le_of_ble_eq_true rfl⟩ (hO0.recv hK rfl) (hB) rfl rfl hl.1 (Nat.le_of_ble_eq_true rfl) d_B_area_12 ⟨Nat.zero_le _, Nat.zero_le _⟩ ?_
  obtain ⟨o_12, hq_12⟩ : ∃ o, pb_f so sf st sc ns (nI k) d = o := ⟨_, rfl⟩
  rcases o_12 with _ | j_12
  · skip
    refine z_topv (w := .null) (by rw [hq_12]; rfl) ?_
    refine lv_astore_nN (lv' := [(3, .null), (0, .ref (A 0)), (1, .int (nI k)), (2, .int d)]) hx hb d_B_area_15 rfl hl (by decide) rfl (fun ls hl => ?_)
    refine lv_aload_nN hx hb d_B_area_16 rfl (lv_at hl 0 rfl) ?_
    refine lv_ifnonnullN hx hb d_B_area_17 ?_
    refine lv_iconst (v := 0) hx hb d_B_area_20 (by decide) ?_
    refine lv_goto (tgt := 28) hx hb d_B_area_21 (by decide) ?_
    exact z_iret hx hb hr hlocks (by simp [pi_b, pb_ar, hq_12]) d_B_area_28
  · skip
    have hj_12 := pb_f_ok hq_12
    have hS_j_12 := hSH j_12 hj_12.1
    have hb_j_12 := hsb j_12 hj_12.1
    obtain ⟨hO_j_12, hX_j_12, hY_j_12⟩ := id hS_j_12
    refine z_topv (w := .ref (A (13 + 3 * j_12))) (by rw [hq_12]; rfl) ?_
    refine lv_astore_n (lv' := [(3, .ref (A (13 + 3 * j_12))), (0, .ref (A 0)), (1, .int (nI k)), (2, .int d)]) hx hb d_B_area_15 rfl hl (by decide) rfl (fun ls hl => ?_)
    refine lv_aload_n hx hb d_B_area_16 rfl (lv_at hl 0 rfl) ?_
    refine lv_ifnonnull (tgt := 24) hx hb d_B_area_17 (by decide) ?_
    refine lv_aload_n hx hb d_B_area_24 rfl (lv_at hl 0 rfl) ?_
    refine z_rdV (n := 0) (C := R_S) (rest := []) ⟨hx, hb, hml, hown, hts⟩ hW0 (c_S_doubledArea G (A (13 + 3 * j_12)) (A (14 + 3 * j_12)) (A (15 + 3 * j_12)) (sn j_12) (nI j_12) (so j_12) (sf j_12) (st j_12) (nI (sc j_12)) (z_pv A (sp j_12)) (sx j_12) (sy j_12) hb_j_12.1) w_404 w_401 w_402 w_403 w_11 (by decide +kernel) ⟨rfl, rfl, Nat.le_of_ble_eq_true rfl, Nat.le_of_ble_eq_true rfl⟩ (hO_j_12.recv hK rfl) (hS_j_12) rfl rfl hl.1 (Nat.le_of_ble_eq_true rfl) d_B_area_25 ⟨Nat.zero_le _, Nat.zero_le _⟩ ?_
    exact z_iret hx hb hr hlocks (by simp [pi_b, pb_ar, hq_12]) d_B_area_28
set_option maxRecDepth 100000 in
set_option maxHeartbeats 4000000 in
theorem c_B_distance (G : z_G s0 (dC, dI) cI cS) (A : Nat → Nat) (np ns nc nn nm : Nat) (fv : Nat → Nat → Int32) (so sf st : Nat → Int32) (sn sc : Nat → Nat) (sp : Nat → Option Nat) (sx sy : Nat → Nat → Int32) (k : Nat) (hk : k < np) (k2 : Nat) (hk2 : k2 < np) (d : Int32) (hd : z_day d) : Met l y_B_distance [Cond.code y_B_distance b_B_distance 6 (some .int)] ({ frames := 3, cells := 0, slots := 0, locals := 67 }) (z_Pc s0 [.ref (A 0), .int (nI k), .int (nI k2), .int d] (fun H => z_BD (dC, dI) cI cS H A np ns nc nn nm fv so sf st sn sc sp sx sy)) (z_Qr (some (.int (pb_di sx sy sn (pb_f so sf st sc ns (nI k) d) (pb_f so sf st sc ns (nI k2) d))))) 0 0 z_no := by
  refine z_ofW (by decide +kernel) (Nat.le_of_ble_eq_true rfl) ?_
  intro p e s m below meth c hx hb hml hr hown hlocks hnm hW0 hB ls hl
  have hts := z_hts (args := [.ref (A 0), .int (nI k), .int (nI k2), .int d].toArray) G.1 hW0
  have hN := z_nstW G.2.1 hW0
  have hK := va_K.moved hW0.alike G.2.2.1
  have hAI := arrOfT_moved hW0.alike G.2.2.2.1
  have hl : lv_has ls 6 [(0, .ref (A 0)), (1, .int (nI k)), (2, .int (nI k2)), (3, .int d)] := hl
  obtain ⟨⟨hO0, hO1, hO2, hB3, hFA, hSH⟩, hinj, ⟨hnp, hns, hnn, hnm, hnc⟩, hsb⟩ := id hB
  have hAS := arrOfT_moved hW0.alike G.2.2.2.2.1
  refine lv_aload_n hx hb d_B_distance_0 rfl (lv_at hl 0 rfl) ?_
  refine lv_iload_n hx hb d_B_distance_1 rfl (lv_at hl 1 rfl) ?_
  refine z_rdVv (n := 1) (C := R_B) (rest := []) ⟨hx, hb, hml, hown, hts⟩ hW0 (c_B_requirePlace G A np ns nc nn nm fv so sf st sn sc sp sx sy k (by omega)) w_102 w_99 w_101 wp_0 w_1 (by decide +kernel) ⟨rfl, rfl, Nat.le_of_ble_eq_true rfl, Nat.le_of_ble_eq_true rfl⟩ (hO0.recv hK rfl) (hB) rfl rfl hl.1 (Nat.le_of_ble_eq_true rfl) d_B_distance_2 ⟨Nat.zero_le _, Nat.zero_le _⟩ ?_
  refine lv_aload_n hx hb d_B_distance_5 rfl (lv_at hl 0 rfl) ?_
  refine lv_iload_n hx hb d_B_distance_6 rfl (lv_at hl 2 rfl) ?_
  refine z_rdVv (n := 1) (C := R_B) (rest := []) ⟨hx, hb, hml, hown, hts⟩ hW0 (c_B_requirePlace G A np ns nc nn nm fv so sf st sn sc sp sx sy k2 (by omega)) w_102 w_99 w_101 wp_0 w_1 (by decide +kernel) ⟨rfl, rfl, Nat.le_of_ble_eq_true rfl, Nat.le_of_ble_eq_true rfl⟩ (hO0.recv hK rfl) (hB) rfl rfl hl.1 (Nat.le_of_ble_eq_true rfl) d_B_distance_7 ⟨Nat.zero_le _, Nat.zero_le _⟩ ?_
  refine lv_iload_n hx hb d_B_distance_10 rfl (lv_at hl 3 rfl) ?_
  refine z_rdSv (n := 1) (rest := []) ⟨hx, hb, hml, hown, hts⟩ hW0 (c_B_requireDay G d hd) w_200 w_198 w_199 w_1 (by decide +kernel) ⟨rfl, rfl, Nat.le_of_ble_eq_true rfl, Nat.le_of_ble_eq_true rfl⟩ (trivial) rfl rfl hl.1 (Nat.le_of_ble_eq_true rfl) d_B_distance_11 ⟨Nat.zero_le _, Nat.zero_le _⟩ ?_
  refine lv_aload_n hx hb d_B_distance_14 rfl (lv_at hl 0 rfl) ?_
  refine lv_iload_n hx hb d_B_distance_15 rfl (lv_at hl 1 rfl) ?_
  refine lv_iload_n hx hb d_B_distance_16 rfl (lv_at hl 3 rfl) ?_
  refine z_rdV (n := 2) (C := R_B) (rest := []) ⟨hx, hb, hml, hown, hts⟩ hW0 (c_B_shapeOn G A np ns nc nn nm fv so sf st sn sc sp sx sy (nI k) d) w_363 w_360 w_362 wp_11 w_1 (by decide +kernel) ⟨rfl, rfl, Nat.le_of_ble_eq_true rfl, Nat.le_of_ble_eq_true rfl⟩ (hO0.recv hK rfl) (hB) rfl rfl hl.1 (Nat.le_of_ble_eq_true rfl) d_B_distance_17 ⟨Nat.zero_le _, Nat.zero_le _⟩ ?_
  obtain ⟨o_17, hq_17⟩ : ∃ o, pb_f so sf st sc ns (nI k) d = o := ⟨_, rfl⟩
  rcases o_17 with _ | j_17
  · skip
    refine z_topv (w := .null) (by rw [hq_17]; rfl) ?_
    refine lv_astoreN (lv' := [(4, .null), (0, .ref (A 0)), (1, .int (nI k)), (2, .int (nI k2)), (3, .int d)]) hx hb d_B_distance_20 hl (by decide) rfl (fun ls hl => ?_)
    refine lv_aload_n hx hb d_B_distance_22 rfl (lv_at hl 1 rfl) ?_
    refine lv_iload_n hx hb d_B_distance_23 rfl (lv_at hl 3 rfl) ?_
    refine lv_iload_n hx hb d_B_distance_24 rfl (lv_at hl 4 rfl) ?_
    refine z_rdV (n := 2) (C := R_B) (rest := []) ⟨hx, hb, hml, hown, hts⟩ hW0 (c_B_shapeOn G A np ns nc nn nm fv so sf st sn sc sp sx sy (nI k2) d) w_363 w_360 w_362 wp_11 w_1 (by decide +kernel) ⟨rfl, rfl, Nat.le_of_ble_eq_true rfl, Nat.le_of_ble_eq_true rfl⟩ (hO0.recv hK rfl) (hB) rfl rfl hl.1 (Nat.le_of_ble_eq_true rfl) d_B_distance_25 ⟨Nat.zero_le _, Nat.zero_le _⟩ ?_
    obtain ⟨o_25, hq_25⟩ : ∃ o, pb_f so sf st sc ns (nI k2) d = o := ⟨_, rfl⟩
    rcases o_25 with _ | j_25
    · skip
      refine z_topv (w := .null) (by rw [hq_25]; rfl) ?_
      refine lv_astoreN (lv' := [(5, .null), (4, .null), (0, .ref (A 0)), (1, .int (nI k)), (2, .int (nI k2)), (3, .int d)]) hx hb d_B_distance_28 hl (by decide) rfl (fun ls hl => ?_)
      refine lv_aloadN hx hb d_B_distance_30 (lv_at hl 1 rfl) ?_
      refine lv_ifnullN (tgt := 40) hx hb d_B_distance_32 (by decide) ?_
      refine lv_iconst (v := (-1)) hx hb d_B_distance_40 (by decide) ?_
      refine lv_goto (tgt := 51) hx hb d_B_distance_41 (by decide) ?_
      exact z_iret hx hb hr hlocks (by simp [pi_b, pb_di, hq_17, hq_25]) d_B_distance_51
    · skip
      have hj_25 := pb_f_ok hq_25
      have hS_j_25 := hSH j_25 hj_25.1
      have hb_j_25 := hsb j_25 hj_25.1
      obtain ⟨hO_j_25, hX_j_25, hY_j_25⟩ := id hS_j_25
      refine z_topv (w := .ref (A (13 + 3 * j_25))) (by rw [hq_25]; rfl) ?_
      refine lv_astore (lv' := [(5, .ref (A (13 + 3 * j_25))), (4, .null), (0, .ref (A 0)), (1, .int (nI k)), (2, .int (nI k2)), (3, .int d)]) hx hb d_B_distance_28 hl (by decide) rfl (fun ls hl => ?_)
      refine lv_aloadN hx hb d_B_distance_30 (lv_at hl 1 rfl) ?_
      refine lv_ifnullN (tgt := 40) hx hb d_B_distance_32 (by decide) ?_
      refine lv_iconst (v := (-1)) hx hb d_B_distance_40 (by decide) ?_
      refine lv_goto (tgt := 51) hx hb d_B_distance_41 (by decide) ?_
      exact z_iret hx hb hr hlocks (by simp [pi_b, pb_di, hq_17, hq_25]) d_B_distance_51
  · skip
    have hj_17 := pb_f_ok hq_17
    have hS_j_17 := hSH j_17 hj_17.1
    have hb_j_17 := hsb j_17 hj_17.1
    obtain ⟨hO_j_17, hX_j_17, hY_j_17⟩ := id hS_j_17
    refine z_topv (w := .ref (A (13 + 3 * j_17))) (by rw [hq_17]; rfl) ?_
    refine lv_astore (lv' := [(4, .ref (A (13 + 3 * j_17))), (0, .ref (A 0)), (1, .int (nI k)), (2, .int (nI k2)), (3, .int d)]) hx hb d_B_distance_20 hl (by decide) rfl (fun ls hl => ?_)
    refine lv_aload_n hx hb d_B_distance_22 rfl (lv_at hl 1 rfl) ?_
    refine lv_iload_n hx hb d_B_distance_23 rfl (lv_at hl 3 rfl) ?_
    refine lv_iload_n hx hb d_B_distance_24 rfl (lv_at hl 4 rfl) ?_
    refine z_rdV (n := 2) (C := R_B) (rest := []) ⟨hx, hb, hml, hown, hts⟩ hW0 (c_B_shapeOn G A np ns nc nn nm fv so sf st sn sc sp sx sy (nI k2) d) w_363 w_360 w_362 wp_11 w_1 (by decide +kernel) ⟨rfl, rfl, Nat.le_of_ble_eq_true rfl, Nat.le_of_ble_eq_true rfl⟩ (hO0.recv hK rfl) (hB) rfl rfl hl.1 (Nat.le_of_ble_eq_true rfl) d_B_distance_25 ⟨Nat.zero_le _, Nat.zero_le _⟩ ?_
    obtain ⟨o_25, hq_25⟩ : ∃ o, pb_f so sf st sc ns (nI k2) d = o := ⟨_, rfl⟩
    rcases o_25 with _ | j_25
    · skip
      refine z_topv (w := .null) (by rw [hq_25]; rfl) ?_
      refine lv_astoreN (lv' := [(5, .null), (4, .ref (A (13 + 3 * j_17))), (0, .ref (A 0)), (1, .int (nI k)), (2, .int (nI k2)), (3, .int d)]) hx hb d_B_distance_28 hl (by decide) rfl (fun ls hl => ?_)
      refine lv_aload hx hb d_B_distance_30 (lv_at hl 1 rfl) ?_
      refine lv_ifnull hx hb d_B_distance_32 ?_
      refine lv_aloadN hx hb d_B_distance_35 (lv_at hl 0 rfl) ?_
      refine lv_ifnonnullN hx hb d_B_distance_37 ?_
      refine lv_iconst (v := (-1)) hx hb d_B_distance_40 (by decide) ?_
      refine lv_goto (tgt := 51) hx hb d_B_distance_41 (by decide) ?_
      exact z_iret hx hb hr hlocks (by simp [pi_b, pb_di, hq_17, hq_25]) d_B_distance_51
    · skip
      have hj_25 := pb_f_ok hq_25
      have hS_j_25 := hSH j_25 hj_25.1
      have hb_j_25 := hsb j_25 hj_25.1
      obtain ⟨hO_j_25, hX_j_25, hY_j_25⟩ := id hS_j_25
      refine z_topv (w := .ref (A (13 + 3 * j_25))) (by rw [hq_25]; rfl) ?_
      refine lv_astore (lv' := [(5, .ref (A (13 + 3 * j_25))), (4, .ref (A (13 + 3 * j_17))), (0, .ref (A 0)), (1, .int (nI k)), (2, .int (nI k2)), (3, .int d)]) hx hb d_B_distance_28 hl (by decide) rfl (fun ls hl => ?_)
      refine lv_aload hx hb d_B_distance_30 (lv_at hl 1 rfl) ?_
      refine lv_ifnull hx hb d_B_distance_32 ?_
      refine lv_aload hx hb d_B_distance_35 (lv_at hl 0 rfl) ?_
      refine lv_ifnonnull (tgt := 44) hx hb d_B_distance_37 (by decide) ?_
      refine lv_aload hx hb d_B_distance_44 (lv_at hl 1 rfl) ?_
      refine lv_aload hx hb d_B_distance_46 (lv_at hl 0 rfl) ?_
      refine z_rdV (n := 1) (C := R_S) (rest := []) ⟨hx, hb, hml, hown, hts⟩ hW0 (c_S_leastSquareTo G (A (13 + 3 * j_17)) (A (14 + 3 * j_17)) (A (15 + 3 * j_17)) (sn j_17) (nI j_17) (so j_17) (sf j_17) (st j_17) (nI (sc j_17)) (z_pv A (sp j_17)) (sx j_17) (sy j_17) (A (13 + 3 * j_25)) (A (14 + 3 * j_25)) (A (15 + 3 * j_25)) (sn j_25) (nI j_25) (so j_25) (sf j_25) (st j_25) (nI (sc j_25)) (z_pv A (sp j_25)) (sx j_25) (sy j_25) hb_j_17.1 hb_j_25.1 (by have := hb_j_17.2.2.1 hj_17.2; omega) (by have := hb_j_25.2.2.1 hj_25.2; omega)) w_434 w_431 w_432 w_433 w_11 (by decide +kernel) ⟨rfl, rfl, Nat.le_of_ble_eq_true rfl, Nat.le_of_ble_eq_true rfl⟩ (hO_j_17.recv hK rfl) (⟨hS_j_17, hS_j_25⟩) rfl rfl hl.1 (Nat.le_of_ble_eq_true rfl) d_B_distance_48 ⟨Nat.zero_le _, Nat.zero_le _⟩ ?_
      exact z_iret hx hb hr hlocks (by simp [pi_b, pb_di, hq_17, hq_25]) d_B_distance_51
set_option maxRecDepth 100000 in
set_option maxHeartbeats 4000000 in
theorem c_B_nameOn (G : z_G s0 (dC, dI) cI cS) (A : Nat → Nat) (np ns nc nn nm : Nat) (fv : Nat → Nat → Int32) (so sf st : Nat → Int32) (sn sc : Nat → Nat) (sp : Nat → Option Nat) (sx sy : Nat → Nat → Int32) (k : Nat) (hk : k < np) (d : Int32) (hd : z_day d) : Met l y_B_nameOn [Cond.code y_B_nameOn b_B_nameOn 3 (some .int)] ({ frames := 1, cells := 0, slots := 0, locals := 23 }) (z_Pc s0 [.ref (A 0), .int (nI k), .int d] (fun H => z_BD (dC, dI) cI cS H A np ns nc nn nm fv so sf st sn sc sp sx sy)) (z_Qr (some (.int (pn_find (fv 1) (fv 2) (fv 3) (fv 4) (nI k) d nn)))) 0 0 z_no := by
  refine z_ofW (by decide +kernel) (Nat.le_of_ble_eq_true rfl) ?_
  intro p e s m below meth c hx hb hml hr hown hlocks hnm hW0 hB ls hl
  have hts := z_hts (args := [.ref (A 0), .int (nI k), .int d].toArray) G.1 hW0
  have hN := z_nstW G.2.1 hW0
  have hK := va_K.moved hW0.alike G.2.2.1
  have hAI := arrOfT_moved hW0.alike G.2.2.2.1
  have hl : lv_has ls 3 [(0, .ref (A 0)), (1, .int (nI k)), (2, .int d)] := hl
  obtain ⟨⟨hO0, hO1, hO2, hB3, hFA, hSH⟩, hinj, ⟨hnp, hns, hnn, hnm, hnc⟩, hsb⟩ := id hB
  have hAS := arrOfT_moved hW0.alike G.2.2.2.2.1
  have hNm : z_Nm (dC, dI) cI s.heap (A 1) (A 5) (A 6) (A 7) (A 8) nn (fv 1) (fv 2) (fv 3) (fv 4) := ⟨hO1, hFA 1 (by omega), hFA 2 (by omega), hFA 3 (by omega), hFA 4 (by omega)⟩
  refine lv_aload_n hx hb d_B_nameOn_0 rfl (lv_at hl 0 rfl) ?_
  refine lv_iload_n hx hb d_B_nameOn_1 rfl (lv_at hl 1 rfl) ?_
  refine z_rdVv (n := 1) (C := R_B) (rest := []) ⟨hx, hb, hml, hown, hts⟩ hW0 (c_B_requirePlace G A np ns nc nn nm fv so sf st sn sc sp sx sy k (by omega)) w_102 w_99 w_101 wp_0 w_1 (by decide +kernel) ⟨rfl, rfl, Nat.le_of_ble_eq_true rfl, Nat.le_of_ble_eq_true rfl⟩ (hO0.recv hK rfl) (hB) rfl rfl hl.1 (Nat.le_of_ble_eq_true rfl) d_B_nameOn_2 ⟨Nat.zero_le _, Nat.zero_le _⟩ ?_
  refine lv_iload_n hx hb d_B_nameOn_5 rfl (lv_at hl 2 rfl) ?_
  refine z_rdSv (n := 1) (rest := []) ⟨hx, hb, hml, hown, hts⟩ hW0 (c_B_requireDay G d hd) w_200 w_198 w_199 w_1 (by decide +kernel) ⟨rfl, rfl, Nat.le_of_ble_eq_true rfl, Nat.le_of_ble_eq_true rfl⟩ (trivial) rfl rfl hl.1 (Nat.le_of_ble_eq_true rfl) d_B_nameOn_6 ⟨Nat.zero_le _, Nat.zero_le _⟩ ?_
  refine lv_aload_n hx hb d_B_nameOn_9 rfl (lv_at hl 0 rfl) ?_
  refine va_get (D := (dC, dI)) (ci := 3) (v := .ref (A 1)) (C := R_B) (T := T_B) (N := 7) hx hb hts in_B hown hK hO0.P 0 rfl rfl 5 (by decide) (hts _ w_73) (fun _ h9 => h9) rfl d_B_nameOn_10 ?_
  refine lv_iload_n hx hb d_B_nameOn_13 rfl (lv_at hl 1 rfl) ?_
  refine lv_iload_n hx hb d_B_nameOn_14 rfl (lv_at hl 2 rfl) ?_
  refine z_rdV (n := 2) (C := R_N) (rest := []) ⟨hx, hb, hml, hown, hts⟩ hW0 (c_N_find G (A 1) (A 5) (A 6) (A 7) (A 8) nn (fv 1) (fv 2) (fv 3) (fv 4) (nI k) d hnn) w_467 w_464 w_465 w_466 w_2 (by decide +kernel) ⟨rfl, rfl, Nat.le_of_ble_eq_true rfl, Nat.le_of_ble_eq_true rfl⟩ (hO1.recv hK rfl) (hNm) rfl rfl hl.1 (Nat.le_of_ble_eq_true rfl) d_B_nameOn_15 ⟨Nat.zero_le _, Nat.zero_le _⟩ ?_
  exact z_iret hx hb hr hlocks (by rfl) d_B_nameOn_18
set_option maxRecDepth 100000 in
set_option maxHeartbeats 4000000 in
theorem c_B_threeWay (G : z_G s0 (dC, dI) cI cS) (A : Nat → Nat) (np ns nc nn nm : Nat) (fv : Nat → Nat → Int32) (so sf st : Nat → Int32) (sn sc : Nat → Nat) (sp : Nat → Option Nat) (sx sy : Nat → Nat → Int32) (k : Nat) (hk : k < np) (x y d : Int32) (hp : z_pt x y) (hd : z_day d) : Met l y_B_threeWay [Cond.code y_B_threeWay b_B_threeWay 7 (some .int)] ({ frames := 4, cells := 0, slots := 0, locals := 97 }) (z_Pc s0 [.ref (A 0), .int (nI k), .int x, .int y, .int d] (fun H => z_BD (dC, dI) cI cS H A np ns nc nn nm fv so sf st sn sc sp sx sy)) (z_Qr (some (.int (pb_tw sx sy sn sp x y (pb_f so sf st sc ns (nI k) d))))) 0 0 z_no := by
  refine z_ofW (by decide +kernel) (Nat.le_of_ble_eq_true rfl) ?_
  intro p e s m below meth c hx hb hml hr hown hlocks hnm hW0 hB ls hl
  have hts := z_hts (args := [.ref (A 0), .int (nI k), .int x, .int y, .int d].toArray) G.1 hW0
  have hN := z_nstW G.2.1 hW0
  have hK := va_K.moved hW0.alike G.2.2.1
  have hAI := arrOfT_moved hW0.alike G.2.2.2.1
  have hl : lv_has ls 7 [(0, .ref (A 0)), (1, .int (nI k)), (2, .int x), (3, .int y), (4, .int d)] := hl
  obtain ⟨⟨hO0, hO1, hO2, hB3, hFA, hSH⟩, hinj, ⟨hnp, hns, hnn, hnm, hnc⟩, hsb⟩ := id hB
  have hAS := arrOfT_moved hW0.alike G.2.2.2.2.1
  refine lv_aload_n hx hb d_B_threeWay_0 rfl (lv_at hl 0 rfl) ?_
  refine lv_iload_n hx hb d_B_threeWay_1 rfl (lv_at hl 1 rfl) ?_
  refine z_rdVv (n := 1) (C := R_B) (rest := []) ⟨hx, hb, hml, hown, hts⟩ hW0 (c_B_requirePlace G A np ns nc nn nm fv so sf st sn sc sp sx sy k (by omega)) w_102 w_99 w_101 wp_0 w_1 (by decide +kernel) ⟨rfl, rfl, Nat.le_of_ble_eq_true rfl, Nat.le_of_ble_eq_true rfl⟩ (hO0.recv hK rfl) (hB) rfl rfl hl.1 (Nat.le_of_ble_eq_true rfl) d_B_threeWay_2 ⟨Nat.zero_le _, Nat.zero_le _⟩ ?_
  refine lv_iload_n hx hb d_B_threeWay_5 rfl (lv_at hl 2 rfl) ?_
  refine lv_iload_n hx hb d_B_threeWay_6 rfl (lv_at hl 3 rfl) ?_
  refine z_rdSv (n := 2) (rest := []) ⟨hx, hb, hml, hown, hts⟩ hW0 (c_B_requirePoint G x y hp) w_271 w_269 w_270 w_1 (by decide +kernel) ⟨rfl, rfl, Nat.le_of_ble_eq_true rfl, Nat.le_of_ble_eq_true rfl⟩ (trivial) rfl rfl hl.1 (Nat.le_of_ble_eq_true rfl) d_B_threeWay_7 ⟨Nat.zero_le _, Nat.zero_le _⟩ ?_
  refine lv_iload hx hb d_B_threeWay_10 (lv_at hl 4 rfl) ?_
  refine z_rdSv (n := 1) (rest := []) ⟨hx, hb, hml, hown, hts⟩ hW0 (c_B_requireDay G d hd) w_200 w_198 w_199 w_1 (by decide +kernel) ⟨rfl, rfl, Nat.le_of_ble_eq_true rfl, Nat.le_of_ble_eq_true rfl⟩ (trivial) rfl rfl hl.1 (Nat.le_of_ble_eq_true rfl) d_B_threeWay_12 ⟨Nat.zero_le _, Nat.zero_le _⟩ ?_
  refine lv_aload_n hx hb d_B_threeWay_15 rfl (lv_at hl 0 rfl) ?_
  refine lv_iload_n hx hb d_B_threeWay_16 rfl (lv_at hl 1 rfl) ?_
  refine lv_iload hx hb d_B_threeWay_17 (lv_at hl 4 rfl) ?_
  refine z_rdV (n := 2) (C := R_B) (rest := []) ⟨hx, hb, hml, hown, hts⟩ hW0 (c_B_shapeOn G A np ns nc nn nm fv so sf st sn sc sp sx sy (nI k) d) w_363 w_360 w_362 wp_11 w_1 (by decide +kernel) ⟨rfl, rfl, Nat.le_of_ble_eq_true rfl, Nat.le_of_ble_eq_true rfl⟩ (hO0.recv hK rfl) (hB) rfl rfl hl.1 (Nat.le_of_ble_eq_true rfl) d_B_threeWay_19 ⟨Nat.zero_le _, Nat.zero_le _⟩ ?_
  obtain ⟨o_19, hq_19⟩ : ∃ o, pb_f so sf st sc ns (nI k) d = o := ⟨_, rfl⟩
  rcases o_19 with _ | j_19
  · skip
    refine z_topv (w := .null) (by rw [hq_19]; rfl) ?_
    refine lv_astoreN (lv' := [(5, .null), (0, .ref (A 0)), (1, .int (nI k)), (2, .int x), (3, .int y), (4, .int d)]) hx hb d_B_threeWay_22 hl (by decide) rfl (fun ls hl => ?_)
    refine lv_aloadN hx hb d_B_threeWay_24 (lv_at hl 0 rfl) ?_
    refine lv_ifnonnullN hx hb d_B_threeWay_26 ?_
    refine lv_iconst (v := (-1)) hx hb d_B_threeWay_29 (by decide) ?_
    exact z_iret hx hb hr hlocks (by simp [pi_b, pb_tw, hq_19]) d_B_threeWay_30
  · skip
    have hj_19 := pb_f_ok hq_19
    have hS_j_19 := hSH j_19 hj_19.1
    have hb_j_19 := hsb j_19 hj_19.1
    obtain ⟨hO_j_19, hX_j_19, hY_j_19⟩ := id hS_j_19
    refine z_topv (w := .ref (A (13 + 3 * j_19))) (by rw [hq_19]; rfl) ?_
    refine lv_astore (lv' := [(5, .ref (A (13 + 3 * j_19))), (0, .ref (A 0)), (1, .int (nI k)), (2, .int x), (3, .int y), (4, .int d)]) hx hb d_B_threeWay_22 hl (by decide) rfl (fun ls hl => ?_)
    refine lv_aload hx hb d_B_threeWay_24 (lv_at hl 0 rfl) ?_
    refine lv_ifnonnull (tgt := 31) hx hb d_B_threeWay_26 (by decide) ?_
    refine lv_aload hx hb d_B_threeWay_31 (lv_at hl 0 rfl) ?_
    refine va_get (D := (dC, dI)) (ci := 2) (v := z_pv A (sp j_19)) (C := R_S) (T := T_S) (N := 9) hx hb hts in_S hown hK hO_j_19.P 0 rfl rfl 8 (by decide) (hts _ w_237) (fun _ h9 => h9) rfl d_B_threeWay_33 ?_
    obtain ⟨o_p, hsp⟩ : ∃ o, sp j_19 = o := ⟨_, rfl⟩
    rcases o_p with _ | q_p
    · skip
      refine z_topv (w := .null) (by rw [hsp]; rfl) ?_
      refine lv_ifnonnullN hx hb d_B_threeWay_36 ?_
      refine lv_aload hx hb d_B_threeWay_39 (lv_at hl 0 rfl) ?_
      refine lv_goto (tgt := 49) hx hb d_B_threeWay_41 (by decide) ?_
      refine lv_astore (lv' := [(6, .ref (A (13 + 3 * j_19))), (5, .ref (A (13 + 3 * j_19))), (0, .ref (A 0)), (1, .int (nI k)), (2, .int x), (3, .int y), (4, .int d)]) hx hb d_B_threeWay_49 hl (by decide) rfl (fun ls hl => ?_)
      refine lv_aload hx hb d_B_threeWay_51 (lv_at hl 1 rfl) ?_
      refine lv_iload_n hx hb d_B_threeWay_53 rfl (lv_at hl 4 rfl) ?_
      refine lv_iload_n hx hb d_B_threeWay_54 rfl (lv_at hl 5 rfl) ?_
      refine z_rdV (n := 2) (C := R_S) (rest := []) ⟨hx, hb, hml, hown, hts⟩ hW0 (c_S_contains G (A (13 + 3 * j_19)) (A (14 + 3 * j_19)) (A (15 + 3 * j_19)) (sn j_19) (nI j_19) (so j_19) (sf j_19) (st j_19) (nI (sc j_19)) (z_pv A (sp j_19)) (sx j_19) (sy j_19) x y hb_j_19.1) w_382 w_379 w_380 w_381 w_11 (by decide +kernel) ⟨rfl, rfl, Nat.le_of_ble_eq_true rfl, Nat.le_of_ble_eq_true rfl⟩ (hO_j_19.recv hK rfl) (hS_j_19) rfl rfl hl.1 (Nat.le_of_ble_eq_true rfl) d_B_threeWay_55 ⟨Nat.zero_le _, Nat.zero_le _⟩ ?_
      refine lv_if_eq (tgt := 65) hx hb d_B_threeWay_58 (by decide) (fun c_1 => ?_) (fun c_1 => ?_)
      · skip
        have c_1 : (pc_in (sx j_19) (sy j_19) (sn j_19) x y) = false := pi_b_0.mp c_1
        refine lv_iconst (v := 0) hx hb d_B_threeWay_65 (by decide) ?_
        refine lv_aload hx hb d_B_threeWay_66 (lv_at hl 0 rfl) ?_
        refine lv_iload_n hx hb d_B_threeWay_68 rfl (lv_at hl 4 rfl) ?_
        refine lv_iload_n hx hb d_B_threeWay_69 rfl (lv_at hl 5 rfl) ?_
        refine z_rdV (n := 2) (C := R_S) (rest := [.int 0]) ⟨hx, hb, hml, hown, hts⟩ hW0 (c_S_contains G (A (13 + 3 * j_19)) (A (14 + 3 * j_19)) (A (15 + 3 * j_19)) (sn j_19) (nI j_19) (so j_19) (sf j_19) (st j_19) (nI (sc j_19)) (z_pv A (sp j_19)) (sx j_19) (sy j_19) x y hb_j_19.1) w_382 w_379 w_380 w_381 w_11 (by decide +kernel) ⟨rfl, rfl, Nat.le_of_ble_eq_true rfl, Nat.le_of_ble_eq_true rfl⟩ (hO_j_19.recv hK rfl) (hS_j_19) rfl rfl hl.1 (Nat.le_of_ble_eq_true rfl) d_B_threeWay_70 ⟨Nat.zero_le _, Nat.zero_le _⟩ ?_
        refine lv_if_eq (tgt := 80) hx hb d_B_threeWay_73 (by decide) (fun c_2 => ?_) (fun c_2 => ?_)
        · skip
          have c_2 : (pc_in (sx j_19) (sy j_19) (sn j_19) x y) = false := pi_b_0.mp c_2
          refine lv_iconst (v := 0) hx hb d_B_threeWay_80 (by decide) ?_
          refine lv_iadd hx hb d_B_threeWay_81 ?_
          exact z_iret hx hb hr hlocks (by simp [pi_b, pb_tw, hq_19, hsp, c_1, c_2]) d_B_threeWay_82
        · skip
          have c_2 : (pc_in (sx j_19) (sy j_19) (sn j_19) x y) = true := pi_b_1.mp c_2
          exact absurd (c_2.symm.trans c_1) (by decide)
      · skip
        have c_1 : (pc_in (sx j_19) (sy j_19) (sn j_19) x y) = true := pi_b_1.mp c_1
        refine lv_iconst (v := 1) hx hb d_B_threeWay_61 (by decide) ?_
        refine lv_goto (tgt := 66) hx hb d_B_threeWay_62 (by decide) ?_
        refine lv_aload hx hb d_B_threeWay_66 (lv_at hl 0 rfl) ?_
        refine lv_iload_n hx hb d_B_threeWay_68 rfl (lv_at hl 4 rfl) ?_
        refine lv_iload_n hx hb d_B_threeWay_69 rfl (lv_at hl 5 rfl) ?_
        refine z_rdV (n := 2) (C := R_S) (rest := [.int 1]) ⟨hx, hb, hml, hown, hts⟩ hW0 (c_S_contains G (A (13 + 3 * j_19)) (A (14 + 3 * j_19)) (A (15 + 3 * j_19)) (sn j_19) (nI j_19) (so j_19) (sf j_19) (st j_19) (nI (sc j_19)) (z_pv A (sp j_19)) (sx j_19) (sy j_19) x y hb_j_19.1) w_382 w_379 w_380 w_381 w_11 (by decide +kernel) ⟨rfl, rfl, Nat.le_of_ble_eq_true rfl, Nat.le_of_ble_eq_true rfl⟩ (hO_j_19.recv hK rfl) (hS_j_19) rfl rfl hl.1 (Nat.le_of_ble_eq_true rfl) d_B_threeWay_70 ⟨Nat.zero_le _, Nat.zero_le _⟩ ?_
        refine lv_if_eq (tgt := 80) hx hb d_B_threeWay_73 (by decide) (fun c_3 => ?_) (fun c_3 => ?_)
        · skip
          have c_3 : (pc_in (sx j_19) (sy j_19) (sn j_19) x y) = false := pi_b_0.mp c_3
          exact absurd (c_1.symm.trans c_3) (by decide)
        · skip
          have c_3 : (pc_in (sx j_19) (sy j_19) (sn j_19) x y) = true := pi_b_1.mp c_3
          refine lv_iconst (v := 1) hx hb d_B_threeWay_76 (by decide) ?_
          refine lv_goto (tgt := 81) hx hb d_B_threeWay_77 (by decide) ?_
          refine lv_iadd hx hb d_B_threeWay_81 ?_
          exact z_iret hx hb hr hlocks (by simp [pi_b, pb_tw, hq_19, hsp, c_1, c_3]) d_B_threeWay_82
    · skip
      have hl_p := hb_j_19.2.2.2 q_p hsp
      have hS_q_p := hSH q_p hl_p
      have hb_q_p := hsb q_p hl_p
      obtain ⟨hO_q_p, hX_q_p, hY_q_p⟩ := id hS_q_p
      refine z_topv (w := .ref (A (13 + 3 * q_p))) (by rw [hsp]; rfl) ?_
      refine lv_ifnonnull (tgt := 44) hx hb d_B_threeWay_36 (by decide) ?_
      refine lv_aload hx hb d_B_threeWay_44 (lv_at hl 0 rfl) ?_
      refine va_get (D := (dC, dI)) (ci := 2) (v := z_pv A (sp j_19)) (C := R_S) (T := T_S) (N := 9) hx hb hts in_S hown hK hO_j_19.P 0 rfl rfl 8 (by decide) (hts _ w_237) (fun _ h9 => h9) rfl d_B_threeWay_46 ?_
      refine z_topv (w := .ref (A (13 + 3 * q_p))) (by rw [hsp]; rfl) ?_
      refine lv_astore (lv' := [(6, .ref (A (13 + 3 * q_p))), (5, .ref (A (13 + 3 * j_19))), (0, .ref (A 0)), (1, .int (nI k)), (2, .int x), (3, .int y), (4, .int d)]) hx hb d_B_threeWay_49 hl (by decide) rfl (fun ls hl => ?_)
      refine lv_aload hx hb d_B_threeWay_51 (lv_at hl 1 rfl) ?_
      refine lv_iload_n hx hb d_B_threeWay_53 rfl (lv_at hl 4 rfl) ?_
      refine lv_iload_n hx hb d_B_threeWay_54 rfl (lv_at hl 5 rfl) ?_
      refine z_rdV (n := 2) (C := R_S) (rest := []) ⟨hx, hb, hml, hown, hts⟩ hW0 (c_S_contains G (A (13 + 3 * j_19)) (A (14 + 3 * j_19)) (A (15 + 3 * j_19)) (sn j_19) (nI j_19) (so j_19) (sf j_19) (st j_19) (nI (sc j_19)) (z_pv A (sp j_19)) (sx j_19) (sy j_19) x y hb_j_19.1) w_382 w_379 w_380 w_381 w_11 (by decide +kernel) ⟨rfl, rfl, Nat.le_of_ble_eq_true rfl, Nat.le_of_ble_eq_true rfl⟩ (hO_j_19.recv hK rfl) (hS_j_19) rfl rfl hl.1 (Nat.le_of_ble_eq_true rfl) d_B_threeWay_55 ⟨Nat.zero_le _, Nat.zero_le _⟩ ?_
      refine lv_if_eq (tgt := 65) hx hb d_B_threeWay_58 (by decide) (fun c_4 => ?_) (fun c_4 => ?_)
      · skip
        have c_4 : (pc_in (sx j_19) (sy j_19) (sn j_19) x y) = false := pi_b_0.mp c_4
        refine lv_iconst (v := 0) hx hb d_B_threeWay_65 (by decide) ?_
        refine lv_aload hx hb d_B_threeWay_66 (lv_at hl 0 rfl) ?_
        refine lv_iload_n hx hb d_B_threeWay_68 rfl (lv_at hl 4 rfl) ?_
        refine lv_iload_n hx hb d_B_threeWay_69 rfl (lv_at hl 5 rfl) ?_
        refine z_rdV (n := 2) (C := R_S) (rest := [.int 0]) ⟨hx, hb, hml, hown, hts⟩ hW0 (c_S_contains G (A (13 + 3 * q_p)) (A (14 + 3 * q_p)) (A (15 + 3 * q_p)) (sn q_p) (nI q_p) (so q_p) (sf q_p) (st q_p) (nI (sc q_p)) (z_pv A (sp q_p)) (sx q_p) (sy q_p) x y hb_q_p.1) w_382 w_379 w_380 w_381 w_11 (by decide +kernel) ⟨rfl, rfl, Nat.le_of_ble_eq_true rfl, Nat.le_of_ble_eq_true rfl⟩ (hO_q_p.recv hK rfl) (hS_q_p) rfl rfl hl.1 (Nat.le_of_ble_eq_true rfl) d_B_threeWay_70 ⟨Nat.zero_le _, Nat.zero_le _⟩ ?_
        refine lv_if_eq (tgt := 80) hx hb d_B_threeWay_73 (by decide) (fun c_5 => ?_) (fun c_5 => ?_)
        · skip
          have c_5 : (pc_in (sx q_p) (sy q_p) (sn q_p) x y) = false := pi_b_0.mp c_5
          refine lv_iconst (v := 0) hx hb d_B_threeWay_80 (by decide) ?_
          refine lv_iadd hx hb d_B_threeWay_81 ?_
          exact z_iret hx hb hr hlocks (by simp [pi_b, pb_tw, hq_19, hsp, c_4, c_5]) d_B_threeWay_82
        · skip
          have c_5 : (pc_in (sx q_p) (sy q_p) (sn q_p) x y) = true := pi_b_1.mp c_5
          refine lv_iconst (v := 1) hx hb d_B_threeWay_76 (by decide) ?_
          refine lv_goto (tgt := 81) hx hb d_B_threeWay_77 (by decide) ?_
          refine lv_iadd hx hb d_B_threeWay_81 ?_
          exact z_iret hx hb hr hlocks (by simp [pi_b, pb_tw, hq_19, hsp, c_4, c_5]) d_B_threeWay_82
      · skip
        have c_4 : (pc_in (sx j_19) (sy j_19) (sn j_19) x y) = true := pi_b_1.mp c_4
        refine lv_iconst (v := 1) hx hb d_B_threeWay_61 (by decide) ?_
        refine lv_goto (tgt := 66) hx hb d_B_threeWay_62 (by decide) ?_
        refine lv_aload hx hb d_B_threeWay_66 (lv_at hl 0 rfl) ?_
        refine lv_iload_n hx hb d_B_threeWay_68 rfl (lv_at hl 4 rfl) ?_
        refine lv_iload_n hx hb d_B_threeWay_69 rfl (lv_at hl 5 rfl) ?_
        refine z_rdV (n := 2) (C := R_S) (rest := [.int 1]) ⟨hx, hb, hml, hown, hts⟩ hW0 (c_S_contains G (A (13 + 3 * q_p)) (A (14 + 3 * q_p)) (A (15 + 3 * q_p)) (sn q_p) (nI q_p) (so q_p) (sf q_p) (st q_p) (nI (sc q_p)) (z_pv A (sp q_p)) (sx q_p) (sy q_p) x y hb_q_p.1) w_382 w_379 w_380 w_381 w_11 (by decide +kernel) ⟨rfl, rfl, Nat.le_of_ble_eq_true rfl, Nat.le_of_ble_eq_true rfl⟩ (hO_q_p.recv hK rfl) (hS_q_p) rfl rfl hl.1 (Nat.le_of_ble_eq_true rfl) d_B_threeWay_70 ⟨Nat.zero_le _, Nat.zero_le _⟩ ?_
        refine lv_if_eq (tgt := 80) hx hb d_B_threeWay_73 (by decide) (fun c_6 => ?_) (fun c_6 => ?_)
        · skip
          have c_6 : (pc_in (sx q_p) (sy q_p) (sn q_p) x y) = false := pi_b_0.mp c_6
          refine lv_iconst (v := 0) hx hb d_B_threeWay_80 (by decide) ?_
          refine lv_iadd hx hb d_B_threeWay_81 ?_
          exact z_iret hx hb hr hlocks (by simp [pi_b, pb_tw, hq_19, hsp, c_4, c_6]) d_B_threeWay_82
        · skip
          have c_6 : (pc_in (sx q_p) (sy q_p) (sn q_p) x y) = true := pi_b_1.mp c_6
          refine lv_iconst (v := 1) hx hb d_B_threeWay_76 (by decide) ?_
          refine lv_goto (tgt := 81) hx hb d_B_threeWay_77 (by decide) ?_
          refine lv_iadd hx hb d_B_threeWay_81 ?_
          exact z_iret hx hb hr hlocks (by simp [pi_b, pb_tw, hq_19, hsp, c_4, c_6]) d_B_threeWay_82
set_option maxRecDepth 100000 in
set_option maxHeartbeats 4000000 in
theorem c_B_misfitsOn (G : z_G s0 (dC, dI) cI cS) (A : Nat → Nat) (np ns nc nn nm : Nat) (fv : Nat → Nat → Int32) (so sf st : Nat → Int32) (sn sc : Nat → Nat) (sp : Nat → Option Nat) (sx sy : Nat → Nat → Int32) (k : Nat) (hk : k < np) (d : Int32) : Met l y_B_misfitsOn [Cond.code y_B_misfitsOn b_B_misfitsOn 6 (some .boolean)] ({ frames := 5, cells := 0, slots := 0, locals := 119 }) (z_Pc s0 [.ref (A 0), .int (nI k), .int d] (fun H => z_BD (dC, dI) cI cS H A np ns nc nn nm fv so sf st sn sc sp sx sy)) (z_Qr (some (.int (pi_b (pb_mis fv so sf st sn sc sx sy ns d k))))) 0 0 z_no := by
  refine z_ofW (by decide +kernel) (Nat.le_of_ble_eq_true rfl) ?_
  intro p e s m below meth c hx hb hml hr hown hlocks hnm hW0 hB ls hl
  have hts := z_hts (args := [.ref (A 0), .int (nI k), .int d].toArray) G.1 hW0
  have hN := z_nstW G.2.1 hW0
  have hK := va_K.moved hW0.alike G.2.2.1
  have hAI := arrOfT_moved hW0.alike G.2.2.2.1
  have hl : lv_has ls 6 [(0, .ref (A 0)), (1, .int (nI k)), (2, .int d)] := hl
  obtain ⟨⟨hO0, hO1, hO2, hB3, hFA, hSH⟩, hinj, ⟨hnp, hns, hnn, hnm, hnc⟩, hsb⟩ := id hB
  have hAS := arrOfT_moved hW0.alike G.2.2.2.2.1
  refine lv_aload_n hx hb d_B_misfitsOn_0 rfl (lv_at hl 0 rfl) ?_
  refine va_get (D := (dC, dI)) (ci := 3) (v := .ref (A 4)) (C := R_B) (T := T_B) (N := 7) hx hb hts in_B hown hK hO0.P 0 rfl rfl 0 (by decide) (hts _ w_68) (fun _ h9 => h9) rfl d_B_misfitsOn_1 ?_
  refine lv_iload_n hx hb d_B_misfitsOn_4 rfl (lv_at hl 1 rfl) ?_
  refine z_iald hx hb hAI (show z_A cI _ (A 4) 16 (fv 0) from hFA 0 (by omega)) (by omega) (by decide) d_B_misfitsOn_5 ?_
  refine lv_istore_n (lv' := [(3, .int ((fv 0) k)), (0, .ref (A 0)), (1, .int (nI k)), (2, .int d)]) hx hb d_B_misfitsOn_6 rfl hl (by decide) rfl (fun ls hl => ?_)
  refine lv_iload_n hx hb d_B_misfitsOn_7 rfl (lv_at hl 0 rfl) ?_
  refine lv_iconst (v := (-1)) hx hb d_B_misfitsOn_8 (by decide) ?_
  refine lv_icmp_ne (tgt := 14) hx hb d_B_misfitsOn_9 (by decide) (fun c_1 => ?_) (fun c_1 => ?_)
  · skip
    refine lv_aload_n hx hb d_B_misfitsOn_14 rfl (lv_at hl 1 rfl) ?_
    refine lv_iload_n hx hb d_B_misfitsOn_15 rfl (lv_at hl 2 rfl) ?_
    refine lv_iload_n hx hb d_B_misfitsOn_16 rfl (lv_at hl 3 rfl) ?_
    refine z_rdV (n := 2) (C := R_B) (rest := []) ⟨hx, hb, hml, hown, hts⟩ hW0 (c_B_shapeOn G A np ns nc nn nm fv so sf st sn sc sp sx sy (nI k) d) w_363 w_360 w_362 wp_11 w_1 (by decide +kernel) ⟨rfl, rfl, Nat.le_of_ble_eq_true rfl, Nat.le_of_ble_eq_true rfl⟩ (hO0.recv hK rfl) (hB) rfl rfl hl.1 (Nat.le_of_ble_eq_true rfl) d_B_misfitsOn_17 ⟨Nat.zero_le _, Nat.zero_le _⟩ ?_
    obtain ⟨o_17, hq_17⟩ : ∃ o, pb_f so sf st sc ns (nI k) d = o := ⟨_, rfl⟩
    rcases o_17 with _ | j_17
    · skip
      refine z_topv (w := .null) (by rw [hq_17]; rfl) ?_
      refine lv_astoreN (lv' := [(4, .null), (3, .int ((fv 0) k)), (0, .ref (A 0)), (1, .int (nI k)), (2, .int d)]) hx hb d_B_misfitsOn_20 hl (by decide) rfl (fun ls hl => ?_)
      refine lv_aload_n hx hb d_B_misfitsOn_22 rfl (lv_at hl 2 rfl) ?_
      refine lv_iload_n hx hb d_B_misfitsOn_23 rfl (lv_at hl 1 rfl) ?_
      refine lv_iload_n hx hb d_B_misfitsOn_24 rfl (lv_at hl 4 rfl) ?_
      refine z_rdV (n := 2) (C := R_B) (rest := []) ⟨hx, hb, hml, hown, hts⟩ hW0 (c_B_shapeOn G A np ns nc nn nm fv so sf st sn sc sp sx sy ((fv 0) k) d) w_363 w_360 w_362 wp_11 w_1 (by decide +kernel) ⟨rfl, rfl, Nat.le_of_ble_eq_true rfl, Nat.le_of_ble_eq_true rfl⟩ (hO0.recv hK rfl) (hB) rfl rfl hl.1 (Nat.le_of_ble_eq_true rfl) d_B_misfitsOn_25 ⟨Nat.zero_le _, Nat.zero_le _⟩ ?_
      obtain ⟨o_25, hq_25⟩ : ∃ o, pb_f so sf st sc ns ((fv 0) k) d = o := ⟨_, rfl⟩
      rcases o_25 with _ | j_25
      · skip
        refine z_topv (w := .null) (by rw [hq_25]; rfl) ?_
        refine lv_astoreN (lv' := [(5, .null), (4, .null), (3, .int ((fv 0) k)), (0, .ref (A 0)), (1, .int (nI k)), (2, .int d)]) hx hb d_B_misfitsOn_28 hl (by decide) rfl (fun ls hl => ?_)
        refine lv_aloadN hx hb d_B_misfitsOn_30 (lv_at hl 1 rfl) ?_
        refine lv_ifnullN (tgt := 54) hx hb d_B_misfitsOn_32 (by decide) ?_
        refine lv_iconst (v := 0) hx hb d_B_misfitsOn_54 (by decide) ?_
        exact z_zret hx hb hr hlocks (by simp [pi_b, pb_mis, pb_mf, hq_17, hq_25, c_1]) d_B_misfitsOn_55
      · skip
        have hj_25 := pb_f_ok hq_25
        have hS_j_25 := hSH j_25 hj_25.1
        have hb_j_25 := hsb j_25 hj_25.1
        obtain ⟨hO_j_25, hX_j_25, hY_j_25⟩ := id hS_j_25
        refine z_topv (w := .ref (A (13 + 3 * j_25))) (by rw [hq_25]; rfl) ?_
        refine lv_astore (lv' := [(5, .ref (A (13 + 3 * j_25))), (4, .null), (3, .int ((fv 0) k)), (0, .ref (A 0)), (1, .int (nI k)), (2, .int d)]) hx hb d_B_misfitsOn_28 hl (by decide) rfl (fun ls hl => ?_)
        refine lv_aloadN hx hb d_B_misfitsOn_30 (lv_at hl 1 rfl) ?_
        refine lv_ifnullN (tgt := 54) hx hb d_B_misfitsOn_32 (by decide) ?_
        refine lv_iconst (v := 0) hx hb d_B_misfitsOn_54 (by decide) ?_
        exact z_zret hx hb hr hlocks (by simp [pi_b, pb_mis, pb_mf, hq_17, hq_25, c_1]) d_B_misfitsOn_55
    · skip
      have hj_17 := pb_f_ok hq_17
      have hS_j_17 := hSH j_17 hj_17.1
      have hb_j_17 := hsb j_17 hj_17.1
      obtain ⟨hO_j_17, hX_j_17, hY_j_17⟩ := id hS_j_17
      refine z_topv (w := .ref (A (13 + 3 * j_17))) (by rw [hq_17]; rfl) ?_
      refine lv_astore (lv' := [(4, .ref (A (13 + 3 * j_17))), (3, .int ((fv 0) k)), (0, .ref (A 0)), (1, .int (nI k)), (2, .int d)]) hx hb d_B_misfitsOn_20 hl (by decide) rfl (fun ls hl => ?_)
      refine lv_aload_n hx hb d_B_misfitsOn_22 rfl (lv_at hl 2 rfl) ?_
      refine lv_iload_n hx hb d_B_misfitsOn_23 rfl (lv_at hl 1 rfl) ?_
      refine lv_iload_n hx hb d_B_misfitsOn_24 rfl (lv_at hl 4 rfl) ?_
      refine z_rdV (n := 2) (C := R_B) (rest := []) ⟨hx, hb, hml, hown, hts⟩ hW0 (c_B_shapeOn G A np ns nc nn nm fv so sf st sn sc sp sx sy ((fv 0) k) d) w_363 w_360 w_362 wp_11 w_1 (by decide +kernel) ⟨rfl, rfl, Nat.le_of_ble_eq_true rfl, Nat.le_of_ble_eq_true rfl⟩ (hO0.recv hK rfl) (hB) rfl rfl hl.1 (Nat.le_of_ble_eq_true rfl) d_B_misfitsOn_25 ⟨Nat.zero_le _, Nat.zero_le _⟩ ?_
      obtain ⟨o_25, hq_25⟩ : ∃ o, pb_f so sf st sc ns ((fv 0) k) d = o := ⟨_, rfl⟩
      rcases o_25 with _ | j_25
      · skip
        refine z_topv (w := .null) (by rw [hq_25]; rfl) ?_
        refine lv_astoreN (lv' := [(5, .null), (4, .ref (A (13 + 3 * j_17))), (3, .int ((fv 0) k)), (0, .ref (A 0)), (1, .int (nI k)), (2, .int d)]) hx hb d_B_misfitsOn_28 hl (by decide) rfl (fun ls hl => ?_)
        refine lv_aload hx hb d_B_misfitsOn_30 (lv_at hl 1 rfl) ?_
        refine lv_ifnull hx hb d_B_misfitsOn_32 ?_
        refine lv_aloadN hx hb d_B_misfitsOn_35 (lv_at hl 0 rfl) ?_
        refine lv_ifnullN (tgt := 54) hx hb d_B_misfitsOn_37 (by decide) ?_
        refine lv_iconst (v := 0) hx hb d_B_misfitsOn_54 (by decide) ?_
        exact z_zret hx hb hr hlocks (by simp [pi_b, pb_mis, pb_mf, hq_17, hq_25, c_1]) d_B_misfitsOn_55
      · skip
        have hj_25 := pb_f_ok hq_25
        have hS_j_25 := hSH j_25 hj_25.1
        have hb_j_25 := hsb j_25 hj_25.1
        obtain ⟨hO_j_25, hX_j_25, hY_j_25⟩ := id hS_j_25
        refine z_topv (w := .ref (A (13 + 3 * j_25))) (by rw [hq_25]; rfl) ?_
        refine lv_astore (lv' := [(5, .ref (A (13 + 3 * j_25))), (4, .ref (A (13 + 3 * j_17))), (3, .int ((fv 0) k)), (0, .ref (A 0)), (1, .int (nI k)), (2, .int d)]) hx hb d_B_misfitsOn_28 hl (by decide) rfl (fun ls hl => ?_)
        refine lv_aload hx hb d_B_misfitsOn_30 (lv_at hl 1 rfl) ?_
        refine lv_ifnull hx hb d_B_misfitsOn_32 ?_
        refine lv_aload hx hb d_B_misfitsOn_35 (lv_at hl 0 rfl) ?_
        refine lv_ifnull hx hb d_B_misfitsOn_37 ?_
        refine lv_aload hx hb d_B_misfitsOn_40 (lv_at hl 0 rfl) ?_
        refine lv_aload hx hb d_B_misfitsOn_42 (lv_at hl 1 rfl) ?_
        refine z_rdV (n := 1) (C := R_S) (rest := []) ⟨hx, hb, hml, hown, hts⟩ hW0 (c_S_containsCornersOf G (A (13 + 3 * j_25)) (A (14 + 3 * j_25)) (A (15 + 3 * j_25)) (sn j_25) (nI j_25) (so j_25) (sf j_25) (st j_25) (nI (sc j_25)) (z_pv A (sp j_25)) (sx j_25) (sy j_25) (A (13 + 3 * j_17)) (A (14 + 3 * j_17)) (A (15 + 3 * j_17)) (sn j_17) (nI j_17) (so j_17) (sf j_17) (st j_17) (nI (sc j_17)) (z_pv A (sp j_17)) (sx j_17) (sy j_17) hb_j_25.1 hb_j_17.1) w_422 w_419 w_420 w_421 w_11 (by decide +kernel) ⟨rfl, rfl, Nat.le_of_ble_eq_true rfl, Nat.le_of_ble_eq_true rfl⟩ (hO_j_25.recv hK rfl) (⟨hS_j_25, hS_j_17⟩) rfl rfl hl.1 (Nat.le_of_ble_eq_true rfl) d_B_misfitsOn_44 ⟨Nat.zero_le _, Nat.zero_le _⟩ ?_
        refine lv_if_ne (tgt := 54) hx hb d_B_misfitsOn_47 (by decide) (fun c_2 => ?_) (fun c_2 => ?_)
        · skip
          have c_2 : (pc_all (sx j_25) (sy j_25) (sn j_25) (sx j_17) (sy j_17) (sn j_17) 0) = true := pi_b_1.mp c_2
          refine lv_iconst (v := 0) hx hb d_B_misfitsOn_54 (by decide) ?_
          exact z_zret hx hb hr hlocks (by simp [pi_b, pb_mis, pb_mf, hq_17, hq_25, c_1, c_2]) d_B_misfitsOn_55
        · skip
          have c_2 : (pc_all (sx j_25) (sy j_25) (sn j_25) (sx j_17) (sy j_17) (sn j_17) 0) = false := pi_b_0.mp c_2
          refine lv_iconst (v := 1) hx hb d_B_misfitsOn_50 (by decide) ?_
          refine lv_goto (tgt := 55) hx hb d_B_misfitsOn_51 (by decide) ?_
          exact z_zret hx hb hr hlocks (by simp [pi_b, pb_mis, pb_mf, hq_17, hq_25, c_1, c_2]) d_B_misfitsOn_55
  · skip
    refine lv_iconst (v := 0) hx hb d_B_misfitsOn_12 (by decide) ?_
    exact z_zret hx hb hr hlocks (by simp [pi_b, pb_mis, pb_mf, c_1]) d_B_misfitsOn_13
set_option maxRecDepth 100000 in
set_option maxHeartbeats 4000000 in
theorem c_B_inside (G : z_G s0 (dC, dI) cI cS) (A : Nat → Nat) (np ns nc nn nm : Nat) (fv : Nat → Nat → Int32) (so sf st : Nat → Int32) (sn sc : Nat → Nat) (sp : Nat → Option Nat) (sx sy : Nat → Nat → Int32) (x y d : Int32) (kk : Nat) (hkk : kk < 2 ^ 31) (hp : z_pt x y) (hd : z_day d) : Met l y_B_inside [Cond.code y_B_inside b_B_inside 8 (some .int)] ({ frames := 4, cells := 0, slots := 0, locals := 97 }) (z_Pc s0 [.ref (A 0), .int x, .int y, .int d, .int (nI kk)] (fun H => z_BD (dC, dI) cI cS H A np ns nc nn nm fv so sf st sn sc sp sx sy)) (z_Qr (some (.int (pb_kth (fun i => pb_inO sx sy sn x y (pb_f so sf st sc ns (nI i) d)) np 0 kk)))) 0 0 z_no := by
  refine z_ofW (by decide +kernel) (Nat.le_of_ble_eq_true rfl) ?_
  intro p e s m below meth c hx hb hml hr hown hlocks hnm hW0 hB ls hl
  have hts := z_hts (args := [.ref (A 0), .int x, .int y, .int d, .int (nI kk)].toArray) G.1 hW0
  have hN := z_nstW G.2.1 hW0
  have hK := va_K.moved hW0.alike G.2.2.1
  have hAI := arrOfT_moved hW0.alike G.2.2.2.1
  have hl : lv_has ls 8 [(0, .ref (A 0)), (1, .int x), (2, .int y), (3, .int d), (4, .int (nI kk))] := hl
  obtain ⟨⟨hO0, hO1, hO2, hB3, hFA, hSH⟩, hinj, ⟨hnp, hns, hnn, hnm, hnc⟩, hsb⟩ := id hB
  have hAS := arrOfT_moved hW0.alike G.2.2.2.2.1
  have loops : ∀ f : Nat, (∀ (i b : Nat), np - i < f → (i ≤ np) → (b ≤ kk) → (pb_kth (fun i => pb_inO sx sy sn x y (pb_f so sf st sc ns (nI i) d)) (np - i) i b = pb_kth (fun i => pb_inO sx sy sn x y (pb_f so sf st sc ns (nI i) d)) np 0 kk) → ∀ ls : Array Slot, lv_has ls 8 [(0, .ref (A 0)), (1, .int x), (2, .int y), (3, .int d), (5, .int (nI b)), (6, .int (nI i))] → W p l e ({ frames := 4, cells := 0, slots := 0, locals := 97 }) s m [.ref (A 0), .int x, .int y, .int d, .int (nI kk)].toArray below meth c s.heap [] 0 0 (MQ below (z_Qr (some (.int (pb_kth (fun i => pb_inO sx sy sn x y (pb_f so sf st sc ns (nI i) d)) np 0 kk)))) [.ref (A 0), .int x, .int y, .int d, .int (nI kk)].toArray s 0 0 z_no) (F0 m 21 ls [])) := by
    intro f
    induction f with
    | zero => exact fun _ _ h => absurd h (Nat.not_lt_zero _)
    | succ f ih =>
      intro i b hmu hi hbk hres ls hl
      refine lv_iload hx hb d_B_inside_21 (lv_at hl 5 rfl) ?_
      refine lv_aload_n hx hb d_B_inside_23 rfl (lv_at hl 0 rfl) ?_
      refine va_get (D := (dC, dI)) (ci := 3) (v := .int (nI np)) (C := R_B) (T := T_B) (N := 7) hx hb hts in_B hown hK hO0.P 0 rfl rfl 1 (by decide) (hts _ w_69) (fun _ h9 => h9) rfl d_B_inside_24 ?_
      refine lv_icmp_ge (tgt := 71) hx hb d_B_inside_27 (by decide) (fun c_101 => ?_) (fun c_101 => ?_)
      · skip
        have c_101 : np ≤ i := (nI_leI (a := np) (b := i) (by omega) (by omega)).mp c_101
        refine lv_iconst (v := (-1)) hx hb d_B_inside_71 (by decide) ?_
        exact z_iret hx hb hr hlocks (by rw [show np - i = 0 by omega] at hres; simpa [pb_kth] using hres) d_B_inside_72
      · skip
        have c_101 : ¬ (np ≤ i) := fun h => c_101 ((nI_leI (a := np) (b := i) (by omega) (by omega)).mpr h)
        refine lv_aload_n hx hb d_B_inside_30 rfl (lv_at hl 0 rfl) ?_
        refine lv_iload hx hb d_B_inside_31 (lv_at hl 5 rfl) ?_
        refine lv_iload_n hx hb d_B_inside_33 rfl (lv_at hl 3 rfl) ?_
        refine z_rdV (n := 2) (C := R_B) (rest := []) ⟨hx, hb, hml, hown, hts⟩ hW0 (c_B_shapeOn G A np ns nc nn nm fv so sf st sn sc sp sx sy (nI i) d) w_363 w_360 w_362 wp_11 w_1 (by decide +kernel) ⟨rfl, rfl, Nat.le_of_ble_eq_true rfl, Nat.le_of_ble_eq_true rfl⟩ (hO0.recv hK rfl) (hB) rfl rfl hl.1 (Nat.le_of_ble_eq_true rfl) d_B_inside_34 ⟨Nat.zero_le _, Nat.zero_le _⟩ ?_
        obtain ⟨o_34, hq_34⟩ : ∃ o, pb_f so sf st sc ns (nI i) d = o := ⟨_, rfl⟩
        rcases o_34 with _ | j_34
        · skip
          refine z_topv (w := .null) (by rw [hq_34]; rfl) ?_
          refine lv_astoreN (lv' := [(7, .null), (0, .ref (A 0)), (1, .int x), (2, .int y), (3, .int d), (5, .int (nI b)), (6, .int (nI i))]) hx hb d_B_inside_37 hl (by decide) rfl (fun ls hl => ?_)
          refine lv_aloadN hx hb d_B_inside_39 (lv_at hl 0 rfl) ?_
          refine lv_ifnullN (tgt := 65) hx hb d_B_inside_41 (by decide) ?_
          refine lv_iinc (v := nI (i + 1)) (lv' := [(6, .int (nI (i + 1))), (7, .null), (0, .ref (A 0)), (1, .int x), (2, .int y), (3, .int d), (5, .int (nI b))]) hx hb d_B_inside_65 hl (k := 6) rfl (nI_1 i) (by decide) rfl (fun ls hl => ?_)
          refine lv_goto (tgt := 21) hx hb d_B_inside_68 (by decide) ?_
          exact ih (i + 1) b (by omega) (by omega) (by omega) (by rw [show np - i = (np - (i + 1)) + 1 by omega] at hres; simpa [pb_kth, pb_inO, hq_34, c_101] using hres) ls (lv_sub hl [2, 3, 4, 5, 6, 0] rfl)
        · skip
          have hj_34 := pb_f_ok hq_34
          have hS_j_34 := hSH j_34 hj_34.1
          have hb_j_34 := hsb j_34 hj_34.1
          obtain ⟨hO_j_34, hX_j_34, hY_j_34⟩ := id hS_j_34
          refine z_topv (w := .ref (A (13 + 3 * j_34))) (by rw [hq_34]; rfl) ?_
          refine lv_astore (lv' := [(7, .ref (A (13 + 3 * j_34))), (0, .ref (A 0)), (1, .int x), (2, .int y), (3, .int d), (5, .int (nI b)), (6, .int (nI i))]) hx hb d_B_inside_37 hl (by decide) rfl (fun ls hl => ?_)
          refine lv_aload hx hb d_B_inside_39 (lv_at hl 0 rfl) ?_
          refine lv_ifnull hx hb d_B_inside_41 ?_
          refine lv_aload hx hb d_B_inside_44 (lv_at hl 0 rfl) ?_
          refine lv_iload_n hx hb d_B_inside_46 rfl (lv_at hl 2 rfl) ?_
          refine lv_iload_n hx hb d_B_inside_47 rfl (lv_at hl 3 rfl) ?_
          refine z_rdV (n := 2) (C := R_S) (rest := []) ⟨hx, hb, hml, hown, hts⟩ hW0 (c_S_contains G (A (13 + 3 * j_34)) (A (14 + 3 * j_34)) (A (15 + 3 * j_34)) (sn j_34) (nI j_34) (so j_34) (sf j_34) (st j_34) (nI (sc j_34)) (z_pv A (sp j_34)) (sx j_34) (sy j_34) x y hb_j_34.1) w_382 w_379 w_380 w_381 w_11 (by decide +kernel) ⟨rfl, rfl, Nat.le_of_ble_eq_true rfl, Nat.le_of_ble_eq_true rfl⟩ (hO_j_34.recv hK rfl) (hS_j_34) rfl rfl hl.1 (Nat.le_of_ble_eq_true rfl) d_B_inside_48 ⟨Nat.zero_le _, Nat.zero_le _⟩ ?_
          refine lv_if_eq (tgt := 65) hx hb d_B_inside_51 (by decide) (fun c_102 => ?_) (fun c_102 => ?_)
          · skip
            have c_102 : (pc_in (sx j_34) (sy j_34) (sn j_34) x y) = false := pi_b_0.mp c_102
            refine lv_iinc (v := nI (i + 1)) (lv' := [(6, .int (nI (i + 1))), (7, .ref (A (13 + 3 * j_34))), (0, .ref (A 0)), (1, .int x), (2, .int y), (3, .int d), (5, .int (nI b))]) hx hb d_B_inside_65 hl (k := 6) rfl (nI_1 i) (by decide) rfl (fun ls hl => ?_)
            refine lv_goto (tgt := 21) hx hb d_B_inside_68 (by decide) ?_
            exact ih (i + 1) b (by omega) (by omega) (by omega) (by rw [show np - i = (np - (i + 1)) + 1 by omega] at hres; simpa [pb_kth, pb_inO, hq_34, c_101, c_102] using hres) ls (lv_sub hl [2, 3, 4, 5, 6, 0] rfl)
          · skip
            have c_102 : (pc_in (sx j_34) (sy j_34) (sn j_34) x y) = true := pi_b_1.mp c_102
            refine lv_iload hx hb d_B_inside_54 (lv_at hl 5 rfl) ?_
            refine lv_if_ne (tgt := 62) hx hb d_B_inside_56 (by decide) (fun c_103 => ?_) (fun c_103 => ?_)
            · skip
              have c_103 : ¬ (b = 0) := fun h => c_103 ((nI_eq (a := b) (b := 0) (by omega) (by omega)).mpr h)
              refine lv_iinc (v := nI (b - 1)) (lv' := [(5, .int (nI (b - 1))), (7, .ref (A (13 + 3 * j_34))), (0, .ref (A 0)), (1, .int x), (2, .int y), (3, .int d), (6, .int (nI i))]) hx hb d_B_inside_62 hl (k := 5) rfl (z_dec c_103) (by decide) rfl (fun ls hl => ?_)
              refine lv_iinc (v := nI (i + 1)) (lv' := [(6, .int (nI (i + 1))), (5, .int (nI (b - 1))), (7, .ref (A (13 + 3 * j_34))), (0, .ref (A 0)), (1, .int x), (2, .int y), (3, .int d)]) hx hb d_B_inside_65 hl (k := 6) rfl (nI_1 i) (by decide) rfl (fun ls hl => ?_)
              refine lv_goto (tgt := 21) hx hb d_B_inside_68 (by decide) ?_
              exact ih (i + 1) (b - 1) (by omega) (by omega) (by omega) (by rw [show np - i = (np - (i + 1)) + 1 by omega] at hres; simpa [pb_kth, pb_inO, hq_34, c_101, c_102, c_103] using hres) ls (lv_sub hl [3, 4, 5, 6, 1, 0] rfl)
            · skip
              have c_103 : b = 0 := (nI_eq (a := b) (b := 0) (by omega) (by omega)).mp c_103
              refine lv_iload hx hb d_B_inside_59 (lv_at hl 6 rfl) ?_
              exact z_iret hx hb hr hlocks (by rw [show np - i = (np - (i + 1)) + 1 by omega] at hres; simp [pb_kth, pb_inO, hq_34, c_101, c_102, c_103] at hres; exact hres) d_B_inside_61
  refine lv_iload hx hb d_B_inside_0 (lv_at hl 4 rfl) ?_
  refine z_rdSv (n := 1) (rest := []) ⟨hx, hb, hml, hown, hts⟩ hW0 (c_B_requireRank G (nI kk) (nI_pos' hkk)) w_377 w_375 w_376 w_1 (by decide +kernel) ⟨rfl, rfl, Nat.le_of_ble_eq_true rfl, Nat.le_of_ble_eq_true rfl⟩ (trivial) rfl rfl hl.1 (Nat.le_of_ble_eq_true rfl) d_B_inside_2 ⟨Nat.zero_le _, Nat.zero_le _⟩ ?_
  refine lv_iload_n hx hb d_B_inside_5 rfl (lv_at hl 1 rfl) ?_
  refine lv_iload_n hx hb d_B_inside_6 rfl (lv_at hl 2 rfl) ?_
  refine z_rdSv (n := 2) (rest := []) ⟨hx, hb, hml, hown, hts⟩ hW0 (c_B_requirePoint G x y hp) w_271 w_269 w_270 w_1 (by decide +kernel) ⟨rfl, rfl, Nat.le_of_ble_eq_true rfl, Nat.le_of_ble_eq_true rfl⟩ (trivial) rfl rfl hl.1 (Nat.le_of_ble_eq_true rfl) d_B_inside_7 ⟨Nat.zero_le _, Nat.zero_le _⟩ ?_
  refine lv_iload_n hx hb d_B_inside_10 rfl (lv_at hl 3 rfl) ?_
  refine z_rdSv (n := 1) (rest := []) ⟨hx, hb, hml, hown, hts⟩ hW0 (c_B_requireDay G d hd) w_200 w_198 w_199 w_1 (by decide +kernel) ⟨rfl, rfl, Nat.le_of_ble_eq_true rfl, Nat.le_of_ble_eq_true rfl⟩ (trivial) rfl rfl hl.1 (Nat.le_of_ble_eq_true rfl) d_B_inside_11 ⟨Nat.zero_le _, Nat.zero_le _⟩ ?_
  refine lv_iload hx hb d_B_inside_14 (lv_at hl 4 rfl) ?_
  refine lv_istore (lv' := [(5, .int (nI kk)), (0, .ref (A 0)), (1, .int x), (2, .int y), (3, .int d), (4, .int (nI kk))]) hx hb d_B_inside_16 hl (by decide) rfl (fun ls hl => ?_)
  refine lv_iconst (v := 0) hx hb d_B_inside_18 (by decide) ?_
  refine lv_istore (lv' := [(6, .int 0), (5, .int (nI kk)), (0, .ref (A 0)), (1, .int x), (2, .int y), (3, .int d), (4, .int (nI kk))]) hx hb d_B_inside_19 hl (by decide) rfl (fun ls hl => ?_)
  exact (loops ((np - 0) + 1)) 0 kk (by omega) (by omega) (by omega) (by rfl) ls (lv_sub hl [2, 3, 4, 5, 1, 0] rfl)
set_option maxRecDepth 100000 in
set_option maxHeartbeats 4000000 in
theorem c_B_misfit (G : z_G s0 (dC, dI) cI cS) (A : Nat → Nat) (np ns nc nn nm : Nat) (fv : Nat → Nat → Int32) (so sf st : Nat → Int32) (sn sc : Nat → Nat) (sp : Nat → Option Nat) (sx sy : Nat → Nat → Int32) (kk : Nat) (d : Int32) (hkk : kk < 2 ^ 31) (hd : z_day d) : Met l y_B_misfit [Cond.code y_B_misfit b_B_misfit 5 (some .int)] ({ frames := 6, cells := 0, slots := 0, locals := 144 }) (z_Pc s0 [.ref (A 0), .int (nI kk), .int d] (fun H => z_BD (dC, dI) cI cS H A np ns nc nn nm fv so sf st sn sc sp sx sy)) (z_Qr (some (.int (pb_kth (fun i => pb_mis fv so sf st sn sc sx sy ns d i) np 0 kk)))) 0 0 z_no := by
  refine z_ofW (by decide +kernel) (Nat.le_of_ble_eq_true rfl) ?_
  intro p e s m below meth c hx hb hml hr hown hlocks hnm hW0 hB ls hl
  have hts := z_hts (args := [.ref (A 0), .int (nI kk), .int d].toArray) G.1 hW0
  have hN := z_nstW G.2.1 hW0
  have hK := va_K.moved hW0.alike G.2.2.1
  have hAI := arrOfT_moved hW0.alike G.2.2.2.1
  have hl : lv_has ls 5 [(0, .ref (A 0)), (1, .int (nI kk)), (2, .int d)] := hl
  obtain ⟨⟨hO0, hO1, hO2, hB3, hFA, hSH⟩, hinj, ⟨hnp, hns, hnn, hnm, hnc⟩, hsb⟩ := id hB
  have hAS := arrOfT_moved hW0.alike G.2.2.2.2.1
  have loops : ∀ f : Nat, (∀ (i b : Nat), np - i < f → (i ≤ np) → (b ≤ kk) → (pb_kth (fun i => pb_mis fv so sf st sn sc sx sy ns d i) (np - i) i b = pb_kth (fun i => pb_mis fv so sf st sn sc sx sy ns d i) np 0 kk) → ∀ ls : Array Slot, lv_has ls 5 [(0, .ref (A 0)), (2, .int d), (3, .int (nI b)), (4, .int (nI i))] → W p l e ({ frames := 6, cells := 0, slots := 0, locals := 144 }) s m [.ref (A 0), .int (nI kk), .int d].toArray below meth c s.heap [] 0 0 (MQ below (z_Qr (some (.int (pb_kth (fun i => pb_mis fv so sf st sn sc sx sy ns d i) np 0 kk)))) [.ref (A 0), .int (nI kk), .int d].toArray s 0 0 z_no) (F0 m 13 ls [])) := by
    intro f
    induction f with
    | zero => exact fun _ _ h => absurd h (Nat.not_lt_zero _)
    | succ f ih =>
      intro i b hmu hi hbk hres ls hl
      refine lv_iload hx hb d_B_misfit_13 (lv_at hl 3 rfl) ?_
      refine lv_aload_n hx hb d_B_misfit_15 rfl (lv_at hl 0 rfl) ?_
      refine va_get (D := (dC, dI)) (ci := 3) (v := .int (nI np)) (C := R_B) (T := T_B) (N := 7) hx hb hts in_B hown hK hO0.P 0 rfl rfl 1 (by decide) (hts _ w_69) (fun _ h9 => h9) rfl d_B_misfit_16 ?_
      refine lv_icmp_ge (tgt := 48) hx hb d_B_misfit_19 (by decide) (fun c_101 => ?_) (fun c_101 => ?_)
      · skip
        have c_101 : np ≤ i := (nI_leI (a := np) (b := i) (by omega) (by omega)).mp c_101
        refine lv_iconst (v := (-1)) hx hb d_B_misfit_48 (by decide) ?_
        exact z_iret hx hb hr hlocks (by rw [show np - i = 0 by omega] at hres; simpa [pb_kth] using hres) d_B_misfit_49
      · skip
        have c_101 : ¬ (np ≤ i) := fun h => c_101 ((nI_leI (a := np) (b := i) (by omega) (by omega)).mpr h)
        refine lv_aload_n hx hb d_B_misfit_22 rfl (lv_at hl 0 rfl) ?_
        refine lv_iload hx hb d_B_misfit_23 (lv_at hl 3 rfl) ?_
        refine lv_iload_n hx hb d_B_misfit_25 rfl (lv_at hl 1 rfl) ?_
        refine z_rdV (n := 2) (C := R_B) (rest := []) ⟨hx, hb, hml, hown, hts⟩ hW0 (c_B_misfitsOn G A np ns nc nn nm fv so sf st sn sc sp sx sy i (by omega) d) w_418 w_415 w_417 wp_13 w_1 (by decide +kernel) ⟨rfl, rfl, Nat.le_of_ble_eq_true rfl, Nat.le_of_ble_eq_true rfl⟩ (hO0.recv hK rfl) (hB) rfl rfl hl.1 (Nat.le_of_ble_eq_true rfl) d_B_misfit_26 ⟨Nat.zero_le _, Nat.zero_le _⟩ ?_
        refine lv_if_eq (tgt := 42) hx hb d_B_misfit_29 (by decide) (fun c_102 => ?_) (fun c_102 => ?_)
        · skip
          have c_102 : (pb_mis fv so sf st sn sc sx sy ns d i) = false := pi_b_0.mp c_102
          refine lv_iinc (v := nI (i + 1)) (lv' := [(4, .int (nI (i + 1))), (0, .ref (A 0)), (2, .int d), (3, .int (nI b))]) hx hb d_B_misfit_42 hl (k := 3) rfl (nI_1 i) (by decide) rfl (fun ls hl => ?_)
          refine lv_goto (tgt := 13) hx hb d_B_misfit_45 (by decide) ?_
          exact ih (i + 1) b (by omega) (by omega) (by omega) (by rw [show np - i = (np - (i + 1)) + 1 by omega] at hres; simpa [pb_kth, c_101, c_102] using hres) ls (lv_sub hl [1, 2, 3, 0] rfl)
        · skip
          have c_102 : (pb_mis fv so sf st sn sc sx sy ns d i) = true := pi_b_1.mp c_102
          refine lv_iload_n hx hb d_B_misfit_32 rfl (lv_at hl 2 rfl) ?_
          refine lv_if_ne (tgt := 39) hx hb d_B_misfit_33 (by decide) (fun c_103 => ?_) (fun c_103 => ?_)
          · skip
            have c_103 : ¬ (b = 0) := fun h => c_103 ((nI_eq (a := b) (b := 0) (by omega) (by omega)).mpr h)
            refine lv_iinc (v := nI (b - 1)) (lv' := [(3, .int (nI (b - 1))), (0, .ref (A 0)), (2, .int d), (4, .int (nI i))]) hx hb d_B_misfit_39 hl (k := 2) rfl (z_dec c_103) (by decide) rfl (fun ls hl => ?_)
            refine lv_iinc (v := nI (i + 1)) (lv' := [(4, .int (nI (i + 1))), (3, .int (nI (b - 1))), (0, .ref (A 0)), (2, .int d)]) hx hb d_B_misfit_42 hl (k := 3) rfl (nI_1 i) (by decide) rfl (fun ls hl => ?_)
            refine lv_goto (tgt := 13) hx hb d_B_misfit_45 (by decide) ?_
            exact ih (i + 1) (b - 1) (by omega) (by omega) (by omega) (by rw [show np - i = (np - (i + 1)) + 1 by omega] at hres; simpa [pb_kth, c_101, c_102, c_103] using hres) ls (lv_sub hl [2, 3, 1, 0] rfl)
          · skip
            have c_103 : b = 0 := (nI_eq (a := b) (b := 0) (by omega) (by omega)).mp c_103
            refine lv_iload hx hb d_B_misfit_36 (lv_at hl 3 rfl) ?_
            exact z_iret hx hb hr hlocks (by rw [show np - i = (np - (i + 1)) + 1 by omega] at hres; simp [pb_kth, c_101, c_102, c_103] at hres; exact hres) d_B_misfit_38
  refine lv_iload_n hx hb d_B_misfit_0 rfl (lv_at hl 1 rfl) ?_
  refine z_rdSv (n := 1) (rest := []) ⟨hx, hb, hml, hown, hts⟩ hW0 (c_B_requireRank G (nI kk) (nI_pos' hkk)) w_377 w_375 w_376 w_1 (by decide +kernel) ⟨rfl, rfl, Nat.le_of_ble_eq_true rfl, Nat.le_of_ble_eq_true rfl⟩ (trivial) rfl rfl hl.1 (Nat.le_of_ble_eq_true rfl) d_B_misfit_1 ⟨Nat.zero_le _, Nat.zero_le _⟩ ?_
  refine lv_iload_n hx hb d_B_misfit_4 rfl (lv_at hl 2 rfl) ?_
  refine z_rdSv (n := 1) (rest := []) ⟨hx, hb, hml, hown, hts⟩ hW0 (c_B_requireDay G d hd) w_200 w_198 w_199 w_1 (by decide +kernel) ⟨rfl, rfl, Nat.le_of_ble_eq_true rfl, Nat.le_of_ble_eq_true rfl⟩ (trivial) rfl rfl hl.1 (Nat.le_of_ble_eq_true rfl) d_B_misfit_5 ⟨Nat.zero_le _, Nat.zero_le _⟩ ?_
  refine lv_iload_n hx hb d_B_misfit_8 rfl (lv_at hl 1 rfl) ?_
  refine lv_istore_n (lv' := [(3, .int (nI kk)), (0, .ref (A 0)), (1, .int (nI kk)), (2, .int d)]) hx hb d_B_misfit_9 rfl hl (by decide) rfl (fun ls hl => ?_)
  refine lv_iconst (v := 0) hx hb d_B_misfit_10 (by decide) ?_
  refine lv_istore (lv' := [(4, .int 0), (3, .int (nI kk)), (0, .ref (A 0)), (1, .int (nI kk)), (2, .int d)]) hx hb d_B_misfit_11 hl (by decide) rfl (fun ls hl => ?_)
  exact (loops ((np - 0) + 1)) 0 kk (by omega) (by omega) (by omega) (by rfl) ls (lv_sub hl [2, 4, 1, 0] rfl)
end S6
end
section
section S7
variable {s0 : State} {dC : Nat → ClassId} {dI : Nat → Nat → Nat} {cI cS : ClassId} {l : Launch}
set_option maxRecDepth 100000 in
set_option maxHeartbeats 4000000 in
theorem t_B_force_1 (G : z_G s0 (dC, dI) cI cS) (hT : z_T s0 l) (A : Nat → Nat) (np ns nc nn nm : Nat) (fv : Nat → Nat → Int32) (so sf st : Nat → Int32) (sn sc : Nat → Nat) (sp : Nat → Option Nat) (sx sy : Nat → Nat → Int32) (x0 : Int32) (hx0 : x0 < 0 ∨ nI np ≤ x0) (d : Int32) : xt_Met l y_B_force [Cond.code y_B_force b_B_force 4 (some .int)] ({ frames := 7, cells := 1, slots := 6, locals := 103 }) (z_Pc s0 [.ref (A 0), .int x0, .int d] (fun H => z_Old s0 H ∧ z_BD (dC, dI) cI cS H A np ns nc nn nm fv so sf st sn sc sp sx sy)) "java/util/NoSuchElementException" := by
  refine z_ofWX (by decide +kernel) (Nat.le_of_ble_eq_true rfl) ?_
  intro p e s m below meth c hx hb hml hadm hown hlocks hno hW0 hB ls hl
  have hts := z_hts (args := [.ref (A 0), .int x0, .int d].toArray) G.1 hW0
  have hN := z_nstW G.2.1 hW0
  have hK := va_K.moved hW0.alike G.2.2.1
  have hAI := arrOfT_moved hW0.alike G.2.2.2.1
  have hl : lv_has ls 4 [(0, .ref (A 0)), (1, .int x0), (2, .int d)] := hl
  obtain ⟨hOld, hB1⟩ := id hB
  obtain ⟨⟨hO0, hO1, hO2, hB3, hFA, hSH⟩, hinj, ⟨hnp, hns, hnn, hnm, hnc⟩, hsb⟩ := id hB1
  have hAS := arrOfT_moved hW0.alike G.2.2.2.2.1
  refine lv_aload_n hx hb d_B_force_0 rfl (lv_at hl 0 rfl) ?_
  refine lv_iload_n hx hb d_B_force_1 rfl (lv_at hl 1 rfl) ?_
  exact z_thV (n := 1) (C := R_B) (rest := []) ⟨hx, hb, hml, hown, hts⟩ hW0 hno hlocks (t_B_requirePlace G hT A np ns nc nn nm fv so sf st sn sc sp sx sy x0 hx0) w_102 w_99 w_101 wp_0 w_1 (by decide +kernel) ⟨rfl, rfl, Nat.le_of_ble_eq_true rfl, Nat.le_of_ble_eq_true rfl⟩ (hO0.recv hK rfl) (hB) rfl rfl hl.1 (Nat.le_of_ble_eq_true rfl) d_B_force_2 ⟨Nat.le_of_ble_eq_true rfl, Nat.le_of_ble_eq_true rfl⟩
set_option maxRecDepth 100000 in
set_option maxHeartbeats 4000000 in
theorem t_B_force_2 (G : z_G s0 (dC, dI) cI cS) (hT : z_T s0 l) (A : Nat → Nat) (np ns nc nn nm : Nat) (fv : Nat → Nat → Int32) (so sf st : Nat → Int32) (sn sc : Nat → Nat) (sp : Nat → Option Nat) (sx sy : Nat → Nat → Int32) (k : Nat) (hk : k < np) (d : Int32) (hd : ¬ z_day d) : xt_Met l y_B_force [Cond.code y_B_force b_B_force 4 (some .int)] ({ frames := 7, cells := 1, slots := 6, locals := 102 }) (z_Pc s0 [.ref (A 0), .int (nI k), .int d] (fun H => z_Old s0 H ∧ z_BD (dC, dI) cI cS H A np ns nc nn nm fv so sf st sn sc sp sx sy)) "java/lang/IllegalArgumentException" := by
  refine z_ofWX (by decide +kernel) (Nat.le_of_ble_eq_true rfl) ?_
  intro p e s m below meth c hx hb hml hadm hown hlocks hno hW0 hB ls hl
  have hts := z_hts (args := [.ref (A 0), .int (nI k), .int d].toArray) G.1 hW0
  have hN := z_nstW G.2.1 hW0
  have hK := va_K.moved hW0.alike G.2.2.1
  have hAI := arrOfT_moved hW0.alike G.2.2.2.1
  have hl : lv_has ls 4 [(0, .ref (A 0)), (1, .int (nI k)), (2, .int d)] := hl
  obtain ⟨hOld, hB1⟩ := id hB
  obtain ⟨⟨hO0, hO1, hO2, hB3, hFA, hSH⟩, hinj, ⟨hnp, hns, hnn, hnm, hnc⟩, hsb⟩ := id hB1
  have hAS := arrOfT_moved hW0.alike G.2.2.2.2.1
  refine lv_aload_n hx hb d_B_force_0 rfl (lv_at hl 0 rfl) ?_
  refine lv_iload_n hx hb d_B_force_1 rfl (lv_at hl 1 rfl) ?_
  refine z_rdVv (n := 1) (C := R_B) (rest := []) ⟨hx, hb, hml, hown, hts⟩ hW0 (c_B_requirePlace G A np ns nc nn nm fv so sf st sn sc sp sx sy k (by omega)) w_102 w_99 w_101 wp_0 w_1 (by decide +kernel) ⟨rfl, rfl, Nat.le_of_ble_eq_true rfl, Nat.le_of_ble_eq_true rfl⟩ (hO0.recv hK rfl) (hB1) rfl rfl hl.1 (Nat.le_of_ble_eq_true rfl) d_B_force_2 ⟨Nat.zero_le _, Nat.zero_le _⟩ ?_
  refine lv_iload_n hx hb d_B_force_5 rfl (lv_at hl 2 rfl) ?_
  exact z_thS (n := 1) (rest := []) ⟨hx, hb, hml, hown, hts⟩ hW0 hno hlocks (t_B_requireDay G hT d hd) w_200 w_198 w_199 w_1 (by decide +kernel) ⟨rfl, rfl, Nat.le_of_ble_eq_true rfl, Nat.le_of_ble_eq_true rfl⟩ (hOld) rfl rfl hl.1 (Nat.le_of_ble_eq_true rfl) d_B_force_6 ⟨Nat.le_of_ble_eq_true rfl, Nat.le_of_ble_eq_true rfl⟩
set_option maxRecDepth 100000 in
set_option maxHeartbeats 4000000 in
theorem t_B_area_1 (G : z_G s0 (dC, dI) cI cS) (hT : z_T s0 l) (A : Nat → Nat) (np ns nc nn nm : Nat) (fv : Nat → Nat → Int32) (so sf st : Nat → Int32) (sn sc : Nat → Nat) (sp : Nat → Option Nat) (sx sy : Nat → Nat → Int32) (x0 : Int32) (hx0 : x0 < 0 ∨ nI np ≤ x0) (d : Int32) : xt_Met l y_B_area [Cond.code y_B_area b_B_area 4 (some .int)] ({ frames := 7, cells := 1, slots := 6, locals := 103 }) (z_Pc s0 [.ref (A 0), .int x0, .int d] (fun H => z_Old s0 H ∧ z_BD (dC, dI) cI cS H A np ns nc nn nm fv so sf st sn sc sp sx sy)) "java/util/NoSuchElementException" := by
  refine z_ofWX (by decide +kernel) (Nat.le_of_ble_eq_true rfl) ?_
  intro p e s m below meth c hx hb hml hadm hown hlocks hno hW0 hB ls hl
  have hts := z_hts (args := [.ref (A 0), .int x0, .int d].toArray) G.1 hW0
  have hN := z_nstW G.2.1 hW0
  have hK := va_K.moved hW0.alike G.2.2.1
  have hAI := arrOfT_moved hW0.alike G.2.2.2.1
  have hl : lv_has ls 4 [(0, .ref (A 0)), (1, .int x0), (2, .int d)] := hl
  obtain ⟨hOld, hB1⟩ := id hB
  obtain ⟨⟨hO0, hO1, hO2, hB3, hFA, hSH⟩, hinj, ⟨hnp, hns, hnn, hnm, hnc⟩, hsb⟩ := id hB1
  have hAS := arrOfT_moved hW0.alike G.2.2.2.2.1
  refine lv_aload_n hx hb d_B_area_0 rfl (lv_at hl 0 rfl) ?_
  refine lv_iload_n hx hb d_B_area_1 rfl (lv_at hl 1 rfl) ?_
  exact z_thV (n := 1) (C := R_B) (rest := []) ⟨hx, hb, hml, hown, hts⟩ hW0 hno hlocks (t_B_requirePlace G hT A np ns nc nn nm fv so sf st sn sc sp sx sy x0 hx0) w_102 w_99 w_101 wp_0 w_1 (by decide +kernel) ⟨rfl, rfl, Nat.le_of_ble_eq_true rfl, Nat.le_of_ble_eq_true rfl⟩ (hO0.recv hK rfl) (hB) rfl rfl hl.1 (Nat.le_of_ble_eq_true rfl) d_B_area_2 ⟨Nat.le_of_ble_eq_true rfl, Nat.le_of_ble_eq_true rfl⟩
set_option maxRecDepth 100000 in
set_option maxHeartbeats 4000000 in
theorem t_B_area_2 (G : z_G s0 (dC, dI) cI cS) (hT : z_T s0 l) (A : Nat → Nat) (np ns nc nn nm : Nat) (fv : Nat → Nat → Int32) (so sf st : Nat → Int32) (sn sc : Nat → Nat) (sp : Nat → Option Nat) (sx sy : Nat → Nat → Int32) (k : Nat) (hk : k < np) (d : Int32) (hd : ¬ z_day d) : xt_Met l y_B_area [Cond.code y_B_area b_B_area 4 (some .int)] ({ frames := 7, cells := 1, slots := 6, locals := 102 }) (z_Pc s0 [.ref (A 0), .int (nI k), .int d] (fun H => z_Old s0 H ∧ z_BD (dC, dI) cI cS H A np ns nc nn nm fv so sf st sn sc sp sx sy)) "java/lang/IllegalArgumentException" := by
  refine z_ofWX (by decide +kernel) (Nat.le_of_ble_eq_true rfl) ?_
  intro p e s m below meth c hx hb hml hadm hown hlocks hno hW0 hB ls hl
  have hts := z_hts (args := [.ref (A 0), .int (nI k), .int d].toArray) G.1 hW0
  have hN := z_nstW G.2.1 hW0
  have hK := va_K.moved hW0.alike G.2.2.1
  have hAI := arrOfT_moved hW0.alike G.2.2.2.1
  have hl : lv_has ls 4 [(0, .ref (A 0)), (1, .int (nI k)), (2, .int d)] := hl
  obtain ⟨hOld, hB1⟩ := id hB
  obtain ⟨⟨hO0, hO1, hO2, hB3, hFA, hSH⟩, hinj, ⟨hnp, hns, hnn, hnm, hnc⟩, hsb⟩ := id hB1
  have hAS := arrOfT_moved hW0.alike G.2.2.2.2.1
  refine lv_aload_n hx hb d_B_area_0 rfl (lv_at hl 0 rfl) ?_
  refine lv_iload_n hx hb d_B_area_1 rfl (lv_at hl 1 rfl) ?_
  refine z_rdVv (n := 1) (C := R_B) (rest := []) ⟨hx, hb, hml, hown, hts⟩ hW0 (c_B_requirePlace G A np ns nc nn nm fv so sf st sn sc sp sx sy k (by omega)) w_102 w_99 w_101 wp_0 w_1 (by decide +kernel) ⟨rfl, rfl, Nat.le_of_ble_eq_true rfl, Nat.le_of_ble_eq_true rfl⟩ (hO0.recv hK rfl) (hB1) rfl rfl hl.1 (Nat.le_of_ble_eq_true rfl) d_B_area_2 ⟨Nat.zero_le _, Nat.zero_le _⟩ ?_
  refine lv_iload_n hx hb d_B_area_5 rfl (lv_at hl 2 rfl) ?_
  exact z_thS (n := 1) (rest := []) ⟨hx, hb, hml, hown, hts⟩ hW0 hno hlocks (t_B_requireDay G hT d hd) w_200 w_198 w_199 w_1 (by decide +kernel) ⟨rfl, rfl, Nat.le_of_ble_eq_true rfl, Nat.le_of_ble_eq_true rfl⟩ (hOld) rfl rfl hl.1 (Nat.le_of_ble_eq_true rfl) d_B_area_6 ⟨Nat.le_of_ble_eq_true rfl, Nat.le_of_ble_eq_true rfl⟩
set_option maxRecDepth 100000 in
set_option maxHeartbeats 4000000 in
theorem t_B_nameOn_1 (G : z_G s0 (dC, dI) cI cS) (hT : z_T s0 l) (A : Nat → Nat) (np ns nc nn nm : Nat) (fv : Nat → Nat → Int32) (so sf st : Nat → Int32) (sn sc : Nat → Nat) (sp : Nat → Option Nat) (sx sy : Nat → Nat → Int32) (x0 : Int32) (hx0 : x0 < 0 ∨ nI np ≤ x0) (d : Int32) : xt_Met l y_B_nameOn [Cond.code y_B_nameOn b_B_nameOn 3 (some .int)] ({ frames := 7, cells := 1, slots := 6, locals := 103 }) (z_Pc s0 [.ref (A 0), .int x0, .int d] (fun H => z_Old s0 H ∧ z_BD (dC, dI) cI cS H A np ns nc nn nm fv so sf st sn sc sp sx sy)) "java/util/NoSuchElementException" := by
  refine z_ofWX (by decide +kernel) (Nat.le_of_ble_eq_true rfl) ?_
  intro p e s m below meth c hx hb hml hadm hown hlocks hno hW0 hB ls hl
  have hts := z_hts (args := [.ref (A 0), .int x0, .int d].toArray) G.1 hW0
  have hN := z_nstW G.2.1 hW0
  have hK := va_K.moved hW0.alike G.2.2.1
  have hAI := arrOfT_moved hW0.alike G.2.2.2.1
  have hl : lv_has ls 3 [(0, .ref (A 0)), (1, .int x0), (2, .int d)] := hl
  obtain ⟨hOld, hB1⟩ := id hB
  obtain ⟨⟨hO0, hO1, hO2, hB3, hFA, hSH⟩, hinj, ⟨hnp, hns, hnn, hnm, hnc⟩, hsb⟩ := id hB1
  have hAS := arrOfT_moved hW0.alike G.2.2.2.2.1
  refine lv_aload_n hx hb d_B_nameOn_0 rfl (lv_at hl 0 rfl) ?_
  refine lv_iload_n hx hb d_B_nameOn_1 rfl (lv_at hl 1 rfl) ?_
  exact z_thV (n := 1) (C := R_B) (rest := []) ⟨hx, hb, hml, hown, hts⟩ hW0 hno hlocks (t_B_requirePlace G hT A np ns nc nn nm fv so sf st sn sc sp sx sy x0 hx0) w_102 w_99 w_101 wp_0 w_1 (by decide +kernel) ⟨rfl, rfl, Nat.le_of_ble_eq_true rfl, Nat.le_of_ble_eq_true rfl⟩ (hO0.recv hK rfl) (hB) rfl rfl hl.1 (Nat.le_of_ble_eq_true rfl) d_B_nameOn_2 ⟨Nat.le_of_ble_eq_true rfl, Nat.le_of_ble_eq_true rfl⟩
set_option maxRecDepth 100000 in
set_option maxHeartbeats 4000000 in
theorem t_B_nameOn_2 (G : z_G s0 (dC, dI) cI cS) (hT : z_T s0 l) (A : Nat → Nat) (np ns nc nn nm : Nat) (fv : Nat → Nat → Int32) (so sf st : Nat → Int32) (sn sc : Nat → Nat) (sp : Nat → Option Nat) (sx sy : Nat → Nat → Int32) (k : Nat) (hk : k < np) (d : Int32) (hd : ¬ z_day d) : xt_Met l y_B_nameOn [Cond.code y_B_nameOn b_B_nameOn 3 (some .int)] ({ frames := 7, cells := 1, slots := 6, locals := 102 }) (z_Pc s0 [.ref (A 0), .int (nI k), .int d] (fun H => z_Old s0 H ∧ z_BD (dC, dI) cI cS H A np ns nc nn nm fv so sf st sn sc sp sx sy)) "java/lang/IllegalArgumentException" := by
  refine z_ofWX (by decide +kernel) (Nat.le_of_ble_eq_true rfl) ?_
  intro p e s m below meth c hx hb hml hadm hown hlocks hno hW0 hB ls hl
  have hts := z_hts (args := [.ref (A 0), .int (nI k), .int d].toArray) G.1 hW0
  have hN := z_nstW G.2.1 hW0
  have hK := va_K.moved hW0.alike G.2.2.1
  have hAI := arrOfT_moved hW0.alike G.2.2.2.1
  have hl : lv_has ls 3 [(0, .ref (A 0)), (1, .int (nI k)), (2, .int d)] := hl
  obtain ⟨hOld, hB1⟩ := id hB
  obtain ⟨⟨hO0, hO1, hO2, hB3, hFA, hSH⟩, hinj, ⟨hnp, hns, hnn, hnm, hnc⟩, hsb⟩ := id hB1
  have hAS := arrOfT_moved hW0.alike G.2.2.2.2.1
  refine lv_aload_n hx hb d_B_nameOn_0 rfl (lv_at hl 0 rfl) ?_
  refine lv_iload_n hx hb d_B_nameOn_1 rfl (lv_at hl 1 rfl) ?_
  refine z_rdVv (n := 1) (C := R_B) (rest := []) ⟨hx, hb, hml, hown, hts⟩ hW0 (c_B_requirePlace G A np ns nc nn nm fv so sf st sn sc sp sx sy k (by omega)) w_102 w_99 w_101 wp_0 w_1 (by decide +kernel) ⟨rfl, rfl, Nat.le_of_ble_eq_true rfl, Nat.le_of_ble_eq_true rfl⟩ (hO0.recv hK rfl) (hB1) rfl rfl hl.1 (Nat.le_of_ble_eq_true rfl) d_B_nameOn_2 ⟨Nat.zero_le _, Nat.zero_le _⟩ ?_
  refine lv_iload_n hx hb d_B_nameOn_5 rfl (lv_at hl 2 rfl) ?_
  exact z_thS (n := 1) (rest := []) ⟨hx, hb, hml, hown, hts⟩ hW0 hno hlocks (t_B_requireDay G hT d hd) w_200 w_198 w_199 w_1 (by decide +kernel) ⟨rfl, rfl, Nat.le_of_ble_eq_true rfl, Nat.le_of_ble_eq_true rfl⟩ (hOld) rfl rfl hl.1 (Nat.le_of_ble_eq_true rfl) d_B_nameOn_6 ⟨Nat.le_of_ble_eq_true rfl, Nat.le_of_ble_eq_true rfl⟩
set_option maxRecDepth 100000 in
set_option maxHeartbeats 4000000 in
theorem t_B_inside_1 (G : z_G s0 (dC, dI) cI cS) (hT : z_T s0 l) (A : Nat → Nat) (np ns nc nn nm : Nat) (fv : Nat → Nat → Int32) (so sf st : Nat → Int32) (sn sc : Nat → Nat) (sp : Nat → Option Nat) (sx sy : Nat → Nat → Int32) (x y : Int32) (d x0 : Int32) (hx0 : x0 < 0) : xt_Met l y_B_inside [Cond.code y_B_inside b_B_inside 8 (some .int)] ({ frames := 7, cells := 1, slots := 6, locals := 102 }) (z_Pc s0 [.ref (A 0), .int x, .int y, .int d, .int x0] (fun H => z_Old s0 H ∧ z_BD (dC, dI) cI cS H A np ns nc nn nm fv so sf st sn sc sp sx sy)) "java/util/NoSuchElementException" := by
  refine z_ofWX (by decide +kernel) (Nat.le_of_ble_eq_true rfl) ?_
  intro p e s m below meth c hx hb hml hadm hown hlocks hno hW0 hB ls hl
  have hts := z_hts (args := [.ref (A 0), .int x, .int y, .int d, .int x0].toArray) G.1 hW0
  have hN := z_nstW G.2.1 hW0
  have hK := va_K.moved hW0.alike G.2.2.1
  have hAI := arrOfT_moved hW0.alike G.2.2.2.1
  have hl : lv_has ls 8 [(0, .ref (A 0)), (1, .int x), (2, .int y), (3, .int d), (4, .int x0)] := hl
  obtain ⟨hOld, hB1⟩ := id hB
  obtain ⟨⟨hO0, hO1, hO2, hB3, hFA, hSH⟩, hinj, ⟨hnp, hns, hnn, hnm, hnc⟩, hsb⟩ := id hB1
  have hAS := arrOfT_moved hW0.alike G.2.2.2.2.1
  refine lv_iload hx hb d_B_inside_0 (lv_at hl 4 rfl) ?_
  exact z_thS (n := 1) (rest := []) ⟨hx, hb, hml, hown, hts⟩ hW0 hno hlocks (t_B_requireRank G hT x0 hx0) w_377 w_375 w_376 w_1 (by decide +kernel) ⟨rfl, rfl, Nat.le_of_ble_eq_true rfl, Nat.le_of_ble_eq_true rfl⟩ (hOld) rfl rfl hl.1 (Nat.le_of_ble_eq_true rfl) d_B_inside_2 ⟨Nat.le_of_ble_eq_true rfl, Nat.le_of_ble_eq_true rfl⟩
set_option maxRecDepth 100000 in
set_option maxHeartbeats 4000000 in
theorem t_B_inside_2 (G : z_G s0 (dC, dI) cI cS) (hT : z_T s0 l) (A : Nat → Nat) (np ns nc nn nm : Nat) (fv : Nat → Nat → Int32) (so sf st : Nat → Int32) (sn sc : Nat → Nat) (sp : Nat → Option Nat) (sx sy : Nat → Nat → Int32) (x y : Int32) (d : Int32) (x0 : Int32) (hr0 : 0 ≤ x0) (hp : ¬ z_pt x y) : xt_Met l y_B_inside [Cond.code y_B_inside b_B_inside 8 (some .int)] ({ frames := 7, cells := 1, slots := 6, locals := 103 }) (z_Pc s0 [.ref (A 0), .int x, .int y, .int d, .int x0] (fun H => z_Old s0 H ∧ z_BD (dC, dI) cI cS H A np ns nc nn nm fv so sf st sn sc sp sx sy)) "java/lang/IllegalArgumentException" := by
  refine z_ofWX (by decide +kernel) (Nat.le_of_ble_eq_true rfl) ?_
  intro p e s m below meth c hx hb hml hadm hown hlocks hno hW0 hB ls hl
  have hts := z_hts (args := [.ref (A 0), .int x, .int y, .int d, .int x0].toArray) G.1 hW0
  have hN := z_nstW G.2.1 hW0
  have hK := va_K.moved hW0.alike G.2.2.1
  have hAI := arrOfT_moved hW0.alike G.2.2.2.1
  have hl : lv_has ls 8 [(0, .ref (A 0)), (1, .int x), (2, .int y), (3, .int d), (4, .int x0)] := hl
  obtain ⟨hOld, hB1⟩ := id hB
  obtain ⟨⟨hO0, hO1, hO2, hB3, hFA, hSH⟩, hinj, ⟨hnp, hns, hnn, hnm, hnc⟩, hsb⟩ := id hB1
  have hAS := arrOfT_moved hW0.alike G.2.2.2.2.1
  refine lv_iload hx hb d_B_inside_0 (lv_at hl 4 rfl) ?_
  refine z_rdSv (n := 1) (rest := []) ⟨hx, hb, hml, hown, hts⟩ hW0 (c_B_requireRank G x0 hr0) w_377 w_375 w_376 w_1 (by decide +kernel) ⟨rfl, rfl, Nat.le_of_ble_eq_true rfl, Nat.le_of_ble_eq_true rfl⟩ (trivial) rfl rfl hl.1 (Nat.le_of_ble_eq_true rfl) d_B_inside_2 ⟨Nat.zero_le _, Nat.zero_le _⟩ ?_
  refine lv_iload_n hx hb d_B_inside_5 rfl (lv_at hl 1 rfl) ?_
  refine lv_iload_n hx hb d_B_inside_6 rfl (lv_at hl 2 rfl) ?_
  exact z_thS (n := 2) (rest := []) ⟨hx, hb, hml, hown, hts⟩ hW0 hno hlocks (t_B_requirePoint G hT x y hp) w_271 w_269 w_270 w_1 (by decide +kernel) ⟨rfl, rfl, Nat.le_of_ble_eq_true rfl, Nat.le_of_ble_eq_true rfl⟩ (hOld) rfl rfl hl.1 (Nat.le_of_ble_eq_true rfl) d_B_inside_7 ⟨Nat.le_of_ble_eq_true rfl, Nat.le_of_ble_eq_true rfl⟩
set_option maxRecDepth 100000 in
set_option maxHeartbeats 4000000 in
theorem t_B_inside_3 (G : z_G s0 (dC, dI) cI cS) (hT : z_T s0 l) (A : Nat → Nat) (np ns nc nn nm : Nat) (fv : Nat → Nat → Int32) (so sf st : Nat → Int32) (sn sc : Nat → Nat) (sp : Nat → Option Nat) (sx sy : Nat → Nat → Int32) (x y : Int32) (d : Int32) (hd : ¬ z_day d) (x0 : Int32) (hr0 : 0 ≤ x0) (hp : z_pt x y) : xt_Met l y_B_inside [Cond.code y_B_inside b_B_inside 8 (some .int)] ({ frames := 7, cells := 1, slots := 6, locals := 102 }) (z_Pc s0 [.ref (A 0), .int x, .int y, .int d, .int x0] (fun H => z_Old s0 H ∧ z_BD (dC, dI) cI cS H A np ns nc nn nm fv so sf st sn sc sp sx sy)) "java/lang/IllegalArgumentException" := by
  refine z_ofWX (by decide +kernel) (Nat.le_of_ble_eq_true rfl) ?_
  intro p e s m below meth c hx hb hml hadm hown hlocks hno hW0 hB ls hl
  have hts := z_hts (args := [.ref (A 0), .int x, .int y, .int d, .int x0].toArray) G.1 hW0
  have hN := z_nstW G.2.1 hW0
  have hK := va_K.moved hW0.alike G.2.2.1
  have hAI := arrOfT_moved hW0.alike G.2.2.2.1
  have hl : lv_has ls 8 [(0, .ref (A 0)), (1, .int x), (2, .int y), (3, .int d), (4, .int x0)] := hl
  obtain ⟨hOld, hB1⟩ := id hB
  obtain ⟨⟨hO0, hO1, hO2, hB3, hFA, hSH⟩, hinj, ⟨hnp, hns, hnn, hnm, hnc⟩, hsb⟩ := id hB1
  have hAS := arrOfT_moved hW0.alike G.2.2.2.2.1
  refine lv_iload hx hb d_B_inside_0 (lv_at hl 4 rfl) ?_
  refine z_rdSv (n := 1) (rest := []) ⟨hx, hb, hml, hown, hts⟩ hW0 (c_B_requireRank G x0 hr0) w_377 w_375 w_376 w_1 (by decide +kernel) ⟨rfl, rfl, Nat.le_of_ble_eq_true rfl, Nat.le_of_ble_eq_true rfl⟩ (trivial) rfl rfl hl.1 (Nat.le_of_ble_eq_true rfl) d_B_inside_2 ⟨Nat.zero_le _, Nat.zero_le _⟩ ?_
  refine lv_iload_n hx hb d_B_inside_5 rfl (lv_at hl 1 rfl) ?_
  refine lv_iload_n hx hb d_B_inside_6 rfl (lv_at hl 2 rfl) ?_
  refine z_rdSv (n := 2) (rest := []) ⟨hx, hb, hml, hown, hts⟩ hW0 (c_B_requirePoint G x y hp) w_271 w_269 w_270 w_1 (by decide +kernel) ⟨rfl, rfl, Nat.le_of_ble_eq_true rfl, Nat.le_of_ble_eq_true rfl⟩ (trivial) rfl rfl hl.1 (Nat.le_of_ble_eq_true rfl) d_B_inside_7 ⟨Nat.zero_le _, Nat.zero_le _⟩ ?_
  refine lv_iload_n hx hb d_B_inside_10 rfl (lv_at hl 3 rfl) ?_
  exact z_thS (n := 1) (rest := []) ⟨hx, hb, hml, hown, hts⟩ hW0 hno hlocks (t_B_requireDay G hT d hd) w_200 w_198 w_199 w_1 (by decide +kernel) ⟨rfl, rfl, Nat.le_of_ble_eq_true rfl, Nat.le_of_ble_eq_true rfl⟩ (hOld) rfl rfl hl.1 (Nat.le_of_ble_eq_true rfl) d_B_inside_11 ⟨Nat.le_of_ble_eq_true rfl, Nat.le_of_ble_eq_true rfl⟩
set_option maxRecDepth 100000 in
set_option maxHeartbeats 4000000 in
theorem t_B_threeWay_1 (G : z_G s0 (dC, dI) cI cS) (hT : z_T s0 l) (A : Nat → Nat) (np ns nc nn nm : Nat) (fv : Nat → Nat → Int32) (so sf st : Nat → Int32) (sn sc : Nat → Nat) (sp : Nat → Option Nat) (sx sy : Nat → Nat → Int32) (x0 : Int32) (hx0 : x0 < 0 ∨ nI np ≤ x0) (x y d : Int32) : xt_Met l y_B_threeWay [Cond.code y_B_threeWay b_B_threeWay 7 (some .int)] ({ frames := 7, cells := 1, slots := 6, locals := 103 }) (z_Pc s0 [.ref (A 0), .int x0, .int x, .int y, .int d] (fun H => z_Old s0 H ∧ z_BD (dC, dI) cI cS H A np ns nc nn nm fv so sf st sn sc sp sx sy)) "java/util/NoSuchElementException" := by
  refine z_ofWX (by decide +kernel) (Nat.le_of_ble_eq_true rfl) ?_
  intro p e s m below meth c hx hb hml hadm hown hlocks hno hW0 hB ls hl
  have hts := z_hts (args := [.ref (A 0), .int x0, .int x, .int y, .int d].toArray) G.1 hW0
  have hN := z_nstW G.2.1 hW0
  have hK := va_K.moved hW0.alike G.2.2.1
  have hAI := arrOfT_moved hW0.alike G.2.2.2.1
  have hl : lv_has ls 7 [(0, .ref (A 0)), (1, .int x0), (2, .int x), (3, .int y), (4, .int d)] := hl
  obtain ⟨hOld, hB1⟩ := id hB
  obtain ⟨⟨hO0, hO1, hO2, hB3, hFA, hSH⟩, hinj, ⟨hnp, hns, hnn, hnm, hnc⟩, hsb⟩ := id hB1
  have hAS := arrOfT_moved hW0.alike G.2.2.2.2.1
  refine lv_aload_n hx hb d_B_threeWay_0 rfl (lv_at hl 0 rfl) ?_
  refine lv_iload_n hx hb d_B_threeWay_1 rfl (lv_at hl 1 rfl) ?_
  exact z_thV (n := 1) (C := R_B) (rest := []) ⟨hx, hb, hml, hown, hts⟩ hW0 hno hlocks (t_B_requirePlace G hT A np ns nc nn nm fv so sf st sn sc sp sx sy x0 hx0) w_102 w_99 w_101 wp_0 w_1 (by decide +kernel) ⟨rfl, rfl, Nat.le_of_ble_eq_true rfl, Nat.le_of_ble_eq_true rfl⟩ (hO0.recv hK rfl) (hB) rfl rfl hl.1 (Nat.le_of_ble_eq_true rfl) d_B_threeWay_2 ⟨Nat.le_of_ble_eq_true rfl, Nat.le_of_ble_eq_true rfl⟩
set_option maxRecDepth 100000 in
set_option maxHeartbeats 4000000 in
theorem t_B_threeWay_2 (G : z_G s0 (dC, dI) cI cS) (hT : z_T s0 l) (A : Nat → Nat) (np ns nc nn nm : Nat) (fv : Nat → Nat → Int32) (so sf st : Nat → Int32) (sn sc : Nat → Nat) (sp : Nat → Option Nat) (sx sy : Nat → Nat → Int32) (k : Nat) (hk : k < np) (x y d : Int32) (hp : ¬ z_pt x y) : xt_Met l y_B_threeWay [Cond.code y_B_threeWay b_B_threeWay 7 (some .int)] ({ frames := 7, cells := 1, slots := 6, locals := 103 }) (z_Pc s0 [.ref (A 0), .int (nI k), .int x, .int y, .int d] (fun H => z_Old s0 H ∧ z_BD (dC, dI) cI cS H A np ns nc nn nm fv so sf st sn sc sp sx sy)) "java/lang/IllegalArgumentException" := by
  refine z_ofWX (by decide +kernel) (Nat.le_of_ble_eq_true rfl) ?_
  intro p e s m below meth c hx hb hml hadm hown hlocks hno hW0 hB ls hl
  have hts := z_hts (args := [.ref (A 0), .int (nI k), .int x, .int y, .int d].toArray) G.1 hW0
  have hN := z_nstW G.2.1 hW0
  have hK := va_K.moved hW0.alike G.2.2.1
  have hAI := arrOfT_moved hW0.alike G.2.2.2.1
  have hl : lv_has ls 7 [(0, .ref (A 0)), (1, .int (nI k)), (2, .int x), (3, .int y), (4, .int d)] := hl
  obtain ⟨hOld, hB1⟩ := id hB
  obtain ⟨⟨hO0, hO1, hO2, hB3, hFA, hSH⟩, hinj, ⟨hnp, hns, hnn, hnm, hnc⟩, hsb⟩ := id hB1
  have hAS := arrOfT_moved hW0.alike G.2.2.2.2.1
  refine lv_aload_n hx hb d_B_threeWay_0 rfl (lv_at hl 0 rfl) ?_
  refine lv_iload_n hx hb d_B_threeWay_1 rfl (lv_at hl 1 rfl) ?_
  refine z_rdVv (n := 1) (C := R_B) (rest := []) ⟨hx, hb, hml, hown, hts⟩ hW0 (c_B_requirePlace G A np ns nc nn nm fv so sf st sn sc sp sx sy k (by omega)) w_102 w_99 w_101 wp_0 w_1 (by decide +kernel) ⟨rfl, rfl, Nat.le_of_ble_eq_true rfl, Nat.le_of_ble_eq_true rfl⟩ (hO0.recv hK rfl) (hB1) rfl rfl hl.1 (Nat.le_of_ble_eq_true rfl) d_B_threeWay_2 ⟨Nat.zero_le _, Nat.zero_le _⟩ ?_
  refine lv_iload_n hx hb d_B_threeWay_5 rfl (lv_at hl 2 rfl) ?_
  refine lv_iload_n hx hb d_B_threeWay_6 rfl (lv_at hl 3 rfl) ?_
  exact z_thS (n := 2) (rest := []) ⟨hx, hb, hml, hown, hts⟩ hW0 hno hlocks (t_B_requirePoint G hT x y hp) w_271 w_269 w_270 w_1 (by decide +kernel) ⟨rfl, rfl, Nat.le_of_ble_eq_true rfl, Nat.le_of_ble_eq_true rfl⟩ (hOld) rfl rfl hl.1 (Nat.le_of_ble_eq_true rfl) d_B_threeWay_7 ⟨Nat.le_of_ble_eq_true rfl, Nat.le_of_ble_eq_true rfl⟩
set_option maxRecDepth 100000 in
set_option maxHeartbeats 4000000 in
theorem t_B_threeWay_3 (G : z_G s0 (dC, dI) cI cS) (hT : z_T s0 l) (A : Nat → Nat) (np ns nc nn nm : Nat) (fv : Nat → Nat → Int32) (so sf st : Nat → Int32) (sn sc : Nat → Nat) (sp : Nat → Option Nat) (sx sy : Nat → Nat → Int32) (k : Nat) (hk : k < np) (x y : Int32) (d : Int32) (hd : ¬ z_day d) (hp : z_pt x y) : xt_Met l y_B_threeWay [Cond.code y_B_threeWay b_B_threeWay 7 (some .int)] ({ frames := 7, cells := 1, slots := 6, locals := 102 }) (z_Pc s0 [.ref (A 0), .int (nI k), .int x, .int y, .int d] (fun H => z_Old s0 H ∧ z_BD (dC, dI) cI cS H A np ns nc nn nm fv so sf st sn sc sp sx sy)) "java/lang/IllegalArgumentException" := by
  refine z_ofWX (by decide +kernel) (Nat.le_of_ble_eq_true rfl) ?_
  intro p e s m below meth c hx hb hml hadm hown hlocks hno hW0 hB ls hl
  have hts := z_hts (args := [.ref (A 0), .int (nI k), .int x, .int y, .int d].toArray) G.1 hW0
  have hN := z_nstW G.2.1 hW0
  have hK := va_K.moved hW0.alike G.2.2.1
  have hAI := arrOfT_moved hW0.alike G.2.2.2.1
  have hl : lv_has ls 7 [(0, .ref (A 0)), (1, .int (nI k)), (2, .int x), (3, .int y), (4, .int d)] := hl
  obtain ⟨hOld, hB1⟩ := id hB
  obtain ⟨⟨hO0, hO1, hO2, hB3, hFA, hSH⟩, hinj, ⟨hnp, hns, hnn, hnm, hnc⟩, hsb⟩ := id hB1
  have hAS := arrOfT_moved hW0.alike G.2.2.2.2.1
  refine lv_aload_n hx hb d_B_threeWay_0 rfl (lv_at hl 0 rfl) ?_
  refine lv_iload_n hx hb d_B_threeWay_1 rfl (lv_at hl 1 rfl) ?_
  refine z_rdVv (n := 1) (C := R_B) (rest := []) ⟨hx, hb, hml, hown, hts⟩ hW0 (c_B_requirePlace G A np ns nc nn nm fv so sf st sn sc sp sx sy k (by omega)) w_102 w_99 w_101 wp_0 w_1 (by decide +kernel) ⟨rfl, rfl, Nat.le_of_ble_eq_true rfl, Nat.le_of_ble_eq_true rfl⟩ (hO0.recv hK rfl) (hB1) rfl rfl hl.1 (Nat.le_of_ble_eq_true rfl) d_B_threeWay_2 ⟨Nat.zero_le _, Nat.zero_le _⟩ ?_
  refine lv_iload_n hx hb d_B_threeWay_5 rfl (lv_at hl 2 rfl) ?_
  refine lv_iload_n hx hb d_B_threeWay_6 rfl (lv_at hl 3 rfl) ?_
  refine z_rdSv (n := 2) (rest := []) ⟨hx, hb, hml, hown, hts⟩ hW0 (c_B_requirePoint G x y hp) w_271 w_269 w_270 w_1 (by decide +kernel) ⟨rfl, rfl, Nat.le_of_ble_eq_true rfl, Nat.le_of_ble_eq_true rfl⟩ (trivial) rfl rfl hl.1 (Nat.le_of_ble_eq_true rfl) d_B_threeWay_7 ⟨Nat.zero_le _, Nat.zero_le _⟩ ?_
  refine lv_iload hx hb d_B_threeWay_10 (lv_at hl 4 rfl) ?_
  exact z_thS (n := 1) (rest := []) ⟨hx, hb, hml, hown, hts⟩ hW0 hno hlocks (t_B_requireDay G hT d hd) w_200 w_198 w_199 w_1 (by decide +kernel) ⟨rfl, rfl, Nat.le_of_ble_eq_true rfl, Nat.le_of_ble_eq_true rfl⟩ (hOld) rfl rfl hl.1 (Nat.le_of_ble_eq_true rfl) d_B_threeWay_12 ⟨Nat.le_of_ble_eq_true rfl, Nat.le_of_ble_eq_true rfl⟩
set_option maxRecDepth 100000 in
set_option maxHeartbeats 4000000 in
theorem t_B_misfit_1 (G : z_G s0 (dC, dI) cI cS) (hT : z_T s0 l) (A : Nat → Nat) (np ns nc nn nm : Nat) (fv : Nat → Nat → Int32) (so sf st : Nat → Int32) (sn sc : Nat → Nat) (sp : Nat → Option Nat) (sx sy : Nat → Nat → Int32) (x0 d : Int32) (hx0 : x0 < 0) : xt_Met l y_B_misfit [Cond.code y_B_misfit b_B_misfit 5 (some .int)] ({ frames := 7, cells := 1, slots := 6, locals := 102 }) (z_Pc s0 [.ref (A 0), .int x0, .int d] (fun H => z_Old s0 H ∧ z_BD (dC, dI) cI cS H A np ns nc nn nm fv so sf st sn sc sp sx sy)) "java/util/NoSuchElementException" := by
  refine z_ofWX (by decide +kernel) (Nat.le_of_ble_eq_true rfl) ?_
  intro p e s m below meth c hx hb hml hadm hown hlocks hno hW0 hB ls hl
  have hts := z_hts (args := [.ref (A 0), .int x0, .int d].toArray) G.1 hW0
  have hN := z_nstW G.2.1 hW0
  have hK := va_K.moved hW0.alike G.2.2.1
  have hAI := arrOfT_moved hW0.alike G.2.2.2.1
  have hl : lv_has ls 5 [(0, .ref (A 0)), (1, .int x0), (2, .int d)] := hl
  obtain ⟨hOld, hB1⟩ := id hB
  obtain ⟨⟨hO0, hO1, hO2, hB3, hFA, hSH⟩, hinj, ⟨hnp, hns, hnn, hnm, hnc⟩, hsb⟩ := id hB1
  have hAS := arrOfT_moved hW0.alike G.2.2.2.2.1
  refine lv_iload_n hx hb d_B_misfit_0 rfl (lv_at hl 1 rfl) ?_
  exact z_thS (n := 1) (rest := []) ⟨hx, hb, hml, hown, hts⟩ hW0 hno hlocks (t_B_requireRank G hT x0 hx0) w_377 w_375 w_376 w_1 (by decide +kernel) ⟨rfl, rfl, Nat.le_of_ble_eq_true rfl, Nat.le_of_ble_eq_true rfl⟩ (hOld) rfl rfl hl.1 (Nat.le_of_ble_eq_true rfl) d_B_misfit_1 ⟨Nat.le_of_ble_eq_true rfl, Nat.le_of_ble_eq_true rfl⟩
set_option maxRecDepth 100000 in
set_option maxHeartbeats 4000000 in
theorem t_B_misfit_2 (G : z_G s0 (dC, dI) cI cS) (hT : z_T s0 l) (A : Nat → Nat) (np ns nc nn nm : Nat) (fv : Nat → Nat → Int32) (so sf st : Nat → Int32) (sn sc : Nat → Nat) (sp : Nat → Option Nat) (sx sy : Nat → Nat → Int32) (x0 : Int32) (hr0 : 0 ≤ x0) (d : Int32) (hd : ¬ z_day d) : xt_Met l y_B_misfit [Cond.code y_B_misfit b_B_misfit 5 (some .int)] ({ frames := 7, cells := 1, slots := 6, locals := 102 }) (z_Pc s0 [.ref (A 0), .int x0, .int d] (fun H => z_Old s0 H ∧ z_BD (dC, dI) cI cS H A np ns nc nn nm fv so sf st sn sc sp sx sy)) "java/lang/IllegalArgumentException" := by
  refine z_ofWX (by decide +kernel) (Nat.le_of_ble_eq_true rfl) ?_
  intro p e s m below meth c hx hb hml hadm hown hlocks hno hW0 hB ls hl
  have hts := z_hts (args := [.ref (A 0), .int x0, .int d].toArray) G.1 hW0
  have hN := z_nstW G.2.1 hW0
  have hK := va_K.moved hW0.alike G.2.2.1
  have hAI := arrOfT_moved hW0.alike G.2.2.2.1
  have hl : lv_has ls 5 [(0, .ref (A 0)), (1, .int x0), (2, .int d)] := hl
  obtain ⟨hOld, hB1⟩ := id hB
  obtain ⟨⟨hO0, hO1, hO2, hB3, hFA, hSH⟩, hinj, ⟨hnp, hns, hnn, hnm, hnc⟩, hsb⟩ := id hB1
  have hAS := arrOfT_moved hW0.alike G.2.2.2.2.1
  refine lv_iload_n hx hb d_B_misfit_0 rfl (lv_at hl 1 rfl) ?_
  refine z_rdSv (n := 1) (rest := []) ⟨hx, hb, hml, hown, hts⟩ hW0 (c_B_requireRank G x0 hr0) w_377 w_375 w_376 w_1 (by decide +kernel) ⟨rfl, rfl, Nat.le_of_ble_eq_true rfl, Nat.le_of_ble_eq_true rfl⟩ (trivial) rfl rfl hl.1 (Nat.le_of_ble_eq_true rfl) d_B_misfit_1 ⟨Nat.zero_le _, Nat.zero_le _⟩ ?_
  refine lv_iload_n hx hb d_B_misfit_4 rfl (lv_at hl 2 rfl) ?_
  exact z_thS (n := 1) (rest := []) ⟨hx, hb, hml, hown, hts⟩ hW0 hno hlocks (t_B_requireDay G hT d hd) w_200 w_198 w_199 w_1 (by decide +kernel) ⟨rfl, rfl, Nat.le_of_ble_eq_true rfl, Nat.le_of_ble_eq_true rfl⟩ (hOld) rfl rfl hl.1 (Nat.le_of_ble_eq_true rfl) d_B_misfit_5 ⟨Nat.le_of_ble_eq_true rfl, Nat.le_of_ble_eq_true rfl⟩
set_option maxRecDepth 100000 in
set_option maxHeartbeats 4000000 in
theorem t_B_distance_1 (G : z_G s0 (dC, dI) cI cS) (hT : z_T s0 l) (A : Nat → Nat) (np ns nc nn nm : Nat) (fv : Nat → Nat → Int32) (so sf st : Nat → Int32) (sn sc : Nat → Nat) (sp : Nat → Option Nat) (sx sy : Nat → Nat → Int32) (x0 : Int32) (hx0 : x0 < 0 ∨ nI np ≤ x0) (x1 d : Int32) : xt_Met l y_B_distance [Cond.code y_B_distance b_B_distance 6 (some .int)] ({ frames := 7, cells := 1, slots := 6, locals := 103 }) (z_Pc s0 [.ref (A 0), .int x0, .int x1, .int d] (fun H => z_Old s0 H ∧ z_BD (dC, dI) cI cS H A np ns nc nn nm fv so sf st sn sc sp sx sy)) "java/util/NoSuchElementException" := by
  refine z_ofWX (by decide +kernel) (Nat.le_of_ble_eq_true rfl) ?_
  intro p e s m below meth c hx hb hml hadm hown hlocks hno hW0 hB ls hl
  have hts := z_hts (args := [.ref (A 0), .int x0, .int x1, .int d].toArray) G.1 hW0
  have hN := z_nstW G.2.1 hW0
  have hK := va_K.moved hW0.alike G.2.2.1
  have hAI := arrOfT_moved hW0.alike G.2.2.2.1
  have hl : lv_has ls 6 [(0, .ref (A 0)), (1, .int x0), (2, .int x1), (3, .int d)] := hl
  obtain ⟨hOld, hB1⟩ := id hB
  obtain ⟨⟨hO0, hO1, hO2, hB3, hFA, hSH⟩, hinj, ⟨hnp, hns, hnn, hnm, hnc⟩, hsb⟩ := id hB1
  have hAS := arrOfT_moved hW0.alike G.2.2.2.2.1
  refine lv_aload_n hx hb d_B_distance_0 rfl (lv_at hl 0 rfl) ?_
  refine lv_iload_n hx hb d_B_distance_1 rfl (lv_at hl 1 rfl) ?_
  exact z_thV (n := 1) (C := R_B) (rest := []) ⟨hx, hb, hml, hown, hts⟩ hW0 hno hlocks (t_B_requirePlace G hT A np ns nc nn nm fv so sf st sn sc sp sx sy x0 hx0) w_102 w_99 w_101 wp_0 w_1 (by decide +kernel) ⟨rfl, rfl, Nat.le_of_ble_eq_true rfl, Nat.le_of_ble_eq_true rfl⟩ (hO0.recv hK rfl) (hB) rfl rfl hl.1 (Nat.le_of_ble_eq_true rfl) d_B_distance_2 ⟨Nat.le_of_ble_eq_true rfl, Nat.le_of_ble_eq_true rfl⟩
set_option maxRecDepth 100000 in
set_option maxHeartbeats 4000000 in
theorem t_B_distance_2 (G : z_G s0 (dC, dI) cI cS) (hT : z_T s0 l) (A : Nat → Nat) (np ns nc nn nm : Nat) (fv : Nat → Nat → Int32) (so sf st : Nat → Int32) (sn sc : Nat → Nat) (sp : Nat → Option Nat) (sx sy : Nat → Nat → Int32) (k : Nat) (hk : k < np) (x0 : Int32) (hx0 : x0 < 0 ∨ nI np ≤ x0) (d : Int32) : xt_Met l y_B_distance [Cond.code y_B_distance b_B_distance 6 (some .int)] ({ frames := 7, cells := 1, slots := 6, locals := 103 }) (z_Pc s0 [.ref (A 0), .int (nI k), .int x0, .int d] (fun H => z_Old s0 H ∧ z_BD (dC, dI) cI cS H A np ns nc nn nm fv so sf st sn sc sp sx sy)) "java/util/NoSuchElementException" := by
  refine z_ofWX (by decide +kernel) (Nat.le_of_ble_eq_true rfl) ?_
  intro p e s m below meth c hx hb hml hadm hown hlocks hno hW0 hB ls hl
  have hts := z_hts (args := [.ref (A 0), .int (nI k), .int x0, .int d].toArray) G.1 hW0
  have hN := z_nstW G.2.1 hW0
  have hK := va_K.moved hW0.alike G.2.2.1
  have hAI := arrOfT_moved hW0.alike G.2.2.2.1
  have hl : lv_has ls 6 [(0, .ref (A 0)), (1, .int (nI k)), (2, .int x0), (3, .int d)] := hl
  obtain ⟨hOld, hB1⟩ := id hB
  obtain ⟨⟨hO0, hO1, hO2, hB3, hFA, hSH⟩, hinj, ⟨hnp, hns, hnn, hnm, hnc⟩, hsb⟩ := id hB1
  have hAS := arrOfT_moved hW0.alike G.2.2.2.2.1
  refine lv_aload_n hx hb d_B_distance_0 rfl (lv_at hl 0 rfl) ?_
  refine lv_iload_n hx hb d_B_distance_1 rfl (lv_at hl 1 rfl) ?_
  refine z_rdVv (n := 1) (C := R_B) (rest := []) ⟨hx, hb, hml, hown, hts⟩ hW0 (c_B_requirePlace G A np ns nc nn nm fv so sf st sn sc sp sx sy k (by omega)) w_102 w_99 w_101 wp_0 w_1 (by decide +kernel) ⟨rfl, rfl, Nat.le_of_ble_eq_true rfl, Nat.le_of_ble_eq_true rfl⟩ (hO0.recv hK rfl) (hB1) rfl rfl hl.1 (Nat.le_of_ble_eq_true rfl) d_B_distance_2 ⟨Nat.zero_le _, Nat.zero_le _⟩ ?_
  refine lv_aload_n hx hb d_B_distance_5 rfl (lv_at hl 0 rfl) ?_
  refine lv_iload_n hx hb d_B_distance_6 rfl (lv_at hl 2 rfl) ?_
  exact z_thV (n := 1) (C := R_B) (rest := []) ⟨hx, hb, hml, hown, hts⟩ hW0 hno hlocks (t_B_requirePlace G hT A np ns nc nn nm fv so sf st sn sc sp sx sy x0 hx0) w_102 w_99 w_101 wp_0 w_1 (by decide +kernel) ⟨rfl, rfl, Nat.le_of_ble_eq_true rfl, Nat.le_of_ble_eq_true rfl⟩ (hO0.recv hK rfl) (hB) rfl rfl hl.1 (Nat.le_of_ble_eq_true rfl) d_B_distance_7 ⟨Nat.le_of_ble_eq_true rfl, Nat.le_of_ble_eq_true rfl⟩
set_option maxRecDepth 100000 in
set_option maxHeartbeats 4000000 in
theorem t_B_distance_3 (G : z_G s0 (dC, dI) cI cS) (hT : z_T s0 l) (A : Nat → Nat) (np ns nc nn nm : Nat) (fv : Nat → Nat → Int32) (so sf st : Nat → Int32) (sn sc : Nat → Nat) (sp : Nat → Option Nat) (sx sy : Nat → Nat → Int32) (k : Nat) (hk : k < np) (k2 : Nat) (hk2 : k2 < np) (d : Int32) (hd : ¬ z_day d) : xt_Met l y_B_distance [Cond.code y_B_distance b_B_distance 6 (some .int)] ({ frames := 7, cells := 1, slots := 6, locals := 102 }) (z_Pc s0 [.ref (A 0), .int (nI k), .int (nI k2), .int d] (fun H => z_Old s0 H ∧ z_BD (dC, dI) cI cS H A np ns nc nn nm fv so sf st sn sc sp sx sy)) "java/lang/IllegalArgumentException" := by
  refine z_ofWX (by decide +kernel) (Nat.le_of_ble_eq_true rfl) ?_
  intro p e s m below meth c hx hb hml hadm hown hlocks hno hW0 hB ls hl
  have hts := z_hts (args := [.ref (A 0), .int (nI k), .int (nI k2), .int d].toArray) G.1 hW0
  have hN := z_nstW G.2.1 hW0
  have hK := va_K.moved hW0.alike G.2.2.1
  have hAI := arrOfT_moved hW0.alike G.2.2.2.1
  have hl : lv_has ls 6 [(0, .ref (A 0)), (1, .int (nI k)), (2, .int (nI k2)), (3, .int d)] := hl
  obtain ⟨hOld, hB1⟩ := id hB
  obtain ⟨⟨hO0, hO1, hO2, hB3, hFA, hSH⟩, hinj, ⟨hnp, hns, hnn, hnm, hnc⟩, hsb⟩ := id hB1
  have hAS := arrOfT_moved hW0.alike G.2.2.2.2.1
  refine lv_aload_n hx hb d_B_distance_0 rfl (lv_at hl 0 rfl) ?_
  refine lv_iload_n hx hb d_B_distance_1 rfl (lv_at hl 1 rfl) ?_
  refine z_rdVv (n := 1) (C := R_B) (rest := []) ⟨hx, hb, hml, hown, hts⟩ hW0 (c_B_requirePlace G A np ns nc nn nm fv so sf st sn sc sp sx sy k (by omega)) w_102 w_99 w_101 wp_0 w_1 (by decide +kernel) ⟨rfl, rfl, Nat.le_of_ble_eq_true rfl, Nat.le_of_ble_eq_true rfl⟩ (hO0.recv hK rfl) (hB1) rfl rfl hl.1 (Nat.le_of_ble_eq_true rfl) d_B_distance_2 ⟨Nat.zero_le _, Nat.zero_le _⟩ ?_
  refine lv_aload_n hx hb d_B_distance_5 rfl (lv_at hl 0 rfl) ?_
  refine lv_iload_n hx hb d_B_distance_6 rfl (lv_at hl 2 rfl) ?_
  refine z_rdVv (n := 1) (C := R_B) (rest := []) ⟨hx, hb, hml, hown, hts⟩ hW0 (c_B_requirePlace G A np ns nc nn nm fv so sf st sn sc sp sx sy k2 (by omega)) w_102 w_99 w_101 wp_0 w_1 (by decide +kernel) ⟨rfl, rfl, Nat.le_of_ble_eq_true rfl, Nat.le_of_ble_eq_true rfl⟩ (hO0.recv hK rfl) (hB1) rfl rfl hl.1 (Nat.le_of_ble_eq_true rfl) d_B_distance_7 ⟨Nat.zero_le _, Nat.zero_le _⟩ ?_
  refine lv_iload_n hx hb d_B_distance_10 rfl (lv_at hl 3 rfl) ?_
  exact z_thS (n := 1) (rest := []) ⟨hx, hb, hml, hown, hts⟩ hW0 hno hlocks (t_B_requireDay G hT d hd) w_200 w_198 w_199 w_1 (by decide +kernel) ⟨rfl, rfl, Nat.le_of_ble_eq_true rfl, Nat.le_of_ble_eq_true rfl⟩ (hOld) rfl rfl hl.1 (Nat.le_of_ble_eq_true rfl) d_B_distance_11 ⟨Nat.le_of_ble_eq_true rfl, Nat.le_of_ble_eq_true rfl⟩
set_option maxRecDepth 100000 in
set_option maxHeartbeats 4000000 in
theorem t_B_placed_1 (G : z_G s0 (dC, dI) cI cS) (hT : z_T s0 l) (A : Nat → Nat) (np ns nc nn nm : Nat) (fv : Nat → Nat → Int32) (so sf st : Nat → Int32) (sn sc : Nat → Nat) (sp : Nat → Option Nat) (sx sy : Nat → Nat → Int32) (x y : Int32) (a0 : Int32) (hax : ¬ (a0 = 0 ∨ a0 = 1)) : xt_Met l y_B_placed [Cond.code y_B_placed b_B_placed 4 (some .int)] ({ frames := 7, cells := 1, slots := 6, locals := 102 }) (z_Pc s0 [.ref (A 0), .int x, .int y, .int a0] (fun H => z_Old s0 H ∧ z_BD (dC, dI) cI cS H A np ns nc nn nm fv so sf st sn sc sp sx sy)) "java/util/NoSuchElementException" := by
  refine z_ofWX (by decide +kernel) (Nat.le_of_ble_eq_true rfl) ?_
  intro p e s m below meth c hx hb hml hadm hown hlocks hno hW0 hB ls hl
  have hts := z_hts (args := [.ref (A 0), .int x, .int y, .int a0].toArray) G.1 hW0
  have hN := z_nstW G.2.1 hW0
  have hK := va_K.moved hW0.alike G.2.2.1
  have hAI := arrOfT_moved hW0.alike G.2.2.2.1
  have hl : lv_has ls 4 [(0, .ref (A 0)), (1, .int x), (2, .int y), (3, .int a0)] := hl
  obtain ⟨hOld, hB1⟩ := id hB
  obtain ⟨⟨hO0, hO1, hO2, hB3, hFA, hSH⟩, hinj, ⟨hnp, hns, hnn, hnm, hnc⟩, hsb⟩ := id hB1
  have hAS := arrOfT_moved hW0.alike G.2.2.2.2.1
  refine lv_iload_n hx hb d_B_placed_0 rfl (lv_at hl 3 rfl) ?_
  exact z_thS (n := 1) (rest := []) ⟨hx, hb, hml, hown, hts⟩ hW0 hno hlocks (t_B_requireAxis G hT a0 hax) w_493 w_491 w_492 w_1 (by decide +kernel) ⟨rfl, rfl, Nat.le_of_ble_eq_true rfl, Nat.le_of_ble_eq_true rfl⟩ (hOld) rfl rfl hl.1 (Nat.le_of_ble_eq_true rfl) d_B_placed_1 ⟨Nat.le_of_ble_eq_true rfl, Nat.le_of_ble_eq_true rfl⟩
set_option maxRecDepth 100000 in
set_option maxHeartbeats 4000000 in
theorem t_B_placed_2 (G : z_G s0 (dC, dI) cI cS) (hT : z_T s0 l) (A : Nat → Nat) (np ns nc nn nm : Nat) (fv : Nat → Nat → Int32) (so sf st : Nat → Int32) (sn sc : Nat → Nat) (sp : Nat → Option Nat) (sx sy : Nat → Nat → Int32) (x y : Int32) (hp : ¬ z_pt x y) (a0 : Int32) (hax : a0 = 0 ∨ a0 = 1) : xt_Met l y_B_placed [Cond.code y_B_placed b_B_placed 4 (some .int)] ({ frames := 7, cells := 1, slots := 6, locals := 103 }) (z_Pc s0 [.ref (A 0), .int x, .int y, .int a0] (fun H => z_Old s0 H ∧ z_BD (dC, dI) cI cS H A np ns nc nn nm fv so sf st sn sc sp sx sy)) "java/lang/IllegalArgumentException" := by
  refine z_ofWX (by decide +kernel) (Nat.le_of_ble_eq_true rfl) ?_
  intro p e s m below meth c hx hb hml hadm hown hlocks hno hW0 hB ls hl
  have hts := z_hts (args := [.ref (A 0), .int x, .int y, .int a0].toArray) G.1 hW0
  have hN := z_nstW G.2.1 hW0
  have hK := va_K.moved hW0.alike G.2.2.1
  have hAI := arrOfT_moved hW0.alike G.2.2.2.1
  have hl : lv_has ls 4 [(0, .ref (A 0)), (1, .int x), (2, .int y), (3, .int a0)] := hl
  obtain ⟨hOld, hB1⟩ := id hB
  obtain ⟨⟨hO0, hO1, hO2, hB3, hFA, hSH⟩, hinj, ⟨hnp, hns, hnn, hnm, hnc⟩, hsb⟩ := id hB1
  have hAS := arrOfT_moved hW0.alike G.2.2.2.2.1
  refine lv_iload_n hx hb d_B_placed_0 rfl (lv_at hl 3 rfl) ?_
  refine z_rdSv (n := 1) (rest := []) ⟨hx, hb, hml, hown, hts⟩ hW0 (c_B_requireAxis G a0 hax) w_493 w_491 w_492 w_1 (by decide +kernel) ⟨rfl, rfl, Nat.le_of_ble_eq_true rfl, Nat.le_of_ble_eq_true rfl⟩ (trivial) rfl rfl hl.1 (Nat.le_of_ble_eq_true rfl) d_B_placed_1 ⟨Nat.zero_le _, Nat.zero_le _⟩ ?_
  refine lv_iload_n hx hb d_B_placed_4 rfl (lv_at hl 1 rfl) ?_
  refine lv_iload_n hx hb d_B_placed_5 rfl (lv_at hl 2 rfl) ?_
  exact z_thS (n := 2) (rest := []) ⟨hx, hb, hml, hown, hts⟩ hW0 hno hlocks (t_B_requirePoint G hT x y hp) w_271 w_269 w_270 w_1 (by decide +kernel) ⟨rfl, rfl, Nat.le_of_ble_eq_true rfl, Nat.le_of_ble_eq_true rfl⟩ (hOld) rfl rfl hl.1 (Nat.le_of_ble_eq_true rfl) d_B_placed_6 ⟨Nat.le_of_ble_eq_true rfl, Nat.le_of_ble_eq_true rfl⟩
set_option maxRecDepth 100000 in
set_option maxHeartbeats 4000000 in
theorem t_B_masked_1 (G : z_G s0 (dC, dI) cI cS) (hT : z_T s0 l) (A : Nat → Nat) (np ns nc nn nm : Nat) (fv : Nat → Nat → Int32) (so sf st : Nat → Int32) (sn sc : Nat → Nat) (sp : Nat → Option Nat) (sx sy : Nat → Nat → Int32) (x y : Int32) (z : Int32) (a0 : Int32) (hax : ¬ (a0 = 0 ∨ a0 = 1)) : xt_Met l y_B_masked [Cond.code y_B_masked b_B_masked 5 (some .int)] ({ frames := 7, cells := 1, slots := 6, locals := 102 }) (z_Pc s0 [.ref (A 0), .int x, .int y, .int z, .int a0] (fun H => z_Old s0 H ∧ z_BD (dC, dI) cI cS H A np ns nc nn nm fv so sf st sn sc sp sx sy)) "java/util/NoSuchElementException" := by
  refine z_ofWX (by decide +kernel) (Nat.le_of_ble_eq_true rfl) ?_
  intro p e s m below meth c hx hb hml hadm hown hlocks hno hW0 hB ls hl
  have hts := z_hts (args := [.ref (A 0), .int x, .int y, .int z, .int a0].toArray) G.1 hW0
  have hN := z_nstW G.2.1 hW0
  have hK := va_K.moved hW0.alike G.2.2.1
  have hAI := arrOfT_moved hW0.alike G.2.2.2.1
  have hl : lv_has ls 5 [(0, .ref (A 0)), (1, .int x), (2, .int y), (3, .int z), (4, .int a0)] := hl
  obtain ⟨hOld, hB1⟩ := id hB
  obtain ⟨⟨hO0, hO1, hO2, hB3, hFA, hSH⟩, hinj, ⟨hnp, hns, hnn, hnm, hnc⟩, hsb⟩ := id hB1
  have hAS := arrOfT_moved hW0.alike G.2.2.2.2.1
  refine lv_iload hx hb d_B_masked_0 (lv_at hl 4 rfl) ?_
  exact z_thS (n := 1) (rest := []) ⟨hx, hb, hml, hown, hts⟩ hW0 hno hlocks (t_B_requireAxis G hT a0 hax) w_493 w_491 w_492 w_1 (by decide +kernel) ⟨rfl, rfl, Nat.le_of_ble_eq_true rfl, Nat.le_of_ble_eq_true rfl⟩ (hOld) rfl rfl hl.1 (Nat.le_of_ble_eq_true rfl) d_B_masked_2 ⟨Nat.le_of_ble_eq_true rfl, Nat.le_of_ble_eq_true rfl⟩
set_option maxRecDepth 100000 in
set_option maxHeartbeats 4000000 in
theorem t_B_masked_2 (G : z_G s0 (dC, dI) cI cS) (hT : z_T s0 l) (A : Nat → Nat) (np ns nc nn nm : Nat) (fv : Nat → Nat → Int32) (so sf st : Nat → Int32) (sn sc : Nat → Nat) (sp : Nat → Option Nat) (sx sy : Nat → Nat → Int32) (x y : Int32) (z : Int32) (hp : ¬ z_pt x y) (a0 : Int32) (hax : a0 = 0 ∨ a0 = 1) : xt_Met l y_B_masked [Cond.code y_B_masked b_B_masked 5 (some .int)] ({ frames := 7, cells := 1, slots := 6, locals := 103 }) (z_Pc s0 [.ref (A 0), .int x, .int y, .int z, .int a0] (fun H => z_Old s0 H ∧ z_BD (dC, dI) cI cS H A np ns nc nn nm fv so sf st sn sc sp sx sy)) "java/lang/IllegalArgumentException" := by
  refine z_ofWX (by decide +kernel) (Nat.le_of_ble_eq_true rfl) ?_
  intro p e s m below meth c hx hb hml hadm hown hlocks hno hW0 hB ls hl
  have hts := z_hts (args := [.ref (A 0), .int x, .int y, .int z, .int a0].toArray) G.1 hW0
  have hN := z_nstW G.2.1 hW0
  have hK := va_K.moved hW0.alike G.2.2.1
  have hAI := arrOfT_moved hW0.alike G.2.2.2.1
  have hl : lv_has ls 5 [(0, .ref (A 0)), (1, .int x), (2, .int y), (3, .int z), (4, .int a0)] := hl
  obtain ⟨hOld, hB1⟩ := id hB
  obtain ⟨⟨hO0, hO1, hO2, hB3, hFA, hSH⟩, hinj, ⟨hnp, hns, hnn, hnm, hnc⟩, hsb⟩ := id hB1
  have hAS := arrOfT_moved hW0.alike G.2.2.2.2.1
  refine lv_iload hx hb d_B_masked_0 (lv_at hl 4 rfl) ?_
  refine z_rdSv (n := 1) (rest := []) ⟨hx, hb, hml, hown, hts⟩ hW0 (c_B_requireAxis G a0 hax) w_493 w_491 w_492 w_1 (by decide +kernel) ⟨rfl, rfl, Nat.le_of_ble_eq_true rfl, Nat.le_of_ble_eq_true rfl⟩ (trivial) rfl rfl hl.1 (Nat.le_of_ble_eq_true rfl) d_B_masked_2 ⟨Nat.zero_le _, Nat.zero_le _⟩ ?_
  refine lv_iload_n hx hb d_B_masked_5 rfl (lv_at hl 1 rfl) ?_
  refine lv_iload_n hx hb d_B_masked_6 rfl (lv_at hl 2 rfl) ?_
  exact z_thS (n := 2) (rest := []) ⟨hx, hb, hml, hown, hts⟩ hW0 hno hlocks (t_B_requirePoint G hT x y hp) w_271 w_269 w_270 w_1 (by decide +kernel) ⟨rfl, rfl, Nat.le_of_ble_eq_true rfl, Nat.le_of_ble_eq_true rfl⟩ (hOld) rfl rfl hl.1 (Nat.le_of_ble_eq_true rfl) d_B_masked_7 ⟨Nat.le_of_ble_eq_true rfl, Nat.le_of_ble_eq_true rfl⟩
set_option maxRecDepth 100000 in
set_option maxHeartbeats 4000000 in
theorem t_B_masked_3 (G : z_G s0 (dC, dI) cI cS) (hT : z_T s0 l) (A : Nat → Nat) (np ns nc nn nm : Nat) (fv : Nat → Nat → Int32) (so sf st : Nat → Int32) (sn sc : Nat → Nat) (sp : Nat → Option Nat) (sx sy : Nat → Nat → Int32) (x y : Int32) (z : Int32) (hz : ¬ (1 ≤ z ∧ z ≤ 10000)) (hp : z_pt x y) (a0 : Int32) (hax : a0 = 0 ∨ a0 = 1) : xt_Met l y_B_masked [Cond.code y_B_masked b_B_masked 5 (some .int)] ({ frames := 6, cells := 1, slots := 6, locals := 82 }) (z_Pc s0 [.ref (A 0), .int x, .int y, .int z, .int a0] (fun H => z_Old s0 H ∧ z_BD (dC, dI) cI cS H A np ns nc nn nm fv so sf st sn sc sp sx sy)) "java/lang/IllegalArgumentException" := by
  refine z_ofWX (by decide +kernel) (Nat.le_of_ble_eq_true rfl) ?_
  intro p e s m below meth c hx hb hml hadm hown hlocks hno hW0 hB ls hl
  have hts := z_hts (args := [.ref (A 0), .int x, .int y, .int z, .int a0].toArray) G.1 hW0
  have hN := z_nstW G.2.1 hW0
  have hK := va_K.moved hW0.alike G.2.2.1
  have hAI := arrOfT_moved hW0.alike G.2.2.2.1
  have hl : lv_has ls 5 [(0, .ref (A 0)), (1, .int x), (2, .int y), (3, .int z), (4, .int a0)] := hl
  obtain ⟨hOld, hB1⟩ := id hB
  obtain ⟨⟨hO0, hO1, hO2, hB3, hFA, hSH⟩, hinj, ⟨hnp, hns, hnn, hnm, hnc⟩, hsb⟩ := id hB1
  have hAS := arrOfT_moved hW0.alike G.2.2.2.2.1
  refine lv_iload hx hb d_B_masked_0 (lv_at hl 4 rfl) ?_
  refine z_rdSv (n := 1) (rest := []) ⟨hx, hb, hml, hown, hts⟩ hW0 (c_B_requireAxis G a0 hax) w_493 w_491 w_492 w_1 (by decide +kernel) ⟨rfl, rfl, Nat.le_of_ble_eq_true rfl, Nat.le_of_ble_eq_true rfl⟩ (trivial) rfl rfl hl.1 (Nat.le_of_ble_eq_true rfl) d_B_masked_2 ⟨Nat.zero_le _, Nat.zero_le _⟩ ?_
  refine lv_iload_n hx hb d_B_masked_5 rfl (lv_at hl 1 rfl) ?_
  refine lv_iload_n hx hb d_B_masked_6 rfl (lv_at hl 2 rfl) ?_
  refine z_rdSv (n := 2) (rest := []) ⟨hx, hb, hml, hown, hts⟩ hW0 (c_B_requirePoint G x y hp) w_271 w_269 w_270 w_1 (by decide +kernel) ⟨rfl, rfl, Nat.le_of_ble_eq_true rfl, Nat.le_of_ble_eq_true rfl⟩ (trivial) rfl rfl hl.1 (Nat.le_of_ble_eq_true rfl) d_B_masked_7 ⟨Nat.zero_le _, Nat.zero_le _⟩ ?_
  refine lv_iload_n hx hb d_B_masked_10 rfl (lv_at hl 3 rfl) ?_
  refine lv_iconst (v := 1) hx hb d_B_masked_11 (by decide) ?_
  refine lv_icmp_lt (tgt := 22) hx hb d_B_masked_12 (by decide) (fun c_1 => ?_) (fun c_1 => ?_)
  · skip
    have c_1' : ¬ ((1 : Int32) ≤ z) := Int32.not_le.mpr c_1
    exact xt_new hx hb hT.1 hown hW0 hOld (by decide +kernel) hT.2.1.2.2.1 k_B_IAE k_7 (hT.2.2 (R_B, 153, "a cell's size is not 1 to 10000") (List.mem_of_getElem? (i := 14) rfl)) (hts _ w_202) (hts _ w_10) hno hlocks (hl.1.trans hml.symm) d_B_masked_22 d_B_masked_25 d_B_masked_26 d_B_masked_28 d_B_masked_31 (Nat.le_of_ble_eq_true rfl) (Nat.le_of_ble_eq_true rfl) (Nat.le_of_ble_eq_true rfl) (Nat.le_of_ble_eq_true rfl)
  · skip
    have c_1' : (1 : Int32) ≤ z := Int32.not_lt.mp c_1
    refine lv_iload_n hx hb d_B_masked_15 rfl (lv_at hl 3 rfl) ?_
    refine lv_sipush (v := 10000) hx hb d_B_masked_16 (by decide) ?_
    refine lv_icmp_le (tgt := 32) hx hb d_B_masked_19 (by decide) (fun c_2 => ?_) (fun c_2 => ?_)
    · skip
      have c_2' : ¬ ((10000 : Int32) < z) := Int32.not_lt.mpr c_2
      exact absurd ⟨c_1', c_2⟩ hz
    · skip
      have c_2' : (10000 : Int32) < z := Int32.not_le.mp c_2
      exact xt_new hx hb hT.1 hown hW0 hOld (by decide +kernel) hT.2.1.2.2.1 k_B_IAE k_7 (hT.2.2 (R_B, 153, "a cell's size is not 1 to 10000") (List.mem_of_getElem? (i := 14) rfl)) (hts _ w_202) (hts _ w_10) hno hlocks (hl.1.trans hml.symm) d_B_masked_22 d_B_masked_25 d_B_masked_26 d_B_masked_28 d_B_masked_31 (Nat.le_of_ble_eq_true rfl) (Nat.le_of_ble_eq_true rfl) (Nat.le_of_ble_eq_true rfl) (Nat.le_of_ble_eq_true rfl)
set_option maxRecDepth 100000 in
set_option maxHeartbeats 4000000 in
theorem t_B_place_1 (G : z_G s0 (dC, dI) cI cS) (hT : z_T s0 l) (A : Nat → Nat) (np ns nc nn nm : Nat) (fv : Nat → Nat → Int32) (so sf st : Nat → Int32) (sn sc : Nat → Nat) (sp : Nat → Option Nat) (sx sy : Nat → Nat → Int32) (x0 : Int32) (hx0 : x0 < 0 ∨ nI np ≤ x0) (h1 : ¬ x0 = -1) : xt_Met l y_B_place [Cond.code y_B_place b_B_place 2 (some .int)] ({ frames := 7, cells := 1, slots := 6, locals := 103 }) (z_Pc s0 [.ref (A 0), .int x0] (fun H => z_Old s0 H ∧ z_BD (dC, dI) cI cS H A np ns nc nn nm fv so sf st sn sc sp sx sy)) "java/util/NoSuchElementException" := by
  refine z_ofWX (by decide +kernel) (Nat.le_of_ble_eq_true rfl) ?_
  intro p e s m below meth c hx hb hml hadm hown hlocks hno hW0 hB ls hl
  have hts := z_hts (args := [.ref (A 0), .int x0].toArray) G.1 hW0
  have hN := z_nstW G.2.1 hW0
  have hK := va_K.moved hW0.alike G.2.2.1
  have hAI := arrOfT_moved hW0.alike G.2.2.2.1
  have hl : lv_has ls 2 [(0, .ref (A 0)), (1, .int x0)] := hl
  obtain ⟨hOld, hB1⟩ := id hB
  obtain ⟨⟨hO0, hO1, hO2, hB3, hFA, hSH⟩, hinj, ⟨hnp, hns, hnn, hnm, hnc⟩, hsb⟩ := id hB1
  have hAS := arrOfT_moved hW0.alike G.2.2.2.2.1
  refine lv_iload_n hx hb d_B_place_0 rfl (lv_at hl 1 rfl) ?_
  refine lv_iconst (v := (-1)) hx hb d_B_place_1 (by decide) ?_
  refine lv_icmp_eq (tgt := 10) hx hb d_B_place_2 (by decide) (fun c_1 => ?_) (fun c_1 => ?_)
  · skip
    exact absurd c_1 h1
  · skip
    refine lv_aload_n hx hb d_B_place_5 rfl (lv_at hl 0 rfl) ?_
    refine lv_iload_n hx hb d_B_place_6 rfl (lv_at hl 1 rfl) ?_
    exact z_thV (n := 1) (C := R_B) (rest := []) ⟨hx, hb, hml, hown, hts⟩ hW0 hno hlocks (t_B_requirePlace G hT A np ns nc nn nm fv so sf st sn sc sp sx sy x0 hx0) w_102 w_99 w_101 wp_0 w_1 (by decide +kernel) ⟨rfl, rfl, Nat.le_of_ble_eq_true rfl, Nat.le_of_ble_eq_true rfl⟩ (hO0.recv hK rfl) (hB) rfl rfl hl.1 (Nat.le_of_ble_eq_true rfl) d_B_place_7 ⟨Nat.le_of_ble_eq_true rfl, Nat.le_of_ble_eq_true rfl⟩
set_option maxRecDepth 100000 in
set_option maxHeartbeats 4000000 in
theorem t_B_place_2 (G : z_G s0 (dC, dI) cI cS) (hT : z_T s0 l) (A : Nat → Nat) (np ns nc nn nm : Nat) (fv : Nat → Nat → Int32) (so sf st : Nat → Int32) (sn sc : Nat → Nat) (sp : Nat → Option Nat) (sx sy : Nat → Nat → Int32) (hfull : 16 ≤ np) : xt_Met l y_B_place [Cond.code y_B_place b_B_place 2 (some .int)] ({ frames := 6, cells := 1, slots := 6, locals := 82 }) (z_Pc s0 [.ref (A 0), .int (-1)] (fun H => z_Old s0 H ∧ z_BD (dC, dI) cI cS H A np ns nc nn nm fv so sf st sn sc sp sx sy)) "java/lang/IllegalStateException" := by
  refine z_ofWX (by decide +kernel) (Nat.le_of_ble_eq_true rfl) ?_
  intro p e s m below meth c hx hb hml hadm hown hlocks hno hW0 hB ls hl
  have hts := z_hts (args := [.ref (A 0), .int (-1)].toArray) G.1 hW0
  have hN := z_nstW G.2.1 hW0
  have hK := va_K.moved hW0.alike G.2.2.1
  have hAI := arrOfT_moved hW0.alike G.2.2.2.1
  have hl : lv_has ls 2 [(0, .ref (A 0)), (1, .int (-1))] := hl
  obtain ⟨hOld, hB1⟩ := id hB
  obtain ⟨⟨hO0, hO1, hO2, hB3, hFA, hSH⟩, hinj, ⟨hnp, hns, hnn, hnm, hnc⟩, hsb⟩ := id hB1
  have hAS := arrOfT_moved hW0.alike G.2.2.2.2.1
  refine lv_iload_n hx hb d_B_place_0 rfl (lv_at hl 1 rfl) ?_
  refine lv_iconst (v := (-1)) hx hb d_B_place_1 (by decide) ?_
  refine lv_icmp_eq (tgt := 10) hx hb d_B_place_2 (by decide) (fun c_1 => ?_) (fun c_1 => ?_)
  · skip
    refine lv_aload_n hx hb d_B_place_10 rfl (lv_at hl 0 rfl) ?_
    refine va_get (D := (dC, dI)) (ci := 3) (v := .int (nI np)) (C := R_B) (T := T_B) (N := 7) hx hb hts in_B hown hK hO0.P 0 rfl rfl 1 (by decide) (hts _ w_69) (fun _ h9 => h9) rfl d_B_place_11 ?_
    refine lv_bipush (v := 16) hx hb d_B_place_14 (by decide) ?_
    refine lv_icmp_lt (tgt := 29) hx hb d_B_place_16 (by decide) (fun c_2 => ?_) (fun c_2 => ?_)
    · skip
      have c_2 : np < 16 := (nI_ltI (a := np) (b := 16) (by omega) (by omega)).mp c_2
      exfalso
      omega
    · skip
      have c_2 : ¬ (np < 16) := fun h => c_2 ((nI_ltI (a := np) (b := 16) (by omega) (by omega)).mpr h)
      exact xt_new hx hb hT.1 hown hW0 hOld (by decide +kernel) hT.2.1.2.1 k_B_ISE k_7 (hT.2.2 (R_B, 43, "there are sixteen places") (List.mem_of_getElem? (i := 1) rfl)) (hts _ w_171) (hts _ w_9) hno hlocks (hl.1.trans hml.symm) d_B_place_19 d_B_place_22 d_B_place_23 d_B_place_25 d_B_place_28 (Nat.le_of_ble_eq_true rfl) (Nat.le_of_ble_eq_true rfl) (Nat.le_of_ble_eq_true rfl) (Nat.le_of_ble_eq_true rfl)
  · skip
    exact absurd (rfl : (-1 : Int32) = -1) c_1
set_option maxRecDepth 100000 in
set_option maxHeartbeats 4000000 in
theorem t_B_place_3 (G : z_G s0 (dC, dI) cI cS) (hT : z_T s0 l) (A : Nat → Nat) (np ns nc nn nm : Nat) (fv : Nat → Nat → Int32) (so sf st : Nat → Int32) (sn sc : Nat → Nat) (sp : Nat → Option Nat) (sx sy : Nat → Nat → Int32) (k : Nat) (hk : k < np) (hfull : 16 ≤ np) : xt_Met l y_B_place [Cond.code y_B_place b_B_place 2 (some .int)] ({ frames := 6, cells := 1, slots := 6, locals := 82 }) (z_Pc s0 [.ref (A 0), .int (nI k)] (fun H => z_Old s0 H ∧ z_BD (dC, dI) cI cS H A np ns nc nn nm fv so sf st sn sc sp sx sy)) "java/lang/IllegalStateException" := by
  refine z_ofWX (by decide +kernel) (Nat.le_of_ble_eq_true rfl) ?_
  intro p e s m below meth c hx hb hml hadm hown hlocks hno hW0 hB ls hl
  have hts := z_hts (args := [.ref (A 0), .int (nI k)].toArray) G.1 hW0
  have hN := z_nstW G.2.1 hW0
  have hK := va_K.moved hW0.alike G.2.2.1
  have hAI := arrOfT_moved hW0.alike G.2.2.2.1
  have hl : lv_has ls 2 [(0, .ref (A 0)), (1, .int (nI k))] := hl
  obtain ⟨hOld, hB1⟩ := id hB
  obtain ⟨⟨hO0, hO1, hO2, hB3, hFA, hSH⟩, hinj, ⟨hnp, hns, hnn, hnm, hnc⟩, hsb⟩ := id hB1
  have hAS := arrOfT_moved hW0.alike G.2.2.2.2.1
  refine lv_iload_n hx hb d_B_place_0 rfl (lv_at hl 1 rfl) ?_
  refine lv_iconst (v := (-1)) hx hb d_B_place_1 (by decide) ?_
  refine lv_icmp_eq (tgt := 10) hx hb d_B_place_2 (by decide) (fun c_1 => ?_) (fun c_1 => ?_)
  · skip
    exact absurd c_1 (z_ne1 (by omega))
  · skip
    refine lv_aload_n hx hb d_B_place_5 rfl (lv_at hl 0 rfl) ?_
    refine lv_iload_n hx hb d_B_place_6 rfl (lv_at hl 1 rfl) ?_
    refine z_rdVv (n := 1) (C := R_B) (rest := []) ⟨hx, hb, hml, hown, hts⟩ hW0 (c_B_requirePlace G A np ns nc nn nm fv so sf st sn sc sp sx sy k (by omega)) w_102 w_99 w_101 wp_0 w_1 (by decide +kernel) ⟨rfl, rfl, Nat.le_of_ble_eq_true rfl, Nat.le_of_ble_eq_true rfl⟩ (hO0.recv hK rfl) (hB1) rfl rfl hl.1 (Nat.le_of_ble_eq_true rfl) d_B_place_7 ⟨Nat.zero_le _, Nat.zero_le _⟩ ?_
    refine lv_aload_n hx hb d_B_place_10 rfl (lv_at hl 0 rfl) ?_
    refine va_get (D := (dC, dI)) (ci := 3) (v := .int (nI np)) (C := R_B) (T := T_B) (N := 7) hx hb hts in_B hown hK hO0.P 0 rfl rfl 1 (by decide) (hts _ w_69) (fun _ h9 => h9) rfl d_B_place_11 ?_
    refine lv_bipush (v := 16) hx hb d_B_place_14 (by decide) ?_
    refine lv_icmp_lt (tgt := 29) hx hb d_B_place_16 (by decide) (fun c_2 => ?_) (fun c_2 => ?_)
    · skip
      have c_2 : np < 16 := (nI_ltI (a := np) (b := 16) (by omega) (by omega)).mp c_2
      exfalso
      omega
    · skip
      have c_2 : ¬ (np < 16) := fun h => c_2 ((nI_ltI (a := np) (b := 16) (by omega) (by omega)).mpr h)
      exact xt_new hx hb hT.1 hown hW0 hOld (by decide +kernel) hT.2.1.2.1 k_B_ISE k_7 (hT.2.2 (R_B, 43, "there are sixteen places") (List.mem_of_getElem? (i := 1) rfl)) (hts _ w_171) (hts _ w_9) hno hlocks (hl.1.trans hml.symm) d_B_place_19 d_B_place_22 d_B_place_23 d_B_place_25 d_B_place_28 (Nat.le_of_ble_eq_true rfl) (Nat.le_of_ble_eq_true rfl) (Nat.le_of_ble_eq_true rfl) (Nat.le_of_ble_eq_true rfl)
set_option maxRecDepth 100000 in
set_option maxHeartbeats 4000000 in
theorem t_B_shape_1 (G : z_G s0 (dC, dI) cI cS) (hT : z_T s0 l) (A : Nat → Nat) (np ns nc nn nm : Nat) (fv : Nat → Nat → Int32) (so sf st : Nat → Int32) (sn sc : Nat → Nat) (sp : Nat → Option Nat) (sx sy : Nat → Nat → Int32) (x0 : Int32) (hx0 : x0 < 0 ∨ nI np ≤ x0) (f t : Int32) : xt_Met l y_B_shape [Cond.code y_B_shape b_B_shape 4 (some .int)] ({ frames := 7, cells := 1, slots := 6, locals := 103 }) (z_Pc s0 [.ref (A 0), .int x0, .int f, .int t] (fun H => z_Old s0 H ∧ z_BD (dC, dI) cI cS H A np ns nc nn nm fv so sf st sn sc sp sx sy)) "java/util/NoSuchElementException" := by
  refine z_ofWX (by decide +kernel) (Nat.le_of_ble_eq_true rfl) ?_
  intro p e s m below meth c hx hb hml hadm hown hlocks hno hW0 hB ls hl
  have hts := z_hts (args := [.ref (A 0), .int x0, .int f, .int t].toArray) G.1 hW0
  have hN := z_nstW G.2.1 hW0
  have hK := va_K.moved hW0.alike G.2.2.1
  have hAI := arrOfT_moved hW0.alike G.2.2.2.1
  have hl : lv_has ls 4 [(0, .ref (A 0)), (1, .int x0), (2, .int f), (3, .int t)] := hl
  obtain ⟨hOld, hB1⟩ := id hB
  obtain ⟨⟨hO0, hO1, hO2, hB3, hFA, hSH⟩, hinj, ⟨hnp, hns, hnn, hnm, hnc⟩, hsb⟩ := id hB1
  have hAS := arrOfT_moved hW0.alike G.2.2.2.2.1
  refine lv_aload_n hx hb d_B_shape_0 rfl (lv_at hl 0 rfl) ?_
  refine lv_iload_n hx hb d_B_shape_1 rfl (lv_at hl 1 rfl) ?_
  exact z_thV (n := 1) (C := R_B) (rest := []) ⟨hx, hb, hml, hown, hts⟩ hW0 hno hlocks (t_B_requirePlace G hT A np ns nc nn nm fv so sf st sn sc sp sx sy x0 hx0) w_102 w_99 w_101 wp_0 w_1 (by decide +kernel) ⟨rfl, rfl, Nat.le_of_ble_eq_true rfl, Nat.le_of_ble_eq_true rfl⟩ (hO0.recv hK rfl) (hB) rfl rfl hl.1 (Nat.le_of_ble_eq_true rfl) d_B_shape_2 ⟨Nat.le_of_ble_eq_true rfl, Nat.le_of_ble_eq_true rfl⟩
set_option maxRecDepth 100000 in
set_option maxHeartbeats 4000000 in
theorem t_B_shape_2 (G : z_G s0 (dC, dI) cI cS) (hT : z_T s0 l) (A : Nat → Nat) (np ns nc nn nm : Nat) (fv : Nat → Nat → Int32) (so sf st : Nat → Int32) (sn sc : Nat → Nat) (sp : Nat → Option Nat) (sx sy : Nat → Nat → Int32) (k : Nat) (hk : k < np) (f t : Int32) (hd1 : ¬ z_day f) : xt_Met l y_B_shape [Cond.code y_B_shape b_B_shape 4 (some .int)] ({ frames := 8, cells := 1, slots := 6, locals := 123 }) (z_Pc s0 [.ref (A 0), .int (nI k), .int f, .int t] (fun H => z_Old s0 H ∧ z_BD (dC, dI) cI cS H A np ns nc nn nm fv so sf st sn sc sp sx sy)) "java/lang/IllegalArgumentException" := by
  refine z_ofWX (by decide +kernel) (Nat.le_of_ble_eq_true rfl) ?_
  intro p e s m below meth c hx hb hml hadm hown hlocks hno hW0 hB ls hl
  have hts := z_hts (args := [.ref (A 0), .int (nI k), .int f, .int t].toArray) G.1 hW0
  have hN := z_nstW G.2.1 hW0
  have hK := va_K.moved hW0.alike G.2.2.1
  have hAI := arrOfT_moved hW0.alike G.2.2.2.1
  have hl : lv_has ls 4 [(0, .ref (A 0)), (1, .int (nI k)), (2, .int f), (3, .int t)] := hl
  obtain ⟨hOld, hB1⟩ := id hB
  obtain ⟨⟨hO0, hO1, hO2, hB3, hFA, hSH⟩, hinj, ⟨hnp, hns, hnn, hnm, hnc⟩, hsb⟩ := id hB1
  have hAS := arrOfT_moved hW0.alike G.2.2.2.2.1
  refine lv_aload_n hx hb d_B_shape_0 rfl (lv_at hl 0 rfl) ?_
  refine lv_iload_n hx hb d_B_shape_1 rfl (lv_at hl 1 rfl) ?_
  refine z_rdVv (n := 1) (C := R_B) (rest := []) ⟨hx, hb, hml, hown, hts⟩ hW0 (c_B_requirePlace G A np ns nc nn nm fv so sf st sn sc sp sx sy k (by omega)) w_102 w_99 w_101 wp_0 w_1 (by decide +kernel) ⟨rfl, rfl, Nat.le_of_ble_eq_true rfl, Nat.le_of_ble_eq_true rfl⟩ (hO0.recv hK rfl) (hB1) rfl rfl hl.1 (Nat.le_of_ble_eq_true rfl) d_B_shape_2 ⟨Nat.zero_le _, Nat.zero_le _⟩ ?_
  refine lv_iload_n hx hb d_B_shape_5 rfl (lv_at hl 2 rfl) ?_
  refine lv_iload_n hx hb d_B_shape_6 rfl (lv_at hl 3 rfl) ?_
  exact z_thS (n := 2) (rest := []) ⟨hx, hb, hml, hown, hts⟩ hW0 hno hlocks (t_B_requireSpan1 G hT f t hd1) w_197 w_195 w_196 w_1 (by decide +kernel) ⟨rfl, rfl, Nat.le_of_ble_eq_true rfl, Nat.le_of_ble_eq_true rfl⟩ (hOld) rfl rfl hl.1 (Nat.le_of_ble_eq_true rfl) d_B_shape_7 ⟨Nat.le_of_ble_eq_true rfl, Nat.le_of_ble_eq_true rfl⟩
set_option maxRecDepth 100000 in
set_option maxHeartbeats 4000000 in
theorem t_B_shape_3 (G : z_G s0 (dC, dI) cI cS) (hT : z_T s0 l) (A : Nat → Nat) (np ns nc nn nm : Nat) (fv : Nat → Nat → Int32) (so sf st : Nat → Int32) (sn sc : Nat → Nat) (sp : Nat → Option Nat) (sx sy : Nat → Nat → Int32) (k : Nat) (hk : k < np) (f t : Int32) (hd1 : z_day f) (hd2 : ¬ z_day t) : xt_Met l y_B_shape [Cond.code y_B_shape b_B_shape 4 (some .int)] ({ frames := 8, cells := 1, slots := 6, locals := 123 }) (z_Pc s0 [.ref (A 0), .int (nI k), .int f, .int t] (fun H => z_Old s0 H ∧ z_BD (dC, dI) cI cS H A np ns nc nn nm fv so sf st sn sc sp sx sy)) "java/lang/IllegalArgumentException" := by
  refine z_ofWX (by decide +kernel) (Nat.le_of_ble_eq_true rfl) ?_
  intro p e s m below meth c hx hb hml hadm hown hlocks hno hW0 hB ls hl
  have hts := z_hts (args := [.ref (A 0), .int (nI k), .int f, .int t].toArray) G.1 hW0
  have hN := z_nstW G.2.1 hW0
  have hK := va_K.moved hW0.alike G.2.2.1
  have hAI := arrOfT_moved hW0.alike G.2.2.2.1
  have hl : lv_has ls 4 [(0, .ref (A 0)), (1, .int (nI k)), (2, .int f), (3, .int t)] := hl
  obtain ⟨hOld, hB1⟩ := id hB
  obtain ⟨⟨hO0, hO1, hO2, hB3, hFA, hSH⟩, hinj, ⟨hnp, hns, hnn, hnm, hnc⟩, hsb⟩ := id hB1
  have hAS := arrOfT_moved hW0.alike G.2.2.2.2.1
  refine lv_aload_n hx hb d_B_shape_0 rfl (lv_at hl 0 rfl) ?_
  refine lv_iload_n hx hb d_B_shape_1 rfl (lv_at hl 1 rfl) ?_
  refine z_rdVv (n := 1) (C := R_B) (rest := []) ⟨hx, hb, hml, hown, hts⟩ hW0 (c_B_requirePlace G A np ns nc nn nm fv so sf st sn sc sp sx sy k (by omega)) w_102 w_99 w_101 wp_0 w_1 (by decide +kernel) ⟨rfl, rfl, Nat.le_of_ble_eq_true rfl, Nat.le_of_ble_eq_true rfl⟩ (hO0.recv hK rfl) (hB1) rfl rfl hl.1 (Nat.le_of_ble_eq_true rfl) d_B_shape_2 ⟨Nat.zero_le _, Nat.zero_le _⟩ ?_
  refine lv_iload_n hx hb d_B_shape_5 rfl (lv_at hl 2 rfl) ?_
  refine lv_iload_n hx hb d_B_shape_6 rfl (lv_at hl 3 rfl) ?_
  exact z_thS (n := 2) (rest := []) ⟨hx, hb, hml, hown, hts⟩ hW0 hno hlocks (t_B_requireSpan2 G hT f t hd1 hd2) w_197 w_195 w_196 w_1 (by decide +kernel) ⟨rfl, rfl, Nat.le_of_ble_eq_true rfl, Nat.le_of_ble_eq_true rfl⟩ (hOld) rfl rfl hl.1 (Nat.le_of_ble_eq_true rfl) d_B_shape_7 ⟨Nat.le_of_ble_eq_true rfl, Nat.le_of_ble_eq_true rfl⟩
set_option maxRecDepth 100000 in
set_option maxHeartbeats 4000000 in
theorem t_B_shape_4 (G : z_G s0 (dC, dI) cI cS) (hT : z_T s0 l) (A : Nat → Nat) (np ns nc nn nm : Nat) (fv : Nat → Nat → Int32) (so sf st : Nat → Int32) (sn sc : Nat → Nat) (sp : Nat → Option Nat) (sx sy : Nat → Nat → Int32) (k : Nat) (hk : k < np) (f t : Int32) (hd1 : z_day f) (hd2 : z_day t) (hlt : ¬ f ≤ t) : xt_Met l y_B_shape [Cond.code y_B_shape b_B_shape 4 (some .int)] ({ frames := 7, cells := 1, slots := 6, locals := 103 }) (z_Pc s0 [.ref (A 0), .int (nI k), .int f, .int t] (fun H => z_Old s0 H ∧ z_BD (dC, dI) cI cS H A np ns nc nn nm fv so sf st sn sc sp sx sy)) "java/lang/IllegalArgumentException" := by
  refine z_ofWX (by decide +kernel) (Nat.le_of_ble_eq_true rfl) ?_
  intro p e s m below meth c hx hb hml hadm hown hlocks hno hW0 hB ls hl
  have hts := z_hts (args := [.ref (A 0), .int (nI k), .int f, .int t].toArray) G.1 hW0
  have hN := z_nstW G.2.1 hW0
  have hK := va_K.moved hW0.alike G.2.2.1
  have hAI := arrOfT_moved hW0.alike G.2.2.2.1
  have hl : lv_has ls 4 [(0, .ref (A 0)), (1, .int (nI k)), (2, .int f), (3, .int t)] := hl
  obtain ⟨hOld, hB1⟩ := id hB
  obtain ⟨⟨hO0, hO1, hO2, hB3, hFA, hSH⟩, hinj, ⟨hnp, hns, hnn, hnm, hnc⟩, hsb⟩ := id hB1
  have hAS := arrOfT_moved hW0.alike G.2.2.2.2.1
  refine lv_aload_n hx hb d_B_shape_0 rfl (lv_at hl 0 rfl) ?_
  refine lv_iload_n hx hb d_B_shape_1 rfl (lv_at hl 1 rfl) ?_
  refine z_rdVv (n := 1) (C := R_B) (rest := []) ⟨hx, hb, hml, hown, hts⟩ hW0 (c_B_requirePlace G A np ns nc nn nm fv so sf st sn sc sp sx sy k (by omega)) w_102 w_99 w_101 wp_0 w_1 (by decide +kernel) ⟨rfl, rfl, Nat.le_of_ble_eq_true rfl, Nat.le_of_ble_eq_true rfl⟩ (hO0.recv hK rfl) (hB1) rfl rfl hl.1 (Nat.le_of_ble_eq_true rfl) d_B_shape_2 ⟨Nat.zero_le _, Nat.zero_le _⟩ ?_
  refine lv_iload_n hx hb d_B_shape_5 rfl (lv_at hl 2 rfl) ?_
  refine lv_iload_n hx hb d_B_shape_6 rfl (lv_at hl 3 rfl) ?_
  exact z_thS (n := 2) (rest := []) ⟨hx, hb, hml, hown, hts⟩ hW0 hno hlocks (t_B_requireSpan3 G hT f t hd1 hd2 hlt) w_197 w_195 w_196 w_1 (by decide +kernel) ⟨rfl, rfl, Nat.le_of_ble_eq_true rfl, Nat.le_of_ble_eq_true rfl⟩ (hOld) rfl rfl hl.1 (Nat.le_of_ble_eq_true rfl) d_B_shape_7 ⟨Nat.le_of_ble_eq_true rfl, Nat.le_of_ble_eq_true rfl⟩
set_option maxRecDepth 100000 in
set_option maxHeartbeats 4000000 in
theorem t_B_shape_5 (G : z_G s0 (dC, dI) cI cS) (hT : z_T s0 l) (A : Nat → Nat) (np ns nc nn nm : Nat) (fv : Nat → Nat → Int32) (so sf st : Nat → Int32) (sn sc : Nat → Nat) (sp : Nat → Option Nat) (sx sy : Nat → Nat → Int32) (k : Nat) (hk : k < np) (f t : Int32) (hd1 : z_day f) (hd2 : z_day t) (hle : f ≤ t) (hfull : 32 ≤ ns) : xt_Met l y_B_shape [Cond.code y_B_shape b_B_shape 4 (some .int)] ({ frames := 6, cells := 1, slots := 6, locals := 82 }) (z_Pc s0 [.ref (A 0), .int (nI k), .int f, .int t] (fun H => z_Old s0 H ∧ z_BD (dC, dI) cI cS H A np ns nc nn nm fv so sf st sn sc sp sx sy)) "java/lang/IllegalStateException" := by
  refine z_ofWX (by decide +kernel) (Nat.le_of_ble_eq_true rfl) ?_
  intro p e s m below meth c hx hb hml hadm hown hlocks hno hW0 hB ls hl
  have hts := z_hts (args := [.ref (A 0), .int (nI k), .int f, .int t].toArray) G.1 hW0
  have hN := z_nstW G.2.1 hW0
  have hK := va_K.moved hW0.alike G.2.2.1
  have hAI := arrOfT_moved hW0.alike G.2.2.2.1
  have hl : lv_has ls 4 [(0, .ref (A 0)), (1, .int (nI k)), (2, .int f), (3, .int t)] := hl
  obtain ⟨hOld, hB1⟩ := id hB
  obtain ⟨⟨hO0, hO1, hO2, hB3, hFA, hSH⟩, hinj, ⟨hnp, hns, hnn, hnm, hnc⟩, hsb⟩ := id hB1
  have hAS := arrOfT_moved hW0.alike G.2.2.2.2.1
  refine lv_aload_n hx hb d_B_shape_0 rfl (lv_at hl 0 rfl) ?_
  refine lv_iload_n hx hb d_B_shape_1 rfl (lv_at hl 1 rfl) ?_
  refine z_rdVv (n := 1) (C := R_B) (rest := []) ⟨hx, hb, hml, hown, hts⟩ hW0 (c_B_requirePlace G A np ns nc nn nm fv so sf st sn sc sp sx sy k (by omega)) w_102 w_99 w_101 wp_0 w_1 (by decide +kernel) ⟨rfl, rfl, Nat.le_of_ble_eq_true rfl, Nat.le_of_ble_eq_true rfl⟩ (hO0.recv hK rfl) (hB1) rfl rfl hl.1 (Nat.le_of_ble_eq_true rfl) d_B_shape_2 ⟨Nat.zero_le _, Nat.zero_le _⟩ ?_
  refine lv_iload_n hx hb d_B_shape_5 rfl (lv_at hl 2 rfl) ?_
  refine lv_iload_n hx hb d_B_shape_6 rfl (lv_at hl 3 rfl) ?_
  refine z_rdSv (n := 2) (rest := []) ⟨hx, hb, hml, hown, hts⟩ hW0 (c_B_requireSpan G f t hd1 hd2 hle) w_197 w_195 w_196 w_1 (by decide +kernel) ⟨rfl, rfl, Nat.le_of_ble_eq_true rfl, Nat.le_of_ble_eq_true rfl⟩ (trivial) rfl rfl hl.1 (Nat.le_of_ble_eq_true rfl) d_B_shape_7 ⟨Nat.zero_le _, Nat.zero_le _⟩ ?_
  refine lv_aload_n hx hb d_B_shape_10 rfl (lv_at hl 0 rfl) ?_
  refine va_get (D := (dC, dI)) (ci := 3) (v := .int (nI ns)) (C := R_B) (T := T_B) (N := 7) hx hb hts in_B hown hK hO0.P 0 rfl rfl 3 (by decide) (hts _ w_71) (fun _ h9 => h9) rfl d_B_shape_11 ?_
  refine lv_bipush (v := 32) hx hb d_B_shape_14 (by decide) ?_
  refine lv_icmp_lt (tgt := 29) hx hb d_B_shape_16 (by decide) (fun c_1 => ?_) (fun c_1 => ?_)
  · skip
    have c_1 : ns < 32 := (nI_ltI (a := ns) (b := 32) (by omega) (by omega)).mp c_1
    exfalso
    omega
  · skip
    have c_1 : ¬ (ns < 32) := fun h => c_1 ((nI_ltI (a := ns) (b := 32) (by omega) (by omega)).mpr h)
    exact xt_new hx hb hT.1 hown hW0 hOld (by decide +kernel) hT.2.1.2.1 k_B_ISE k_7 (hT.2.2 (R_B, 55, "there are 32 shapes") (List.mem_of_getElem? (i := 4) rfl)) (hts _ w_171) (hts _ w_9) hno hlocks (hl.1.trans hml.symm) d_B_shape_19 d_B_shape_22 d_B_shape_23 d_B_shape_25 d_B_shape_28 (Nat.le_of_ble_eq_true rfl) (Nat.le_of_ble_eq_true rfl) (Nat.le_of_ble_eq_true rfl) (Nat.le_of_ble_eq_true rfl)
set_option maxRecDepth 100000 in
set_option maxHeartbeats 4000000 in
theorem t_B_corner_1 (G : z_G s0 (dC, dI) cI cS) (hT : z_T s0 l) (A : Nat → Nat) (np ns nc nn nm : Nat) (fv : Nat → Nat → Int32) (so sf st : Nat → Int32) (sn sc : Nat → Nat) (sp : Nat → Option Nat) (sx sy : Nat → Nat → Int32) (x0 : Int32) (hx0 : x0 < 0 ∨ nI ns ≤ x0) (x y : Int32) : xt_Met l y_B_corner [Cond.code y_B_corner b_B_corner 5 (some .int)] ({ frames := 7, cells := 1, slots := 6, locals := 103 }) (z_Pc s0 [.ref (A 0), .int x0, .int x, .int y] (fun H => z_Old s0 H ∧ z_BD (dC, dI) cI cS H A np ns nc nn nm fv so sf st sn sc sp sx sy)) "java/util/NoSuchElementException" := by
  refine z_ofWX (by decide +kernel) (Nat.le_of_ble_eq_true rfl) ?_
  intro p e s m below meth c hx hb hml hadm hown hlocks hno hW0 hB ls hl
  have hts := z_hts (args := [.ref (A 0), .int x0, .int x, .int y].toArray) G.1 hW0
  have hN := z_nstW G.2.1 hW0
  have hK := va_K.moved hW0.alike G.2.2.1
  have hAI := arrOfT_moved hW0.alike G.2.2.2.1
  have hl : lv_has ls 5 [(0, .ref (A 0)), (1, .int x0), (2, .int x), (3, .int y)] := hl
  obtain ⟨hOld, hB1⟩ := id hB
  obtain ⟨⟨hO0, hO1, hO2, hB3, hFA, hSH⟩, hinj, ⟨hnp, hns, hnn, hnm, hnc⟩, hsb⟩ := id hB1
  have hAS := arrOfT_moved hW0.alike G.2.2.2.2.1
  refine lv_aload_n hx hb d_B_corner_0 rfl (lv_at hl 0 rfl) ?_
  refine lv_iload_n hx hb d_B_corner_1 rfl (lv_at hl 1 rfl) ?_
  exact z_thV (n := 1) (C := R_B) (rest := []) ⟨hx, hb, hml, hown, hts⟩ hW0 hno hlocks (t_B_shapeNumbered G hT A np ns nc nn nm fv so sf st sn sc sp sx sy x0 hx0) w_267 w_264 w_266 wp_2 w_1 (by decide +kernel) ⟨rfl, rfl, Nat.le_of_ble_eq_true rfl, Nat.le_of_ble_eq_true rfl⟩ (hO0.recv hK rfl) (hB) rfl rfl hl.1 (Nat.le_of_ble_eq_true rfl) d_B_corner_2 ⟨Nat.le_of_ble_eq_true rfl, Nat.le_of_ble_eq_true rfl⟩
set_option maxRecDepth 100000 in
set_option maxHeartbeats 4000000 in
theorem t_B_corner_2 (G : z_G s0 (dC, dI) cI cS) (hT : z_T s0 l) (A : Nat → Nat) (np ns nc nn nm : Nat) (fv : Nat → Nat → Int32) (so sf st : Nat → Int32) (sn sc : Nat → Nat) (sp : Nat → Option Nat) (sx sy : Nat → Nat → Int32) (k : Nat) (hk : k < ns) (x y : Int32) (hp : ¬ z_pt x y) : xt_Met l y_B_corner [Cond.code y_B_corner b_B_corner 5 (some .int)] ({ frames := 7, cells := 1, slots := 6, locals := 103 }) (z_Pc s0 [.ref (A 0), .int (nI k), .int x, .int y] (fun H => z_Old s0 H ∧ z_BD (dC, dI) cI cS H A np ns nc nn nm fv so sf st sn sc sp sx sy)) "java/lang/IllegalArgumentException" := by
  refine z_ofWX (by decide +kernel) (Nat.le_of_ble_eq_true rfl) ?_
  intro p e s m below meth c hx hb hml hadm hown hlocks hno hW0 hB ls hl
  have hts := z_hts (args := [.ref (A 0), .int (nI k), .int x, .int y].toArray) G.1 hW0
  have hN := z_nstW G.2.1 hW0
  have hK := va_K.moved hW0.alike G.2.2.1
  have hAI := arrOfT_moved hW0.alike G.2.2.2.1
  have hl : lv_has ls 5 [(0, .ref (A 0)), (1, .int (nI k)), (2, .int x), (3, .int y)] := hl
  obtain ⟨hOld, hB1⟩ := id hB
  obtain ⟨⟨hO0, hO1, hO2, hB3, hFA, hSH⟩, hinj, ⟨hnp, hns, hnn, hnm, hnc⟩, hsb⟩ := id hB1
  have hAS := arrOfT_moved hW0.alike G.2.2.2.2.1
  have hS_k := hSH k hk
  have hb_k := hsb k hk
  obtain ⟨hO_k, hX_k, hY_k⟩ := id hS_k
  refine lv_aload_n hx hb d_B_corner_0 rfl (lv_at hl 0 rfl) ?_
  refine lv_iload_n hx hb d_B_corner_1 rfl (lv_at hl 1 rfl) ?_
  refine z_rdV (n := 1) (C := R_B) (rest := []) ⟨hx, hb, hml, hown, hts⟩ hW0 (c_B_shapeNumbered G A np ns nc nn nm fv so sf st sn sc sp sx sy k (by omega)) w_267 w_264 w_266 wp_2 w_1 (by decide +kernel) ⟨rfl, rfl, Nat.le_of_ble_eq_true rfl, Nat.le_of_ble_eq_true rfl⟩ (hO0.recv hK rfl) (hB1) rfl rfl hl.1 (Nat.le_of_ble_eq_true rfl) d_B_corner_2 ⟨Nat.zero_le _, Nat.zero_le _⟩ ?_
  refine lv_astore (lv' := [(4, .ref (A (13 + 3 * k))), (0, .ref (A 0)), (1, .int (nI k)), (2, .int x), (3, .int y)]) hx hb d_B_corner_5 hl (by decide) rfl (fun ls hl => ?_)
  refine lv_iload_n hx hb d_B_corner_7 rfl (lv_at hl 3 rfl) ?_
  refine lv_iload_n hx hb d_B_corner_8 rfl (lv_at hl 4 rfl) ?_
  exact z_thS (n := 2) (rest := []) ⟨hx, hb, hml, hown, hts⟩ hW0 hno hlocks (t_B_requirePoint G hT x y hp) w_271 w_269 w_270 w_1 (by decide +kernel) ⟨rfl, rfl, Nat.le_of_ble_eq_true rfl, Nat.le_of_ble_eq_true rfl⟩ (hOld) rfl rfl hl.1 (Nat.le_of_ble_eq_true rfl) d_B_corner_9 ⟨Nat.le_of_ble_eq_true rfl, Nat.le_of_ble_eq_true rfl⟩
set_option maxRecDepth 100000 in
set_option maxHeartbeats 4000000 in
theorem t_B_corner_3 (G : z_G s0 (dC, dI) cI cS) (hT : z_T s0 l) (A : Nat → Nat) (np ns nc nn nm : Nat) (fv : Nat → Nat → Int32) (so sf st : Nat → Int32) (sn sc : Nat → Nat) (sp : Nat → Option Nat) (sx sy : Nat → Nat → Int32) (k : Nat) (hk : k < ns) (x y : Int32) (hp : z_pt x y) (hst : 0 < nI (sc k) ∨ 12 ≤ sn k) : xt_Met l y_B_corner [Cond.code y_B_corner b_B_corner 5 (some .int)] ({ frames := 6, cells := 1, slots := 6, locals := 82 }) (z_Pc s0 [.ref (A 0), .int (nI k), .int x, .int y] (fun H => z_Old s0 H ∧ z_BD (dC, dI) cI cS H A np ns nc nn nm fv so sf st sn sc sp sx sy)) "java/lang/IllegalStateException" := by
  refine z_ofWX (by decide +kernel) (Nat.le_of_ble_eq_true rfl) ?_
  intro p e s m below meth c hx hb hml hadm hown hlocks hno hW0 hB ls hl
  have hts := z_hts (args := [.ref (A 0), .int (nI k), .int x, .int y].toArray) G.1 hW0
  have hN := z_nstW G.2.1 hW0
  have hK := va_K.moved hW0.alike G.2.2.1
  have hAI := arrOfT_moved hW0.alike G.2.2.2.1
  have hl : lv_has ls 5 [(0, .ref (A 0)), (1, .int (nI k)), (2, .int x), (3, .int y)] := hl
  obtain ⟨hOld, hB1⟩ := id hB
  obtain ⟨⟨hO0, hO1, hO2, hB3, hFA, hSH⟩, hinj, ⟨hnp, hns, hnn, hnm, hnc⟩, hsb⟩ := id hB1
  have hAS := arrOfT_moved hW0.alike G.2.2.2.2.1
  have hS_k := hSH k hk
  have hb_k := hsb k hk
  obtain ⟨hO_k, hX_k, hY_k⟩ := id hS_k
  refine lv_aload_n hx hb d_B_corner_0 rfl (lv_at hl 0 rfl) ?_
  refine lv_iload_n hx hb d_B_corner_1 rfl (lv_at hl 1 rfl) ?_
  refine z_rdV (n := 1) (C := R_B) (rest := []) ⟨hx, hb, hml, hown, hts⟩ hW0 (c_B_shapeNumbered G A np ns nc nn nm fv so sf st sn sc sp sx sy k (by omega)) w_267 w_264 w_266 wp_2 w_1 (by decide +kernel) ⟨rfl, rfl, Nat.le_of_ble_eq_true rfl, Nat.le_of_ble_eq_true rfl⟩ (hO0.recv hK rfl) (hB1) rfl rfl hl.1 (Nat.le_of_ble_eq_true rfl) d_B_corner_2 ⟨Nat.zero_le _, Nat.zero_le _⟩ ?_
  refine lv_astore (lv' := [(4, .ref (A (13 + 3 * k))), (0, .ref (A 0)), (1, .int (nI k)), (2, .int x), (3, .int y)]) hx hb d_B_corner_5 hl (by decide) rfl (fun ls hl => ?_)
  refine lv_iload_n hx hb d_B_corner_7 rfl (lv_at hl 3 rfl) ?_
  refine lv_iload_n hx hb d_B_corner_8 rfl (lv_at hl 4 rfl) ?_
  refine z_rdSv (n := 2) (rest := []) ⟨hx, hb, hml, hown, hts⟩ hW0 (c_B_requirePoint G x y hp) w_271 w_269 w_270 w_1 (by decide +kernel) ⟨rfl, rfl, Nat.le_of_ble_eq_true rfl, Nat.le_of_ble_eq_true rfl⟩ (trivial) rfl rfl hl.1 (Nat.le_of_ble_eq_true rfl) d_B_corner_9 ⟨Nat.zero_le _, Nat.zero_le _⟩ ?_
  refine lv_aload hx hb d_B_corner_12 (lv_at hl 0 rfl) ?_
  refine z_rdV (n := 0) (C := R_S) (rest := []) ⟨hx, hb, hml, hown, hts⟩ hW0 (c_S_isClosed G (A (13 + 3 * k)) (A (14 + 3 * k)) (A (15 + 3 * k)) (sn k) (nI k) (so k) (sf k) (st k) (nI (sc k)) (z_pv A (sp k)) (sx k) (sy k)) w_276 w_273 w_274 w_275 w_11 (by decide +kernel) ⟨rfl, rfl, Nat.le_of_ble_eq_true rfl, Nat.le_of_ble_eq_true rfl⟩ (hO_k.recv hK rfl) (hS_k) rfl rfl hl.1 (Nat.le_of_ble_eq_true rfl) d_B_corner_14 ⟨Nat.zero_le _, Nat.zero_le _⟩ ?_
  refine lv_if_ne (tgt := 28) hx hb d_B_corner_17 (by decide) (fun c_1 => ?_) (fun c_1 => ?_)
  · skip
    have c_1 : (0 < nI (sc k)) := of_decide_eq_true (pi_b_1.mp c_1)
    exact xt_new hx hb hT.1 hown hW0 hOld (by decide +kernel) hT.2.1.2.1 k_B_ISE k_7 (hT.2.2 (R_B, 74, "the shape is closed or has twelve corners") (List.mem_of_getElem? (i := 7) rfl)) (hts _ w_171) (hts _ w_9) hno hlocks (hl.1.trans hml.symm) d_B_corner_28 d_B_corner_31 d_B_corner_32 d_B_corner_34 d_B_corner_37 (Nat.le_of_ble_eq_true rfl) (Nat.le_of_ble_eq_true rfl) (Nat.le_of_ble_eq_true rfl) (Nat.le_of_ble_eq_true rfl)
  · skip
    have c_1 : ¬ (0 < nI (sc k)) := of_decide_eq_false (pi_b_0.mp c_1)
    refine lv_aload hx hb d_B_corner_20 (lv_at hl 0 rfl) ?_
    refine z_rdV (n := 0) (C := R_S) (rest := []) ⟨hx, hb, hml, hown, hts⟩ hW0 (c_S_isFull G (A (13 + 3 * k)) (A (14 + 3 * k)) (A (15 + 3 * k)) (sn k) (nI k) (so k) (sf k) (st k) (nI (sc k)) (z_pv A (sp k)) (sx k) (sy k) hb_k.1) w_280 w_277 w_278 w_279 w_11 (by decide +kernel) ⟨rfl, rfl, Nat.le_of_ble_eq_true rfl, Nat.le_of_ble_eq_true rfl⟩ (hO_k.recv hK rfl) (hS_k) rfl rfl hl.1 (Nat.le_of_ble_eq_true rfl) d_B_corner_22 ⟨Nat.zero_le _, Nat.zero_le _⟩ ?_
    refine lv_if_eq (tgt := 38) hx hb d_B_corner_25 (by decide) (fun c_2 => ?_) (fun c_2 => ?_)
    · skip
      have c_2 : ¬ (12 ≤ sn k) := of_decide_eq_false (pi_b_0.mp c_2)
      exact (hst.elim c_1 c_2).elim
    · skip
      have c_2 : (12 ≤ sn k) := of_decide_eq_true (pi_b_1.mp c_2)
      exact xt_new hx hb hT.1 hown hW0 hOld (by decide +kernel) hT.2.1.2.1 k_B_ISE k_7 (hT.2.2 (R_B, 74, "the shape is closed or has twelve corners") (List.mem_of_getElem? (i := 7) rfl)) (hts _ w_171) (hts _ w_9) hno hlocks (hl.1.trans hml.symm) d_B_corner_28 d_B_corner_31 d_B_corner_32 d_B_corner_34 d_B_corner_37 (Nat.le_of_ble_eq_true rfl) (Nat.le_of_ble_eq_true rfl) (Nat.le_of_ble_eq_true rfl) (Nat.le_of_ble_eq_true rfl)
set_option maxRecDepth 100000 in
set_option maxHeartbeats 4000000 in
theorem t_B_close_1 (G : z_G s0 (dC, dI) cI cS) (hT : z_T s0 l) (A : Nat → Nat) (np ns nc nn nm : Nat) (fv : Nat → Nat → Int32) (so sf st : Nat → Int32) (sn sc : Nat → Nat) (sp : Nat → Option Nat) (sx sy : Nat → Nat → Int32) (x0 : Int32) (hx0 : x0 < 0 ∨ nI ns ≤ x0) : xt_Met l y_B_close [Cond.code y_B_close b_B_close 3 (some .boolean)] ({ frames := 7, cells := 1, slots := 6, locals := 103 }) (z_Pc s0 [.ref (A 0), .int x0] (fun H => z_Old s0 H ∧ z_BD (dC, dI) cI cS H A np ns nc nn nm fv so sf st sn sc sp sx sy)) "java/util/NoSuchElementException" := by
  refine z_ofWX (by decide +kernel) (Nat.le_of_ble_eq_true rfl) ?_
  intro p e s m below meth c hx hb hml hadm hown hlocks hno hW0 hB ls hl
  have hts := z_hts (args := [.ref (A 0), .int x0].toArray) G.1 hW0
  have hN := z_nstW G.2.1 hW0
  have hK := va_K.moved hW0.alike G.2.2.1
  have hAI := arrOfT_moved hW0.alike G.2.2.2.1
  have hl : lv_has ls 3 [(0, .ref (A 0)), (1, .int x0)] := hl
  obtain ⟨hOld, hB1⟩ := id hB
  obtain ⟨⟨hO0, hO1, hO2, hB3, hFA, hSH⟩, hinj, ⟨hnp, hns, hnn, hnm, hnc⟩, hsb⟩ := id hB1
  have hAS := arrOfT_moved hW0.alike G.2.2.2.2.1
  refine lv_aload_n hx hb d_B_close_0 rfl (lv_at hl 0 rfl) ?_
  refine lv_iload_n hx hb d_B_close_1 rfl (lv_at hl 1 rfl) ?_
  exact z_thV (n := 1) (C := R_B) (rest := []) ⟨hx, hb, hml, hown, hts⟩ hW0 hno hlocks (t_B_shapeNumbered G hT A np ns nc nn nm fv so sf st sn sc sp sx sy x0 hx0) w_267 w_264 w_266 wp_2 w_1 (by decide +kernel) ⟨rfl, rfl, Nat.le_of_ble_eq_true rfl, Nat.le_of_ble_eq_true rfl⟩ (hO0.recv hK rfl) (hB) rfl rfl hl.1 (Nat.le_of_ble_eq_true rfl) d_B_close_2 ⟨Nat.le_of_ble_eq_true rfl, Nat.le_of_ble_eq_true rfl⟩
set_option maxRecDepth 100000 in
set_option maxHeartbeats 4000000 in
theorem t_B_unsure_1 (G : z_G s0 (dC, dI) cI cS) (hT : z_T s0 l) (A : Nat → Nat) (np ns nc nn nm : Nat) (fv : Nat → Nat → Int32) (so sf st : Nat → Int32) (sn sc : Nat → Nat) (sp : Nat → Option Nat) (sx sy : Nat → Nat → Int32) (x0 : Int32) (hx0 : x0 < 0 ∨ nI ns ≤ x0) (x1 : Int32) : xt_Met l y_B_unsure [Cond.code y_B_unsure b_B_unsure 5 (some .boolean)] ({ frames := 7, cells := 1, slots := 6, locals := 103 }) (z_Pc s0 [.ref (A 0), .int x0, .int x1] (fun H => z_Old s0 H ∧ z_BD (dC, dI) cI cS H A np ns nc nn nm fv so sf st sn sc sp sx sy)) "java/util/NoSuchElementException" := by
  refine z_ofWX (by decide +kernel) (Nat.le_of_ble_eq_true rfl) ?_
  intro p e s m below meth c hx hb hml hadm hown hlocks hno hW0 hB ls hl
  have hts := z_hts (args := [.ref (A 0), .int x0, .int x1].toArray) G.1 hW0
  have hN := z_nstW G.2.1 hW0
  have hK := va_K.moved hW0.alike G.2.2.1
  have hAI := arrOfT_moved hW0.alike G.2.2.2.1
  have hl : lv_has ls 5 [(0, .ref (A 0)), (1, .int x0), (2, .int x1)] := hl
  obtain ⟨hOld, hB1⟩ := id hB
  obtain ⟨⟨hO0, hO1, hO2, hB3, hFA, hSH⟩, hinj, ⟨hnp, hns, hnn, hnm, hnc⟩, hsb⟩ := id hB1
  have hAS := arrOfT_moved hW0.alike G.2.2.2.2.1
  refine lv_aload_n hx hb d_B_unsure_0 rfl (lv_at hl 0 rfl) ?_
  refine lv_iload_n hx hb d_B_unsure_1 rfl (lv_at hl 1 rfl) ?_
  exact z_thV (n := 1) (C := R_B) (rest := []) ⟨hx, hb, hml, hown, hts⟩ hW0 hno hlocks (t_B_shapeNumbered G hT A np ns nc nn nm fv so sf st sn sc sp sx sy x0 hx0) w_267 w_264 w_266 wp_2 w_1 (by decide +kernel) ⟨rfl, rfl, Nat.le_of_ble_eq_true rfl, Nat.le_of_ble_eq_true rfl⟩ (hO0.recv hK rfl) (hB) rfl rfl hl.1 (Nat.le_of_ble_eq_true rfl) d_B_unsure_2 ⟨Nat.le_of_ble_eq_true rfl, Nat.le_of_ble_eq_true rfl⟩
set_option maxRecDepth 100000 in
set_option maxHeartbeats 4000000 in
theorem t_B_unsure_2 (G : z_G s0 (dC, dI) cI cS) (hT : z_T s0 l) (A : Nat → Nat) (np ns nc nn nm : Nat) (fv : Nat → Nat → Int32) (so sf st : Nat → Int32) (sn sc : Nat → Nat) (sp : Nat → Option Nat) (sx sy : Nat → Nat → Int32) (k : Nat) (hk : k < ns) (x0 : Int32) (hx0 : x0 < 0 ∨ nI ns ≤ x0) : xt_Met l y_B_unsure [Cond.code y_B_unsure b_B_unsure 5 (some .boolean)] ({ frames := 7, cells := 1, slots := 6, locals := 103 }) (z_Pc s0 [.ref (A 0), .int (nI k), .int x0] (fun H => z_Old s0 H ∧ z_BD (dC, dI) cI cS H A np ns nc nn nm fv so sf st sn sc sp sx sy)) "java/util/NoSuchElementException" := by
  refine z_ofWX (by decide +kernel) (Nat.le_of_ble_eq_true rfl) ?_
  intro p e s m below meth c hx hb hml hadm hown hlocks hno hW0 hB ls hl
  have hts := z_hts (args := [.ref (A 0), .int (nI k), .int x0].toArray) G.1 hW0
  have hN := z_nstW G.2.1 hW0
  have hK := va_K.moved hW0.alike G.2.2.1
  have hAI := arrOfT_moved hW0.alike G.2.2.2.1
  have hl : lv_has ls 5 [(0, .ref (A 0)), (1, .int (nI k)), (2, .int x0)] := hl
  obtain ⟨hOld, hB1⟩ := id hB
  obtain ⟨⟨hO0, hO1, hO2, hB3, hFA, hSH⟩, hinj, ⟨hnp, hns, hnn, hnm, hnc⟩, hsb⟩ := id hB1
  have hAS := arrOfT_moved hW0.alike G.2.2.2.2.1
  refine lv_aload_n hx hb d_B_unsure_0 rfl (lv_at hl 0 rfl) ?_
  refine lv_iload_n hx hb d_B_unsure_1 rfl (lv_at hl 1 rfl) ?_
  refine z_rdV (n := 1) (C := R_B) (rest := []) ⟨hx, hb, hml, hown, hts⟩ hW0 (c_B_shapeNumbered G A np ns nc nn nm fv so sf st sn sc sp sx sy k (by omega)) w_267 w_264 w_266 wp_2 w_1 (by decide +kernel) ⟨rfl, rfl, Nat.le_of_ble_eq_true rfl, Nat.le_of_ble_eq_true rfl⟩ (hO0.recv hK rfl) (hB1) rfl rfl hl.1 (Nat.le_of_ble_eq_true rfl) d_B_unsure_2 ⟨Nat.zero_le _, Nat.zero_le _⟩ ?_
  refine lv_astore_n (lv' := [(3, .ref (A (13 + 3 * k))), (0, .ref (A 0)), (1, .int (nI k)), (2, .int x0)]) hx hb d_B_unsure_5 rfl hl (by decide) rfl (fun ls hl => ?_)
  refine lv_aload_n hx hb d_B_unsure_6 rfl (lv_at hl 1 rfl) ?_
  refine lv_iload_n hx hb d_B_unsure_7 rfl (lv_at hl 3 rfl) ?_
  exact z_thV (n := 1) (C := R_B) (rest := []) ⟨hx, hb, hml, hown, hts⟩ hW0 hno hlocks (t_B_shapeNumbered G hT A np ns nc nn nm fv so sf st sn sc sp sx sy x0 hx0) w_267 w_264 w_266 wp_2 w_1 (by decide +kernel) ⟨rfl, rfl, Nat.le_of_ble_eq_true rfl, Nat.le_of_ble_eq_true rfl⟩ (hO0.recv hK rfl) (hB) rfl rfl hl.1 (Nat.le_of_ble_eq_true rfl) d_B_unsure_8 ⟨Nat.le_of_ble_eq_true rfl, Nat.le_of_ble_eq_true rfl⟩
set_option maxRecDepth 100000 in
set_option maxHeartbeats 4000000 in
theorem t_B_name_1 (G : z_G s0 (dC, dI) cI cS) (hT : z_T s0 l) (A : Nat → Nat) (np ns nc nn nm : Nat) (fv : Nat → Nat → Int32) (so sf st : Nat → Int32) (sn sc : Nat → Nat) (sp : Nat → Option Nat) (sx sy : Nat → Nat → Int32) (x0 : Int32) (hx0 : x0 < 0 ∨ nI np ≤ x0) (n0 : Int32) (f t : Int32) : xt_Met l y_B_name [Cond.code y_B_name b_B_name 5 none] ({ frames := 7, cells := 1, slots := 6, locals := 103 }) (z_Pc s0 [.ref (A 0), .int x0, .int n0, .int f, .int t] (fun H => z_Old s0 H ∧ z_BD (dC, dI) cI cS H A np ns nc nn nm fv so sf st sn sc sp sx sy)) "java/util/NoSuchElementException" := by
  refine z_ofWX (by decide +kernel) (Nat.le_of_ble_eq_true rfl) ?_
  intro p e s m below meth c hx hb hml hadm hown hlocks hno hW0 hB ls hl
  have hts := z_hts (args := [.ref (A 0), .int x0, .int n0, .int f, .int t].toArray) G.1 hW0
  have hN := z_nstW G.2.1 hW0
  have hK := va_K.moved hW0.alike G.2.2.1
  have hAI := arrOfT_moved hW0.alike G.2.2.2.1
  have hl : lv_has ls 5 [(0, .ref (A 0)), (1, .int x0), (2, .int n0), (3, .int f), (4, .int t)] := hl
  obtain ⟨hOld, hB1⟩ := id hB
  obtain ⟨⟨hO0, hO1, hO2, hB3, hFA, hSH⟩, hinj, ⟨hnp, hns, hnn, hnm, hnc⟩, hsb⟩ := id hB1
  have hAS := arrOfT_moved hW0.alike G.2.2.2.2.1
  refine lv_aload_n hx hb d_B_name_0 rfl (lv_at hl 0 rfl) ?_
  refine lv_iload_n hx hb d_B_name_1 rfl (lv_at hl 1 rfl) ?_
  exact z_thV (n := 1) (C := R_B) (rest := []) ⟨hx, hb, hml, hown, hts⟩ hW0 hno hlocks (t_B_requirePlace G hT A np ns nc nn nm fv so sf st sn sc sp sx sy x0 hx0) w_102 w_99 w_101 wp_0 w_1 (by decide +kernel) ⟨rfl, rfl, Nat.le_of_ble_eq_true rfl, Nat.le_of_ble_eq_true rfl⟩ (hO0.recv hK rfl) (hB) rfl rfl hl.1 (Nat.le_of_ble_eq_true rfl) d_B_name_2 ⟨Nat.le_of_ble_eq_true rfl, Nat.le_of_ble_eq_true rfl⟩
set_option maxRecDepth 100000 in
set_option maxHeartbeats 4000000 in
theorem t_B_name_2 (G : z_G s0 (dC, dI) cI cS) (hT : z_T s0 l) (A : Nat → Nat) (np ns nc nn nm : Nat) (fv : Nat → Nat → Int32) (so sf st : Nat → Int32) (sn sc : Nat → Nat) (sp : Nat → Option Nat) (sx sy : Nat → Nat → Int32) (k : Nat) (hk : k < np) (n0 : Int32) (f t : Int32) (hd1 : ¬ z_day f) : xt_Met l y_B_name [Cond.code y_B_name b_B_name 5 none] ({ frames := 8, cells := 1, slots := 6, locals := 123 }) (z_Pc s0 [.ref (A 0), .int (nI k), .int n0, .int f, .int t] (fun H => z_Old s0 H ∧ z_BD (dC, dI) cI cS H A np ns nc nn nm fv so sf st sn sc sp sx sy)) "java/lang/IllegalArgumentException" := by
  refine z_ofWX (by decide +kernel) (Nat.le_of_ble_eq_true rfl) ?_
  intro p e s m below meth c hx hb hml hadm hown hlocks hno hW0 hB ls hl
  have hts := z_hts (args := [.ref (A 0), .int (nI k), .int n0, .int f, .int t].toArray) G.1 hW0
  have hN := z_nstW G.2.1 hW0
  have hK := va_K.moved hW0.alike G.2.2.1
  have hAI := arrOfT_moved hW0.alike G.2.2.2.1
  have hl : lv_has ls 5 [(0, .ref (A 0)), (1, .int (nI k)), (2, .int n0), (3, .int f), (4, .int t)] := hl
  obtain ⟨hOld, hB1⟩ := id hB
  obtain ⟨⟨hO0, hO1, hO2, hB3, hFA, hSH⟩, hinj, ⟨hnp, hns, hnn, hnm, hnc⟩, hsb⟩ := id hB1
  have hAS := arrOfT_moved hW0.alike G.2.2.2.2.1
  refine lv_aload_n hx hb d_B_name_0 rfl (lv_at hl 0 rfl) ?_
  refine lv_iload_n hx hb d_B_name_1 rfl (lv_at hl 1 rfl) ?_
  refine z_rdVv (n := 1) (C := R_B) (rest := []) ⟨hx, hb, hml, hown, hts⟩ hW0 (c_B_requirePlace G A np ns nc nn nm fv so sf st sn sc sp sx sy k (by omega)) w_102 w_99 w_101 wp_0 w_1 (by decide +kernel) ⟨rfl, rfl, Nat.le_of_ble_eq_true rfl, Nat.le_of_ble_eq_true rfl⟩ (hO0.recv hK rfl) (hB1) rfl rfl hl.1 (Nat.le_of_ble_eq_true rfl) d_B_name_2 ⟨Nat.zero_le _, Nat.zero_le _⟩ ?_
  refine lv_iload_n hx hb d_B_name_5 rfl (lv_at hl 3 rfl) ?_
  refine lv_iload hx hb d_B_name_6 (lv_at hl 4 rfl) ?_
  exact z_thS (n := 2) (rest := []) ⟨hx, hb, hml, hown, hts⟩ hW0 hno hlocks (t_B_requireSpan1 G hT f t hd1) w_197 w_195 w_196 w_1 (by decide +kernel) ⟨rfl, rfl, Nat.le_of_ble_eq_true rfl, Nat.le_of_ble_eq_true rfl⟩ (hOld) rfl rfl hl.1 (Nat.le_of_ble_eq_true rfl) d_B_name_8 ⟨Nat.le_of_ble_eq_true rfl, Nat.le_of_ble_eq_true rfl⟩
set_option maxRecDepth 100000 in
set_option maxHeartbeats 4000000 in
theorem t_B_name_3 (G : z_G s0 (dC, dI) cI cS) (hT : z_T s0 l) (A : Nat → Nat) (np ns nc nn nm : Nat) (fv : Nat → Nat → Int32) (so sf st : Nat → Int32) (sn sc : Nat → Nat) (sp : Nat → Option Nat) (sx sy : Nat → Nat → Int32) (k : Nat) (hk : k < np) (n0 : Int32) (f t : Int32) (hd1 : z_day f) (hd2 : ¬ z_day t) : xt_Met l y_B_name [Cond.code y_B_name b_B_name 5 none] ({ frames := 8, cells := 1, slots := 6, locals := 123 }) (z_Pc s0 [.ref (A 0), .int (nI k), .int n0, .int f, .int t] (fun H => z_Old s0 H ∧ z_BD (dC, dI) cI cS H A np ns nc nn nm fv so sf st sn sc sp sx sy)) "java/lang/IllegalArgumentException" := by
  refine z_ofWX (by decide +kernel) (Nat.le_of_ble_eq_true rfl) ?_
  intro p e s m below meth c hx hb hml hadm hown hlocks hno hW0 hB ls hl
  have hts := z_hts (args := [.ref (A 0), .int (nI k), .int n0, .int f, .int t].toArray) G.1 hW0
  have hN := z_nstW G.2.1 hW0
  have hK := va_K.moved hW0.alike G.2.2.1
  have hAI := arrOfT_moved hW0.alike G.2.2.2.1
  have hl : lv_has ls 5 [(0, .ref (A 0)), (1, .int (nI k)), (2, .int n0), (3, .int f), (4, .int t)] := hl
  obtain ⟨hOld, hB1⟩ := id hB
  obtain ⟨⟨hO0, hO1, hO2, hB3, hFA, hSH⟩, hinj, ⟨hnp, hns, hnn, hnm, hnc⟩, hsb⟩ := id hB1
  have hAS := arrOfT_moved hW0.alike G.2.2.2.2.1
  refine lv_aload_n hx hb d_B_name_0 rfl (lv_at hl 0 rfl) ?_
  refine lv_iload_n hx hb d_B_name_1 rfl (lv_at hl 1 rfl) ?_
  refine z_rdVv (n := 1) (C := R_B) (rest := []) ⟨hx, hb, hml, hown, hts⟩ hW0 (c_B_requirePlace G A np ns nc nn nm fv so sf st sn sc sp sx sy k (by omega)) w_102 w_99 w_101 wp_0 w_1 (by decide +kernel) ⟨rfl, rfl, Nat.le_of_ble_eq_true rfl, Nat.le_of_ble_eq_true rfl⟩ (hO0.recv hK rfl) (hB1) rfl rfl hl.1 (Nat.le_of_ble_eq_true rfl) d_B_name_2 ⟨Nat.zero_le _, Nat.zero_le _⟩ ?_
  refine lv_iload_n hx hb d_B_name_5 rfl (lv_at hl 3 rfl) ?_
  refine lv_iload hx hb d_B_name_6 (lv_at hl 4 rfl) ?_
  exact z_thS (n := 2) (rest := []) ⟨hx, hb, hml, hown, hts⟩ hW0 hno hlocks (t_B_requireSpan2 G hT f t hd1 hd2) w_197 w_195 w_196 w_1 (by decide +kernel) ⟨rfl, rfl, Nat.le_of_ble_eq_true rfl, Nat.le_of_ble_eq_true rfl⟩ (hOld) rfl rfl hl.1 (Nat.le_of_ble_eq_true rfl) d_B_name_8 ⟨Nat.le_of_ble_eq_true rfl, Nat.le_of_ble_eq_true rfl⟩
set_option maxRecDepth 100000 in
set_option maxHeartbeats 4000000 in
theorem t_B_name_4 (G : z_G s0 (dC, dI) cI cS) (hT : z_T s0 l) (A : Nat → Nat) (np ns nc nn nm : Nat) (fv : Nat → Nat → Int32) (so sf st : Nat → Int32) (sn sc : Nat → Nat) (sp : Nat → Option Nat) (sx sy : Nat → Nat → Int32) (k : Nat) (hk : k < np) (n0 : Int32) (f t : Int32) (hd1 : z_day f) (hd2 : z_day t) (hlt : ¬ f ≤ t) : xt_Met l y_B_name [Cond.code y_B_name b_B_name 5 none] ({ frames := 7, cells := 1, slots := 6, locals := 103 }) (z_Pc s0 [.ref (A 0), .int (nI k), .int n0, .int f, .int t] (fun H => z_Old s0 H ∧ z_BD (dC, dI) cI cS H A np ns nc nn nm fv so sf st sn sc sp sx sy)) "java/lang/IllegalArgumentException" := by
  refine z_ofWX (by decide +kernel) (Nat.le_of_ble_eq_true rfl) ?_
  intro p e s m below meth c hx hb hml hadm hown hlocks hno hW0 hB ls hl
  have hts := z_hts (args := [.ref (A 0), .int (nI k), .int n0, .int f, .int t].toArray) G.1 hW0
  have hN := z_nstW G.2.1 hW0
  have hK := va_K.moved hW0.alike G.2.2.1
  have hAI := arrOfT_moved hW0.alike G.2.2.2.1
  have hl : lv_has ls 5 [(0, .ref (A 0)), (1, .int (nI k)), (2, .int n0), (3, .int f), (4, .int t)] := hl
  obtain ⟨hOld, hB1⟩ := id hB
  obtain ⟨⟨hO0, hO1, hO2, hB3, hFA, hSH⟩, hinj, ⟨hnp, hns, hnn, hnm, hnc⟩, hsb⟩ := id hB1
  have hAS := arrOfT_moved hW0.alike G.2.2.2.2.1
  refine lv_aload_n hx hb d_B_name_0 rfl (lv_at hl 0 rfl) ?_
  refine lv_iload_n hx hb d_B_name_1 rfl (lv_at hl 1 rfl) ?_
  refine z_rdVv (n := 1) (C := R_B) (rest := []) ⟨hx, hb, hml, hown, hts⟩ hW0 (c_B_requirePlace G A np ns nc nn nm fv so sf st sn sc sp sx sy k (by omega)) w_102 w_99 w_101 wp_0 w_1 (by decide +kernel) ⟨rfl, rfl, Nat.le_of_ble_eq_true rfl, Nat.le_of_ble_eq_true rfl⟩ (hO0.recv hK rfl) (hB1) rfl rfl hl.1 (Nat.le_of_ble_eq_true rfl) d_B_name_2 ⟨Nat.zero_le _, Nat.zero_le _⟩ ?_
  refine lv_iload_n hx hb d_B_name_5 rfl (lv_at hl 3 rfl) ?_
  refine lv_iload hx hb d_B_name_6 (lv_at hl 4 rfl) ?_
  exact z_thS (n := 2) (rest := []) ⟨hx, hb, hml, hown, hts⟩ hW0 hno hlocks (t_B_requireSpan3 G hT f t hd1 hd2 hlt) w_197 w_195 w_196 w_1 (by decide +kernel) ⟨rfl, rfl, Nat.le_of_ble_eq_true rfl, Nat.le_of_ble_eq_true rfl⟩ (hOld) rfl rfl hl.1 (Nat.le_of_ble_eq_true rfl) d_B_name_8 ⟨Nat.le_of_ble_eq_true rfl, Nat.le_of_ble_eq_true rfl⟩
set_option maxRecDepth 100000 in
set_option maxHeartbeats 4000000 in
theorem t_B_name_5 (G : z_G s0 (dC, dI) cI cS) (hT : z_T s0 l) (A : Nat → Nat) (np ns nc nn nm : Nat) (fv : Nat → Nat → Int32) (so sf st : Nat → Int32) (sn sc : Nat → Nat) (sp : Nat → Option Nat) (sx sy : Nat → Nat → Int32) (k : Nat) (hk : k < np) (n0 : Int32) (f t : Int32) (hd1 : z_day f) (hd2 : z_day t) (hle : f ≤ t) (hneg : ¬ 0 ≤ n0) : xt_Met l y_B_name [Cond.code y_B_name b_B_name 5 none] ({ frames := 6, cells := 1, slots := 6, locals := 82 }) (z_Pc s0 [.ref (A 0), .int (nI k), .int n0, .int f, .int t] (fun H => z_Old s0 H ∧ z_BD (dC, dI) cI cS H A np ns nc nn nm fv so sf st sn sc sp sx sy)) "java/lang/IllegalArgumentException" := by
  refine z_ofWX (by decide +kernel) (Nat.le_of_ble_eq_true rfl) ?_
  intro p e s m below meth c hx hb hml hadm hown hlocks hno hW0 hB ls hl
  have hts := z_hts (args := [.ref (A 0), .int (nI k), .int n0, .int f, .int t].toArray) G.1 hW0
  have hN := z_nstW G.2.1 hW0
  have hK := va_K.moved hW0.alike G.2.2.1
  have hAI := arrOfT_moved hW0.alike G.2.2.2.1
  have hl : lv_has ls 5 [(0, .ref (A 0)), (1, .int (nI k)), (2, .int n0), (3, .int f), (4, .int t)] := hl
  obtain ⟨hOld, hB1⟩ := id hB
  obtain ⟨⟨hO0, hO1, hO2, hB3, hFA, hSH⟩, hinj, ⟨hnp, hns, hnn, hnm, hnc⟩, hsb⟩ := id hB1
  have hAS := arrOfT_moved hW0.alike G.2.2.2.2.1
  refine lv_aload_n hx hb d_B_name_0 rfl (lv_at hl 0 rfl) ?_
  refine lv_iload_n hx hb d_B_name_1 rfl (lv_at hl 1 rfl) ?_
  refine z_rdVv (n := 1) (C := R_B) (rest := []) ⟨hx, hb, hml, hown, hts⟩ hW0 (c_B_requirePlace G A np ns nc nn nm fv so sf st sn sc sp sx sy k (by omega)) w_102 w_99 w_101 wp_0 w_1 (by decide +kernel) ⟨rfl, rfl, Nat.le_of_ble_eq_true rfl, Nat.le_of_ble_eq_true rfl⟩ (hO0.recv hK rfl) (hB1) rfl rfl hl.1 (Nat.le_of_ble_eq_true rfl) d_B_name_2 ⟨Nat.zero_le _, Nat.zero_le _⟩ ?_
  refine lv_iload_n hx hb d_B_name_5 rfl (lv_at hl 3 rfl) ?_
  refine lv_iload hx hb d_B_name_6 (lv_at hl 4 rfl) ?_
  refine z_rdSv (n := 2) (rest := []) ⟨hx, hb, hml, hown, hts⟩ hW0 (c_B_requireSpan G f t hd1 hd2 hle) w_197 w_195 w_196 w_1 (by decide +kernel) ⟨rfl, rfl, Nat.le_of_ble_eq_true rfl, Nat.le_of_ble_eq_true rfl⟩ (trivial) rfl rfl hl.1 (Nat.le_of_ble_eq_true rfl) d_B_name_8 ⟨Nat.zero_le _, Nat.zero_le _⟩ ?_
  refine lv_iload_n hx hb d_B_name_11 rfl (lv_at hl 2 rfl) ?_
  refine lv_if_ge (tgt := 25) hx hb d_B_name_12 (by decide) (fun c_1 => ?_) (fun c_1 => ?_)
  · skip
    have c_1' : ¬ (n0 < (0 : Int32)) := Int32.not_lt.mpr c_1
    exact absurd c_1 hneg
  · skip
    have c_1' : n0 < (0 : Int32) := Int32.not_le.mp c_1
    exact xt_new hx hb hT.1 hown hW0 hOld (by decide +kernel) hT.2.1.2.2.1 k_B_IAE k_7 (hT.2.2 (R_B, 129, "a name is below 0") (List.mem_of_getElem? (i := 9) rfl)) (hts _ w_202) (hts _ w_10) hno hlocks (hl.1.trans hml.symm) d_B_name_15 d_B_name_18 d_B_name_19 d_B_name_21 d_B_name_24 (Nat.le_of_ble_eq_true rfl) (Nat.le_of_ble_eq_true rfl) (Nat.le_of_ble_eq_true rfl) (Nat.le_of_ble_eq_true rfl)
set_option maxRecDepth 100000 in
set_option maxHeartbeats 4000000 in
theorem t_B_name_6 (G : z_G s0 (dC, dI) cI cS) (hT : z_T s0 l) (A : Nat → Nat) (np ns nc nn nm : Nat) (fv : Nat → Nat → Int32) (so sf st : Nat → Int32) (sn sc : Nat → Nat) (sp : Nat → Option Nat) (sx sy : Nat → Nat → Int32) (k : Nat) (hk : k < np) (n0 : Int32) (f t : Int32) (hd1 : z_day f) (hd2 : z_day t) (hle : f ≤ t) (hnn0 : 0 ≤ n0) (hfull : 40 ≤ nn) : xt_Met l y_B_name [Cond.code y_B_name b_B_name 5 none] ({ frames := 6, cells := 1, slots := 6, locals := 82 }) (z_Pc s0 [.ref (A 0), .int (nI k), .int n0, .int f, .int t] (fun H => z_Old s0 H ∧ z_BD (dC, dI) cI cS H A np ns nc nn nm fv so sf st sn sc sp sx sy)) "java/lang/IllegalStateException" := by
  refine z_ofWX (by decide +kernel) (Nat.le_of_ble_eq_true rfl) ?_
  intro p e s m below meth c hx hb hml hadm hown hlocks hno hW0 hB ls hl
  have hts := z_hts (args := [.ref (A 0), .int (nI k), .int n0, .int f, .int t].toArray) G.1 hW0
  have hN := z_nstW G.2.1 hW0
  have hK := va_K.moved hW0.alike G.2.2.1
  have hAI := arrOfT_moved hW0.alike G.2.2.2.1
  have hl : lv_has ls 5 [(0, .ref (A 0)), (1, .int (nI k)), (2, .int n0), (3, .int f), (4, .int t)] := hl
  obtain ⟨hOld, hB1⟩ := id hB
  obtain ⟨⟨hO0, hO1, hO2, hB3, hFA, hSH⟩, hinj, ⟨hnp, hns, hnn, hnm, hnc⟩, hsb⟩ := id hB1
  have hAS := arrOfT_moved hW0.alike G.2.2.2.2.1
  have hNm : z_Nm (dC, dI) cI s.heap (A 1) (A 5) (A 6) (A 7) (A 8) nn (fv 1) (fv 2) (fv 3) (fv 4) := ⟨hO1, hFA 1 (by omega), hFA 2 (by omega), hFA 3 (by omega), hFA 4 (by omega)⟩
  refine lv_aload_n hx hb d_B_name_0 rfl (lv_at hl 0 rfl) ?_
  refine lv_iload_n hx hb d_B_name_1 rfl (lv_at hl 1 rfl) ?_
  refine z_rdVv (n := 1) (C := R_B) (rest := []) ⟨hx, hb, hml, hown, hts⟩ hW0 (c_B_requirePlace G A np ns nc nn nm fv so sf st sn sc sp sx sy k (by omega)) w_102 w_99 w_101 wp_0 w_1 (by decide +kernel) ⟨rfl, rfl, Nat.le_of_ble_eq_true rfl, Nat.le_of_ble_eq_true rfl⟩ (hO0.recv hK rfl) (hB1) rfl rfl hl.1 (Nat.le_of_ble_eq_true rfl) d_B_name_2 ⟨Nat.zero_le _, Nat.zero_le _⟩ ?_
  refine lv_iload_n hx hb d_B_name_5 rfl (lv_at hl 3 rfl) ?_
  refine lv_iload hx hb d_B_name_6 (lv_at hl 4 rfl) ?_
  refine z_rdSv (n := 2) (rest := []) ⟨hx, hb, hml, hown, hts⟩ hW0 (c_B_requireSpan G f t hd1 hd2 hle) w_197 w_195 w_196 w_1 (by decide +kernel) ⟨rfl, rfl, Nat.le_of_ble_eq_true rfl, Nat.le_of_ble_eq_true rfl⟩ (trivial) rfl rfl hl.1 (Nat.le_of_ble_eq_true rfl) d_B_name_8 ⟨Nat.zero_le _, Nat.zero_le _⟩ ?_
  refine lv_iload_n hx hb d_B_name_11 rfl (lv_at hl 2 rfl) ?_
  refine lv_if_ge (tgt := 25) hx hb d_B_name_12 (by decide) (fun c_1 => ?_) (fun c_1 => ?_)
  · skip
    have c_1' : ¬ (n0 < (0 : Int32)) := Int32.not_lt.mpr c_1
    refine lv_aload_n hx hb d_B_name_25 rfl (lv_at hl 0 rfl) ?_
    refine va_get (D := (dC, dI)) (ci := 3) (v := .ref (A 1)) (C := R_B) (T := T_B) (N := 7) hx hb hts in_B hown hK hO0.P 0 rfl rfl 5 (by decide) (hts _ w_73) (fun _ h9 => h9) rfl d_B_name_26 ?_
    refine z_rdV (n := 0) (C := R_N) (rest := []) ⟨hx, hb, hml, hown, hts⟩ hW0 (c_N_isFull G (A 1) (A 5) (A 6) (A 7) (A 8) nn (fv 1) (fv 2) (fv 3) (fv 4) hnn) w_451 w_448 w_449 w_450 w_2 (by decide +kernel) ⟨rfl, rfl, Nat.le_of_ble_eq_true rfl, Nat.le_of_ble_eq_true rfl⟩ (hO1.recv hK rfl) (hNm) rfl rfl hl.1 (Nat.le_of_ble_eq_true rfl) d_B_name_29 ⟨Nat.zero_le _, Nat.zero_le _⟩ ?_
    refine lv_if_eq (tgt := 45) hx hb d_B_name_32 (by decide) (fun c_2 => ?_) (fun c_2 => ?_)
    · skip
      have c_2 : ¬ (40 ≤ nn) := of_decide_eq_false (pi_b_0.mp c_2)
      exact absurd hfull c_2
    · skip
      have c_2 : (40 ≤ nn) := of_decide_eq_true (pi_b_1.mp c_2)
      exact xt_new hx hb hT.1 hown hW0 hOld (by decide +kernel) hT.2.1.2.1 k_B_ISE k_7 (hT.2.2 (R_B, 133, "there are 40 names") (List.mem_of_getElem? (i := 10) rfl)) (hts _ w_171) (hts _ w_9) hno hlocks (hl.1.trans hml.symm) d_B_name_35 d_B_name_38 d_B_name_39 d_B_name_41 d_B_name_44 (Nat.le_of_ble_eq_true rfl) (Nat.le_of_ble_eq_true rfl) (Nat.le_of_ble_eq_true rfl) (Nat.le_of_ble_eq_true rfl)
  · skip
    have c_1' : n0 < (0 : Int32) := Int32.not_le.mp c_1
    exact absurd hnn0 c_1
set_option maxRecDepth 100000 in
set_option maxHeartbeats 4000000 in
theorem t_B_mark_1 (G : z_G s0 (dC, dI) cI cS) (hT : z_T s0 l) (A : Nat → Nat) (np ns nc nn nm : Nat) (fv : Nat → Nat → Int32) (so sf st : Nat → Int32) (sn sc : Nat → Nat) (sp : Nat → Option Nat) (sx sy : Nat → Nat → Int32) (x y u v : Int32) (hp : ¬ z_pt x y) : xt_Met l y_B_mark [Cond.code y_B_mark b_B_mark 5 (some .int)] ({ frames := 7, cells := 1, slots := 6, locals := 103 }) (z_Pc s0 [.ref (A 0), .int x, .int y, .int u, .int v] (fun H => z_Old s0 H ∧ z_BD (dC, dI) cI cS H A np ns nc nn nm fv so sf st sn sc sp sx sy)) "java/lang/IllegalArgumentException" := by
  refine z_ofWX (by decide +kernel) (Nat.le_of_ble_eq_true rfl) ?_
  intro p e s m below meth c hx hb hml hadm hown hlocks hno hW0 hB ls hl
  have hts := z_hts (args := [.ref (A 0), .int x, .int y, .int u, .int v].toArray) G.1 hW0
  have hN := z_nstW G.2.1 hW0
  have hK := va_K.moved hW0.alike G.2.2.1
  have hAI := arrOfT_moved hW0.alike G.2.2.2.1
  have hl : lv_has ls 5 [(0, .ref (A 0)), (1, .int x), (2, .int y), (3, .int u), (4, .int v)] := hl
  obtain ⟨hOld, hB1⟩ := id hB
  obtain ⟨⟨hO0, hO1, hO2, hB3, hFA, hSH⟩, hinj, ⟨hnp, hns, hnn, hnm, hnc⟩, hsb⟩ := id hB1
  have hAS := arrOfT_moved hW0.alike G.2.2.2.2.1
  refine lv_iload_n hx hb d_B_mark_0 rfl (lv_at hl 1 rfl) ?_
  refine lv_iload_n hx hb d_B_mark_1 rfl (lv_at hl 2 rfl) ?_
  exact z_thS (n := 2) (rest := []) ⟨hx, hb, hml, hown, hts⟩ hW0 hno hlocks (t_B_requirePoint G hT x y hp) w_271 w_269 w_270 w_1 (by decide +kernel) ⟨rfl, rfl, Nat.le_of_ble_eq_true rfl, Nat.le_of_ble_eq_true rfl⟩ (hOld) rfl rfl hl.1 (Nat.le_of_ble_eq_true rfl) d_B_mark_2 ⟨Nat.le_of_ble_eq_true rfl, Nat.le_of_ble_eq_true rfl⟩
set_option maxRecDepth 100000 in
set_option maxHeartbeats 4000000 in
theorem t_B_mark_2 (G : z_G s0 (dC, dI) cI cS) (hT : z_T s0 l) (A : Nat → Nat) (np ns nc nn nm : Nat) (fv : Nat → Nat → Int32) (so sf st : Nat → Int32) (sn sc : Nat → Nat) (sp : Nat → Option Nat) (sx sy : Nat → Nat → Int32) (x y u v : Int32) (hp : z_pt x y) (hp2 : ¬ z_pt u v) : xt_Met l y_B_mark [Cond.code y_B_mark b_B_mark 5 (some .int)] ({ frames := 7, cells := 1, slots := 6, locals := 103 }) (z_Pc s0 [.ref (A 0), .int x, .int y, .int u, .int v] (fun H => z_Old s0 H ∧ z_BD (dC, dI) cI cS H A np ns nc nn nm fv so sf st sn sc sp sx sy)) "java/lang/IllegalArgumentException" := by
  refine z_ofWX (by decide +kernel) (Nat.le_of_ble_eq_true rfl) ?_
  intro p e s m below meth c hx hb hml hadm hown hlocks hno hW0 hB ls hl
  have hts := z_hts (args := [.ref (A 0), .int x, .int y, .int u, .int v].toArray) G.1 hW0
  have hN := z_nstW G.2.1 hW0
  have hK := va_K.moved hW0.alike G.2.2.1
  have hAI := arrOfT_moved hW0.alike G.2.2.2.1
  have hl : lv_has ls 5 [(0, .ref (A 0)), (1, .int x), (2, .int y), (3, .int u), (4, .int v)] := hl
  obtain ⟨hOld, hB1⟩ := id hB
  obtain ⟨⟨hO0, hO1, hO2, hB3, hFA, hSH⟩, hinj, ⟨hnp, hns, hnn, hnm, hnc⟩, hsb⟩ := id hB1
  have hAS := arrOfT_moved hW0.alike G.2.2.2.2.1
  refine lv_iload_n hx hb d_B_mark_0 rfl (lv_at hl 1 rfl) ?_
  refine lv_iload_n hx hb d_B_mark_1 rfl (lv_at hl 2 rfl) ?_
  refine z_rdSv (n := 2) (rest := []) ⟨hx, hb, hml, hown, hts⟩ hW0 (c_B_requirePoint G x y hp) w_271 w_269 w_270 w_1 (by decide +kernel) ⟨rfl, rfl, Nat.le_of_ble_eq_true rfl, Nat.le_of_ble_eq_true rfl⟩ (trivial) rfl rfl hl.1 (Nat.le_of_ble_eq_true rfl) d_B_mark_2 ⟨Nat.zero_le _, Nat.zero_le _⟩ ?_
  refine lv_iload_n hx hb d_B_mark_5 rfl (lv_at hl 3 rfl) ?_
  refine lv_iload hx hb d_B_mark_6 (lv_at hl 4 rfl) ?_
  exact z_thS (n := 2) (rest := []) ⟨hx, hb, hml, hown, hts⟩ hW0 hno hlocks (t_B_requirePoint G hT u v hp2) w_271 w_269 w_270 w_1 (by decide +kernel) ⟨rfl, rfl, Nat.le_of_ble_eq_true rfl, Nat.le_of_ble_eq_true rfl⟩ (hOld) rfl rfl hl.1 (Nat.le_of_ble_eq_true rfl) d_B_mark_8 ⟨Nat.le_of_ble_eq_true rfl, Nat.le_of_ble_eq_true rfl⟩
set_option maxRecDepth 100000 in
set_option maxHeartbeats 4000000 in
theorem t_B_mark_3 (G : z_G s0 (dC, dI) cI cS) (hT : z_T s0 l) (A : Nat → Nat) (np ns nc nn nm : Nat) (fv : Nat → Nat → Int32) (so sf st : Nat → Int32) (sn sc : Nat → Nat) (sp : Nat → Option Nat) (sx sy : Nat → Nat → Int32) (x y u v : Int32) (hp : z_pt x y) (hp2 : z_pt u v) (hfull : 12 ≤ nm) : xt_Met l y_B_mark [Cond.code y_B_mark b_B_mark 5 (some .int)] ({ frames := 6, cells := 1, slots := 6, locals := 82 }) (z_Pc s0 [.ref (A 0), .int x, .int y, .int u, .int v] (fun H => z_Old s0 H ∧ z_BD (dC, dI) cI cS H A np ns nc nn nm fv so sf st sn sc sp sx sy)) "java/lang/IllegalStateException" := by
  refine z_ofWX (by decide +kernel) (Nat.le_of_ble_eq_true rfl) ?_
  intro p e s m below meth c hx hb hml hadm hown hlocks hno hW0 hB ls hl
  have hts := z_hts (args := [.ref (A 0), .int x, .int y, .int u, .int v].toArray) G.1 hW0
  have hN := z_nstW G.2.1 hW0
  have hK := va_K.moved hW0.alike G.2.2.1
  have hAI := arrOfT_moved hW0.alike G.2.2.2.1
  have hl : lv_has ls 5 [(0, .ref (A 0)), (1, .int x), (2, .int y), (3, .int u), (4, .int v)] := hl
  obtain ⟨hOld, hB1⟩ := id hB
  obtain ⟨⟨hO0, hO1, hO2, hB3, hFA, hSH⟩, hinj, ⟨hnp, hns, hnn, hnm, hnc⟩, hsb⟩ := id hB1
  have hAS := arrOfT_moved hW0.alike G.2.2.2.2.1
  have hOm : z_Om (dC, dI) cI s.heap (A 2) (A 9) (A 10) (A 11) (A 12) nm (fv 5) (fv 6) (fv 7) (fv 8) := ⟨hO2, hFA 5 (by omega), hFA 6 (by omega), hFA 7 (by omega), hFA 8 (by omega)⟩
  refine lv_iload_n hx hb d_B_mark_0 rfl (lv_at hl 1 rfl) ?_
  refine lv_iload_n hx hb d_B_mark_1 rfl (lv_at hl 2 rfl) ?_
  refine z_rdSv (n := 2) (rest := []) ⟨hx, hb, hml, hown, hts⟩ hW0 (c_B_requirePoint G x y hp) w_271 w_269 w_270 w_1 (by decide +kernel) ⟨rfl, rfl, Nat.le_of_ble_eq_true rfl, Nat.le_of_ble_eq_true rfl⟩ (trivial) rfl rfl hl.1 (Nat.le_of_ble_eq_true rfl) d_B_mark_2 ⟨Nat.zero_le _, Nat.zero_le _⟩ ?_
  refine lv_iload_n hx hb d_B_mark_5 rfl (lv_at hl 3 rfl) ?_
  refine lv_iload hx hb d_B_mark_6 (lv_at hl 4 rfl) ?_
  refine z_rdSv (n := 2) (rest := []) ⟨hx, hb, hml, hown, hts⟩ hW0 (c_B_requirePoint G u v hp2) w_271 w_269 w_270 w_1 (by decide +kernel) ⟨rfl, rfl, Nat.le_of_ble_eq_true rfl, Nat.le_of_ble_eq_true rfl⟩ (trivial) rfl rfl hl.1 (Nat.le_of_ble_eq_true rfl) d_B_mark_8 ⟨Nat.zero_le _, Nat.zero_le _⟩ ?_
  refine lv_aload_n hx hb d_B_mark_11 rfl (lv_at hl 0 rfl) ?_
  refine va_get (D := (dC, dI)) (ci := 3) (v := .ref (A 2)) (C := R_B) (T := T_B) (N := 7) hx hb hts in_B hown hK hO0.P 0 rfl rfl 6 (by decide) (hts _ w_74) (fun _ h9 => h9) rfl d_B_mark_12 ?_
  refine z_rdV (n := 0) (C := R_O) (rest := []) ⟨hx, hb, hml, hown, hts⟩ hW0 (c_O_isFull G (A 2) (A 9) (A 10) (A 11) (A 12) nm (fv 5) (fv 6) (fv 7) (fv 8) hnm) w_478 w_475 w_476 w_477 w_3 (by decide +kernel) ⟨rfl, rfl, Nat.le_of_ble_eq_true rfl, Nat.le_of_ble_eq_true rfl⟩ (hO2.recv hK rfl) (hOm) rfl rfl hl.1 (Nat.le_of_ble_eq_true rfl) d_B_mark_15 ⟨Nat.zero_le _, Nat.zero_le _⟩ ?_
  refine lv_if_eq (tgt := 31) hx hb d_B_mark_18 (by decide) (fun c_1 => ?_) (fun c_1 => ?_)
  · skip
    have c_1 : ¬ (12 ≤ nm) := of_decide_eq_false (pi_b_0.mp c_1)
    exact absurd hfull c_1
  · skip
    have c_1 : (12 ≤ nm) := of_decide_eq_true (pi_b_1.mp c_1)
    exact xt_new hx hb hT.1 hown hW0 hOld (by decide +kernel) hT.2.1.2.1 k_B_ISE k_7 (hT.2.2 (R_B, 142, "there are twelve marks") (List.mem_of_getElem? (i := 11) rfl)) (hts _ w_171) (hts _ w_9) hno hlocks (hl.1.trans hml.symm) d_B_mark_21 d_B_mark_24 d_B_mark_25 d_B_mark_27 d_B_mark_30 (Nat.le_of_ble_eq_true rfl) (Nat.le_of_ble_eq_true rfl) (Nat.le_of_ble_eq_true rfl) (Nat.le_of_ble_eq_true rfl)
set_option maxRecDepth 100000 in
set_option maxHeartbeats 4000000 in
theorem c_B_masked (G : z_G s0 (dC, dI) cI cS) (A : Nat → Nat) (np ns nc nn nm : Nat) (fv : Nat → Nat → Int32) (so sf st : Nat → Int32) (sn sc : Nat → Nat) (sp : Nat → Option Nat) (sx sy : Nat → Nat → Int32) (x y z : Int32) (a0 : Int32) (hax : a0 = 0 ∨ a0 = 1) (hp : z_pt x y) (hz1 : 1 ≤ z) (hz2 : z ≤ 10000) : Met l y_B_masked [Cond.code y_B_masked b_B_masked 5 (some .int)] ({ frames := 1, cells := 0, slots := 0, locals := 22 }) (z_Pc s0 [.ref (A 0), .int x, .int y, .int z, .int a0] (fun H => z_BD (dC, dI) cI cS H A np ns nc nn nm fv so sf st sn sc sp sx sy)) (z_Qr (some (.int (pl_fdi (if a0 = 0 then x else y) z * z)))) 0 0 z_no := by
  refine z_ofW (by decide +kernel) (Nat.le_of_ble_eq_true rfl) ?_
  intro p e s m below meth c hx hb hml hr hown hlocks hnm hW0 hB ls hl
  have hts := z_hts (args := [.ref (A 0), .int x, .int y, .int z, .int a0].toArray) G.1 hW0
  have hN := z_nstW G.2.1 hW0
  have hK := va_K.moved hW0.alike G.2.2.1
  have hAI := arrOfT_moved hW0.alike G.2.2.2.1
  have hl : lv_has ls 5 [(0, .ref (A 0)), (1, .int x), (2, .int y), (3, .int z), (4, .int a0)] := hl
  obtain ⟨⟨hO0, hO1, hO2, hB3, hFA, hSH⟩, hinj, ⟨hnp, hns, hnn, hnm, hnc⟩, hsb⟩ := id hB
  have hAS := arrOfT_moved hW0.alike G.2.2.2.2.1
  refine lv_iload hx hb d_B_masked_0 (lv_at hl 4 rfl) ?_
  refine z_rdSv (n := 1) (rest := []) ⟨hx, hb, hml, hown, hts⟩ hW0 (c_B_requireAxis G a0 hax) w_493 w_491 w_492 w_1 (by decide +kernel) ⟨rfl, rfl, Nat.le_of_ble_eq_true rfl, Nat.le_of_ble_eq_true rfl⟩ (trivial) rfl rfl hl.1 (Nat.le_of_ble_eq_true rfl) d_B_masked_2 ⟨Nat.zero_le _, Nat.zero_le _⟩ ?_
  refine lv_iload_n hx hb d_B_masked_5 rfl (lv_at hl 1 rfl) ?_
  refine lv_iload_n hx hb d_B_masked_6 rfl (lv_at hl 2 rfl) ?_
  refine z_rdSv (n := 2) (rest := []) ⟨hx, hb, hml, hown, hts⟩ hW0 (c_B_requirePoint G x y hp) w_271 w_269 w_270 w_1 (by decide +kernel) ⟨rfl, rfl, Nat.le_of_ble_eq_true rfl, Nat.le_of_ble_eq_true rfl⟩ (trivial) rfl rfl hl.1 (Nat.le_of_ble_eq_true rfl) d_B_masked_7 ⟨Nat.zero_le _, Nat.zero_le _⟩ ?_
  refine lv_iload_n hx hb d_B_masked_10 rfl (lv_at hl 3 rfl) ?_
  refine lv_iconst (v := 1) hx hb d_B_masked_11 (by decide) ?_
  refine lv_icmp_lt (tgt := 22) hx hb d_B_masked_12 (by decide) (fun c_1 => ?_) (fun c_1 => ?_)
  · skip
    have c_1' : ¬ ((1 : Int32) ≤ z) := Int32.not_le.mpr c_1
    exfalso
    exact absurd hz1 c_1'
  · skip
    have c_1' : (1 : Int32) ≤ z := Int32.not_lt.mp c_1
    refine lv_iload_n hx hb d_B_masked_15 rfl (lv_at hl 3 rfl) ?_
    refine lv_sipush (v := 10000) hx hb d_B_masked_16 (by decide) ?_
    refine lv_icmp_le (tgt := 32) hx hb d_B_masked_19 (by decide) (fun c_2 => ?_) (fun c_2 => ?_)
    · skip
      have c_2' : ¬ ((10000 : Int32) < z) := Int32.not_lt.mpr c_2
      refine lv_iload hx hb d_B_masked_32 (lv_at hl 4 rfl) ?_
      refine lv_if_ne (tgt := 41) hx hb d_B_masked_34 (by decide) (fun c_3 => ?_) (fun c_3 => ?_)
      · skip
        refine lv_iload_n hx hb d_B_masked_41 rfl (lv_at hl 2 rfl) ?_
        refine lv_iload_n hx hb d_B_masked_42 rfl (lv_at hl 3 rfl) ?_
        refine z_rdS (n := 2) (rest := []) ⟨hx, hb, hml, hown, hts⟩ hW0 (c_J_floorDiv_II G y z (fun h => absurd hz1 (by rw [h]; decide))) w_533 w_531 w_532 w_12 (by decide +kernel) ⟨rfl, rfl, Nat.le_of_ble_eq_true rfl, Nat.le_of_ble_eq_true rfl⟩ (trivial) rfl rfl hl.1 (Nat.le_of_ble_eq_true rfl) d_B_masked_43 ⟨Nat.zero_le _, Nat.zero_le _⟩ ?_
        refine lv_iload_n hx hb d_B_masked_46 rfl (lv_at hl 3 rfl) ?_
        refine lv_imul hx hb d_B_masked_47 ?_
        exact z_iret hx hb hr hlocks (by simp [c_3]) d_B_masked_48
      · skip
        refine lv_iload_n hx hb d_B_masked_37 rfl (lv_at hl 1 rfl) ?_
        refine lv_goto (tgt := 42) hx hb d_B_masked_38 (by decide) ?_
        refine lv_iload_n hx hb d_B_masked_42 rfl (lv_at hl 3 rfl) ?_
        refine z_rdS (n := 2) (rest := []) ⟨hx, hb, hml, hown, hts⟩ hW0 (c_J_floorDiv_II G x z (fun h => absurd hz1 (by rw [h]; decide))) w_533 w_531 w_532 w_12 (by decide +kernel) ⟨rfl, rfl, Nat.le_of_ble_eq_true rfl, Nat.le_of_ble_eq_true rfl⟩ (trivial) rfl rfl hl.1 (Nat.le_of_ble_eq_true rfl) d_B_masked_43 ⟨Nat.zero_le _, Nat.zero_le _⟩ ?_
        refine lv_iload_n hx hb d_B_masked_46 rfl (lv_at hl 3 rfl) ?_
        refine lv_imul hx hb d_B_masked_47 ?_
        exact z_iret hx hb hr hlocks (by simp [c_3]) d_B_masked_48
    · skip
      have c_2' : (10000 : Int32) < z := Int32.not_le.mp c_2
      exfalso
      exact absurd hz2 c_2
end S7
end
section
theorem po_or_as (a b c : Option (Nat × Nat × Nat)) : po_or (po_or a b) c = po_or a (po_or b c) := by cases a <;> rfl
section S8
variable {s0 : State} {dC : Nat → ClassId} {dI : Nat → Nat → Nat} {cI cS : ClassId} {l : Launch}
set_option maxRecDepth 100000 in
set_option maxHeartbeats 4000000 in
theorem c_O_find (G : z_G s0 (dC, dI) cI cS) (a b1 b2 b3 b4 n : Nat) (mx my px py : Nat → Int32) (x y a0 : Int32) (t0 : Nat × Nat × Nat) (hn : n ≤ 12) (hf : po_fi mx my x y n n 0 = some t0) (hq : ∀ i j k : Nat, i < 12 → j < 12 → k < 12 → ¬ po_sh mx my j k x y + po_sh mx my k i x y + po_sh mx my i j x y = 0 → ¬ 2 * (if 0 < po_sh mx my j k x y + po_sh mx my k i x y + po_sh mx my i j x y then po_sh mx my j k x y + po_sh mx my k i x y + po_sh mx my i j x y else -(po_sh mx my j k x y + po_sh mx my k i x y + po_sh mx my i j x y)) = 0) : Met l y_O_find [Cond.code y_O_find b_O_find 8 (some .int)] ({ frames := 3, cells := 0, slots := 0, locals := 84 }) (z_Pc s0 [.ref a, .int x, .int y, .int a0] (fun H => z_Om (dC, dI) cI H a b1 b2 b3 b4 n mx my px py)) (z_Qr (some (.int (po_val mx my (if a0 = 0 then px else py) t0.1 t0.2.1 t0.2.2 x y)))) 0 0 z_no := by
  refine z_ofW (by decide +kernel) (Nat.le_of_ble_eq_true rfl) ?_
  intro p e s m below meth c hx hb hml hr hown hlocks hnm hW0 hB ls hl
  have hts := z_hts (args := [.ref a, .int x, .int y, .int a0].toArray) G.1 hW0
  have hN := z_nstW G.2.1 hW0
  have hK := va_K.moved hW0.alike G.2.2.1
  have hAI := arrOfT_moved hW0.alike G.2.2.2.1
  have hl : lv_has ls 8 [(0, .ref a), (1, .int x), (2, .int y), (3, .int a0)] := hl
  have hOm := hB
  obtain ⟨hO, hA1, hA2, hA3, hA4⟩ := id hB
  have loops : ∀ f : Nat, (∀ (i : Nat), (n - i) * 400 + 399 < f → (i ≤ n) → (po_fi mx my x y n (n - i) i = some t0) → ∀ ls : Array Slot, lv_has ls 8 [(0, .ref a), (1, .int x), (2, .int y), (3, .int a0), (4, .int (nI i))] → W p l e ({ frames := 3, cells := 0, slots := 0, locals := 84 }) s m [.ref a, .int x, .int y, .int a0].toArray below meth c s.heap [] 0 0 (MQ below (z_Qr (some (.int (po_val mx my (if a0 = 0 then px else py) t0.1 t0.2.1 t0.2.2 x y)))) [.ref a, .int x, .int y, .int a0].toArray s 0 0 z_no) (F0 m 3 ls [])) ∧ (∀ (i j : Nat), (n - i) * 400 + (n - j) * 20 + 19 < f → (i < n) → (j ≤ n) → (po_or (po_fj mx my x y n i (n - j) j) (po_fi mx my x y n (n - (i + 1)) (i + 1)) = some t0) → ∀ ls : Array Slot, lv_has ls 8 [(0, .ref a), (1, .int x), (2, .int y), (3, .int a0), (4, .int (nI i)), (5, .int (nI j))] → W p l e ({ frames := 3, cells := 0, slots := 0, locals := 84 }) s m [.ref a, .int x, .int y, .int a0].toArray below meth c s.heap [] 0 0 (MQ below (z_Qr (some (.int (po_val mx my (if a0 = 0 then px else py) t0.1 t0.2.1 t0.2.2 x y)))) [.ref a, .int x, .int y, .int a0].toArray s 0 0 z_no) (F0 m 18 ls [])) ∧ (∀ (i j k : Nat), (n - i) * 400 + (n - j) * 20 + (n - k) < f → (i < n) → (j < n) → (k ≤ n) → (po_or (po_fk mx my x y i j (n - k) k) (po_or (po_fj mx my x y n i (n - (j + 1)) (j + 1)) (po_fi mx my x y n (n - (i + 1)) (i + 1))) = some t0) → ∀ ls : Array Slot, lv_has ls 8 [(0, .ref a), (1, .int x), (2, .int y), (3, .int a0), (4, .int (nI i)), (5, .int (nI j)), (6, .int (nI k))] → W p l e ({ frames := 3, cells := 0, slots := 0, locals := 84 }) s m [.ref a, .int x, .int y, .int a0].toArray below meth c s.heap [] 0 0 (MQ below (z_Qr (some (.int (po_val mx my (if a0 = 0 then px else py) t0.1 t0.2.1 t0.2.2 x y)))) [.ref a, .int x, .int y, .int a0].toArray s 0 0 z_no) (F0 m 33 ls [])) := by
    intro f
    induction f with
    | zero => exact ⟨fun _ h => absurd h (Nat.not_lt_zero _), fun _ _ h => absurd h (Nat.not_lt_zero _), fun _ _ _ h => absurd h (Nat.not_lt_zero _)⟩
    | succ f ih =>
      refine ⟨?_, ?_, ?_⟩
      · skip
        intro i hmu hi hres ls hl
        refine lv_iload hx hb d_O_find_3 (lv_at hl 4 rfl) ?_
        refine lv_aload_n hx hb d_O_find_5 rfl (lv_at hl 0 rfl) ?_
        refine va_get (D := (dC, dI)) (ci := 1) (v := .int (nI n)) (C := R_O) (T := T_O) (N := 5) hx hb hts in_O hown hK hO.P 0 rfl rfl 4 (by decide) (hts _ w_56) (fun _ h9 => h9) rfl d_O_find_6 ?_
        refine lv_icmp_ge (tgt := 107) hx hb d_O_find_9 (by decide) (fun c_101 => ?_) (fun c_101 => ?_)
        · skip
          have c_101 : n ≤ i := (nI_leI (a := n) (b := i) (by omega) (by omega)).mp c_101
          exfalso
          rw [show n - i = 0 by omega] at hres
          simp [po_fi] at hres
        · skip
          have c_101 : ¬ (n ≤ i) := fun h => c_101 ((nI_leI (a := n) (b := i) (by omega) (by omega)).mpr h)
          refine lv_iload hx hb d_O_find_12 (lv_at hl 4 rfl) ?_
          refine lv_iconst (v := 1) hx hb d_O_find_14 (by decide) ?_
          refine lv_iadd hx hb d_O_find_15 ?_
          refine z_topi (y := nI (i + 1)) (nI_add i 1) ?_
          refine lv_istore (lv' := [(5, .int (nI (i + 1))), (0, .ref a), (1, .int x), (2, .int y), (3, .int a0), (4, .int (nI i))]) hx hb d_O_find_16 hl (by decide) rfl (fun ls hl => ?_)
          exact ih.2.1 i (i + 1) (by omega) (by omega) (by omega) (by rw [show n - i = (n - (i + 1)) + 1 by omega] at hres; simpa only [po_fi] using hres) ls (lv_sub hl [1, 2, 3, 4, 5, 0] rfl)
      · skip
        intro i j hmu hi hj hres ls hl
        refine lv_iload hx hb d_O_find_18 (lv_at hl 5 rfl) ?_
        refine lv_aload_n hx hb d_O_find_20 rfl (lv_at hl 0 rfl) ?_
        refine va_get (D := (dC, dI)) (ci := 1) (v := .int (nI n)) (C := R_O) (T := T_O) (N := 5) hx hb hts in_O hown hK hO.P 0 rfl rfl 4 (by decide) (hts _ w_56) (fun _ h9 => h9) rfl d_O_find_21 ?_
        refine lv_icmp_ge (tgt := 101) hx hb d_O_find_24 (by decide) (fun c_201 => ?_) (fun c_201 => ?_)
        · skip
          have c_201 : n ≤ j := (nI_leI (a := n) (b := j) (by omega) (by omega)).mp c_201
          refine lv_iinc (v := nI (i + 1)) (lv' := [(4, .int (nI (i + 1))), (0, .ref a), (1, .int x), (2, .int y), (3, .int a0), (5, .int (nI j))]) hx hb d_O_find_101 hl (k := 4) rfl (nI_1 i) (by decide) rfl (fun ls hl => ?_)
          refine lv_goto (tgt := 3) hx hb d_O_find_104 (by decide) ?_
          exact ih.1 (i + 1) (by omega) (by omega) (by rw [show n - j = 0 by omega] at hres; simpa only [po_fj, po_or] using hres) ls (lv_sub hl [1, 2, 3, 4, 0] rfl)
        · skip
          have c_201 : ¬ (n ≤ j) := fun h => c_201 ((nI_leI (a := n) (b := j) (by omega) (by omega)).mpr h)
          refine lv_iload hx hb d_O_find_27 (lv_at hl 5 rfl) ?_
          refine lv_iconst (v := 1) hx hb d_O_find_29 (by decide) ?_
          refine lv_iadd hx hb d_O_find_30 ?_
          refine z_topi (y := nI (j + 1)) (nI_add j 1) ?_
          refine lv_istore (lv' := [(6, .int (nI (j + 1))), (0, .ref a), (1, .int x), (2, .int y), (3, .int a0), (4, .int (nI i)), (5, .int (nI j))]) hx hb d_O_find_31 hl (by decide) rfl (fun ls hl => ?_)
          exact ih.2.2 i j (j + 1) (by omega) (by omega) (by omega) (by omega) (by rw [show n - j = (n - (j + 1)) + 1 by omega] at hres; simp only [po_fj] at hres; rw [po_or_as] at hres; exact hres) ls (lv_sub hl [1, 2, 3, 4, 5, 6, 0] rfl)
      · skip
        intro i j k hmu hi hj hk hres ls hl
        refine lv_iload hx hb d_O_find_33 (lv_at hl 6 rfl) ?_
        refine lv_aload_n hx hb d_O_find_35 rfl (lv_at hl 0 rfl) ?_
        refine va_get (D := (dC, dI)) (ci := 1) (v := .int (nI n)) (C := R_O) (T := T_O) (N := 5) hx hb hts in_O hown hK hO.P 0 rfl rfl 4 (by decide) (hts _ w_56) (fun _ h9 => h9) rfl d_O_find_36 ?_
        refine lv_icmp_ge (tgt := 95) hx hb d_O_find_39 (by decide) (fun c_301 => ?_) (fun c_301 => ?_)
        · skip
          have c_301 : n ≤ k := (nI_leI (a := n) (b := k) (by omega) (by omega)).mp c_301
          refine lv_iinc (v := nI (j + 1)) (lv' := [(5, .int (nI (j + 1))), (0, .ref a), (1, .int x), (2, .int y), (3, .int a0), (4, .int (nI i)), (6, .int (nI k))]) hx hb d_O_find_95 hl (k := 5) rfl (nI_1 j) (by decide) rfl (fun ls hl => ?_)
          refine lv_goto (tgt := 18) hx hb d_O_find_98 (by decide) ?_
          exact ih.2.1 i (j + 1) (by omega) (by omega) (by omega) (by rw [show n - k = 0 by omega] at hres; simpa only [po_fk, po_or] using hres) ls (lv_sub hl [1, 2, 3, 4, 5, 0] rfl)
        · skip
          have c_301 : ¬ (n ≤ k) := fun h => c_301 ((nI_leI (a := n) (b := k) (by omega) (by omega)).mpr h)
          refine lv_aload_n hx hb d_O_find_42 rfl (lv_at hl 0 rfl) ?_
          refine lv_iload hx hb d_O_find_43 (lv_at hl 4 rfl) ?_
          refine lv_iload hx hb d_O_find_45 (lv_at hl 5 rfl) ?_
          refine lv_iload hx hb d_O_find_47 (lv_at hl 6 rfl) ?_
          refine lv_iload_n hx hb d_O_find_49 rfl (lv_at hl 1 rfl) ?_
          refine lv_iload_n hx hb d_O_find_50 rfl (lv_at hl 2 rfl) ?_
          refine z_rdV (n := 5) (C := R_O) (rest := []) ⟨hx, hb, hml, hown, hts⟩ hW0 (c_O_haveBetween G a b1 b2 b3 b4 n mx my px py i j k x y (by omega) (by omega) (by omega)) w_502 w_499 w_501 wp_15 w_3 (by decide +kernel) ⟨rfl, rfl, Nat.le_of_ble_eq_true rfl, Nat.le_of_ble_eq_true rfl⟩ (hO.recv hK rfl) (hOm) rfl rfl hl.1 (Nat.le_of_ble_eq_true rfl) d_O_find_51 ⟨Nat.zero_le _, Nat.zero_le _⟩ ?_
          refine lv_if_eq (tgt := 89) hx hb d_O_find_54 (by decide) (fun c_302 => ?_) (fun c_302 => ?_)
          · skip
            have c_302 : (po_hb mx my i j k x y) = false := pi_b_0.mp c_302
            refine lv_iinc (v := nI (k + 1)) (lv' := [(6, .int (nI (k + 1))), (0, .ref a), (1, .int x), (2, .int y), (3, .int a0), (4, .int (nI i)), (5, .int (nI j))]) hx hb d_O_find_89 hl (k := 6) rfl (nI_1 k) (by decide) rfl (fun ls hl => ?_)
            refine lv_goto (tgt := 33) hx hb d_O_find_92 (by decide) ?_
            exact ih.2.2 i j (k + 1) (by omega) (by omega) (by omega) (by omega) (by rw [show n - k = (n - (k + 1)) + 1 by omega] at hres; simpa [po_fk, c_302] using hres) ls (lv_sub hl [1, 2, 3, 4, 5, 6, 0] rfl)
          · skip
            have c_302 : (po_hb mx my i j k x y) = true := pi_b_1.mp c_302
            refine lv_iload_n hx hb d_O_find_57 rfl (lv_at hl 3 rfl) ?_
            refine lv_if_ne (tgt := 68) hx hb d_O_find_58 (by decide) (fun c_303 => ?_) (fun c_303 => ?_)
            · skip
              refine lv_aload_n hx hb d_O_find_68 rfl (lv_at hl 0 rfl) ?_
              refine va_get (D := (dC, dI)) (ci := 1) (v := .ref b4) (C := R_O) (T := T_O) (N := 5) hx hb hts in_O hown hK hO.P 0 rfl rfl 3 (by decide) (hts _ w_55) (fun _ h9 => h9) rfl d_O_find_69 ?_
              refine lv_astore (lv' := [(7, .ref b4), (0, .ref a), (1, .int x), (2, .int y), (3, .int a0), (4, .int (nI i)), (5, .int (nI j)), (6, .int (nI k))]) hx hb d_O_find_72 hl (by decide) rfl (fun ls hl => ?_)
              refine lv_aload_n hx hb d_O_find_74 rfl (lv_at hl 1 rfl) ?_
              refine lv_iload hx hb d_O_find_75 (lv_at hl 5 rfl) ?_
              refine lv_iload hx hb d_O_find_77 (lv_at hl 6 rfl) ?_
              refine lv_iload hx hb d_O_find_79 (lv_at hl 7 rfl) ?_
              refine lv_iload_n hx hb d_O_find_81 rfl (lv_at hl 2 rfl) ?_
              refine lv_iload_n hx hb d_O_find_82 rfl (lv_at hl 3 rfl) ?_
              refine lv_aload hx hb d_O_find_83 (lv_at hl 0 rfl) ?_
              refine z_rdV (n := 6) (C := R_O) (rest := []) ⟨hx, hb, hml, hown, hts⟩ hW0 (c_O_valueBetween G a b1 b2 b3 b4 n mx my px py b4 py i j k x y (by omega) (by omega) (by omega) (hq i j k (by omega) (by omega) (by omega))) w_511 w_508 w_510 wp_17 w_3 (by decide +kernel) ⟨rfl, rfl, Nat.le_of_ble_eq_true rfl, Nat.le_of_ble_eq_true rfl⟩ (hO.recv hK rfl) (⟨hOm, hA4⟩) rfl rfl hl.1 (Nat.le_of_ble_eq_true rfl) d_O_find_85 ⟨Nat.zero_le _, Nat.zero_le _⟩ ?_
              exact z_iret hx hb hr hlocks (by rw [show n - k = (n - (k + 1)) + 1 by omega] at hres; simp [po_fk, po_or, c_302] at hres; subst hres; simp [c_303]) d_O_find_88
            · skip
              refine lv_aload_n hx hb d_O_find_61 rfl (lv_at hl 0 rfl) ?_
              refine va_get (D := (dC, dI)) (ci := 1) (v := .ref b3) (C := R_O) (T := T_O) (N := 5) hx hb hts in_O hown hK hO.P 0 rfl rfl 2 (by decide) (hts _ w_54) (fun _ h9 => h9) rfl d_O_find_62 ?_
              refine lv_goto (tgt := 72) hx hb d_O_find_65 (by decide) ?_
              refine lv_astore (lv' := [(7, .ref b3), (0, .ref a), (1, .int x), (2, .int y), (3, .int a0), (4, .int (nI i)), (5, .int (nI j)), (6, .int (nI k))]) hx hb d_O_find_72 hl (by decide) rfl (fun ls hl => ?_)
              refine lv_aload_n hx hb d_O_find_74 rfl (lv_at hl 1 rfl) ?_
              refine lv_iload hx hb d_O_find_75 (lv_at hl 5 rfl) ?_
              refine lv_iload hx hb d_O_find_77 (lv_at hl 6 rfl) ?_
              refine lv_iload hx hb d_O_find_79 (lv_at hl 7 rfl) ?_
              refine lv_iload_n hx hb d_O_find_81 rfl (lv_at hl 2 rfl) ?_
              refine lv_iload_n hx hb d_O_find_82 rfl (lv_at hl 3 rfl) ?_
              refine lv_aload hx hb d_O_find_83 (lv_at hl 0 rfl) ?_
              refine z_rdV (n := 6) (C := R_O) (rest := []) ⟨hx, hb, hml, hown, hts⟩ hW0 (c_O_valueBetween G a b1 b2 b3 b4 n mx my px py b3 px i j k x y (by omega) (by omega) (by omega) (hq i j k (by omega) (by omega) (by omega))) w_511 w_508 w_510 wp_17 w_3 (by decide +kernel) ⟨rfl, rfl, Nat.le_of_ble_eq_true rfl, Nat.le_of_ble_eq_true rfl⟩ (hO.recv hK rfl) (⟨hOm, hA3⟩) rfl rfl hl.1 (Nat.le_of_ble_eq_true rfl) d_O_find_85 ⟨Nat.zero_le _, Nat.zero_le _⟩ ?_
              exact z_iret hx hb hr hlocks (by rw [show n - k = (n - (k + 1)) + 1 by omega] at hres; simp [po_fk, po_or, c_302] at hres; subst hres; simp [c_303]) d_O_find_88
  refine lv_iconst (v := 0) hx hb d_O_find_0 (by decide) ?_
  refine lv_istore (lv' := [(4, .int 0), (0, .ref a), (1, .int x), (2, .int y), (3, .int a0)]) hx hb d_O_find_1 hl (by decide) rfl (fun ls hl => ?_)
  exact (loops (((n - 0) * 400 + 399) + 1)).1 0 (by omega) (by omega) (by simpa using hf) ls (lv_sub hl [1, 2, 3, 4, 0] rfl)
set_option maxRecDepth 100000 in
set_option maxHeartbeats 4000000 in
theorem t_O_find (G : z_G s0 (dC, dI) cI cS) (hT : z_T s0 l) (a b1 b2 b3 b4 n : Nat) (mx my px py : Nat → Int32) (x y a0 : Int32) (hn : n ≤ 12) (hf : po_fi mx my x y n n 0 = none) : xt_Met l y_O_find [Cond.code y_O_find b_O_find 8 (some .int)] ({ frames := 6, cells := 1, slots := 6, locals := 82 }) (z_Pc s0 [.ref a, .int x, .int y, .int a0] (fun H => z_Old s0 H ∧ z_Om (dC, dI) cI H a b1 b2 b3 b4 n mx my px py)) "java/lang/IllegalStateException" := by
  refine z_ofWX (by decide +kernel) (Nat.le_of_ble_eq_true rfl) ?_
  intro p e s m below meth c hx hb hml hadm hown hlocks hno hW0 hB ls hl
  have hts := z_hts (args := [.ref a, .int x, .int y, .int a0].toArray) G.1 hW0
  have hN := z_nstW G.2.1 hW0
  have hK := va_K.moved hW0.alike G.2.2.1
  have hAI := arrOfT_moved hW0.alike G.2.2.2.1
  have hl : lv_has ls 8 [(0, .ref a), (1, .int x), (2, .int y), (3, .int a0)] := hl
  obtain ⟨hOld, hOm⟩ := id hB
  obtain ⟨hO, hA1, hA2, hA3, hA4⟩ := id hOm
  have loops : ∀ f : Nat, (∀ (i : Nat), (n - i) * 400 + 399 < f → (i ≤ n) → (po_fi mx my x y n (n - i) i = none) → ∀ ls : Array Slot, lv_has ls 8 [(0, .ref a), (1, .int x), (2, .int y), (3, .int a0), (4, .int (nI i))] → W p l e ({ frames := 6, cells := 1, slots := 6, locals := 82 }) s m [.ref a, .int x, .int y, .int a0].toArray below meth c s.heap [] 0 0 (xt_Z below "java/lang/IllegalStateException" [.ref a, .int x, .int y, .int a0].toArray s) (F0 m 3 ls [])) ∧ (∀ (i j : Nat), (n - i) * 400 + (n - j) * 20 + 19 < f → (i < n) → (j ≤ n) → (po_or (po_fj mx my x y n i (n - j) j) (po_fi mx my x y n (n - (i + 1)) (i + 1)) = none) → ∀ ls : Array Slot, lv_has ls 8 [(0, .ref a), (1, .int x), (2, .int y), (3, .int a0), (4, .int (nI i)), (5, .int (nI j))] → W p l e ({ frames := 6, cells := 1, slots := 6, locals := 82 }) s m [.ref a, .int x, .int y, .int a0].toArray below meth c s.heap [] 0 0 (xt_Z below "java/lang/IllegalStateException" [.ref a, .int x, .int y, .int a0].toArray s) (F0 m 18 ls [])) ∧ (∀ (i j k : Nat), (n - i) * 400 + (n - j) * 20 + (n - k) < f → (i < n) → (j < n) → (k ≤ n) → (po_or (po_fk mx my x y i j (n - k) k) (po_or (po_fj mx my x y n i (n - (j + 1)) (j + 1)) (po_fi mx my x y n (n - (i + 1)) (i + 1))) = none) → ∀ ls : Array Slot, lv_has ls 8 [(0, .ref a), (1, .int x), (2, .int y), (3, .int a0), (4, .int (nI i)), (5, .int (nI j)), (6, .int (nI k))] → W p l e ({ frames := 6, cells := 1, slots := 6, locals := 82 }) s m [.ref a, .int x, .int y, .int a0].toArray below meth c s.heap [] 0 0 (xt_Z below "java/lang/IllegalStateException" [.ref a, .int x, .int y, .int a0].toArray s) (F0 m 33 ls [])) := by
    intro f
    induction f with
    | zero => exact ⟨fun _ h => absurd h (Nat.not_lt_zero _), fun _ _ h => absurd h (Nat.not_lt_zero _), fun _ _ _ h => absurd h (Nat.not_lt_zero _)⟩
    | succ f ih =>
      refine ⟨?_, ?_, ?_⟩
      · skip
        intro i hmu hi hres ls hl
        refine lv_iload hx hb d_O_find_3 (lv_at hl 4 rfl) ?_
        refine lv_aload_n hx hb d_O_find_5 rfl (lv_at hl 0 rfl) ?_
        refine va_get (D := (dC, dI)) (ci := 1) (v := .int (nI n)) (C := R_O) (T := T_O) (N := 5) hx hb hts in_O hown hK hO.P 0 rfl rfl 4 (by decide) (hts _ w_56) (fun _ h9 => h9) rfl d_O_find_6 ?_
        refine lv_icmp_ge (tgt := 107) hx hb d_O_find_9 (by decide) (fun c_101 => ?_) (fun c_101 => ?_)
        · skip
          have c_101 : n ≤ i := (nI_leI (a := n) (b := i) (by omega) (by omega)).mp c_101
          exact xt_new hx hb hT.1 hown hW0 hOld (by decide +kernel) hT.2.1.2.2.2 k_O_ISE k_7 (hT.2.2 (R_O, 38, "no three marks place the point") (List.mem_of_getElem? (i := 13) rfl)) (hts _ w_520) (hts _ w_9) hno hlocks (hl.1.trans hml.symm) d_O_find_107 d_O_find_110 d_O_find_111 d_O_find_113 d_O_find_116 (Nat.le_of_ble_eq_true rfl) (Nat.le_of_ble_eq_true rfl) (Nat.le_of_ble_eq_true rfl) (Nat.le_of_ble_eq_true rfl)
        · skip
          have c_101 : ¬ (n ≤ i) := fun h => c_101 ((nI_leI (a := n) (b := i) (by omega) (by omega)).mpr h)
          refine lv_iload hx hb d_O_find_12 (lv_at hl 4 rfl) ?_
          refine lv_iconst (v := 1) hx hb d_O_find_14 (by decide) ?_
          refine lv_iadd hx hb d_O_find_15 ?_
          refine z_topi (y := nI (i + 1)) (nI_add i 1) ?_
          refine lv_istore (lv' := [(5, .int (nI (i + 1))), (0, .ref a), (1, .int x), (2, .int y), (3, .int a0), (4, .int (nI i))]) hx hb d_O_find_16 hl (by decide) rfl (fun ls hl => ?_)
          exact ih.2.1 i (i + 1) (by omega) (by omega) (by omega) (by rw [show n - i = (n - (i + 1)) + 1 by omega] at hres; simpa only [po_fi] using hres) ls (lv_sub hl [1, 2, 3, 4, 5, 0] rfl)
      · skip
        intro i j hmu hi hj hres ls hl
        refine lv_iload hx hb d_O_find_18 (lv_at hl 5 rfl) ?_
        refine lv_aload_n hx hb d_O_find_20 rfl (lv_at hl 0 rfl) ?_
        refine va_get (D := (dC, dI)) (ci := 1) (v := .int (nI n)) (C := R_O) (T := T_O) (N := 5) hx hb hts in_O hown hK hO.P 0 rfl rfl 4 (by decide) (hts _ w_56) (fun _ h9 => h9) rfl d_O_find_21 ?_
        refine lv_icmp_ge (tgt := 101) hx hb d_O_find_24 (by decide) (fun c_201 => ?_) (fun c_201 => ?_)
        · skip
          have c_201 : n ≤ j := (nI_leI (a := n) (b := j) (by omega) (by omega)).mp c_201
          refine lv_iinc (v := nI (i + 1)) (lv' := [(4, .int (nI (i + 1))), (0, .ref a), (1, .int x), (2, .int y), (3, .int a0), (5, .int (nI j))]) hx hb d_O_find_101 hl (k := 4) rfl (nI_1 i) (by decide) rfl (fun ls hl => ?_)
          refine lv_goto (tgt := 3) hx hb d_O_find_104 (by decide) ?_
          exact ih.1 (i + 1) (by omega) (by omega) (by rw [show n - j = 0 by omega] at hres; simpa only [po_fj, po_or] using hres) ls (lv_sub hl [1, 2, 3, 4, 0] rfl)
        · skip
          have c_201 : ¬ (n ≤ j) := fun h => c_201 ((nI_leI (a := n) (b := j) (by omega) (by omega)).mpr h)
          refine lv_iload hx hb d_O_find_27 (lv_at hl 5 rfl) ?_
          refine lv_iconst (v := 1) hx hb d_O_find_29 (by decide) ?_
          refine lv_iadd hx hb d_O_find_30 ?_
          refine z_topi (y := nI (j + 1)) (nI_add j 1) ?_
          refine lv_istore (lv' := [(6, .int (nI (j + 1))), (0, .ref a), (1, .int x), (2, .int y), (3, .int a0), (4, .int (nI i)), (5, .int (nI j))]) hx hb d_O_find_31 hl (by decide) rfl (fun ls hl => ?_)
          exact ih.2.2 i j (j + 1) (by omega) (by omega) (by omega) (by omega) (by rw [show n - j = (n - (j + 1)) + 1 by omega] at hres; simp only [po_fj] at hres; rw [po_or_as] at hres; exact hres) ls (lv_sub hl [1, 2, 3, 4, 5, 6, 0] rfl)
      · skip
        intro i j k hmu hi hj hk hres ls hl
        refine lv_iload hx hb d_O_find_33 (lv_at hl 6 rfl) ?_
        refine lv_aload_n hx hb d_O_find_35 rfl (lv_at hl 0 rfl) ?_
        refine va_get (D := (dC, dI)) (ci := 1) (v := .int (nI n)) (C := R_O) (T := T_O) (N := 5) hx hb hts in_O hown hK hO.P 0 rfl rfl 4 (by decide) (hts _ w_56) (fun _ h9 => h9) rfl d_O_find_36 ?_
        refine lv_icmp_ge (tgt := 95) hx hb d_O_find_39 (by decide) (fun c_301 => ?_) (fun c_301 => ?_)
        · skip
          have c_301 : n ≤ k := (nI_leI (a := n) (b := k) (by omega) (by omega)).mp c_301
          refine lv_iinc (v := nI (j + 1)) (lv' := [(5, .int (nI (j + 1))), (0, .ref a), (1, .int x), (2, .int y), (3, .int a0), (4, .int (nI i)), (6, .int (nI k))]) hx hb d_O_find_95 hl (k := 5) rfl (nI_1 j) (by decide) rfl (fun ls hl => ?_)
          refine lv_goto (tgt := 18) hx hb d_O_find_98 (by decide) ?_
          exact ih.2.1 i (j + 1) (by omega) (by omega) (by omega) (by rw [show n - k = 0 by omega] at hres; simpa only [po_fk, po_or] using hres) ls (lv_sub hl [1, 2, 3, 4, 5, 0] rfl)
        · skip
          have c_301 : ¬ (n ≤ k) := fun h => c_301 ((nI_leI (a := n) (b := k) (by omega) (by omega)).mpr h)
          refine lv_aload_n hx hb d_O_find_42 rfl (lv_at hl 0 rfl) ?_
          refine lv_iload hx hb d_O_find_43 (lv_at hl 4 rfl) ?_
          refine lv_iload hx hb d_O_find_45 (lv_at hl 5 rfl) ?_
          refine lv_iload hx hb d_O_find_47 (lv_at hl 6 rfl) ?_
          refine lv_iload_n hx hb d_O_find_49 rfl (lv_at hl 1 rfl) ?_
          refine lv_iload_n hx hb d_O_find_50 rfl (lv_at hl 2 rfl) ?_
          refine z_rdV (n := 5) (C := R_O) (rest := []) ⟨hx, hb, hml, hown, hts⟩ hW0 (c_O_haveBetween G a b1 b2 b3 b4 n mx my px py i j k x y (by omega) (by omega) (by omega)) w_502 w_499 w_501 wp_15 w_3 (by decide +kernel) ⟨rfl, rfl, Nat.le_of_ble_eq_true rfl, Nat.le_of_ble_eq_true rfl⟩ (hO.recv hK rfl) (hOm) rfl rfl hl.1 (Nat.le_of_ble_eq_true rfl) d_O_find_51 ⟨Nat.zero_le _, Nat.zero_le _⟩ ?_
          refine lv_if_eq (tgt := 89) hx hb d_O_find_54 (by decide) (fun c_302 => ?_) (fun c_302 => ?_)
          · skip
            have c_302 : (po_hb mx my i j k x y) = false := pi_b_0.mp c_302
            refine lv_iinc (v := nI (k + 1)) (lv' := [(6, .int (nI (k + 1))), (0, .ref a), (1, .int x), (2, .int y), (3, .int a0), (4, .int (nI i)), (5, .int (nI j))]) hx hb d_O_find_89 hl (k := 6) rfl (nI_1 k) (by decide) rfl (fun ls hl => ?_)
            refine lv_goto (tgt := 33) hx hb d_O_find_92 (by decide) ?_
            exact ih.2.2 i j (k + 1) (by omega) (by omega) (by omega) (by omega) (by rw [show n - k = (n - (k + 1)) + 1 by omega] at hres; simpa [po_fk, c_302] using hres) ls (lv_sub hl [1, 2, 3, 4, 5, 6, 0] rfl)
          · skip
            have c_302 : (po_hb mx my i j k x y) = true := pi_b_1.mp c_302
            exfalso
            rw [show n - k = (n - (k + 1)) + 1 by omega] at hres
            simp [po_fk, po_or, c_302] at hres
  refine lv_iconst (v := 0) hx hb d_O_find_0 (by decide) ?_
  refine lv_istore (lv' := [(4, .int 0), (0, .ref a), (1, .int x), (2, .int y), (3, .int a0)]) hx hb d_O_find_1 hl (by decide) rfl (fun ls hl => ?_)
  exact (loops (((n - 0) * 400 + 399) + 1)).1 0 (by omega) (by omega) (by simpa using hf) ls (lv_sub hl [1, 2, 3, 4, 0] rfl)
set_option maxRecDepth 100000 in
set_option maxHeartbeats 4000000 in
theorem c_B_placed (G : z_G s0 (dC, dI) cI cS) (A : Nat → Nat) (np ns nc nn nm : Nat) (fv : Nat → Nat → Int32) (so sf st : Nat → Int32) (sn sc : Nat → Nat) (sp : Nat → Option Nat) (sx sy : Nat → Nat → Int32) (x y a0 : Int32) (hax : a0 = 0 ∨ a0 = 1) (hp : z_pt x y) (t0 : Nat × Nat × Nat) (hf : po_fi (fv 5) (fv 6) x y nm nm 0 = some t0) (hq : ∀ i j k : Nat, i < 12 → j < 12 → k < 12 → ¬ po_sh (fv 5) (fv 6) j k x y + po_sh (fv 5) (fv 6) k i x y + po_sh (fv 5) (fv 6) i j x y = 0 → ¬ 2 * (if 0 < po_sh (fv 5) (fv 6) j k x y + po_sh (fv 5) (fv 6) k i x y + po_sh (fv 5) (fv 6) i j x y then po_sh (fv 5) (fv 6) j k x y + po_sh (fv 5) (fv 6) k i x y + po_sh (fv 5) (fv 6) i j x y else -(po_sh (fv 5) (fv 6) j k x y + po_sh (fv 5) (fv 6) k i x y + po_sh (fv 5) (fv 6) i j x y)) = 0) : Met l y_B_placed [Cond.code y_B_placed b_B_placed 4 (some .int)] ({ frames := 4, cells := 0, slots := 0, locals := 111 }) (z_Pc s0 [.ref (A 0), .int x, .int y, .int a0] (fun H => z_BD (dC, dI) cI cS H A np ns nc nn nm fv so sf st sn sc sp sx sy)) (z_Qr (some (.int (po_val (fv 5) (fv 6) (if a0 = 0 then fv 7 else fv 8) t0.1 t0.2.1 t0.2.2 x y)))) 0 0 z_no := by
  refine z_ofW (by decide +kernel) (Nat.le_of_ble_eq_true rfl) ?_
  intro p e s m below meth c hx hb hml hr hown hlocks hnm hW0 hB ls hl
  have hts := z_hts (args := [.ref (A 0), .int x, .int y, .int a0].toArray) G.1 hW0
  have hN := z_nstW G.2.1 hW0
  have hK := va_K.moved hW0.alike G.2.2.1
  have hAI := arrOfT_moved hW0.alike G.2.2.2.1
  have hl : lv_has ls 4 [(0, .ref (A 0)), (1, .int x), (2, .int y), (3, .int a0)] := hl
  obtain ⟨⟨hO0, hO1, hO2, hB3, hFA, hSH⟩, hinj, ⟨hnp, hns, hnn, hnm, hnc⟩, hsb⟩ := id hB
  have hAS := arrOfT_moved hW0.alike G.2.2.2.2.1
  have hOm : z_Om (dC, dI) cI s.heap (A 2) (A 9) (A 10) (A 11) (A 12) nm (fv 5) (fv 6) (fv 7) (fv 8) := ⟨hO2, hFA 5 (by omega), hFA 6 (by omega), hFA 7 (by omega), hFA 8 (by omega)⟩
  refine lv_iload_n hx hb d_B_placed_0 rfl (lv_at hl 3 rfl) ?_
  refine z_rdSv (n := 1) (rest := []) ⟨hx, hb, hml, hown, hts⟩ hW0 (c_B_requireAxis G a0 hax) w_493 w_491 w_492 w_1 (by decide +kernel) ⟨rfl, rfl, Nat.le_of_ble_eq_true rfl, Nat.le_of_ble_eq_true rfl⟩ (trivial) rfl rfl hl.1 (Nat.le_of_ble_eq_true rfl) d_B_placed_1 ⟨Nat.zero_le _, Nat.zero_le _⟩ ?_
  refine lv_iload_n hx hb d_B_placed_4 rfl (lv_at hl 1 rfl) ?_
  refine lv_iload_n hx hb d_B_placed_5 rfl (lv_at hl 2 rfl) ?_
  refine z_rdSv (n := 2) (rest := []) ⟨hx, hb, hml, hown, hts⟩ hW0 (c_B_requirePoint G x y hp) w_271 w_269 w_270 w_1 (by decide +kernel) ⟨rfl, rfl, Nat.le_of_ble_eq_true rfl, Nat.le_of_ble_eq_true rfl⟩ (trivial) rfl rfl hl.1 (Nat.le_of_ble_eq_true rfl) d_B_placed_6 ⟨Nat.zero_le _, Nat.zero_le _⟩ ?_
  refine lv_aload_n hx hb d_B_placed_9 rfl (lv_at hl 0 rfl) ?_
  refine va_get (D := (dC, dI)) (ci := 3) (v := .ref (A 2)) (C := R_B) (T := T_B) (N := 7) hx hb hts in_B hown hK hO0.P 0 rfl rfl 6 (by decide) (hts _ w_74) (fun _ h9 => h9) rfl d_B_placed_10 ?_
  refine lv_iload_n hx hb d_B_placed_13 rfl (lv_at hl 1 rfl) ?_
  refine lv_iload_n hx hb d_B_placed_14 rfl (lv_at hl 2 rfl) ?_
  refine lv_iload_n hx hb d_B_placed_15 rfl (lv_at hl 3 rfl) ?_
  refine z_rdV (n := 3) (C := R_O) (rest := []) ⟨hx, hb, hml, hown, hts⟩ hW0 (c_O_find G (A 2) (A 9) (A 10) (A 11) (A 12) nm (fv 5) (fv 6) (fv 7) (fv 8) x y a0 t0 hnm hf hq) w_498 w_495 w_496 w_497 w_3 (by decide +kernel) ⟨rfl, rfl, Nat.le_of_ble_eq_true rfl, Nat.le_of_ble_eq_true rfl⟩ (hO2.recv hK rfl) (hOm) rfl rfl hl.1 (Nat.le_of_ble_eq_true rfl) d_B_placed_16 ⟨Nat.zero_le _, Nat.zero_le _⟩ ?_
  exact z_iret hx hb hr hlocks (by rfl) d_B_placed_19
set_option maxRecDepth 100000 in
set_option maxHeartbeats 4000000 in
theorem t_B_placed_3 (G : z_G s0 (dC, dI) cI cS) (hT : z_T s0 l) (A : Nat → Nat) (np ns nc nn nm : Nat) (fv : Nat → Nat → Int32) (so sf st : Nat → Int32) (sn sc : Nat → Nat) (sp : Nat → Option Nat) (sx sy : Nat → Nat → Int32) (x y a0 : Int32) (hax : a0 = 0 ∨ a0 = 1) (hp : z_pt x y) (hf : po_fi (fv 5) (fv 6) x y nm nm 0 = none) : xt_Met l y_B_placed [Cond.code y_B_placed b_B_placed 4 (some .int)] ({ frames := 7, cells := 1, slots := 6, locals := 109 }) (z_Pc s0 [.ref (A 0), .int x, .int y, .int a0] (fun H => z_Old s0 H ∧ z_BD (dC, dI) cI cS H A np ns nc nn nm fv so sf st sn sc sp sx sy)) "java/lang/IllegalStateException" := by
  refine z_ofWX (by decide +kernel) (Nat.le_of_ble_eq_true rfl) ?_
  intro p e s m below meth c hx hb hml hadm hown hlocks hno hW0 hB ls hl
  have hts := z_hts (args := [.ref (A 0), .int x, .int y, .int a0].toArray) G.1 hW0
  have hN := z_nstW G.2.1 hW0
  have hK := va_K.moved hW0.alike G.2.2.1
  have hAI := arrOfT_moved hW0.alike G.2.2.2.1
  have hl : lv_has ls 4 [(0, .ref (A 0)), (1, .int x), (2, .int y), (3, .int a0)] := hl
  obtain ⟨hOld, hB1⟩ := id hB
  obtain ⟨⟨hO0, hO1, hO2, hB3, hFA, hSH⟩, hinj, ⟨hnp, hns, hnn, hnm, hnc⟩, hsb⟩ := id hB1
  have hAS := arrOfT_moved hW0.alike G.2.2.2.2.1
  have hOm : z_Om (dC, dI) cI s.heap (A 2) (A 9) (A 10) (A 11) (A 12) nm (fv 5) (fv 6) (fv 7) (fv 8) := ⟨hO2, hFA 5 (by omega), hFA 6 (by omega), hFA 7 (by omega), hFA 8 (by omega)⟩
  refine lv_iload_n hx hb d_B_placed_0 rfl (lv_at hl 3 rfl) ?_
  refine z_rdSv (n := 1) (rest := []) ⟨hx, hb, hml, hown, hts⟩ hW0 (c_B_requireAxis G a0 hax) w_493 w_491 w_492 w_1 (by decide +kernel) ⟨rfl, rfl, Nat.le_of_ble_eq_true rfl, Nat.le_of_ble_eq_true rfl⟩ (trivial) rfl rfl hl.1 (Nat.le_of_ble_eq_true rfl) d_B_placed_1 ⟨Nat.zero_le _, Nat.zero_le _⟩ ?_
  refine lv_iload_n hx hb d_B_placed_4 rfl (lv_at hl 1 rfl) ?_
  refine lv_iload_n hx hb d_B_placed_5 rfl (lv_at hl 2 rfl) ?_
  refine z_rdSv (n := 2) (rest := []) ⟨hx, hb, hml, hown, hts⟩ hW0 (c_B_requirePoint G x y hp) w_271 w_269 w_270 w_1 (by decide +kernel) ⟨rfl, rfl, Nat.le_of_ble_eq_true rfl, Nat.le_of_ble_eq_true rfl⟩ (trivial) rfl rfl hl.1 (Nat.le_of_ble_eq_true rfl) d_B_placed_6 ⟨Nat.zero_le _, Nat.zero_le _⟩ ?_
  refine lv_aload_n hx hb d_B_placed_9 rfl (lv_at hl 0 rfl) ?_
  refine va_get (D := (dC, dI)) (ci := 3) (v := .ref (A 2)) (C := R_B) (T := T_B) (N := 7) hx hb hts in_B hown hK hO0.P 0 rfl rfl 6 (by decide) (hts _ w_74) (fun _ h9 => h9) rfl d_B_placed_10 ?_
  refine lv_iload_n hx hb d_B_placed_13 rfl (lv_at hl 1 rfl) ?_
  refine lv_iload_n hx hb d_B_placed_14 rfl (lv_at hl 2 rfl) ?_
  refine lv_iload_n hx hb d_B_placed_15 rfl (lv_at hl 3 rfl) ?_
  exact z_thV (n := 3) (C := R_O) (rest := []) ⟨hx, hb, hml, hown, hts⟩ hW0 hno hlocks (t_O_find G hT (A 2) (A 9) (A 10) (A 11) (A 12) nm (fv 5) (fv 6) (fv 7) (fv 8) x y a0 hnm hf) w_498 w_495 w_496 w_497 w_3 (by decide +kernel) ⟨rfl, rfl, Nat.le_of_ble_eq_true rfl, Nat.le_of_ble_eq_true rfl⟩ (hO2.recv hK rfl) (⟨hOld, hOm⟩) rfl rfl hl.1 (Nat.le_of_ble_eq_true rfl) d_B_placed_16 ⟨Nat.le_of_ble_eq_true rfl, Nat.le_of_ble_eq_true rfl⟩
end S8
end
section
theorem d_M_thrown_0 : decode b_M_thrown 0 = .ok (.aload_n 0, 1) := by decide +kernel
theorem d_M_thrown_1 : decode b_M_thrown 1 = .ok (.getfield 61, 3) := by decide +kernel
theorem d_M_thrown_4 : decode b_M_thrown 4 = .ok (.ireturn, 1) := by decide +kernel
theorem d_M_goes_0 : decode b_M_goes 0 = .ok (.aload_n 0, 1) := by decide +kernel
theorem d_M_goes_1 : decode b_M_goes 1 = .ok (.iload_n 1, 1) := by decide +kernel
theorem d_M_goes_2 : decode b_M_goes 2 = .ok (.ifCond .ne 7, 3) := by decide +kernel
theorem d_M_goes_5 : decode b_M_goes 5 = .ok (.iconst 1, 1) := by decide +kernel
theorem d_M_goes_6 : decode b_M_goes 6 = .ok (.goto 20, 3) := by decide +kernel
theorem d_M_goes_9 : decode b_M_goes 9 = .ok (.iload_n 2, 1) := by decide +kernel
theorem d_M_goes_10 : decode b_M_goes 10 = .ok (.ifCond .ne 7, 3) := by decide +kernel
theorem d_M_goes_13 : decode b_M_goes 13 = .ok (.iconst 2, 1) := by decide +kernel
theorem d_M_goes_14 : decode b_M_goes 14 = .ok (.goto 12, 3) := by decide +kernel
theorem d_M_goes_17 : decode b_M_goes 17 = .ok (.iload_n 3, 1) := by decide +kernel
theorem d_M_goes_18 : decode b_M_goes 18 = .ok (.ifCond .ne 7, 3) := by decide +kernel
theorem d_M_goes_21 : decode b_M_goes 21 = .ok (.iconst 3, 1) := by decide +kernel
theorem d_M_goes_22 : decode b_M_goes 22 = .ok (.goto 4, 3) := by decide +kernel
theorem d_M_goes_25 : decode b_M_goes 25 = .ok (.iconst 0, 1) := by decide +kernel
theorem d_M_goes_26 : decode b_M_goes 26 = .ok (.putfield 61, 3) := by decide +kernel
theorem d_M_goes_29 : decode b_M_goes 29 = .ok (.aload_n 0, 1) := by decide +kernel
theorem d_M_goes_30 : decode b_M_goes 30 = .ok (.getfield 61, 3) := by decide +kernel
theorem d_M_goes_33 : decode b_M_goes 33 = .ok (.ifCond .ne 7, 3) := by decide +kernel
theorem d_M_goes_36 : decode b_M_goes 36 = .ok (.iconst 1, 1) := by decide +kernel
theorem d_M_goes_37 : decode b_M_goes 37 = .ok (.goto 4, 3) := by decide +kernel
theorem d_M_goes_40 : decode b_M_goes 40 = .ok (.iconst 0, 1) := by decide +kernel
theorem d_M_goes_41 : decode b_M_goes 41 = .ok (.ireturn, 1) := by decide +kernel
theorem d_M_isPoint_0 : decode b_M_isPoint 0 = .ok (.iload_n 0, 1) := by decide +kernel
theorem d_M_isPoint_1 : decode b_M_isPoint 1 = .ok (.sipush (-10000), 3) := by decide +kernel
theorem d_M_isPoint_4 : decode b_M_isPoint 4 = .ok (.if_icmp .lt 28, 3) := by decide +kernel
theorem d_M_isPoint_7 : decode b_M_isPoint 7 = .ok (.iload_n 0, 1) := by decide +kernel
theorem d_M_isPoint_8 : decode b_M_isPoint 8 = .ok (.sipush 10000, 3) := by decide +kernel
theorem d_M_isPoint_11 : decode b_M_isPoint 11 = .ok (.if_icmp .gt 21, 3) := by decide +kernel
theorem d_M_isPoint_14 : decode b_M_isPoint 14 = .ok (.iload_n 1, 1) := by decide +kernel
theorem d_M_isPoint_15 : decode b_M_isPoint 15 = .ok (.sipush (-10000), 3) := by decide +kernel
theorem d_M_isPoint_18 : decode b_M_isPoint 18 = .ok (.if_icmp .lt 14, 3) := by decide +kernel
theorem d_M_isPoint_21 : decode b_M_isPoint 21 = .ok (.iload_n 1, 1) := by decide +kernel
theorem d_M_isPoint_22 : decode b_M_isPoint 22 = .ok (.sipush 10000, 3) := by decide +kernel
theorem d_M_isPoint_25 : decode b_M_isPoint 25 = .ok (.if_icmp .gt 7, 3) := by decide +kernel
theorem d_M_isPoint_28 : decode b_M_isPoint 28 = .ok (.iconst 1, 1) := by decide +kernel
theorem d_M_isPoint_29 : decode b_M_isPoint 29 = .ok (.goto 4, 3) := by decide +kernel
theorem d_M_isPoint_32 : decode b_M_isPoint 32 = .ok (.iconst 0, 1) := by decide +kernel
theorem d_M_isPoint_33 : decode b_M_isPoint 33 = .ok (.ireturn, 1) := by decide +kernel
theorem d_M_isDay_0 : decode b_M_isDay 0 = .ok (.iload_n 0, 1) := by decide +kernel
theorem d_M_isDay_1 : decode b_M_isDay 1 = .ok (.ifCond .lt 13, 3) := by decide +kernel
theorem d_M_isDay_4 : decode b_M_isDay 4 = .ok (.iload_n 0, 1) := by decide +kernel
theorem d_M_isDay_5 : decode b_M_isDay 5 = .ok (.ldc 65, 2) := by decide +kernel
theorem d_M_isDay_7 : decode b_M_isDay 7 = .ok (.if_icmp .gt 7, 3) := by decide +kernel
theorem d_M_isDay_10 : decode b_M_isDay 10 = .ok (.iconst 1, 1) := by decide +kernel
theorem d_M_isDay_11 : decode b_M_isDay 11 = .ok (.goto 4, 3) := by decide +kernel
theorem d_M_isDay_14 : decode b_M_isDay 14 = .ok (.iconst 0, 1) := by decide +kernel
theorem d_M_isDay_15 : decode b_M_isDay 15 = .ok (.ireturn, 1) := by decide +kernel
theorem d_M_isPlace_0 : decode b_M_isPlace 0 = .ok (.iload_n 1, 1) := by decide +kernel
theorem d_M_isPlace_1 : decode b_M_isPlace 1 = .ok (.ifCond .lt 15, 3) := by decide +kernel
theorem d_M_isPlace_4 : decode b_M_isPlace 4 = .ok (.iload_n 1, 1) := by decide +kernel
theorem d_M_isPlace_5 : decode b_M_isPlace 5 = .ok (.aload_n 0, 1) := by decide +kernel
theorem d_M_isPlace_6 : decode b_M_isPlace 6 = .ok (.getfield 66, 3) := by decide +kernel
theorem d_M_isPlace_9 : decode b_M_isPlace 9 = .ok (.if_icmp .ge 7, 3) := by decide +kernel
theorem d_M_isPlace_12 : decode b_M_isPlace 12 = .ok (.iconst 1, 1) := by decide +kernel
theorem d_M_isPlace_13 : decode b_M_isPlace 13 = .ok (.goto 4, 3) := by decide +kernel
theorem d_M_isPlace_16 : decode b_M_isPlace 16 = .ok (.iconst 0, 1) := by decide +kernel
theorem d_M_isPlace_17 : decode b_M_isPlace 17 = .ok (.ireturn, 1) := by decide +kernel
theorem d_M_isShape_0 : decode b_M_isShape 0 = .ok (.iload_n 1, 1) := by decide +kernel
theorem d_M_isShape_1 : decode b_M_isShape 1 = .ok (.ifCond .lt 15, 3) := by decide +kernel
theorem d_M_isShape_4 : decode b_M_isShape 4 = .ok (.iload_n 1, 1) := by decide +kernel
theorem d_M_isShape_5 : decode b_M_isShape 5 = .ok (.aload_n 0, 1) := by decide +kernel
theorem d_M_isShape_6 : decode b_M_isShape 6 = .ok (.getfield 69, 3) := by decide +kernel
theorem d_M_isShape_9 : decode b_M_isShape 9 = .ok (.if_icmp .ge 7, 3) := by decide +kernel
theorem d_M_isShape_12 : decode b_M_isShape 12 = .ok (.iconst 1, 1) := by decide +kernel
theorem d_M_isShape_13 : decode b_M_isShape 13 = .ok (.goto 4, 3) := by decide +kernel
theorem d_M_isShape_16 : decode b_M_isShape 16 = .ok (.iconst 0, 1) := by decide +kernel
theorem d_M_isShape_17 : decode b_M_isShape 17 = .ok (.ireturn, 1) := by decide +kernel
theorem d_M_side_0 : decode b_M_side 0 = .ok (.iload_n 2, 1) := by decide +kernel
theorem d_M_side_1 : decode b_M_side 1 = .ok (.iload_n 0, 1) := by decide +kernel
theorem d_M_side_2 : decode b_M_side 2 = .ok (.isub, 1) := by decide +kernel
theorem d_M_side_3 : decode b_M_side 3 = .ok (.iload 5, 2) := by decide +kernel
theorem d_M_side_5 : decode b_M_side 5 = .ok (.iload_n 1, 1) := by decide +kernel
theorem d_M_side_6 : decode b_M_side 6 = .ok (.isub, 1) := by decide +kernel
theorem d_M_side_7 : decode b_M_side 7 = .ok (.imul, 1) := by decide +kernel
theorem d_M_side_8 : decode b_M_side 8 = .ok (.iload_n 3, 1) := by decide +kernel
theorem d_M_side_9 : decode b_M_side 9 = .ok (.iload_n 1, 1) := by decide +kernel
theorem d_M_side_10 : decode b_M_side 10 = .ok (.isub, 1) := by decide +kernel
theorem d_M_side_11 : decode b_M_side 11 = .ok (.iload 4, 2) := by decide +kernel
theorem d_M_side_13 : decode b_M_side 13 = .ok (.iload_n 0, 1) := by decide +kernel
theorem d_M_side_14 : decode b_M_side 14 = .ok (.isub, 1) := by decide +kernel
theorem d_M_side_15 : decode b_M_side 15 = .ok (.imul, 1) := by decide +kernel
theorem d_M_side_16 : decode b_M_side 16 = .ok (.isub, 1) := by decide +kernel
theorem d_M_side_17 : decode b_M_side 17 = .ok (.ireturn, 1) := by decide +kernel
theorem d_M_sign_0 : decode b_M_sign 0 = .ok (.iload_n 0, 1) := by decide +kernel
theorem d_M_sign_1 : decode b_M_sign 1 = .ok (.ifCond .le 7, 3) := by decide +kernel
theorem d_M_sign_4 : decode b_M_sign 4 = .ok (.iconst 1, 1) := by decide +kernel
theorem d_M_sign_5 : decode b_M_sign 5 = .ok (.goto 12, 3) := by decide +kernel
theorem d_M_sign_8 : decode b_M_sign 8 = .ok (.iload_n 0, 1) := by decide +kernel
theorem d_M_sign_9 : decode b_M_sign 9 = .ok (.ifCond .ge 7, 3) := by decide +kernel
theorem d_M_sign_12 : decode b_M_sign 12 = .ok (.iconst (-1), 1) := by decide +kernel
theorem d_M_sign_13 : decode b_M_sign 13 = .ok (.goto 4, 3) := by decide +kernel
theorem d_M_sign_16 : decode b_M_sign 16 = .ok (.iconst 0, 1) := by decide +kernel
theorem d_M_sign_17 : decode b_M_sign 17 = .ok (.ireturn, 1) := by decide +kernel
theorem d_M_between_0 : decode b_M_between 0 = .ok (.iload_n 0, 1) := by decide +kernel
theorem d_M_between_1 : decode b_M_between 1 = .ok (.iload_n 1, 1) := by decide +kernel
theorem d_M_between_2 : decode b_M_between 2 = .ok (.if_icmp .lt 8, 3) := by decide +kernel
theorem d_M_between_5 : decode b_M_between 5 = .ok (.iload_n 0, 1) := by decide +kernel
theorem d_M_between_6 : decode b_M_between 6 = .ok (.iload_n 2, 1) := by decide +kernel
theorem d_M_between_7 : decode b_M_between 7 = .ok (.if_icmp .le 13, 3) := by decide +kernel
theorem d_M_between_10 : decode b_M_between 10 = .ok (.iload_n 0, 1) := by decide +kernel
theorem d_M_between_11 : decode b_M_between 11 = .ok (.iload_n 2, 1) := by decide +kernel
theorem d_M_between_12 : decode b_M_between 12 = .ok (.if_icmp .lt 12, 3) := by decide +kernel
theorem d_M_between_15 : decode b_M_between 15 = .ok (.iload_n 0, 1) := by decide +kernel
theorem d_M_between_16 : decode b_M_between 16 = .ok (.iload_n 1, 1) := by decide +kernel
theorem d_M_between_17 : decode b_M_between 17 = .ok (.if_icmp .gt 7, 3) := by decide +kernel
theorem d_M_between_20 : decode b_M_between 20 = .ok (.iconst 1, 1) := by decide +kernel
theorem d_M_between_21 : decode b_M_between 21 = .ok (.goto 4, 3) := by decide +kernel
theorem d_M_between_24 : decode b_M_between 24 = .ok (.iconst 0, 1) := by decide +kernel
theorem d_M_between_25 : decode b_M_between 25 = .ok (.ireturn, 1) := by decide +kernel
theorem d_M_isOn_0 : decode b_M_isOn 0 = .ok (.aload_n 0, 1) := by decide +kernel
theorem d_M_isOn_1 : decode b_M_isOn 1 = .ok (.getfield 25, 3) := by decide +kernel
theorem d_M_isOn_4 : decode b_M_isOn 4 = .ok (.iload_n 1, 1) := by decide +kernel
theorem d_M_isOn_5 : decode b_M_isOn 5 = .ok (.iaload, 1) := by decide +kernel
theorem d_M_isOn_6 : decode b_M_isOn 6 = .ok (.aload_n 0, 1) := by decide +kernel
theorem d_M_isOn_7 : decode b_M_isOn 7 = .ok (.getfield 28, 3) := by decide +kernel
theorem d_M_isOn_10 : decode b_M_isOn 10 = .ok (.iload_n 1, 1) := by decide +kernel
theorem d_M_isOn_11 : decode b_M_isOn 11 = .ok (.iaload, 1) := by decide +kernel
theorem d_M_isOn_12 : decode b_M_isOn 12 = .ok (.aload_n 0, 1) := by decide +kernel
theorem d_M_isOn_13 : decode b_M_isOn 13 = .ok (.getfield 25, 3) := by decide +kernel
theorem d_M_isOn_16 : decode b_M_isOn 16 = .ok (.iload_n 2, 1) := by decide +kernel
theorem d_M_isOn_17 : decode b_M_isOn 17 = .ok (.iaload, 1) := by decide +kernel
theorem d_M_isOn_18 : decode b_M_isOn 18 = .ok (.aload_n 0, 1) := by decide +kernel
theorem d_M_isOn_19 : decode b_M_isOn 19 = .ok (.getfield 28, 3) := by decide +kernel
theorem d_M_isOn_22 : decode b_M_isOn 22 = .ok (.iload_n 2, 1) := by decide +kernel
theorem d_M_isOn_23 : decode b_M_isOn 23 = .ok (.iaload, 1) := by decide +kernel
theorem d_M_isOn_24 : decode b_M_isOn 24 = .ok (.iload_n 3, 1) := by decide +kernel
theorem d_M_isOn_25 : decode b_M_isOn 25 = .ok (.iload 4, 2) := by decide +kernel
theorem d_M_isOn_27 : decode b_M_isOn 27 = .ok (.invokestatic 90, 3) := by decide +kernel
theorem d_M_isOn_30 : decode b_M_isOn 30 = .ok (.ifCond .ne 46, 3) := by decide +kernel
theorem d_M_isOn_33 : decode b_M_isOn 33 = .ok (.iload_n 3, 1) := by decide +kernel
theorem d_M_isOn_34 : decode b_M_isOn 34 = .ok (.aload_n 0, 1) := by decide +kernel
theorem d_M_isOn_35 : decode b_M_isOn 35 = .ok (.getfield 25, 3) := by decide +kernel
theorem d_M_isOn_38 : decode b_M_isOn 38 = .ok (.iload_n 1, 1) := by decide +kernel
theorem d_M_isOn_39 : decode b_M_isOn 39 = .ok (.iaload, 1) := by decide +kernel
theorem d_M_isOn_40 : decode b_M_isOn 40 = .ok (.aload_n 0, 1) := by decide +kernel
theorem d_M_isOn_41 : decode b_M_isOn 41 = .ok (.getfield 25, 3) := by decide +kernel
theorem d_M_isOn_44 : decode b_M_isOn 44 = .ok (.iload_n 2, 1) := by decide +kernel
theorem d_M_isOn_45 : decode b_M_isOn 45 = .ok (.iaload, 1) := by decide +kernel
theorem d_M_isOn_46 : decode b_M_isOn 46 = .ok (.invokestatic 94, 3) := by decide +kernel
theorem d_M_isOn_49 : decode b_M_isOn 49 = .ok (.ifCond .eq 27, 3) := by decide +kernel
theorem d_M_isOn_52 : decode b_M_isOn 52 = .ok (.iload 4, 2) := by decide +kernel
theorem d_M_isOn_54 : decode b_M_isOn 54 = .ok (.aload_n 0, 1) := by decide +kernel
theorem d_M_isOn_55 : decode b_M_isOn 55 = .ok (.getfield 28, 3) := by decide +kernel
theorem d_M_isOn_58 : decode b_M_isOn 58 = .ok (.iload_n 1, 1) := by decide +kernel
theorem d_M_isOn_59 : decode b_M_isOn 59 = .ok (.iaload, 1) := by decide +kernel
theorem d_M_isOn_60 : decode b_M_isOn 60 = .ok (.aload_n 0, 1) := by decide +kernel
theorem d_M_isOn_61 : decode b_M_isOn 61 = .ok (.getfield 28, 3) := by decide +kernel
theorem d_M_isOn_64 : decode b_M_isOn 64 = .ok (.iload_n 2, 1) := by decide +kernel
theorem d_M_isOn_65 : decode b_M_isOn 65 = .ok (.iaload, 1) := by decide +kernel
theorem d_M_isOn_66 : decode b_M_isOn 66 = .ok (.invokestatic 94, 3) := by decide +kernel
theorem d_M_isOn_69 : decode b_M_isOn 69 = .ok (.ifCond .eq 7, 3) := by decide +kernel
theorem d_M_isOn_72 : decode b_M_isOn 72 = .ok (.iconst 1, 1) := by decide +kernel
theorem d_M_isOn_73 : decode b_M_isOn 73 = .ok (.goto 4, 3) := by decide +kernel
theorem d_M_isOn_76 : decode b_M_isOn 76 = .ok (.iconst 0, 1) := by decide +kernel
theorem d_M_isOn_77 : decode b_M_isOn 77 = .ok (.ireturn, 1) := by decide +kernel
theorem d_M_meet_0 : decode b_M_meet 0 = .ok (.aload_n 0, 1) := by decide +kernel
theorem d_M_meet_1 : decode b_M_meet 1 = .ok (.iload_n 1, 1) := by decide +kernel
theorem d_M_meet_2 : decode b_M_meet 2 = .ok (.iload_n 2, 1) := by decide +kernel
theorem d_M_meet_3 : decode b_M_meet 3 = .ok (.aload_n 0, 1) := by decide +kernel
theorem d_M_meet_4 : decode b_M_meet 4 = .ok (.getfield 25, 3) := by decide +kernel
theorem d_M_meet_7 : decode b_M_meet 7 = .ok (.iload_n 3, 1) := by decide +kernel
theorem d_M_meet_8 : decode b_M_meet 8 = .ok (.iaload, 1) := by decide +kernel
theorem d_M_meet_9 : decode b_M_meet 9 = .ok (.aload_n 0, 1) := by decide +kernel
theorem d_M_meet_10 : decode b_M_meet 10 = .ok (.getfield 28, 3) := by decide +kernel
theorem d_M_meet_13 : decode b_M_meet 13 = .ok (.iload_n 3, 1) := by decide +kernel
theorem d_M_meet_14 : decode b_M_meet 14 = .ok (.iaload, 1) := by decide +kernel
theorem d_M_meet_15 : decode b_M_meet 15 = .ok (.invokevirtual 98, 3) := by decide +kernel
theorem d_M_meet_18 : decode b_M_meet 18 = .ok (.ifCond .ne 70, 3) := by decide +kernel
theorem d_M_meet_21 : decode b_M_meet 21 = .ok (.aload_n 0, 1) := by decide +kernel
theorem d_M_meet_22 : decode b_M_meet 22 = .ok (.iload_n 1, 1) := by decide +kernel
theorem d_M_meet_23 : decode b_M_meet 23 = .ok (.iload_n 2, 1) := by decide +kernel
theorem d_M_meet_24 : decode b_M_meet 24 = .ok (.aload_n 0, 1) := by decide +kernel
theorem d_M_meet_25 : decode b_M_meet 25 = .ok (.getfield 25, 3) := by decide +kernel
theorem d_M_meet_28 : decode b_M_meet 28 = .ok (.iload 4, 2) := by decide +kernel
theorem d_M_meet_30 : decode b_M_meet 30 = .ok (.iaload, 1) := by decide +kernel
theorem d_M_meet_31 : decode b_M_meet 31 = .ok (.aload_n 0, 1) := by decide +kernel
theorem d_M_meet_32 : decode b_M_meet 32 = .ok (.getfield 28, 3) := by decide +kernel
theorem d_M_meet_35 : decode b_M_meet 35 = .ok (.iload 4, 2) := by decide +kernel
theorem d_M_meet_37 : decode b_M_meet 37 = .ok (.iaload, 1) := by decide +kernel
theorem d_M_meet_38 : decode b_M_meet 38 = .ok (.invokevirtual 98, 3) := by decide +kernel
theorem d_M_meet_41 : decode b_M_meet 41 = .ok (.ifCond .ne 47, 3) := by decide +kernel
theorem d_M_meet_44 : decode b_M_meet 44 = .ok (.aload_n 0, 1) := by decide +kernel
theorem d_M_meet_45 : decode b_M_meet 45 = .ok (.iload_n 3, 1) := by decide +kernel
theorem d_M_meet_46 : decode b_M_meet 46 = .ok (.iload 4, 2) := by decide +kernel
theorem d_M_meet_48 : decode b_M_meet 48 = .ok (.aload_n 0, 1) := by decide +kernel
theorem d_M_meet_49 : decode b_M_meet 49 = .ok (.getfield 25, 3) := by decide +kernel
theorem d_M_meet_52 : decode b_M_meet 52 = .ok (.iload_n 1, 1) := by decide +kernel
theorem d_M_meet_53 : decode b_M_meet 53 = .ok (.iaload, 1) := by decide +kernel
theorem d_M_meet_54 : decode b_M_meet 54 = .ok (.aload_n 0, 1) := by decide +kernel
theorem d_M_meet_55 : decode b_M_meet 55 = .ok (.getfield 28, 3) := by decide +kernel
theorem d_M_meet_58 : decode b_M_meet 58 = .ok (.iload_n 1, 1) := by decide +kernel
theorem d_M_meet_59 : decode b_M_meet 59 = .ok (.iaload, 1) := by decide +kernel
theorem d_M_meet_60 : decode b_M_meet 60 = .ok (.invokevirtual 98, 3) := by decide +kernel
theorem d_M_meet_63 : decode b_M_meet 63 = .ok (.ifCond .ne 25, 3) := by decide +kernel
theorem d_M_meet_66 : decode b_M_meet 66 = .ok (.aload_n 0, 1) := by decide +kernel
theorem d_M_meet_67 : decode b_M_meet 67 = .ok (.iload_n 3, 1) := by decide +kernel
theorem d_M_meet_68 : decode b_M_meet 68 = .ok (.iload 4, 2) := by decide +kernel
theorem d_M_meet_70 : decode b_M_meet 70 = .ok (.aload_n 0, 1) := by decide +kernel
theorem d_M_meet_71 : decode b_M_meet 71 = .ok (.getfield 25, 3) := by decide +kernel
theorem d_M_meet_74 : decode b_M_meet 74 = .ok (.iload_n 2, 1) := by decide +kernel
theorem d_M_meet_75 : decode b_M_meet 75 = .ok (.iaload, 1) := by decide +kernel
theorem d_M_meet_76 : decode b_M_meet 76 = .ok (.aload_n 0, 1) := by decide +kernel
theorem d_M_meet_77 : decode b_M_meet 77 = .ok (.getfield 28, 3) := by decide +kernel
theorem d_M_meet_80 : decode b_M_meet 80 = .ok (.iload_n 2, 1) := by decide +kernel
theorem d_M_meet_81 : decode b_M_meet 81 = .ok (.iaload, 1) := by decide +kernel
theorem d_M_meet_82 : decode b_M_meet 82 = .ok (.invokevirtual 98, 3) := by decide +kernel
theorem d_M_meet_85 : decode b_M_meet 85 = .ok (.ifCond .eq 5, 3) := by decide +kernel
theorem d_M_meet_88 : decode b_M_meet 88 = .ok (.iconst 1, 1) := by decide +kernel
theorem d_M_meet_89 : decode b_M_meet 89 = .ok (.ireturn, 1) := by decide +kernel
theorem d_M_meet_90 : decode b_M_meet 90 = .ok (.aload_n 0, 1) := by decide +kernel
theorem d_M_meet_91 : decode b_M_meet 91 = .ok (.getfield 25, 3) := by decide +kernel
theorem d_M_meet_94 : decode b_M_meet 94 = .ok (.iload_n 1, 1) := by decide +kernel
theorem d_M_meet_95 : decode b_M_meet 95 = .ok (.iaload, 1) := by decide +kernel
theorem d_M_meet_96 : decode b_M_meet 96 = .ok (.aload_n 0, 1) := by decide +kernel
theorem d_M_meet_97 : decode b_M_meet 97 = .ok (.getfield 28, 3) := by decide +kernel
theorem d_M_meet_100 : decode b_M_meet 100 = .ok (.iload_n 1, 1) := by decide +kernel
theorem d_M_meet_101 : decode b_M_meet 101 = .ok (.iaload, 1) := by decide +kernel
theorem d_M_meet_102 : decode b_M_meet 102 = .ok (.aload_n 0, 1) := by decide +kernel
theorem d_M_meet_103 : decode b_M_meet 103 = .ok (.getfield 25, 3) := by decide +kernel
theorem d_M_meet_106 : decode b_M_meet 106 = .ok (.iload_n 2, 1) := by decide +kernel
theorem d_M_meet_107 : decode b_M_meet 107 = .ok (.iaload, 1) := by decide +kernel
theorem d_M_meet_108 : decode b_M_meet 108 = .ok (.aload_n 0, 1) := by decide +kernel
theorem d_M_meet_109 : decode b_M_meet 109 = .ok (.getfield 28, 3) := by decide +kernel
theorem d_M_meet_112 : decode b_M_meet 112 = .ok (.iload_n 2, 1) := by decide +kernel
theorem d_M_meet_113 : decode b_M_meet 113 = .ok (.iaload, 1) := by decide +kernel
theorem d_M_meet_114 : decode b_M_meet 114 = .ok (.aload_n 0, 1) := by decide +kernel
theorem d_M_meet_115 : decode b_M_meet 115 = .ok (.getfield 25, 3) := by decide +kernel
theorem d_M_meet_118 : decode b_M_meet 118 = .ok (.iload_n 3, 1) := by decide +kernel
theorem d_M_meet_119 : decode b_M_meet 119 = .ok (.iaload, 1) := by decide +kernel
theorem d_M_meet_120 : decode b_M_meet 120 = .ok (.aload_n 0, 1) := by decide +kernel
theorem d_M_meet_121 : decode b_M_meet 121 = .ok (.getfield 28, 3) := by decide +kernel
theorem d_M_meet_124 : decode b_M_meet 124 = .ok (.iload_n 3, 1) := by decide +kernel
theorem d_M_meet_125 : decode b_M_meet 125 = .ok (.iaload, 1) := by decide +kernel
theorem d_M_meet_126 : decode b_M_meet 126 = .ok (.invokestatic 90, 3) := by decide +kernel
theorem d_M_meet_129 : decode b_M_meet 129 = .ok (.invokestatic 102, 3) := by decide +kernel
theorem d_M_meet_132 : decode b_M_meet 132 = .ok (.aload_n 0, 1) := by decide +kernel
theorem d_M_meet_133 : decode b_M_meet 133 = .ok (.getfield 25, 3) := by decide +kernel
theorem d_M_meet_136 : decode b_M_meet 136 = .ok (.iload_n 1, 1) := by decide +kernel
theorem d_M_meet_137 : decode b_M_meet 137 = .ok (.iaload, 1) := by decide +kernel
theorem d_M_meet_138 : decode b_M_meet 138 = .ok (.aload_n 0, 1) := by decide +kernel
theorem d_M_meet_139 : decode b_M_meet 139 = .ok (.getfield 28, 3) := by decide +kernel
theorem d_M_meet_142 : decode b_M_meet 142 = .ok (.iload_n 1, 1) := by decide +kernel
theorem d_M_meet_143 : decode b_M_meet 143 = .ok (.iaload, 1) := by decide +kernel
theorem d_M_meet_144 : decode b_M_meet 144 = .ok (.aload_n 0, 1) := by decide +kernel
theorem d_M_meet_145 : decode b_M_meet 145 = .ok (.getfield 25, 3) := by decide +kernel
theorem d_M_meet_148 : decode b_M_meet 148 = .ok (.iload_n 2, 1) := by decide +kernel
theorem d_M_meet_149 : decode b_M_meet 149 = .ok (.iaload, 1) := by decide +kernel
theorem d_M_meet_150 : decode b_M_meet 150 = .ok (.aload_n 0, 1) := by decide +kernel
theorem d_M_meet_151 : decode b_M_meet 151 = .ok (.getfield 28, 3) := by decide +kernel
theorem d_M_meet_154 : decode b_M_meet 154 = .ok (.iload_n 2, 1) := by decide +kernel
theorem d_M_meet_155 : decode b_M_meet 155 = .ok (.iaload, 1) := by decide +kernel
theorem d_M_meet_156 : decode b_M_meet 156 = .ok (.aload_n 0, 1) := by decide +kernel
theorem d_M_meet_157 : decode b_M_meet 157 = .ok (.getfield 25, 3) := by decide +kernel
theorem d_M_meet_160 : decode b_M_meet 160 = .ok (.iload 4, 2) := by decide +kernel
theorem d_M_meet_162 : decode b_M_meet 162 = .ok (.iaload, 1) := by decide +kernel
theorem d_M_meet_163 : decode b_M_meet 163 = .ok (.aload_n 0, 1) := by decide +kernel
theorem d_M_meet_164 : decode b_M_meet 164 = .ok (.getfield 28, 3) := by decide +kernel
theorem d_M_meet_167 : decode b_M_meet 167 = .ok (.iload 4, 2) := by decide +kernel
theorem d_M_meet_169 : decode b_M_meet 169 = .ok (.iaload, 1) := by decide +kernel
theorem d_M_meet_170 : decode b_M_meet 170 = .ok (.invokestatic 90, 3) := by decide +kernel
theorem d_M_meet_173 : decode b_M_meet 173 = .ok (.invokestatic 102, 3) := by decide +kernel
theorem d_M_meet_176 : decode b_M_meet 176 = .ok (.imul, 1) := by decide +kernel
theorem d_M_meet_177 : decode b_M_meet 177 = .ok (.istore 5, 2) := by decide +kernel
theorem d_M_meet_179 : decode b_M_meet 179 = .ok (.aload_n 0, 1) := by decide +kernel
theorem d_M_meet_180 : decode b_M_meet 180 = .ok (.getfield 25, 3) := by decide +kernel
theorem d_M_meet_183 : decode b_M_meet 183 = .ok (.iload_n 3, 1) := by decide +kernel
theorem d_M_meet_184 : decode b_M_meet 184 = .ok (.iaload, 1) := by decide +kernel
theorem d_M_meet_185 : decode b_M_meet 185 = .ok (.aload_n 0, 1) := by decide +kernel
theorem d_M_meet_186 : decode b_M_meet 186 = .ok (.getfield 28, 3) := by decide +kernel
theorem d_M_meet_189 : decode b_M_meet 189 = .ok (.iload_n 3, 1) := by decide +kernel
theorem d_M_meet_190 : decode b_M_meet 190 = .ok (.iaload, 1) := by decide +kernel
theorem d_M_meet_191 : decode b_M_meet 191 = .ok (.aload_n 0, 1) := by decide +kernel
theorem d_M_meet_192 : decode b_M_meet 192 = .ok (.getfield 25, 3) := by decide +kernel
theorem d_M_meet_195 : decode b_M_meet 195 = .ok (.iload 4, 2) := by decide +kernel
theorem d_M_meet_197 : decode b_M_meet 197 = .ok (.iaload, 1) := by decide +kernel
theorem d_M_meet_198 : decode b_M_meet 198 = .ok (.aload_n 0, 1) := by decide +kernel
theorem d_M_meet_199 : decode b_M_meet 199 = .ok (.getfield 28, 3) := by decide +kernel
theorem d_M_meet_202 : decode b_M_meet 202 = .ok (.iload 4, 2) := by decide +kernel
theorem d_M_meet_204 : decode b_M_meet 204 = .ok (.iaload, 1) := by decide +kernel
theorem d_M_meet_205 : decode b_M_meet 205 = .ok (.aload_n 0, 1) := by decide +kernel
theorem d_M_meet_206 : decode b_M_meet 206 = .ok (.getfield 25, 3) := by decide +kernel
theorem d_M_meet_209 : decode b_M_meet 209 = .ok (.iload_n 1, 1) := by decide +kernel
theorem d_M_meet_210 : decode b_M_meet 210 = .ok (.iaload, 1) := by decide +kernel
theorem d_M_meet_211 : decode b_M_meet 211 = .ok (.aload_n 0, 1) := by decide +kernel
theorem d_M_meet_212 : decode b_M_meet 212 = .ok (.getfield 28, 3) := by decide +kernel
theorem d_M_meet_215 : decode b_M_meet 215 = .ok (.iload_n 1, 1) := by decide +kernel
theorem d_M_meet_216 : decode b_M_meet 216 = .ok (.iaload, 1) := by decide +kernel
theorem d_M_meet_217 : decode b_M_meet 217 = .ok (.invokestatic 90, 3) := by decide +kernel
theorem d_M_meet_220 : decode b_M_meet 220 = .ok (.invokestatic 102, 3) := by decide +kernel
theorem d_M_meet_223 : decode b_M_meet 223 = .ok (.aload_n 0, 1) := by decide +kernel
theorem d_M_meet_224 : decode b_M_meet 224 = .ok (.getfield 25, 3) := by decide +kernel
theorem d_M_meet_227 : decode b_M_meet 227 = .ok (.iload_n 3, 1) := by decide +kernel
theorem d_M_meet_228 : decode b_M_meet 228 = .ok (.iaload, 1) := by decide +kernel
theorem d_M_meet_229 : decode b_M_meet 229 = .ok (.aload_n 0, 1) := by decide +kernel
theorem d_M_meet_230 : decode b_M_meet 230 = .ok (.getfield 28, 3) := by decide +kernel
theorem d_M_meet_233 : decode b_M_meet 233 = .ok (.iload_n 3, 1) := by decide +kernel
theorem d_M_meet_234 : decode b_M_meet 234 = .ok (.iaload, 1) := by decide +kernel
theorem d_M_meet_235 : decode b_M_meet 235 = .ok (.aload_n 0, 1) := by decide +kernel
theorem d_M_meet_236 : decode b_M_meet 236 = .ok (.getfield 25, 3) := by decide +kernel
theorem d_M_meet_239 : decode b_M_meet 239 = .ok (.iload 4, 2) := by decide +kernel
theorem d_M_meet_241 : decode b_M_meet 241 = .ok (.iaload, 1) := by decide +kernel
theorem d_M_meet_242 : decode b_M_meet 242 = .ok (.aload_n 0, 1) := by decide +kernel
theorem d_M_meet_243 : decode b_M_meet 243 = .ok (.getfield 28, 3) := by decide +kernel
theorem d_M_meet_246 : decode b_M_meet 246 = .ok (.iload 4, 2) := by decide +kernel
theorem d_M_meet_248 : decode b_M_meet 248 = .ok (.iaload, 1) := by decide +kernel
theorem d_M_meet_249 : decode b_M_meet 249 = .ok (.aload_n 0, 1) := by decide +kernel
theorem d_M_meet_250 : decode b_M_meet 250 = .ok (.getfield 25, 3) := by decide +kernel
theorem d_M_meet_253 : decode b_M_meet 253 = .ok (.iload_n 2, 1) := by decide +kernel
theorem d_M_meet_254 : decode b_M_meet 254 = .ok (.iaload, 1) := by decide +kernel
theorem d_M_meet_255 : decode b_M_meet 255 = .ok (.aload_n 0, 1) := by decide +kernel
theorem d_M_meet_256 : decode b_M_meet 256 = .ok (.getfield 28, 3) := by decide +kernel
theorem d_M_meet_259 : decode b_M_meet 259 = .ok (.iload_n 2, 1) := by decide +kernel
theorem d_M_meet_260 : decode b_M_meet 260 = .ok (.iaload, 1) := by decide +kernel
theorem d_M_meet_261 : decode b_M_meet 261 = .ok (.invokestatic 90, 3) := by decide +kernel
theorem d_M_meet_264 : decode b_M_meet 264 = .ok (.invokestatic 102, 3) := by decide +kernel
theorem d_M_meet_267 : decode b_M_meet 267 = .ok (.imul, 1) := by decide +kernel
theorem d_M_meet_268 : decode b_M_meet 268 = .ok (.istore 6, 2) := by decide +kernel
theorem d_M_meet_270 : decode b_M_meet 270 = .ok (.iload 5, 2) := by decide +kernel
theorem d_M_meet_272 : decode b_M_meet 272 = .ok (.ifCond .ge 12, 3) := by decide +kernel
theorem d_M_meet_275 : decode b_M_meet 275 = .ok (.iload 6, 2) := by decide +kernel
theorem d_M_meet_277 : decode b_M_meet 277 = .ok (.ifCond .ge 7, 3) := by decide +kernel
theorem d_M_meet_280 : decode b_M_meet 280 = .ok (.iconst 1, 1) := by decide +kernel
theorem d_M_meet_281 : decode b_M_meet 281 = .ok (.goto 4, 3) := by decide +kernel
theorem d_M_meet_284 : decode b_M_meet 284 = .ok (.iconst 0, 1) := by decide +kernel
theorem d_M_meet_285 : decode b_M_meet 285 = .ok (.ireturn, 1) := by decide +kernel
theorem d_M_after_0 : decode b_M_after 0 = .ok (.bipush 12, 2) := by decide +kernel
theorem d_M_after_2 : decode b_M_after 2 = .ok (.iload_n 1, 1) := by decide +kernel
theorem d_M_after_3 : decode b_M_after 3 = .ok (.imul, 1) := by decide +kernel
theorem d_M_after_4 : decode b_M_after 4 = .ok (.iload_n 2, 1) := by decide +kernel
theorem d_M_after_5 : decode b_M_after 5 = .ok (.iconst 1, 1) := by decide +kernel
theorem d_M_after_6 : decode b_M_after 6 = .ok (.iadd, 1) := by decide +kernel
theorem d_M_after_7 : decode b_M_after 7 = .ok (.aload_n 0, 1) := by decide +kernel
theorem d_M_after_8 : decode b_M_after 8 = .ok (.getfield 22, 3) := by decide +kernel
theorem d_M_after_11 : decode b_M_after 11 = .ok (.iload_n 1, 1) := by decide +kernel
theorem d_M_after_12 : decode b_M_after 12 = .ok (.iaload, 1) := by decide +kernel
theorem d_M_after_13 : decode b_M_after 13 = .ok (.irem, 1) := by decide +kernel
theorem d_M_after_14 : decode b_M_after 14 = .ok (.iadd, 1) := by decide +kernel
theorem d_M_after_15 : decode b_M_after 15 = .ok (.ireturn, 1) := by decide +kernel
theorem d_M_canClose_0 : decode b_M_canClose 0 = .ok (.aload_n 0, 1) := by decide +kernel
theorem d_M_canClose_1 : decode b_M_canClose 1 = .ok (.getfield 22, 3) := by decide +kernel
theorem d_M_canClose_4 : decode b_M_canClose 4 = .ok (.iload_n 1, 1) := by decide +kernel
theorem d_M_canClose_5 : decode b_M_canClose 5 = .ok (.iaload, 1) := by decide +kernel
theorem d_M_canClose_6 : decode b_M_canClose 6 = .ok (.istore_n 2, 1) := by decide +kernel
theorem d_M_canClose_7 : decode b_M_canClose 7 = .ok (.iload_n 2, 1) := by decide +kernel
theorem d_M_canClose_8 : decode b_M_canClose 8 = .ok (.iconst 3, 1) := by decide +kernel
theorem d_M_canClose_9 : decode b_M_canClose 9 = .ok (.if_icmp .lt 7, 3) := by decide +kernel
theorem d_M_canClose_12 : decode b_M_canClose 12 = .ok (.iconst 1, 1) := by decide +kernel
theorem d_M_canClose_13 : decode b_M_canClose 13 = .ok (.goto 4, 3) := by decide +kernel
theorem d_M_canClose_16 : decode b_M_canClose 16 = .ok (.iconst 0, 1) := by decide +kernel
theorem d_M_canClose_17 : decode b_M_canClose 17 = .ok (.istore_n 3, 1) := by decide +kernel
theorem d_M_canClose_18 : decode b_M_canClose 18 = .ok (.iconst 0, 1) := by decide +kernel
theorem d_M_canClose_19 : decode b_M_canClose 19 = .ok (.istore 4, 2) := by decide +kernel
theorem d_M_canClose_21 : decode b_M_canClose 21 = .ok (.iload 4, 2) := by decide +kernel
theorem d_M_canClose_23 : decode b_M_canClose 23 = .ok (.iload_n 2, 1) := by decide +kernel
theorem d_M_canClose_24 : decode b_M_canClose 24 = .ok (.if_icmp .ge 89, 3) := by decide +kernel
theorem d_M_canClose_27 : decode b_M_canClose 27 = .ok (.iconst 0, 1) := by decide +kernel
theorem d_M_canClose_28 : decode b_M_canClose 28 = .ok (.istore 5, 2) := by decide +kernel
theorem d_M_canClose_30 : decode b_M_canClose 30 = .ok (.iload 5, 2) := by decide +kernel
theorem d_M_canClose_32 : decode b_M_canClose 32 = .ok (.iload 4, 2) := by decide +kernel
theorem d_M_canClose_34 : decode b_M_canClose 34 = .ok (.if_icmp .ge 73, 3) := by decide +kernel
theorem d_M_canClose_37 : decode b_M_canClose 37 = .ok (.iload_n 3, 1) := by decide +kernel
theorem d_M_canClose_38 : decode b_M_canClose 38 = .ok (.ifCond .eq 61, 3) := by decide +kernel
theorem d_M_canClose_41 : decode b_M_canClose 41 = .ok (.aload_n 0, 1) := by decide +kernel
theorem d_M_canClose_42 : decode b_M_canClose 42 = .ok (.getfield 25, 3) := by decide +kernel
theorem d_M_canClose_45 : decode b_M_canClose 45 = .ok (.bipush 12, 2) := by decide +kernel
theorem d_M_canClose_47 : decode b_M_canClose 47 = .ok (.iload_n 1, 1) := by decide +kernel
theorem d_M_canClose_48 : decode b_M_canClose 48 = .ok (.imul, 1) := by decide +kernel
theorem d_M_canClose_49 : decode b_M_canClose 49 = .ok (.iload 4, 2) := by decide +kernel
theorem d_M_canClose_51 : decode b_M_canClose 51 = .ok (.iadd, 1) := by decide +kernel
theorem d_M_canClose_52 : decode b_M_canClose 52 = .ok (.iaload, 1) := by decide +kernel
theorem d_M_canClose_53 : decode b_M_canClose 53 = .ok (.aload_n 0, 1) := by decide +kernel
theorem d_M_canClose_54 : decode b_M_canClose 54 = .ok (.getfield 25, 3) := by decide +kernel
theorem d_M_canClose_57 : decode b_M_canClose 57 = .ok (.bipush 12, 2) := by decide +kernel
theorem d_M_canClose_59 : decode b_M_canClose 59 = .ok (.iload_n 1, 1) := by decide +kernel
theorem d_M_canClose_60 : decode b_M_canClose 60 = .ok (.imul, 1) := by decide +kernel
theorem d_M_canClose_61 : decode b_M_canClose 61 = .ok (.iload 5, 2) := by decide +kernel
theorem d_M_canClose_63 : decode b_M_canClose 63 = .ok (.iadd, 1) := by decide +kernel
theorem d_M_canClose_64 : decode b_M_canClose 64 = .ok (.iaload, 1) := by decide +kernel
theorem d_M_canClose_65 : decode b_M_canClose 65 = .ok (.if_icmp .ne 30, 3) := by decide +kernel
theorem d_M_canClose_68 : decode b_M_canClose 68 = .ok (.aload_n 0, 1) := by decide +kernel
theorem d_M_canClose_69 : decode b_M_canClose 69 = .ok (.getfield 28, 3) := by decide +kernel
theorem d_M_canClose_72 : decode b_M_canClose 72 = .ok (.bipush 12, 2) := by decide +kernel
theorem d_M_canClose_74 : decode b_M_canClose 74 = .ok (.iload_n 1, 1) := by decide +kernel
theorem d_M_canClose_75 : decode b_M_canClose 75 = .ok (.imul, 1) := by decide +kernel
theorem d_M_canClose_76 : decode b_M_canClose 76 = .ok (.iload 4, 2) := by decide +kernel
theorem d_M_canClose_78 : decode b_M_canClose 78 = .ok (.iadd, 1) := by decide +kernel
theorem d_M_canClose_79 : decode b_M_canClose 79 = .ok (.iaload, 1) := by decide +kernel
theorem d_M_canClose_80 : decode b_M_canClose 80 = .ok (.aload_n 0, 1) := by decide +kernel
theorem d_M_canClose_81 : decode b_M_canClose 81 = .ok (.getfield 28, 3) := by decide +kernel
theorem d_M_canClose_84 : decode b_M_canClose 84 = .ok (.bipush 12, 2) := by decide +kernel
theorem d_M_canClose_86 : decode b_M_canClose 86 = .ok (.iload_n 1, 1) := by decide +kernel
theorem d_M_canClose_87 : decode b_M_canClose 87 = .ok (.imul, 1) := by decide +kernel
theorem d_M_canClose_88 : decode b_M_canClose 88 = .ok (.iload 5, 2) := by decide +kernel
theorem d_M_canClose_90 : decode b_M_canClose 90 = .ok (.iadd, 1) := by decide +kernel
theorem d_M_canClose_91 : decode b_M_canClose 91 = .ok (.iaload, 1) := by decide +kernel
theorem d_M_canClose_92 : decode b_M_canClose 92 = .ok (.if_icmp .eq 7, 3) := by decide +kernel
theorem d_M_canClose_95 : decode b_M_canClose 95 = .ok (.iconst 1, 1) := by decide +kernel
theorem d_M_canClose_96 : decode b_M_canClose 96 = .ok (.goto 4, 3) := by decide +kernel
theorem d_M_canClose_99 : decode b_M_canClose 99 = .ok (.iconst 0, 1) := by decide +kernel
theorem d_M_canClose_100 : decode b_M_canClose 100 = .ok (.istore_n 3, 1) := by decide +kernel
theorem d_M_canClose_101 : decode b_M_canClose 101 = .ok (.iinc 5 1, 3) := by decide +kernel
theorem d_M_canClose_104 : decode b_M_canClose 104 = .ok (.goto (-74), 3) := by decide +kernel
theorem d_M_canClose_107 : decode b_M_canClose 107 = .ok (.iinc 4 1, 3) := by decide +kernel
theorem d_M_canClose_110 : decode b_M_canClose 110 = .ok (.goto (-89), 3) := by decide +kernel
theorem d_M_canClose_113 : decode b_M_canClose 113 = .ok (.iconst 0, 1) := by decide +kernel
theorem d_M_canClose_114 : decode b_M_canClose 114 = .ok (.istore 4, 2) := by decide +kernel
theorem d_M_canClose_116 : decode b_M_canClose 116 = .ok (.iload 4, 2) := by decide +kernel
theorem d_M_canClose_118 : decode b_M_canClose 118 = .ok (.iload_n 2, 1) := by decide +kernel
theorem d_M_canClose_119 : decode b_M_canClose 119 = .ok (.if_icmp .ge 189, 3) := by decide +kernel
theorem d_M_canClose_122 : decode b_M_canClose 122 = .ok (.iload_n 3, 1) := by decide +kernel
theorem d_M_canClose_123 : decode b_M_canClose 123 = .ok (.ifCond .eq 185, 3) := by decide +kernel
theorem d_M_canClose_126 : decode b_M_canClose 126 = .ok (.bipush 12, 2) := by decide +kernel
theorem d_M_canClose_128 : decode b_M_canClose 128 = .ok (.iload_n 1, 1) := by decide +kernel
theorem d_M_canClose_129 : decode b_M_canClose 129 = .ok (.imul, 1) := by decide +kernel
theorem d_M_canClose_130 : decode b_M_canClose 130 = .ok (.iload 4, 2) := by decide +kernel
theorem d_M_canClose_132 : decode b_M_canClose 132 = .ok (.iadd, 1) := by decide +kernel
theorem d_M_canClose_133 : decode b_M_canClose 133 = .ok (.istore 5, 2) := by decide +kernel
theorem d_M_canClose_135 : decode b_M_canClose 135 = .ok (.aload_n 0, 1) := by decide +kernel
theorem d_M_canClose_136 : decode b_M_canClose 136 = .ok (.iload_n 1, 1) := by decide +kernel
theorem d_M_canClose_137 : decode b_M_canClose 137 = .ok (.iload 4, 2) := by decide +kernel
theorem d_M_canClose_139 : decode b_M_canClose 139 = .ok (.invokevirtual 106, 3) := by decide +kernel
theorem d_M_canClose_142 : decode b_M_canClose 142 = .ok (.istore 6, 2) := by decide +kernel
theorem d_M_canClose_144 : decode b_M_canClose 144 = .ok (.aload_n 0, 1) := by decide +kernel
theorem d_M_canClose_145 : decode b_M_canClose 145 = .ok (.iload_n 1, 1) := by decide +kernel
theorem d_M_canClose_146 : decode b_M_canClose 146 = .ok (.iload 4, 2) := by decide +kernel
theorem d_M_canClose_148 : decode b_M_canClose 148 = .ok (.iconst 1, 1) := by decide +kernel
theorem d_M_canClose_149 : decode b_M_canClose 149 = .ok (.iadd, 1) := by decide +kernel
theorem d_M_canClose_150 : decode b_M_canClose 150 = .ok (.invokevirtual 106, 3) := by decide +kernel
theorem d_M_canClose_153 : decode b_M_canClose 153 = .ok (.istore 7, 2) := by decide +kernel
theorem d_M_canClose_155 : decode b_M_canClose 155 = .ok (.aload_n 0, 1) := by decide +kernel
theorem d_M_canClose_156 : decode b_M_canClose 156 = .ok (.iload 5, 2) := by decide +kernel
theorem d_M_canClose_158 : decode b_M_canClose 158 = .ok (.iload 6, 2) := by decide +kernel
theorem d_M_canClose_160 : decode b_M_canClose 160 = .ok (.aload_n 0, 1) := by decide +kernel
theorem d_M_canClose_161 : decode b_M_canClose 161 = .ok (.getfield 25, 3) := by decide +kernel
theorem d_M_canClose_164 : decode b_M_canClose 164 = .ok (.iload 7, 2) := by decide +kernel
theorem d_M_canClose_166 : decode b_M_canClose 166 = .ok (.iaload, 1) := by decide +kernel
theorem d_M_canClose_167 : decode b_M_canClose 167 = .ok (.aload_n 0, 1) := by decide +kernel
theorem d_M_canClose_168 : decode b_M_canClose 168 = .ok (.getfield 28, 3) := by decide +kernel
theorem d_M_canClose_171 : decode b_M_canClose 171 = .ok (.iload 7, 2) := by decide +kernel
theorem d_M_canClose_173 : decode b_M_canClose 173 = .ok (.iaload, 1) := by decide +kernel
theorem d_M_canClose_174 : decode b_M_canClose 174 = .ok (.invokevirtual 98, 3) := by decide +kernel
theorem d_M_canClose_177 : decode b_M_canClose 177 = .ok (.ifCond .ne 32, 3) := by decide +kernel
theorem d_M_canClose_180 : decode b_M_canClose 180 = .ok (.aload_n 0, 1) := by decide +kernel
theorem d_M_canClose_181 : decode b_M_canClose 181 = .ok (.iload 6, 2) := by decide +kernel
theorem d_M_canClose_183 : decode b_M_canClose 183 = .ok (.iload 7, 2) := by decide +kernel
theorem d_M_canClose_185 : decode b_M_canClose 185 = .ok (.aload_n 0, 1) := by decide +kernel
theorem d_M_canClose_186 : decode b_M_canClose 186 = .ok (.getfield 25, 3) := by decide +kernel
theorem d_M_canClose_189 : decode b_M_canClose 189 = .ok (.iload 5, 2) := by decide +kernel
theorem d_M_canClose_191 : decode b_M_canClose 191 = .ok (.iaload, 1) := by decide +kernel
theorem d_M_canClose_192 : decode b_M_canClose 192 = .ok (.aload_n 0, 1) := by decide +kernel
theorem d_M_canClose_193 : decode b_M_canClose 193 = .ok (.getfield 28, 3) := by decide +kernel
theorem d_M_canClose_196 : decode b_M_canClose 196 = .ok (.iload 5, 2) := by decide +kernel
theorem d_M_canClose_198 : decode b_M_canClose 198 = .ok (.iaload, 1) := by decide +kernel
theorem d_M_canClose_199 : decode b_M_canClose 199 = .ok (.invokevirtual 98, 3) := by decide +kernel
theorem d_M_canClose_202 : decode b_M_canClose 202 = .ok (.ifCond .ne 7, 3) := by decide +kernel
theorem d_M_canClose_205 : decode b_M_canClose 205 = .ok (.iconst 1, 1) := by decide +kernel
theorem d_M_canClose_206 : decode b_M_canClose 206 = .ok (.goto 4, 3) := by decide +kernel
theorem d_M_canClose_209 : decode b_M_canClose 209 = .ok (.iconst 0, 1) := by decide +kernel
theorem d_M_canClose_210 : decode b_M_canClose 210 = .ok (.istore_n 3, 1) := by decide +kernel
theorem d_M_canClose_211 : decode b_M_canClose 211 = .ok (.iconst 0, 1) := by decide +kernel
theorem d_M_canClose_212 : decode b_M_canClose 212 = .ok (.istore 8, 2) := by decide +kernel
theorem d_M_canClose_214 : decode b_M_canClose 214 = .ok (.iload 8, 2) := by decide +kernel
theorem d_M_canClose_216 : decode b_M_canClose 216 = .ok (.iload_n 2, 1) := by decide +kernel
theorem d_M_canClose_217 : decode b_M_canClose 217 = .ok (.if_icmp .ge 85, 3) := by decide +kernel
theorem d_M_canClose_220 : decode b_M_canClose 220 = .ok (.iload_n 3, 1) := by decide +kernel
theorem d_M_canClose_221 : decode b_M_canClose 221 = .ok (.ifCond .eq 81, 3) := by decide +kernel
theorem d_M_canClose_224 : decode b_M_canClose 224 = .ok (.iload 8, 2) := by decide +kernel
theorem d_M_canClose_226 : decode b_M_canClose 226 = .ok (.iload 4, 2) := by decide +kernel
theorem d_M_canClose_228 : decode b_M_canClose 228 = .ok (.if_icmp .eq 29, 3) := by decide +kernel
theorem d_M_canClose_231 : decode b_M_canClose 231 = .ok (.iload 8, 2) := by decide +kernel
theorem d_M_canClose_233 : decode b_M_canClose 233 = .ok (.iconst 1, 1) := by decide +kernel
theorem d_M_canClose_234 : decode b_M_canClose 234 = .ok (.iadd, 1) := by decide +kernel
theorem d_M_canClose_235 : decode b_M_canClose 235 = .ok (.iload_n 2, 1) := by decide +kernel
theorem d_M_canClose_236 : decode b_M_canClose 236 = .ok (.irem, 1) := by decide +kernel
theorem d_M_canClose_237 : decode b_M_canClose 237 = .ok (.iload 4, 2) := by decide +kernel
theorem d_M_canClose_239 : decode b_M_canClose 239 = .ok (.if_icmp .eq 18, 3) := by decide +kernel
theorem d_M_canClose_242 : decode b_M_canClose 242 = .ok (.iload 4, 2) := by decide +kernel
theorem d_M_canClose_244 : decode b_M_canClose 244 = .ok (.iconst 1, 1) := by decide +kernel
theorem d_M_canClose_245 : decode b_M_canClose 245 = .ok (.iadd, 1) := by decide +kernel
theorem d_M_canClose_246 : decode b_M_canClose 246 = .ok (.iload_n 2, 1) := by decide +kernel
theorem d_M_canClose_247 : decode b_M_canClose 247 = .ok (.irem, 1) := by decide +kernel
theorem d_M_canClose_248 : decode b_M_canClose 248 = .ok (.iload 8, 2) := by decide +kernel
theorem d_M_canClose_250 : decode b_M_canClose 250 = .ok (.if_icmp .eq 7, 3) := by decide +kernel
theorem d_M_canClose_253 : decode b_M_canClose 253 = .ok (.iconst 1, 1) := by decide +kernel
theorem d_M_canClose_254 : decode b_M_canClose 254 = .ok (.goto 4, 3) := by decide +kernel
theorem d_M_canClose_257 : decode b_M_canClose 257 = .ok (.iconst 0, 1) := by decide +kernel
theorem d_M_canClose_258 : decode b_M_canClose 258 = .ok (.istore 9, 2) := by decide +kernel
theorem d_M_canClose_260 : decode b_M_canClose 260 = .ok (.iload 9, 2) := by decide +kernel
theorem d_M_canClose_262 : decode b_M_canClose 262 = .ok (.ifCond .eq 28, 3) := by decide +kernel
theorem d_M_canClose_265 : decode b_M_canClose 265 = .ok (.aload_n 0, 1) := by decide +kernel
theorem d_M_canClose_266 : decode b_M_canClose 266 = .ok (.iload 5, 2) := by decide +kernel
theorem d_M_canClose_268 : decode b_M_canClose 268 = .ok (.iload 6, 2) := by decide +kernel
theorem d_M_canClose_270 : decode b_M_canClose 270 = .ok (.bipush 12, 2) := by decide +kernel
theorem d_M_canClose_272 : decode b_M_canClose 272 = .ok (.iload_n 1, 1) := by decide +kernel
theorem d_M_canClose_273 : decode b_M_canClose 273 = .ok (.imul, 1) := by decide +kernel
theorem d_M_canClose_274 : decode b_M_canClose 274 = .ok (.iload 8, 2) := by decide +kernel
theorem d_M_canClose_276 : decode b_M_canClose 276 = .ok (.iadd, 1) := by decide +kernel
theorem d_M_canClose_277 : decode b_M_canClose 277 = .ok (.aload_n 0, 1) := by decide +kernel
theorem d_M_canClose_278 : decode b_M_canClose 278 = .ok (.iload_n 1, 1) := by decide +kernel
theorem d_M_canClose_279 : decode b_M_canClose 279 = .ok (.iload 8, 2) := by decide +kernel
theorem d_M_canClose_281 : decode b_M_canClose 281 = .ok (.invokevirtual 106, 3) := by decide +kernel
theorem d_M_canClose_284 : decode b_M_canClose 284 = .ok (.invokevirtual 110, 3) := by decide +kernel
theorem d_M_canClose_287 : decode b_M_canClose 287 = .ok (.ifCond .ne 7, 3) := by decide +kernel
theorem d_M_canClose_290 : decode b_M_canClose 290 = .ok (.iconst 1, 1) := by decide +kernel
theorem d_M_canClose_291 : decode b_M_canClose 291 = .ok (.goto 4, 3) := by decide +kernel
theorem d_M_canClose_294 : decode b_M_canClose 294 = .ok (.iconst 0, 1) := by decide +kernel
theorem d_M_canClose_295 : decode b_M_canClose 295 = .ok (.istore_n 3, 1) := by decide +kernel
theorem d_M_canClose_296 : decode b_M_canClose 296 = .ok (.iinc 8 1, 3) := by decide +kernel
theorem d_M_canClose_299 : decode b_M_canClose 299 = .ok (.goto (-85), 3) := by decide +kernel
theorem d_M_canClose_302 : decode b_M_canClose 302 = .ok (.iinc 4 1, 3) := by decide +kernel
theorem d_M_canClose_305 : decode b_M_canClose 305 = .ok (.goto (-189), 3) := by decide +kernel
theorem d_M_canClose_308 : decode b_M_canClose 308 = .ok (.iload_n 3, 1) := by decide +kernel
theorem d_M_canClose_309 : decode b_M_canClose 309 = .ok (.ireturn, 1) := by decide +kernel
theorem d_M_free_0 : decode b_M_free 0 = .ok (.aload_n 0, 1) := by decide +kernel
theorem d_M_free_1 : decode b_M_free 1 = .ok (.getfield 34, 3) := by decide +kernel
theorem d_M_free_4 : decode b_M_free 4 = .ok (.iload_n 1, 1) := by decide +kernel
theorem d_M_free_5 : decode b_M_free 5 = .ok (.iaload, 1) := by decide +kernel
theorem d_M_free_6 : decode b_M_free 6 = .ok (.iconst (-1), 1) := by decide +kernel
theorem d_M_free_7 : decode b_M_free 7 = .ok (.if_icmp .eq 22, 3) := by decide +kernel
theorem d_M_free_10 : decode b_M_free 10 = .ok (.aload_n 0, 1) := by decide +kernel
theorem d_M_free_11 : decode b_M_free 11 = .ok (.getfield 34, 3) := by decide +kernel
theorem d_M_free_14 : decode b_M_free 14 = .ok (.aload_n 0, 1) := by decide +kernel
theorem d_M_free_15 : decode b_M_free 15 = .ok (.getfield 34, 3) := by decide +kernel
theorem d_M_free_18 : decode b_M_free 18 = .ok (.iload_n 1, 1) := by decide +kernel
theorem d_M_free_19 : decode b_M_free 19 = .ok (.iaload, 1) := by decide +kernel
theorem d_M_free_20 : decode b_M_free 20 = .ok (.iconst (-1), 1) := by decide +kernel
theorem d_M_free_21 : decode b_M_free 21 = .ok (.iastore, 1) := by decide +kernel
theorem d_M_free_22 : decode b_M_free 22 = .ok (.aload_n 0, 1) := by decide +kernel
theorem d_M_free_23 : decode b_M_free 23 = .ok (.getfield 34, 3) := by decide +kernel
theorem d_M_free_26 : decode b_M_free 26 = .ok (.iload_n 1, 1) := by decide +kernel
theorem d_M_free_27 : decode b_M_free 27 = .ok (.iconst (-1), 1) := by decide +kernel
theorem d_M_free_28 : decode b_M_free 28 = .ok (.iastore, 1) := by decide +kernel
theorem d_M_free_29 : decode b_M_free 29 = .ok (.return_, 1) := by decide +kernel
theorem d_M_forced_0 : decode b_M_forced 0 = .ok (.iconst (-1), 1) := by decide +kernel
theorem d_M_forced_1 : decode b_M_forced 1 = .ok (.istore_n 3, 1) := by decide +kernel
theorem d_M_forced_2 : decode b_M_forced 2 = .ok (.iconst 0, 1) := by decide +kernel
theorem d_M_forced_3 : decode b_M_forced 3 = .ok (.istore 4, 2) := by decide +kernel
theorem d_M_forced_5 : decode b_M_forced 5 = .ok (.iload 4, 2) := by decide +kernel
theorem d_M_forced_7 : decode b_M_forced 7 = .ok (.aload_n 0, 1) := by decide +kernel
theorem d_M_forced_8 : decode b_M_forced 8 = .ok (.getfield 69, 3) := by decide +kernel
theorem d_M_forced_11 : decode b_M_forced 11 = .ok (.if_icmp .ge 92, 3) := by decide +kernel
theorem d_M_forced_14 : decode b_M_forced 14 = .ok (.aload_n 0, 1) := by decide +kernel
theorem d_M_forced_15 : decode b_M_forced 15 = .ok (.getfield 13, 3) := by decide +kernel
theorem d_M_forced_18 : decode b_M_forced 18 = .ok (.iload 4, 2) := by decide +kernel
theorem d_M_forced_20 : decode b_M_forced 20 = .ok (.iaload, 1) := by decide +kernel
theorem d_M_forced_21 : decode b_M_forced 21 = .ok (.iload_n 1, 1) := by decide +kernel
theorem d_M_forced_22 : decode b_M_forced 22 = .ok (.if_icmp .ne 39, 3) := by decide +kernel
theorem d_M_forced_25 : decode b_M_forced 25 = .ok (.aload_n 0, 1) := by decide +kernel
theorem d_M_forced_26 : decode b_M_forced 26 = .ok (.getfield 31, 3) := by decide +kernel
theorem d_M_forced_29 : decode b_M_forced 29 = .ok (.iload 4, 2) := by decide +kernel
theorem d_M_forced_31 : decode b_M_forced 31 = .ok (.iaload, 1) := by decide +kernel
theorem d_M_forced_32 : decode b_M_forced 32 = .ok (.ifCond .le 29, 3) := by decide +kernel
theorem d_M_forced_35 : decode b_M_forced 35 = .ok (.aload_n 0, 1) := by decide +kernel
theorem d_M_forced_36 : decode b_M_forced 36 = .ok (.getfield 16, 3) := by decide +kernel
theorem d_M_forced_39 : decode b_M_forced 39 = .ok (.iload 4, 2) := by decide +kernel
theorem d_M_forced_41 : decode b_M_forced 41 = .ok (.iaload, 1) := by decide +kernel
theorem d_M_forced_42 : decode b_M_forced 42 = .ok (.iload_n 2, 1) := by decide +kernel
theorem d_M_forced_43 : decode b_M_forced 43 = .ok (.if_icmp .gt 18, 3) := by decide +kernel
theorem d_M_forced_46 : decode b_M_forced 46 = .ok (.iload_n 2, 1) := by decide +kernel
theorem d_M_forced_47 : decode b_M_forced 47 = .ok (.aload_n 0, 1) := by decide +kernel
theorem d_M_forced_48 : decode b_M_forced 48 = .ok (.getfield 19, 3) := by decide +kernel
theorem d_M_forced_51 : decode b_M_forced 51 = .ok (.iload 4, 2) := by decide +kernel
theorem d_M_forced_53 : decode b_M_forced 53 = .ok (.iaload, 1) := by decide +kernel
theorem d_M_forced_54 : decode b_M_forced 54 = .ok (.if_icmp .gt 7, 3) := by decide +kernel
theorem d_M_forced_57 : decode b_M_forced 57 = .ok (.iconst 1, 1) := by decide +kernel
theorem d_M_forced_58 : decode b_M_forced 58 = .ok (.goto 4, 3) := by decide +kernel
theorem d_M_forced_61 : decode b_M_forced 61 = .ok (.iconst 0, 1) := by decide +kernel
theorem d_M_forced_62 : decode b_M_forced 62 = .ok (.istore 5, 2) := by decide +kernel
theorem d_M_forced_64 : decode b_M_forced 64 = .ok (.iload 5, 2) := by decide +kernel
theorem d_M_forced_66 : decode b_M_forced 66 = .ok (.ifCond .eq 29, 3) := by decide +kernel
theorem d_M_forced_69 : decode b_M_forced 69 = .ok (.iload_n 3, 1) := by decide +kernel
theorem d_M_forced_70 : decode b_M_forced 70 = .ok (.iconst (-1), 1) := by decide +kernel
theorem d_M_forced_71 : decode b_M_forced 71 = .ok (.if_icmp .eq 19, 3) := by decide +kernel
theorem d_M_forced_74 : decode b_M_forced 74 = .ok (.aload_n 0, 1) := by decide +kernel
theorem d_M_forced_75 : decode b_M_forced 75 = .ok (.getfield 31, 3) := by decide +kernel
theorem d_M_forced_78 : decode b_M_forced 78 = .ok (.iload 4, 2) := by decide +kernel
theorem d_M_forced_80 : decode b_M_forced 80 = .ok (.iaload, 1) := by decide +kernel
theorem d_M_forced_81 : decode b_M_forced 81 = .ok (.aload_n 0, 1) := by decide +kernel
theorem d_M_forced_82 : decode b_M_forced 82 = .ok (.getfield 31, 3) := by decide +kernel
theorem d_M_forced_85 : decode b_M_forced 85 = .ok (.iload_n 3, 1) := by decide +kernel
theorem d_M_forced_86 : decode b_M_forced 86 = .ok (.iaload, 1) := by decide +kernel
theorem d_M_forced_87 : decode b_M_forced 87 = .ok (.if_icmp .le 8, 3) := by decide +kernel
theorem d_M_forced_90 : decode b_M_forced 90 = .ok (.iload 4, 2) := by decide +kernel
theorem d_M_forced_92 : decode b_M_forced 92 = .ok (.goto 4, 3) := by decide +kernel
theorem d_M_forced_95 : decode b_M_forced 95 = .ok (.iload_n 3, 1) := by decide +kernel
theorem d_M_forced_96 : decode b_M_forced 96 = .ok (.istore_n 3, 1) := by decide +kernel
theorem d_M_forced_97 : decode b_M_forced 97 = .ok (.iinc 4 1, 3) := by decide +kernel
theorem d_M_forced_100 : decode b_M_forced 100 = .ok (.goto (-95), 3) := by decide +kernel
theorem d_M_forced_103 : decode b_M_forced 103 = .ok (.iload_n 3, 1) := by decide +kernel
theorem d_M_forced_104 : decode b_M_forced 104 = .ok (.ireturn, 1) := by decide +kernel
theorem d_M_isIn_0 : decode b_M_isIn 0 = .ok (.iconst 0, 1) := by decide +kernel
theorem d_M_isIn_1 : decode b_M_isIn 1 = .ok (.istore 4, 2) := by decide +kernel
theorem d_M_isIn_3 : decode b_M_isIn 3 = .ok (.iconst 0, 1) := by decide +kernel
theorem d_M_isIn_4 : decode b_M_isIn 4 = .ok (.istore 5, 2) := by decide +kernel
theorem d_M_isIn_6 : decode b_M_isIn 6 = .ok (.iload 5, 2) := by decide +kernel
theorem d_M_isIn_8 : decode b_M_isIn 8 = .ok (.aload_n 0, 1) := by decide +kernel
theorem d_M_isIn_9 : decode b_M_isIn 9 = .ok (.getfield 22, 3) := by decide +kernel
theorem d_M_isIn_12 : decode b_M_isIn 12 = .ok (.iload_n 1, 1) := by decide +kernel
theorem d_M_isIn_13 : decode b_M_isIn 13 = .ok (.iaload, 1) := by decide +kernel
theorem d_M_isIn_14 : decode b_M_isIn 14 = .ok (.if_icmp .ge 176, 3) := by decide +kernel
theorem d_M_isIn_17 : decode b_M_isIn 17 = .ok (.bipush 12, 2) := by decide +kernel
theorem d_M_isIn_19 : decode b_M_isIn 19 = .ok (.iload_n 1, 1) := by decide +kernel
theorem d_M_isIn_20 : decode b_M_isIn 20 = .ok (.imul, 1) := by decide +kernel
theorem d_M_isIn_21 : decode b_M_isIn 21 = .ok (.iload 5, 2) := by decide +kernel
theorem d_M_isIn_23 : decode b_M_isIn 23 = .ok (.iadd, 1) := by decide +kernel
theorem d_M_isIn_24 : decode b_M_isIn 24 = .ok (.istore 6, 2) := by decide +kernel
theorem d_M_isIn_26 : decode b_M_isIn 26 = .ok (.aload_n 0, 1) := by decide +kernel
theorem d_M_isIn_27 : decode b_M_isIn 27 = .ok (.iload_n 1, 1) := by decide +kernel
theorem d_M_isIn_28 : decode b_M_isIn 28 = .ok (.iload 5, 2) := by decide +kernel
theorem d_M_isIn_30 : decode b_M_isIn 30 = .ok (.invokevirtual 106, 3) := by decide +kernel
theorem d_M_isIn_33 : decode b_M_isIn 33 = .ok (.istore 7, 2) := by decide +kernel
theorem d_M_isIn_35 : decode b_M_isIn 35 = .ok (.aload_n 0, 1) := by decide +kernel
theorem d_M_isIn_36 : decode b_M_isIn 36 = .ok (.iload 6, 2) := by decide +kernel
theorem d_M_isIn_38 : decode b_M_isIn 38 = .ok (.iload 7, 2) := by decide +kernel
theorem d_M_isIn_40 : decode b_M_isIn 40 = .ok (.iload_n 2, 1) := by decide +kernel
theorem d_M_isIn_41 : decode b_M_isIn 41 = .ok (.iload_n 3, 1) := by decide +kernel
theorem d_M_isIn_42 : decode b_M_isIn 42 = .ok (.invokevirtual 98, 3) := by decide +kernel
theorem d_M_isIn_45 : decode b_M_isIn 45 = .ok (.ifCond .eq 5, 3) := by decide +kernel
theorem d_M_isIn_48 : decode b_M_isIn 48 = .ok (.iconst 1, 1) := by decide +kernel
theorem d_M_isIn_49 : decode b_M_isIn 49 = .ok (.ireturn, 1) := by decide +kernel
theorem d_M_isIn_50 : decode b_M_isIn 50 = .ok (.aload_n 0, 1) := by decide +kernel
theorem d_M_isIn_51 : decode b_M_isIn 51 = .ok (.getfield 28, 3) := by decide +kernel
theorem d_M_isIn_54 : decode b_M_isIn 54 = .ok (.iload 6, 2) := by decide +kernel
theorem d_M_isIn_56 : decode b_M_isIn 56 = .ok (.iaload, 1) := by decide +kernel
theorem d_M_isIn_57 : decode b_M_isIn 57 = .ok (.iload_n 3, 1) := by decide +kernel
theorem d_M_isIn_58 : decode b_M_isIn 58 = .ok (.if_icmp .le 7, 3) := by decide +kernel
theorem d_M_isIn_61 : decode b_M_isIn 61 = .ok (.iconst 1, 1) := by decide +kernel
theorem d_M_isIn_62 : decode b_M_isIn 62 = .ok (.goto 4, 3) := by decide +kernel
theorem d_M_isIn_65 : decode b_M_isIn 65 = .ok (.iconst 0, 1) := by decide +kernel
theorem d_M_isIn_66 : decode b_M_isIn 66 = .ok (.aload_n 0, 1) := by decide +kernel
theorem d_M_isIn_67 : decode b_M_isIn 67 = .ok (.getfield 28, 3) := by decide +kernel
theorem d_M_isIn_70 : decode b_M_isIn 70 = .ok (.iload 7, 2) := by decide +kernel
theorem d_M_isIn_72 : decode b_M_isIn 72 = .ok (.iaload, 1) := by decide +kernel
theorem d_M_isIn_73 : decode b_M_isIn 73 = .ok (.iload_n 3, 1) := by decide +kernel
theorem d_M_isIn_74 : decode b_M_isIn 74 = .ok (.if_icmp .le 7, 3) := by decide +kernel
theorem d_M_isIn_77 : decode b_M_isIn 77 = .ok (.iconst 1, 1) := by decide +kernel
theorem d_M_isIn_78 : decode b_M_isIn 78 = .ok (.goto 4, 3) := by decide +kernel
theorem d_M_isIn_81 : decode b_M_isIn 81 = .ok (.iconst 0, 1) := by decide +kernel
theorem d_M_isIn_82 : decode b_M_isIn 82 = .ok (.if_icmp .eq 7, 3) := by decide +kernel
theorem d_M_isIn_85 : decode b_M_isIn 85 = .ok (.iconst 1, 1) := by decide +kernel
theorem d_M_isIn_86 : decode b_M_isIn 86 = .ok (.goto 4, 3) := by decide +kernel
theorem d_M_isIn_89 : decode b_M_isIn 89 = .ok (.iconst 0, 1) := by decide +kernel
theorem d_M_isIn_90 : decode b_M_isIn 90 = .ok (.istore 8, 2) := by decide +kernel
theorem d_M_isIn_92 : decode b_M_isIn 92 = .ok (.aload_n 0, 1) := by decide +kernel
theorem d_M_isIn_93 : decode b_M_isIn 93 = .ok (.getfield 25, 3) := by decide +kernel
theorem d_M_isIn_96 : decode b_M_isIn 96 = .ok (.iload 6, 2) := by decide +kernel
theorem d_M_isIn_98 : decode b_M_isIn 98 = .ok (.iaload, 1) := by decide +kernel
theorem d_M_isIn_99 : decode b_M_isIn 99 = .ok (.aload_n 0, 1) := by decide +kernel
theorem d_M_isIn_100 : decode b_M_isIn 100 = .ok (.getfield 28, 3) := by decide +kernel
theorem d_M_isIn_103 : decode b_M_isIn 103 = .ok (.iload 6, 2) := by decide +kernel
theorem d_M_isIn_105 : decode b_M_isIn 105 = .ok (.iaload, 1) := by decide +kernel
theorem d_M_isIn_106 : decode b_M_isIn 106 = .ok (.aload_n 0, 1) := by decide +kernel
theorem d_M_isIn_107 : decode b_M_isIn 107 = .ok (.getfield 25, 3) := by decide +kernel
theorem d_M_isIn_110 : decode b_M_isIn 110 = .ok (.iload 7, 2) := by decide +kernel
theorem d_M_isIn_112 : decode b_M_isIn 112 = .ok (.iaload, 1) := by decide +kernel
theorem d_M_isIn_113 : decode b_M_isIn 113 = .ok (.aload_n 0, 1) := by decide +kernel
theorem d_M_isIn_114 : decode b_M_isIn 114 = .ok (.getfield 28, 3) := by decide +kernel
theorem d_M_isIn_117 : decode b_M_isIn 117 = .ok (.iload 7, 2) := by decide +kernel
theorem d_M_isIn_119 : decode b_M_isIn 119 = .ok (.iaload, 1) := by decide +kernel
theorem d_M_isIn_120 : decode b_M_isIn 120 = .ok (.iload_n 2, 1) := by decide +kernel
theorem d_M_isIn_121 : decode b_M_isIn 121 = .ok (.iload_n 3, 1) := by decide +kernel
theorem d_M_isIn_122 : decode b_M_isIn 122 = .ok (.invokestatic 90, 3) := by decide +kernel
theorem d_M_isIn_125 : decode b_M_isIn 125 = .ok (.istore 9, 2) := by decide +kernel
theorem d_M_isIn_127 : decode b_M_isIn 127 = .ok (.iload 8, 2) := by decide +kernel
theorem d_M_isIn_129 : decode b_M_isIn 129 = .ok (.ifCond .eq 51, 3) := by decide +kernel
theorem d_M_isIn_132 : decode b_M_isIn 132 = .ok (.aload_n 0, 1) := by decide +kernel
theorem d_M_isIn_133 : decode b_M_isIn 133 = .ok (.getfield 28, 3) := by decide +kernel
theorem d_M_isIn_136 : decode b_M_isIn 136 = .ok (.iload 7, 2) := by decide +kernel
theorem d_M_isIn_138 : decode b_M_isIn 138 = .ok (.iaload, 1) := by decide +kernel
theorem d_M_isIn_139 : decode b_M_isIn 139 = .ok (.aload_n 0, 1) := by decide +kernel
theorem d_M_isIn_140 : decode b_M_isIn 140 = .ok (.getfield 28, 3) := by decide +kernel
theorem d_M_isIn_143 : decode b_M_isIn 143 = .ok (.iload 6, 2) := by decide +kernel
theorem d_M_isIn_145 : decode b_M_isIn 145 = .ok (.iaload, 1) := by decide +kernel
theorem d_M_isIn_146 : decode b_M_isIn 146 = .ok (.if_icmp .le 7, 3) := by decide +kernel
theorem d_M_isIn_149 : decode b_M_isIn 149 = .ok (.iconst 1, 1) := by decide +kernel
theorem d_M_isIn_150 : decode b_M_isIn 150 = .ok (.goto 4, 3) := by decide +kernel
theorem d_M_isIn_153 : decode b_M_isIn 153 = .ok (.iconst 0, 1) := by decide +kernel
theorem d_M_isIn_154 : decode b_M_isIn 154 = .ok (.iload 9, 2) := by decide +kernel
theorem d_M_isIn_156 : decode b_M_isIn 156 = .ok (.ifCond .le 7, 3) := by decide +kernel
theorem d_M_isIn_159 : decode b_M_isIn 159 = .ok (.iconst 1, 1) := by decide +kernel
theorem d_M_isIn_160 : decode b_M_isIn 160 = .ok (.goto 4, 3) := by decide +kernel
theorem d_M_isIn_163 : decode b_M_isIn 163 = .ok (.iconst 0, 1) := by decide +kernel
theorem d_M_isIn_164 : decode b_M_isIn 164 = .ok (.if_icmp .ne 16, 3) := by decide +kernel
theorem d_M_isIn_167 : decode b_M_isIn 167 = .ok (.iload 4, 2) := by decide +kernel
theorem d_M_isIn_169 : decode b_M_isIn 169 = .ok (.ifCond .ne 7, 3) := by decide +kernel
theorem d_M_isIn_172 : decode b_M_isIn 172 = .ok (.iconst 1, 1) := by decide +kernel
theorem d_M_isIn_173 : decode b_M_isIn 173 = .ok (.goto 9, 3) := by decide +kernel
theorem d_M_isIn_176 : decode b_M_isIn 176 = .ok (.iconst 0, 1) := by decide +kernel
theorem d_M_isIn_177 : decode b_M_isIn 177 = .ok (.goto 5, 3) := by decide +kernel
theorem d_M_isIn_180 : decode b_M_isIn 180 = .ok (.iload 4, 2) := by decide +kernel
theorem d_M_isIn_182 : decode b_M_isIn 182 = .ok (.istore 4, 2) := by decide +kernel
theorem d_M_isIn_184 : decode b_M_isIn 184 = .ok (.iinc 5 1, 3) := by decide +kernel
theorem d_M_isIn_187 : decode b_M_isIn 187 = .ok (.goto (-181), 3) := by decide +kernel
theorem d_M_isIn_190 : decode b_M_isIn 190 = .ok (.iload 4, 2) := by decide +kernel
theorem d_M_isIn_192 : decode b_M_isIn 192 = .ok (.ireturn, 1) := by decide +kernel
theorem d_M_misfits_0 : decode b_M_misfits 0 = .ok (.aload_n 0, 1) := by decide +kernel
theorem d_M_misfits_1 : decode b_M_misfits 1 = .ok (.iload_n 1, 1) := by decide +kernel
theorem d_M_misfits_2 : decode b_M_misfits 2 = .ok (.iload_n 2, 1) := by decide +kernel
theorem d_M_misfits_3 : decode b_M_misfits 3 = .ok (.invokevirtual 123, 3) := by decide +kernel
theorem d_M_misfits_6 : decode b_M_misfits 6 = .ok (.istore_n 3, 1) := by decide +kernel
theorem d_M_misfits_7 : decode b_M_misfits 7 = .ok (.aload_n 0, 1) := by decide +kernel
theorem d_M_misfits_8 : decode b_M_misfits 8 = .ok (.getfield 7, 3) := by decide +kernel
theorem d_M_misfits_11 : decode b_M_misfits 11 = .ok (.iload_n 1, 1) := by decide +kernel
theorem d_M_misfits_12 : decode b_M_misfits 12 = .ok (.iaload, 1) := by decide +kernel
theorem d_M_misfits_13 : decode b_M_misfits 13 = .ok (.iconst (-1), 1) := by decide +kernel
theorem d_M_misfits_14 : decode b_M_misfits 14 = .ok (.if_icmp .ne 7, 3) := by decide +kernel
theorem d_M_misfits_17 : decode b_M_misfits 17 = .ok (.iconst (-1), 1) := by decide +kernel
theorem d_M_misfits_18 : decode b_M_misfits 18 = .ok (.goto 14, 3) := by decide +kernel
theorem d_M_misfits_21 : decode b_M_misfits 21 = .ok (.aload_n 0, 1) := by decide +kernel
theorem d_M_misfits_22 : decode b_M_misfits 22 = .ok (.aload_n 0, 1) := by decide +kernel
theorem d_M_misfits_23 : decode b_M_misfits 23 = .ok (.getfield 7, 3) := by decide +kernel
theorem d_M_misfits_26 : decode b_M_misfits 26 = .ok (.iload_n 1, 1) := by decide +kernel
theorem d_M_misfits_27 : decode b_M_misfits 27 = .ok (.iaload, 1) := by decide +kernel
theorem d_M_misfits_28 : decode b_M_misfits 28 = .ok (.iload_n 2, 1) := by decide +kernel
theorem d_M_misfits_29 : decode b_M_misfits 29 = .ok (.invokevirtual 123, 3) := by decide +kernel
theorem d_M_misfits_32 : decode b_M_misfits 32 = .ok (.istore 4, 2) := by decide +kernel
theorem d_M_misfits_34 : decode b_M_misfits 34 = .ok (.iconst 0, 1) := by decide +kernel
theorem d_M_misfits_35 : decode b_M_misfits 35 = .ok (.istore 5, 2) := by decide +kernel
theorem d_M_misfits_37 : decode b_M_misfits 37 = .ok (.iconst 0, 1) := by decide +kernel
theorem d_M_misfits_38 : decode b_M_misfits 38 = .ok (.istore 6, 2) := by decide +kernel
theorem d_M_misfits_40 : decode b_M_misfits 40 = .ok (.iload_n 3, 1) := by decide +kernel
theorem d_M_misfits_41 : decode b_M_misfits 41 = .ok (.iconst (-1), 1) := by decide +kernel
theorem d_M_misfits_42 : decode b_M_misfits 42 = .ok (.if_icmp .eq 71, 3) := by decide +kernel
theorem d_M_misfits_45 : decode b_M_misfits 45 = .ok (.iload 4, 2) := by decide +kernel
theorem d_M_misfits_47 : decode b_M_misfits 47 = .ok (.iconst (-1), 1) := by decide +kernel
theorem d_M_misfits_48 : decode b_M_misfits 48 = .ok (.if_icmp .eq 65, 3) := by decide +kernel
theorem d_M_misfits_51 : decode b_M_misfits 51 = .ok (.iload 6, 2) := by decide +kernel
theorem d_M_misfits_53 : decode b_M_misfits 53 = .ok (.aload_n 0, 1) := by decide +kernel
theorem d_M_misfits_54 : decode b_M_misfits 54 = .ok (.getfield 22, 3) := by decide +kernel
theorem d_M_misfits_57 : decode b_M_misfits 57 = .ok (.iload_n 3, 1) := by decide +kernel
theorem d_M_misfits_58 : decode b_M_misfits 58 = .ok (.iaload, 1) := by decide +kernel
theorem d_M_misfits_59 : decode b_M_misfits 59 = .ok (.if_icmp .ge 54, 3) := by decide +kernel
theorem d_M_misfits_62 : decode b_M_misfits 62 = .ok (.iload 5, 2) := by decide +kernel
theorem d_M_misfits_64 : decode b_M_misfits 64 = .ok (.ifCond .ne 36, 3) := by decide +kernel
theorem d_M_misfits_67 : decode b_M_misfits 67 = .ok (.aload_n 0, 1) := by decide +kernel
theorem d_M_misfits_68 : decode b_M_misfits 68 = .ok (.iload 4, 2) := by decide +kernel
theorem d_M_misfits_70 : decode b_M_misfits 70 = .ok (.aload_n 0, 1) := by decide +kernel
theorem d_M_misfits_71 : decode b_M_misfits 71 = .ok (.getfield 25, 3) := by decide +kernel
theorem d_M_misfits_74 : decode b_M_misfits 74 = .ok (.bipush 12, 2) := by decide +kernel
theorem d_M_misfits_76 : decode b_M_misfits 76 = .ok (.iload_n 3, 1) := by decide +kernel
theorem d_M_misfits_77 : decode b_M_misfits 77 = .ok (.imul, 1) := by decide +kernel
theorem d_M_misfits_78 : decode b_M_misfits 78 = .ok (.iload 6, 2) := by decide +kernel
theorem d_M_misfits_80 : decode b_M_misfits 80 = .ok (.iadd, 1) := by decide +kernel
theorem d_M_misfits_81 : decode b_M_misfits 81 = .ok (.iaload, 1) := by decide +kernel
theorem d_M_misfits_82 : decode b_M_misfits 82 = .ok (.aload_n 0, 1) := by decide +kernel
theorem d_M_misfits_83 : decode b_M_misfits 83 = .ok (.getfield 28, 3) := by decide +kernel
theorem d_M_misfits_86 : decode b_M_misfits 86 = .ok (.bipush 12, 2) := by decide +kernel
theorem d_M_misfits_88 : decode b_M_misfits 88 = .ok (.iload_n 3, 1) := by decide +kernel
theorem d_M_misfits_89 : decode b_M_misfits 89 = .ok (.imul, 1) := by decide +kernel
theorem d_M_misfits_90 : decode b_M_misfits 90 = .ok (.iload 6, 2) := by decide +kernel
theorem d_M_misfits_92 : decode b_M_misfits 92 = .ok (.iadd, 1) := by decide +kernel
theorem d_M_misfits_93 : decode b_M_misfits 93 = .ok (.iaload, 1) := by decide +kernel
theorem d_M_misfits_94 : decode b_M_misfits 94 = .ok (.invokevirtual 126, 3) := by decide +kernel
theorem d_M_misfits_97 : decode b_M_misfits 97 = .ok (.ifCond .ne 7, 3) := by decide +kernel
theorem d_M_misfits_100 : decode b_M_misfits 100 = .ok (.iconst 1, 1) := by decide +kernel
theorem d_M_misfits_101 : decode b_M_misfits 101 = .ok (.goto 4, 3) := by decide +kernel
theorem d_M_misfits_104 : decode b_M_misfits 104 = .ok (.iconst 0, 1) := by decide +kernel
theorem d_M_misfits_105 : decode b_M_misfits 105 = .ok (.istore 5, 2) := by decide +kernel
theorem d_M_misfits_107 : decode b_M_misfits 107 = .ok (.iinc 6 1, 3) := by decide +kernel
theorem d_M_misfits_110 : decode b_M_misfits 110 = .ok (.goto (-70), 3) := by decide +kernel
theorem d_M_misfits_113 : decode b_M_misfits 113 = .ok (.iload 5, 2) := by decide +kernel
theorem d_M_misfits_115 : decode b_M_misfits 115 = .ok (.ireturn, 1) := by decide +kernel
theorem d_M_part_0 : decode b_M_part 0 = .ok (.aload_n 0, 1) := by decide +kernel
theorem d_M_part_1 : decode b_M_part 1 = .ok (.getfield 49, 3) := by decide +kernel
theorem d_M_part_4 : decode b_M_part 4 = .ok (.iload_n 1, 1) := by decide +kernel
theorem d_M_part_5 : decode b_M_part 5 = .ok (.iaload, 1) := by decide +kernel
theorem d_M_part_6 : decode b_M_part 6 = .ok (.aload_n 0, 1) := by decide +kernel
theorem d_M_part_7 : decode b_M_part 7 = .ok (.getfield 52, 3) := by decide +kernel
theorem d_M_part_10 : decode b_M_part 10 = .ok (.iload_n 1, 1) := by decide +kernel
theorem d_M_part_11 : decode b_M_part 11 = .ok (.iaload, 1) := by decide +kernel
theorem d_M_part_12 : decode b_M_part 12 = .ok (.aload_n 0, 1) := by decide +kernel
theorem d_M_part_13 : decode b_M_part 13 = .ok (.getfield 49, 3) := by decide +kernel
theorem d_M_part_16 : decode b_M_part 16 = .ok (.iload_n 2, 1) := by decide +kernel
theorem d_M_part_17 : decode b_M_part 17 = .ok (.iaload, 1) := by decide +kernel
theorem d_M_part_18 : decode b_M_part 18 = .ok (.aload_n 0, 1) := by decide +kernel
theorem d_M_part_19 : decode b_M_part 19 = .ok (.getfield 52, 3) := by decide +kernel
theorem d_M_part_22 : decode b_M_part 22 = .ok (.iload_n 2, 1) := by decide +kernel
theorem d_M_part_23 : decode b_M_part 23 = .ok (.iaload, 1) := by decide +kernel
theorem d_M_part_24 : decode b_M_part 24 = .ok (.iload_n 3, 1) := by decide +kernel
theorem d_M_part_25 : decode b_M_part 25 = .ok (.iload 4, 2) := by decide +kernel
theorem d_M_part_27 : decode b_M_part 27 = .ok (.invokestatic 90, 3) := by decide +kernel
theorem d_M_part_30 : decode b_M_part 30 = .ok (.ireturn, 1) := by decide +kernel
theorem d_M_holds_0 : decode b_M_holds 0 = .ok (.aload_n 0, 1) := by decide +kernel
theorem d_M_holds_1 : decode b_M_holds 1 = .ok (.iload_n 1, 1) := by decide +kernel
theorem d_M_holds_2 : decode b_M_holds 2 = .ok (.iload_n 2, 1) := by decide +kernel
theorem d_M_holds_3 : decode b_M_holds 3 = .ok (.aload_n 0, 1) := by decide +kernel
theorem d_M_holds_4 : decode b_M_holds 4 = .ok (.getfield 49, 3) := by decide +kernel
theorem d_M_holds_7 : decode b_M_holds 7 = .ok (.iload_n 3, 1) := by decide +kernel
theorem d_M_holds_8 : decode b_M_holds 8 = .ok (.iaload, 1) := by decide +kernel
theorem d_M_holds_9 : decode b_M_holds 9 = .ok (.aload_n 0, 1) := by decide +kernel
theorem d_M_holds_10 : decode b_M_holds 10 = .ok (.getfield 52, 3) := by decide +kernel
theorem d_M_holds_13 : decode b_M_holds 13 = .ok (.iload_n 3, 1) := by decide +kernel
theorem d_M_holds_14 : decode b_M_holds 14 = .ok (.iaload, 1) := by decide +kernel
theorem d_M_holds_15 : decode b_M_holds 15 = .ok (.invokevirtual 138, 3) := by decide +kernel
theorem d_M_holds_18 : decode b_M_holds 18 = .ok (.invokestatic 102, 3) := by decide +kernel
theorem d_M_holds_21 : decode b_M_holds 21 = .ok (.istore 6, 2) := by decide +kernel
theorem d_M_holds_23 : decode b_M_holds 23 = .ok (.iload 6, 2) := by decide +kernel
theorem d_M_holds_25 : decode b_M_holds 25 = .ok (.ifCond .eq 64, 3) := by decide +kernel
theorem d_M_holds_28 : decode b_M_holds 28 = .ok (.iload 6, 2) := by decide +kernel
theorem d_M_holds_30 : decode b_M_holds 30 = .ok (.aload_n 0, 1) := by decide +kernel
theorem d_M_holds_31 : decode b_M_holds 31 = .ok (.iload_n 1, 1) := by decide +kernel
theorem d_M_holds_32 : decode b_M_holds 32 = .ok (.iload_n 2, 1) := by decide +kernel
theorem d_M_holds_33 : decode b_M_holds 33 = .ok (.iload 4, 2) := by decide +kernel
theorem d_M_holds_35 : decode b_M_holds 35 = .ok (.iload 5, 2) := by decide +kernel
theorem d_M_holds_37 : decode b_M_holds 37 = .ok (.invokevirtual 138, 3) := by decide +kernel
theorem d_M_holds_40 : decode b_M_holds 40 = .ok (.invokestatic 102, 3) := by decide +kernel
theorem d_M_holds_43 : decode b_M_holds 43 = .ok (.imul, 1) := by decide +kernel
theorem d_M_holds_44 : decode b_M_holds 44 = .ok (.ifCond .lt 45, 3) := by decide +kernel
theorem d_M_holds_47 : decode b_M_holds 47 = .ok (.iload 6, 2) := by decide +kernel
theorem d_M_holds_49 : decode b_M_holds 49 = .ok (.aload_n 0, 1) := by decide +kernel
theorem d_M_holds_50 : decode b_M_holds 50 = .ok (.iload_n 2, 1) := by decide +kernel
theorem d_M_holds_51 : decode b_M_holds 51 = .ok (.iload_n 3, 1) := by decide +kernel
theorem d_M_holds_52 : decode b_M_holds 52 = .ok (.iload 4, 2) := by decide +kernel
theorem d_M_holds_54 : decode b_M_holds 54 = .ok (.iload 5, 2) := by decide +kernel
theorem d_M_holds_56 : decode b_M_holds 56 = .ok (.invokevirtual 138, 3) := by decide +kernel
theorem d_M_holds_59 : decode b_M_holds 59 = .ok (.invokestatic 102, 3) := by decide +kernel
theorem d_M_holds_62 : decode b_M_holds 62 = .ok (.imul, 1) := by decide +kernel
theorem d_M_holds_63 : decode b_M_holds 63 = .ok (.ifCond .lt 26, 3) := by decide +kernel
theorem d_M_holds_66 : decode b_M_holds 66 = .ok (.iload 6, 2) := by decide +kernel
theorem d_M_holds_68 : decode b_M_holds 68 = .ok (.aload_n 0, 1) := by decide +kernel
theorem d_M_holds_69 : decode b_M_holds 69 = .ok (.iload_n 3, 1) := by decide +kernel
theorem d_M_holds_70 : decode b_M_holds 70 = .ok (.iload_n 1, 1) := by decide +kernel
theorem d_M_holds_71 : decode b_M_holds 71 = .ok (.iload 4, 2) := by decide +kernel
theorem d_M_holds_73 : decode b_M_holds 73 = .ok (.iload 5, 2) := by decide +kernel
theorem d_M_holds_75 : decode b_M_holds 75 = .ok (.invokevirtual 138, 3) := by decide +kernel
theorem d_M_holds_78 : decode b_M_holds 78 = .ok (.invokestatic 102, 3) := by decide +kernel
theorem d_M_holds_81 : decode b_M_holds 81 = .ok (.imul, 1) := by decide +kernel
theorem d_M_holds_82 : decode b_M_holds 82 = .ok (.ifCond .lt 7, 3) := by decide +kernel
theorem d_M_holds_85 : decode b_M_holds 85 = .ok (.iconst 1, 1) := by decide +kernel
theorem d_M_holds_86 : decode b_M_holds 86 = .ok (.goto 4, 3) := by decide +kernel
theorem d_M_holds_89 : decode b_M_holds 89 = .ok (.iconst 0, 1) := by decide +kernel
theorem d_M_holds_90 : decode b_M_holds 90 = .ok (.ireturn, 1) := by decide +kernel
theorem d_M_nearest_0 : decode b_M_nearest 0 = .ok (.lload_n 2, 1) := by decide +kernel
theorem d_M_nearest_1 : decode b_M_nearest 1 = .ok (.lconst 0, 1) := by decide +kernel
theorem d_M_nearest_2 : decode b_M_nearest 2 = .ok (.lcmp, 1) := by decide +kernel
theorem d_M_nearest_3 : decode b_M_nearest 3 = .ok (.ifCond .ge 13, 3) := by decide +kernel
theorem d_M_nearest_6 : decode b_M_nearest 6 = .ok (.lconst 0, 1) := by decide +kernel
theorem d_M_nearest_7 : decode b_M_nearest 7 = .ok (.ldc2_w 142, 3) := by decide +kernel
theorem d_M_nearest_10 : decode b_M_nearest 10 = .ok (.lload_n 0, 1) := by decide +kernel
theorem d_M_nearest_11 : decode b_M_nearest 11 = .ok (.lmul, 1) := by decide +kernel
theorem d_M_nearest_12 : decode b_M_nearest 12 = .ok (.lsub, 1) := by decide +kernel
theorem d_M_nearest_13 : decode b_M_nearest 13 = .ok (.goto 8, 3) := by decide +kernel
theorem d_M_nearest_16 : decode b_M_nearest 16 = .ok (.ldc2_w 142, 3) := by decide +kernel
theorem d_M_nearest_19 : decode b_M_nearest 19 = .ok (.lload_n 0, 1) := by decide +kernel
theorem d_M_nearest_20 : decode b_M_nearest 20 = .ok (.lmul, 1) := by decide +kernel
theorem d_M_nearest_21 : decode b_M_nearest 21 = .ok (.lstore 4, 2) := by decide +kernel
theorem d_M_nearest_23 : decode b_M_nearest 23 = .ok (.lload_n 2, 1) := by decide +kernel
theorem d_M_nearest_24 : decode b_M_nearest 24 = .ok (.lconst 0, 1) := by decide +kernel
theorem d_M_nearest_25 : decode b_M_nearest 25 = .ok (.lcmp, 1) := by decide +kernel
theorem d_M_nearest_26 : decode b_M_nearest 26 = .ok (.ifCond .ge 13, 3) := by decide +kernel
theorem d_M_nearest_29 : decode b_M_nearest 29 = .ok (.lconst 0, 1) := by decide +kernel
theorem d_M_nearest_30 : decode b_M_nearest 30 = .ok (.ldc2_w 142, 3) := by decide +kernel
theorem d_M_nearest_33 : decode b_M_nearest 33 = .ok (.lload_n 2, 1) := by decide +kernel
theorem d_M_nearest_34 : decode b_M_nearest 34 = .ok (.lmul, 1) := by decide +kernel
theorem d_M_nearest_35 : decode b_M_nearest 35 = .ok (.lsub, 1) := by decide +kernel
theorem d_M_nearest_36 : decode b_M_nearest 36 = .ok (.goto 8, 3) := by decide +kernel
theorem d_M_nearest_39 : decode b_M_nearest 39 = .ok (.ldc2_w 142, 3) := by decide +kernel
theorem d_M_nearest_42 : decode b_M_nearest 42 = .ok (.lload_n 2, 1) := by decide +kernel
theorem d_M_nearest_43 : decode b_M_nearest 43 = .ok (.lmul, 1) := by decide +kernel
theorem d_M_nearest_44 : decode b_M_nearest 44 = .ok (.lstore 6, 2) := by decide +kernel
theorem d_M_nearest_46 : decode b_M_nearest 46 = .ok (.lload 4, 2) := by decide +kernel
theorem d_M_nearest_48 : decode b_M_nearest 48 = .ok (.lload 6, 2) := by decide +kernel
theorem d_M_nearest_50 : decode b_M_nearest 50 = .ok (.ldc2_w 142, 3) := by decide +kernel
theorem d_M_nearest_53 : decode b_M_nearest 53 = .ok (.ldiv, 1) := by decide +kernel
theorem d_M_nearest_54 : decode b_M_nearest 54 = .ok (.ladd, 1) := by decide +kernel
theorem d_M_nearest_55 : decode b_M_nearest 55 = .ok (.lstore 8, 2) := by decide +kernel
theorem d_M_nearest_57 : decode b_M_nearest 57 = .ok (.lload 8, 2) := by decide +kernel
theorem d_M_nearest_59 : decode b_M_nearest 59 = .ok (.lload 6, 2) := by decide +kernel
theorem d_M_nearest_61 : decode b_M_nearest 61 = .ok (.ldiv, 1) := by decide +kernel
theorem d_M_nearest_62 : decode b_M_nearest 62 = .ok (.lstore 10, 2) := by decide +kernel
theorem d_M_nearest_64 : decode b_M_nearest 64 = .ok (.lload 10, 2) := by decide +kernel
theorem d_M_nearest_66 : decode b_M_nearest 66 = .ok (.lload 6, 2) := by decide +kernel
theorem d_M_nearest_68 : decode b_M_nearest 68 = .ok (.lmul, 1) := by decide +kernel
theorem d_M_nearest_69 : decode b_M_nearest 69 = .ok (.lload 8, 2) := by decide +kernel
theorem d_M_nearest_71 : decode b_M_nearest 71 = .ok (.lcmp, 1) := by decide +kernel
theorem d_M_nearest_72 : decode b_M_nearest 72 = .ok (.ifCond .le 10, 3) := by decide +kernel
theorem d_M_nearest_75 : decode b_M_nearest 75 = .ok (.lload 10, 2) := by decide +kernel
theorem d_M_nearest_77 : decode b_M_nearest 77 = .ok (.lconst 1, 1) := by decide +kernel
theorem d_M_nearest_78 : decode b_M_nearest 78 = .ok (.lsub, 1) := by decide +kernel
theorem d_M_nearest_79 : decode b_M_nearest 79 = .ok (.goto 5, 3) := by decide +kernel
theorem d_M_nearest_82 : decode b_M_nearest 82 = .ok (.lload 10, 2) := by decide +kernel
theorem d_M_nearest_84 : decode b_M_nearest 84 = .ok (.l2i, 1) := by decide +kernel
theorem d_M_nearest_85 : decode b_M_nearest 85 = .ok (.ireturn, 1) := by decide +kernel
end
section
/-! THE REFERENCE'S STATE (own text). E: the addresses: 0 the object, 1 + k its k-th array:
0 parents, 1 owners, 2 froms, 3 tos, 4 many, 5 xs, 6 ys, 7 closed, 8 partners, 9 named, 10 numbers, 11 nameFroms, 12 nameTos, 13 mapXs, 14 mapYs, 15 markXs, 16 markYs -/
def z_mlen (k : Nat) : Nat := if k = 0 then 16 else if k = 5 then 384 else if k = 6 then 384 else if k < 9 then 32 else if k < 13 then 40 else 12
abbrev z_mfs (E : Nat → Nat) (th : Int32) (mp ms mc mn mm : Nat) : List Value :=
  [.int th, .int (nI mp), .ref (E 1), .int (nI ms), .ref (E 2), .ref (E 3), .ref (E 4), .ref (E 5), .ref (E 6), .ref (E 7), .ref (E 8), .int (nI mc), .ref (E 9), .int (nI mn), .ref (E 10), .ref (E 11), .ref (E 12), .ref (E 13), .int (nI mm), .ref (E 14), .ref (E 15), .ref (E 16), .ref (E 17)]
def z_Md (D : va_G) (cI : ClassId) (H : Heap) (E : Nat → Nat) (th : Int32) (mp ms mc mn mm : Nat) (gv : Nat → Nat → Int32) : Prop :=
  (z_O D H (E 0) 4 (z_mfs E th mp ms mc mn mm) ∧ (∀ k, k < 17 → z_A cI H (E (1 + k)) (z_mlen k) (gv k))) ∧
  (∀ i j, i < 18 → j < 18 → E i = E j → i = j) ∧ (mp ≤ 16 ∧ ms ≤ 32 ∧ mn ≤ 40 ∧ mm ≤ 12 ∧ mc < 2 ^ 30)
/-! PURE: what the reference's readers answer -/
def pm_side (ax ay bx bY cx cy : Int32) : Int32 := (bx - ax) * (cy - ay) - (bY - ay) * (cx - ax)
def pm_sign (v : Int32) : Int32 := if 0 < v then 1 else if v < 0 then -1 else 0
def pm_btw (v a b : Int32) : Bool := (decide (a ≤ v) && decide (v ≤ b)) || (decide (b ≤ v) && decide (v ≤ a))
def pm_on (gx gy : Nat → Int32) (a b : Nat) (x y : Int32) : Bool := decide (pm_side (gx a) (gy a) (gx b) (gy b) x y = 0) && (pm_btw x (gx a) (gx b) && pm_btw y (gy a) (gy b))
def pm_cross (gx gy : Nat → Int32) (a b c d : Nat) : Int32 := pm_sign (pm_side (gx a) (gy a) (gx b) (gy b) (gx c) (gy c)) * pm_sign (pm_side (gx a) (gy a) (gx b) (gy b) (gx d) (gy d))
def pm_meet (gx gy : Nat → Int32) (a b c d : Nat) : Bool :=
  pm_on gx gy a b (gx c) (gy c) || (pm_on gx gy a b (gx d) (gy d) || (pm_on gx gy c d (gx a) (gy a) || (pm_on gx gy c d (gx b) (gy b) || (decide (pm_cross gx gy a b c d < 0) && decide (pm_cross gx gy c d a b < 0)))))
def pm_af (n s k : Nat) : Nat := 12 * s + (k + 1) % n
def pm_pt (x y : Int32) : Bool := decide ((-10000) ≤ x) && (decide (x ≤ 10000) && (decide ((-10000) ≤ y) && decide (y ≤ 10000)))
def pm_day (d : Int32) : Bool := decide (0 ≤ d) && decide (d ≤ 100000)
def pm_idx (n : Nat) (x : Int32) : Bool := decide (0 ≤ x) && decide (x < nI n)
def pm_hold (gx gy : Nat → Int32) (a b c : Nat) (x y : Int32) : Bool :=
  decide (¬ pm_sign (pm_side (gx a) (gy a) (gx b) (gy b) (gx c) (gy c)) = 0) &&
  (decide (0 ≤ pm_sign (pm_side (gx a) (gy a) (gx b) (gy b) (gx c) (gy c)) * pm_sign (pm_side (gx a) (gy a) (gx b) (gy b) x y)) &&
  (decide (0 ≤ pm_sign (pm_side (gx a) (gy a) (gx b) (gy b) (gx c) (gy c)) * pm_sign (pm_side (gx b) (gy b) (gx c) (gy c) x y)) &&
   decide (0 ≤ pm_sign (pm_side (gx a) (gy a) (gx b) (gy b) (gx c) (gy c)) * pm_sign (pm_side (gx c) (gy c) (gx a) (gy a) x y))))
def pm_near (a w : Int64) : Int32 :=
  (if ((if w < 0 then 0 - 2 * a else 2 * a) + (if w < 0 then 0 - 2 * w else 2 * w) / 2) < ((if w < 0 then 0 - 2 * a else 2 * a) + (if w < 0 then 0 - 2 * w else 2 * w) / 2) / (if w < 0 then 0 - 2 * w else 2 * w) * (if w < 0 then 0 - 2 * w else 2 * w)
   then ((if w < 0 then 0 - 2 * a else 2 * a) + (if w < 0 then 0 - 2 * w else 2 * w) / 2) / (if w < 0 then 0 - 2 * w else 2 * w) - 1
   else ((if w < 0 then 0 - 2 * a else 2 * a) + (if w < 0 then 0 - 2 * w else 2 * w) / 2) / (if w < 0 then 0 - 2 * w else 2 * w)).toInt32
end
section
section M1
variable {s0 : State} {dC : Nat → ClassId} {dI : Nat → Nat → Nat} {cI cS : ClassId} {l : Launch}
set_option maxRecDepth 100000 in
set_option maxHeartbeats 4000000 in
theorem c_M_isPoint (G : z_G s0 (dC, dI) cI cS) (x y : Int32) : Met l y_M_isPoint [Cond.code y_M_isPoint b_M_isPoint 2 (some .boolean)] ({ frames := 0, cells := 0, slots := 0, locals := 0 }) (z_Pc s0 [.int x, .int y] (fun H => True)) (z_Qr (some (.int (pi_b (pm_pt x y))))) 0 0 z_no := by
  refine z_ofW (by decide +kernel) (Nat.le_of_ble_eq_true rfl) ?_
  intro p e s m below meth c hx hb hml hr hown hlocks hnm hW0 hB ls hl
  have hts := z_hts (args := [.int x, .int y].toArray) G.1 hW0
  have hN := z_nstW G.2.1 hW0
  have hK := va_K.moved hW0.alike G.2.2.1
  have hAI := arrOfT_moved hW0.alike G.2.2.2.1
  have hl : lv_has ls 2 [(0, .int x), (1, .int y)] := hl
  refine lv_iload_n hx hb d_M_isPoint_0 rfl (lv_at hl 0 rfl) ?_
  refine lv_sipush (v := (-10000)) hx hb d_M_isPoint_1 (by decide) ?_
  refine lv_icmp_lt (tgt := 32) hx hb d_M_isPoint_4 (by decide) (fun c_1 => ?_) (fun c_1 => ?_)
  · skip
    have c_1' : ¬ ((-10000) ≤ x) := Int32.not_le.mpr c_1
    refine lv_iconst (v := 0) hx hb d_M_isPoint_32 (by decide) ?_
    exact z_zret hx hb hr hlocks (by simp [pi_b, pm_pt, c_1, c_1']) d_M_isPoint_33
  · skip
    have c_1' : (-10000) ≤ x := Int32.not_lt.mp c_1
    refine lv_iload_n hx hb d_M_isPoint_7 rfl (lv_at hl 0 rfl) ?_
    refine lv_sipush (v := 10000) hx hb d_M_isPoint_8 (by decide) ?_
    refine lv_icmp_gt (tgt := 32) hx hb d_M_isPoint_11 (by decide) (fun c_2 => ?_) (fun c_2 => ?_)
    · skip
      have c_2' : ¬ (x ≤ (10000 : Int32)) := Int32.not_le.mpr c_2
      refine lv_iconst (v := 0) hx hb d_M_isPoint_32 (by decide) ?_
      exact z_zret hx hb hr hlocks (by simp [pi_b, pm_pt, c_1, c_1', c_2, c_2']) d_M_isPoint_33
    · skip
      have c_2' : x ≤ (10000 : Int32) := Int32.not_lt.mp c_2
      refine lv_iload_n hx hb d_M_isPoint_14 rfl (lv_at hl 1 rfl) ?_
      refine lv_sipush (v := (-10000)) hx hb d_M_isPoint_15 (by decide) ?_
      refine lv_icmp_lt (tgt := 32) hx hb d_M_isPoint_18 (by decide) (fun c_3 => ?_) (fun c_3 => ?_)
      · skip
        have c_3' : ¬ ((-10000) ≤ y) := Int32.not_le.mpr c_3
        refine lv_iconst (v := 0) hx hb d_M_isPoint_32 (by decide) ?_
        exact z_zret hx hb hr hlocks (by simp [pi_b, pm_pt, c_1, c_1', c_2, c_2', c_3, c_3']) d_M_isPoint_33
      · skip
        have c_3' : (-10000) ≤ y := Int32.not_lt.mp c_3
        refine lv_iload_n hx hb d_M_isPoint_21 rfl (lv_at hl 1 rfl) ?_
        refine lv_sipush (v := 10000) hx hb d_M_isPoint_22 (by decide) ?_
        refine lv_icmp_gt (tgt := 32) hx hb d_M_isPoint_25 (by decide) (fun c_4 => ?_) (fun c_4 => ?_)
        · skip
          have c_4' : ¬ (y ≤ (10000 : Int32)) := Int32.not_le.mpr c_4
          refine lv_iconst (v := 0) hx hb d_M_isPoint_32 (by decide) ?_
          exact z_zret hx hb hr hlocks (by simp [pi_b, pm_pt, c_1, c_1', c_2, c_2', c_3, c_3', c_4, c_4']) d_M_isPoint_33
        · skip
          have c_4' : y ≤ (10000 : Int32) := Int32.not_lt.mp c_4
          refine lv_iconst (v := 1) hx hb d_M_isPoint_28 (by decide) ?_
          refine lv_goto (tgt := 33) hx hb d_M_isPoint_29 (by decide) ?_
          exact z_zret hx hb hr hlocks (by simp [pi_b, pm_pt, c_1, c_1', c_2, c_2', c_3, c_3', c_4, c_4']) d_M_isPoint_33
set_option maxRecDepth 100000 in
set_option maxHeartbeats 4000000 in
theorem c_M_isDay (G : z_G s0 (dC, dI) cI cS) (x : Int32) : Met l y_M_isDay [Cond.code y_M_isDay b_M_isDay 1 (some .boolean)] ({ frames := 0, cells := 0, slots := 0, locals := 0 }) (z_Pc s0 [.int x] (fun H => True)) (z_Qr (some (.int (pi_b (pm_day x))))) 0 0 z_no := by
  refine z_ofW (by decide +kernel) (Nat.le_of_ble_eq_true rfl) ?_
  intro p e s m below meth c hx hb hml hr hown hlocks hnm hW0 hB ls hl
  have hts := z_hts (args := [.int x].toArray) G.1 hW0
  have hN := z_nstW G.2.1 hW0
  have hK := va_K.moved hW0.alike G.2.2.1
  have hAI := arrOfT_moved hW0.alike G.2.2.2.1
  have hl : lv_has ls 1 [(0, .int x)] := hl
  refine lv_iload_n hx hb d_M_isDay_0 rfl (lv_at hl 0 rfl) ?_
  refine lv_if_lt (tgt := 14) hx hb d_M_isDay_1 (by decide) (fun c_1 => ?_) (fun c_1 => ?_)
  · skip
    have c_1' : ¬ ((0 : Int32) ≤ x) := Int32.not_le.mpr c_1
    refine lv_iconst (v := 0) hx hb d_M_isDay_14 (by decide) ?_
    exact z_zret hx hb hr hlocks (by simp [pi_b, pm_day, c_1, c_1']) d_M_isDay_15
  · skip
    have c_1' : (0 : Int32) ≤ x := Int32.not_lt.mp c_1
    refine lv_iload_n hx hb d_M_isDay_4 rfl (lv_at hl 0 rfl) ?_
    refine lv_ldc hx hb hown (hts _ w_633) d_M_isDay_5 ?_
    refine lv_icmp_gt (tgt := 14) hx hb d_M_isDay_7 (by decide) (fun c_2 => ?_) (fun c_2 => ?_)
    · skip
      have c_2' : ¬ (x ≤ (100000 : Int32)) := Int32.not_le.mpr c_2
      refine lv_iconst (v := 0) hx hb d_M_isDay_14 (by decide) ?_
      exact z_zret hx hb hr hlocks (by simp [pi_b, pm_day, c_1, c_1', c_2, c_2']) d_M_isDay_15
    · skip
      have c_2' : x ≤ (100000 : Int32) := Int32.not_lt.mp c_2
      refine lv_iconst (v := 1) hx hb d_M_isDay_10 (by decide) ?_
      refine lv_goto (tgt := 15) hx hb d_M_isDay_11 (by decide) ?_
      exact z_zret hx hb hr hlocks (by simp [pi_b, pm_day, c_1, c_1', c_2, c_2']) d_M_isDay_15
set_option maxRecDepth 100000 in
set_option maxHeartbeats 4000000 in
theorem c_M_side (G : z_G s0 (dC, dI) cI cS) (ax ay bx bY cx cy : Int32) : Met l y_M_side [Cond.code y_M_side b_M_side 6 (some .int)] ({ frames := 0, cells := 0, slots := 0, locals := 0 }) (z_Pc s0 [.int ax, .int ay, .int bx, .int bY, .int cx, .int cy] (fun H => True)) (z_Qr (some (.int (pm_side ax ay bx bY cx cy)))) 0 0 z_no := by
  refine z_ofW (by decide +kernel) (Nat.le_of_ble_eq_true rfl) ?_
  intro p e s m below meth c hx hb hml hr hown hlocks hnm hW0 hB ls hl
  have hts := z_hts (args := [.int ax, .int ay, .int bx, .int bY, .int cx, .int cy].toArray) G.1 hW0
  have hN := z_nstW G.2.1 hW0
  have hK := va_K.moved hW0.alike G.2.2.1
  have hAI := arrOfT_moved hW0.alike G.2.2.2.1
  have hl : lv_has ls 6 [(0, .int ax), (1, .int ay), (2, .int bx), (3, .int bY), (4, .int cx), (5, .int cy)] := hl
  refine lv_iload_n hx hb d_M_side_0 rfl (lv_at hl 2 rfl) ?_
  refine lv_iload_n hx hb d_M_side_1 rfl (lv_at hl 0 rfl) ?_
  refine lv_isub hx hb d_M_side_2 ?_
  refine lv_iload hx hb d_M_side_3 (lv_at hl 5 rfl) ?_
  refine lv_iload_n hx hb d_M_side_5 rfl (lv_at hl 1 rfl) ?_
  refine lv_isub hx hb d_M_side_6 ?_
  refine lv_imul hx hb d_M_side_7 ?_
  refine lv_iload_n hx hb d_M_side_8 rfl (lv_at hl 3 rfl) ?_
  refine lv_iload_n hx hb d_M_side_9 rfl (lv_at hl 1 rfl) ?_
  refine lv_isub hx hb d_M_side_10 ?_
  refine lv_iload hx hb d_M_side_11 (lv_at hl 4 rfl) ?_
  refine lv_iload_n hx hb d_M_side_13 rfl (lv_at hl 0 rfl) ?_
  refine lv_isub hx hb d_M_side_14 ?_
  refine lv_imul hx hb d_M_side_15 ?_
  refine lv_isub hx hb d_M_side_16 ?_
  exact z_iret hx hb hr hlocks (by rfl) d_M_side_17
set_option maxRecDepth 100000 in
set_option maxHeartbeats 4000000 in
theorem c_M_sign (G : z_G s0 (dC, dI) cI cS) (v : Int32) : Met l y_M_sign [Cond.code y_M_sign b_M_sign 1 (some .int)] ({ frames := 0, cells := 0, slots := 0, locals := 0 }) (z_Pc s0 [.int v] (fun H => True)) (z_Qr (some (.int (pm_sign v)))) 0 0 z_no := by
  refine z_ofW (by decide +kernel) (Nat.le_of_ble_eq_true rfl) ?_
  intro p e s m below meth c hx hb hml hr hown hlocks hnm hW0 hB ls hl
  have hts := z_hts (args := [.int v].toArray) G.1 hW0
  have hN := z_nstW G.2.1 hW0
  have hK := va_K.moved hW0.alike G.2.2.1
  have hAI := arrOfT_moved hW0.alike G.2.2.2.1
  have hl : lv_has ls 1 [(0, .int v)] := hl
  refine lv_iload_n hx hb d_M_sign_0 rfl (lv_at hl 0 rfl) ?_
  refine lv_if_le (tgt := 8) hx hb d_M_sign_1 (by decide) (fun c_1 => ?_) (fun c_1 => ?_)
  · skip
    have c_1' : ¬ ((0 : Int32) < v) := Int32.not_lt.mpr c_1
    refine lv_iload_n hx hb d_M_sign_8 rfl (lv_at hl 0 rfl) ?_
    refine lv_if_ge (tgt := 16) hx hb d_M_sign_9 (by decide) (fun c_2 => ?_) (fun c_2 => ?_)
    · skip
      have c_2' : ¬ (v < (0 : Int32)) := Int32.not_lt.mpr c_2
      refine lv_iconst (v := 0) hx hb d_M_sign_16 (by decide) ?_
      exact z_iret hx hb hr hlocks (by simp [pi_b, pm_sign, c_1, c_1', c_2, c_2']) d_M_sign_17
    · skip
      have c_2' : v < (0 : Int32) := Int32.not_le.mp c_2
      refine lv_iconst (v := (-1)) hx hb d_M_sign_12 (by decide) ?_
      refine lv_goto (tgt := 17) hx hb d_M_sign_13 (by decide) ?_
      exact z_iret hx hb hr hlocks (by simp [pi_b, pm_sign, c_1, c_1', c_2, c_2']) d_M_sign_17
  · skip
    have c_1' : (0 : Int32) < v := Int32.not_le.mp c_1
    refine lv_iconst (v := 1) hx hb d_M_sign_4 (by decide) ?_
    refine lv_goto (tgt := 17) hx hb d_M_sign_5 (by decide) ?_
    exact z_iret hx hb hr hlocks (by simp [pi_b, pm_sign, c_1, c_1']) d_M_sign_17
set_option maxRecDepth 100000 in
set_option maxHeartbeats 4000000 in
theorem c_M_between (G : z_G s0 (dC, dI) cI cS) (v a b : Int32) : Met l y_M_between [Cond.code y_M_between b_M_between 3 (some .boolean)] ({ frames := 0, cells := 0, slots := 0, locals := 0 }) (z_Pc s0 [.int v, .int a, .int b] (fun H => True)) (z_Qr (some (.int (pi_b (pm_btw v a b))))) 0 0 z_no := by
  refine z_ofW (by decide +kernel) (Nat.le_of_ble_eq_true rfl) ?_
  intro p e s m below meth c hx hb hml hr hown hlocks hnm hW0 hB ls hl
  have hts := z_hts (args := [.int v, .int a, .int b].toArray) G.1 hW0
  have hN := z_nstW G.2.1 hW0
  have hK := va_K.moved hW0.alike G.2.2.1
  have hAI := arrOfT_moved hW0.alike G.2.2.2.1
  have hl : lv_has ls 3 [(0, .int v), (1, .int a), (2, .int b)] := hl
  refine lv_iload_n hx hb d_M_between_0 rfl (lv_at hl 0 rfl) ?_
  refine lv_iload_n hx hb d_M_between_1 rfl (lv_at hl 1 rfl) ?_
  refine lv_icmp_lt (tgt := 10) hx hb d_M_between_2 (by decide) (fun c_1 => ?_) (fun c_1 => ?_)
  · skip
    have c_1' : ¬ (a ≤ v) := Int32.not_le.mpr c_1
    refine lv_iload_n hx hb d_M_between_10 rfl (lv_at hl 0 rfl) ?_
    refine lv_iload_n hx hb d_M_between_11 rfl (lv_at hl 2 rfl) ?_
    refine lv_icmp_lt (tgt := 24) hx hb d_M_between_12 (by decide) (fun c_2 => ?_) (fun c_2 => ?_)
    · skip
      have c_2' : ¬ (b ≤ v) := Int32.not_le.mpr c_2
      refine lv_iconst (v := 0) hx hb d_M_between_24 (by decide) ?_
      exact z_zret hx hb hr hlocks (by simp [pi_b, pm_btw, c_1, c_1', c_2, c_2']) d_M_between_25
    · skip
      have c_2' : b ≤ v := Int32.not_lt.mp c_2
      refine lv_iload_n hx hb d_M_between_15 rfl (lv_at hl 0 rfl) ?_
      refine lv_iload_n hx hb d_M_between_16 rfl (lv_at hl 1 rfl) ?_
      refine lv_icmp_gt (tgt := 24) hx hb d_M_between_17 (by decide) (fun c_3 => ?_) (fun c_3 => ?_)
      · skip
        have c_3' : ¬ (v ≤ a) := Int32.not_le.mpr c_3
        refine lv_iconst (v := 0) hx hb d_M_between_24 (by decide) ?_
        exact z_zret hx hb hr hlocks (by simp [pi_b, pm_btw, c_1, c_1', c_2, c_2', c_3, c_3']) d_M_between_25
      · skip
        have c_3' : v ≤ a := Int32.not_lt.mp c_3
        refine lv_iconst (v := 1) hx hb d_M_between_20 (by decide) ?_
        refine lv_goto (tgt := 25) hx hb d_M_between_21 (by decide) ?_
        exact z_zret hx hb hr hlocks (by simp [pi_b, pm_btw, c_1, c_1', c_2, c_2', c_3, c_3']) d_M_between_25
  · skip
    have c_1' : a ≤ v := Int32.not_lt.mp c_1
    refine lv_iload_n hx hb d_M_between_5 rfl (lv_at hl 0 rfl) ?_
    refine lv_iload_n hx hb d_M_between_6 rfl (lv_at hl 2 rfl) ?_
    refine lv_icmp_le (tgt := 20) hx hb d_M_between_7 (by decide) (fun c_4 => ?_) (fun c_4 => ?_)
    · skip
      have c_4' : ¬ (b < v) := Int32.not_lt.mpr c_4
      refine lv_iconst (v := 1) hx hb d_M_between_20 (by decide) ?_
      refine lv_goto (tgt := 25) hx hb d_M_between_21 (by decide) ?_
      exact z_zret hx hb hr hlocks (by simp [pi_b, pm_btw, c_1, c_1', c_4, c_4']) d_M_between_25
    · skip
      have c_4' : b < v := Int32.not_le.mp c_4
      refine lv_iload_n hx hb d_M_between_10 rfl (lv_at hl 0 rfl) ?_
      refine lv_iload_n hx hb d_M_between_11 rfl (lv_at hl 2 rfl) ?_
      refine lv_icmp_lt (tgt := 24) hx hb d_M_between_12 (by decide) (fun c_5 => ?_) (fun c_5 => ?_)
      · skip
        have c_5' : ¬ (b ≤ v) := Int32.not_le.mpr c_5
        refine lv_iconst (v := 0) hx hb d_M_between_24 (by decide) ?_
        exact z_zret hx hb hr hlocks (by simp [pi_b, pm_btw, c_1, c_1', c_4, c_4', c_5, c_5']) d_M_between_25
      · skip
        have c_5' : b ≤ v := Int32.not_lt.mp c_5
        refine lv_iload_n hx hb d_M_between_15 rfl (lv_at hl 0 rfl) ?_
        refine lv_iload_n hx hb d_M_between_16 rfl (lv_at hl 1 rfl) ?_
        refine lv_icmp_gt (tgt := 24) hx hb d_M_between_17 (by decide) (fun c_6 => ?_) (fun c_6 => ?_)
        · skip
          have c_6' : ¬ (v ≤ a) := Int32.not_le.mpr c_6
          refine lv_iconst (v := 0) hx hb d_M_between_24 (by decide) ?_
          exact z_zret hx hb hr hlocks (by simp [pi_b, pm_btw, c_1, c_1', c_4, c_4', c_5, c_5', c_6, c_6']) d_M_between_25
        · skip
          have c_6' : v ≤ a := Int32.not_lt.mp c_6
          refine lv_iconst (v := 1) hx hb d_M_between_20 (by decide) ?_
          refine lv_goto (tgt := 25) hx hb d_M_between_21 (by decide) ?_
          exact z_zret hx hb hr hlocks (by simp [pi_b, pm_btw, c_1, c_1', c_4, c_4', c_5, c_5', c_6, c_6']) d_M_between_25
set_option maxRecDepth 100000 in
set_option maxHeartbeats 4000000 in
theorem c_M_isPlace (G : z_G s0 (dC, dI) cI cS) (E : Nat → Nat) (th : Int32) (mp ms mc mn mm : Nat) (gv : Nat → Nat → Int32) (x : Int32) : Met l y_M_isPlace [Cond.code y_M_isPlace b_M_isPlace 2 (some .boolean)] ({ frames := 0, cells := 0, slots := 0, locals := 0 }) (z_Pc s0 [.ref (E 0), .int x] (fun H => z_Md (dC, dI) cI H E th mp ms mc mn mm gv)) (z_Qr (some (.int (pi_b (pm_idx mp x))))) 0 0 z_no := by
  refine z_ofW (by decide +kernel) (Nat.le_of_ble_eq_true rfl) ?_
  intro p e s m below meth c hx hb hml hr hown hlocks hnm hW0 hB ls hl
  have hts := z_hts (args := [.ref (E 0), .int x].toArray) G.1 hW0
  have hN := z_nstW G.2.1 hW0
  have hK := va_K.moved hW0.alike G.2.2.1
  have hAI := arrOfT_moved hW0.alike G.2.2.2.1
  have hl : lv_has ls 2 [(0, .ref (E 0)), (1, .int x)] := hl
  obtain ⟨⟨hE0, hGA⟩, hEi, ⟨hmp, hms, hmn, hmm, hmc⟩⟩ := id hB
  refine lv_iload_n hx hb d_M_isPlace_0 rfl (lv_at hl 1 rfl) ?_
  refine lv_if_lt (tgt := 16) hx hb d_M_isPlace_1 (by decide) (fun c_1 => ?_) (fun c_1 => ?_)
  · skip
    have c_1' : ¬ ((0 : Int32) ≤ x) := Int32.not_le.mpr c_1
    refine lv_iconst (v := 0) hx hb d_M_isPlace_16 (by decide) ?_
    exact z_zret hx hb hr hlocks (by simp [pi_b, pm_idx, c_1, c_1']) d_M_isPlace_17
  · skip
    have c_1' : (0 : Int32) ≤ x := Int32.not_lt.mp c_1
    refine lv_iload_n hx hb d_M_isPlace_4 rfl (lv_at hl 1 rfl) ?_
    refine lv_aload_n hx hb d_M_isPlace_5 rfl (lv_at hl 0 rfl) ?_
    refine va_get (D := (dC, dI)) (ci := 4) (v := .int (nI mp)) (C := R_M) (T := T_M) (N := 23) hx hb hts in_M hown hK hE0.P 0 rfl rfl 1 (by decide) (hts _ w_541) (fun _ h9 => h9) rfl d_M_isPlace_6 ?_
    refine lv_icmp_ge (tgt := 16) hx hb d_M_isPlace_9 (by decide) (fun c_2 => ?_) (fun c_2 => ?_)
    · skip
      have c_2' : ¬ (x < (nI mp)) := Int32.not_lt.mpr c_2
      refine lv_iconst (v := 0) hx hb d_M_isPlace_16 (by decide) ?_
      exact z_zret hx hb hr hlocks (by simp [pi_b, pm_idx, c_1, c_1', c_2, c_2']) d_M_isPlace_17
    · skip
      have c_2' : x < (nI mp) := Int32.not_le.mp c_2
      refine lv_iconst (v := 1) hx hb d_M_isPlace_12 (by decide) ?_
      refine lv_goto (tgt := 17) hx hb d_M_isPlace_13 (by decide) ?_
      exact z_zret hx hb hr hlocks (by simp [pi_b, pm_idx, c_1, c_1', c_2, c_2']) d_M_isPlace_17
set_option maxRecDepth 100000 in
set_option maxHeartbeats 4000000 in
theorem c_M_isShape (G : z_G s0 (dC, dI) cI cS) (E : Nat → Nat) (th : Int32) (mp ms mc mn mm : Nat) (gv : Nat → Nat → Int32) (x : Int32) : Met l y_M_isShape [Cond.code y_M_isShape b_M_isShape 2 (some .boolean)] ({ frames := 0, cells := 0, slots := 0, locals := 0 }) (z_Pc s0 [.ref (E 0), .int x] (fun H => z_Md (dC, dI) cI H E th mp ms mc mn mm gv)) (z_Qr (some (.int (pi_b (pm_idx ms x))))) 0 0 z_no := by
  refine z_ofW (by decide +kernel) (Nat.le_of_ble_eq_true rfl) ?_
  intro p e s m below meth c hx hb hml hr hown hlocks hnm hW0 hB ls hl
  have hts := z_hts (args := [.ref (E 0), .int x].toArray) G.1 hW0
  have hN := z_nstW G.2.1 hW0
  have hK := va_K.moved hW0.alike G.2.2.1
  have hAI := arrOfT_moved hW0.alike G.2.2.2.1
  have hl : lv_has ls 2 [(0, .ref (E 0)), (1, .int x)] := hl
  obtain ⟨⟨hE0, hGA⟩, hEi, ⟨hmp, hms, hmn, hmm, hmc⟩⟩ := id hB
  refine lv_iload_n hx hb d_M_isShape_0 rfl (lv_at hl 1 rfl) ?_
  refine lv_if_lt (tgt := 16) hx hb d_M_isShape_1 (by decide) (fun c_1 => ?_) (fun c_1 => ?_)
  · skip
    have c_1' : ¬ ((0 : Int32) ≤ x) := Int32.not_le.mpr c_1
    refine lv_iconst (v := 0) hx hb d_M_isShape_16 (by decide) ?_
    exact z_zret hx hb hr hlocks (by simp [pi_b, pm_idx, c_1, c_1']) d_M_isShape_17
  · skip
    have c_1' : (0 : Int32) ≤ x := Int32.not_lt.mp c_1
    refine lv_iload_n hx hb d_M_isShape_4 rfl (lv_at hl 1 rfl) ?_
    refine lv_aload_n hx hb d_M_isShape_5 rfl (lv_at hl 0 rfl) ?_
    refine va_get (D := (dC, dI)) (ci := 4) (v := .int (nI ms)) (C := R_M) (T := T_M) (N := 23) hx hb hts in_M hown hK hE0.P 0 rfl rfl 3 (by decide) (hts _ w_543) (fun _ h9 => h9) rfl d_M_isShape_6 ?_
    refine lv_icmp_ge (tgt := 16) hx hb d_M_isShape_9 (by decide) (fun c_2 => ?_) (fun c_2 => ?_)
    · skip
      have c_2' : ¬ (x < (nI ms)) := Int32.not_lt.mpr c_2
      refine lv_iconst (v := 0) hx hb d_M_isShape_16 (by decide) ?_
      exact z_zret hx hb hr hlocks (by simp [pi_b, pm_idx, c_1, c_1', c_2, c_2']) d_M_isShape_17
    · skip
      have c_2' : x < (nI ms) := Int32.not_le.mp c_2
      refine lv_iconst (v := 1) hx hb d_M_isShape_12 (by decide) ?_
      refine lv_goto (tgt := 17) hx hb d_M_isShape_13 (by decide) ?_
      exact z_zret hx hb hr hlocks (by simp [pi_b, pm_idx, c_1, c_1', c_2, c_2']) d_M_isShape_17
set_option maxRecDepth 100000 in
set_option maxHeartbeats 4000000 in
theorem c_M_thrown (G : z_G s0 (dC, dI) cI cS) (E : Nat → Nat) (th : Int32) (mp ms mc mn mm : Nat) (gv : Nat → Nat → Int32)  : Met l y_M_thrown [Cond.code y_M_thrown b_M_thrown 1 (some .int)] ({ frames := 0, cells := 0, slots := 0, locals := 0 }) (z_Pc s0 [.ref (E 0)] (fun H => z_Md (dC, dI) cI H E th mp ms mc mn mm gv)) (z_Qr (some (.int th))) 0 0 z_no := by
  refine z_ofW (by decide +kernel) (Nat.le_of_ble_eq_true rfl) ?_
  intro p e s m below meth c hx hb hml hr hown hlocks hnm hW0 hB ls hl
  have hts := z_hts (args := [.ref (E 0)].toArray) G.1 hW0
  have hN := z_nstW G.2.1 hW0
  have hK := va_K.moved hW0.alike G.2.2.1
  have hAI := arrOfT_moved hW0.alike G.2.2.2.1
  have hl : lv_has ls 1 [(0, .ref (E 0))] := hl
  obtain ⟨⟨hE0, hGA⟩, hEi, ⟨hmp, hms, hmn, hmm, hmc⟩⟩ := id hB
  refine lv_aload_n hx hb d_M_thrown_0 rfl (lv_at hl 0 rfl) ?_
  refine va_get (D := (dC, dI)) (ci := 4) (v := .int th) (C := R_M) (T := T_M) (N := 23) hx hb hts in_M hown hK hE0.P 0 rfl rfl 0 (by decide) (hts _ w_540) (fun _ h9 => h9) rfl d_M_thrown_1 ?_
  exact z_iret hx hb hr hlocks (by rfl) d_M_thrown_4
set_option maxRecDepth 100000 in
set_option maxHeartbeats 4000000 in
theorem c_M_isOn (G : z_G s0 (dC, dI) cI cS) (E : Nat → Nat) (th : Int32) (mp ms mc mn mm : Nat) (gv : Nat → Nat → Int32) (i j : Nat) (x y : Int32) (hi : i < 384) (hj : j < 384) : Met l y_M_isOn [Cond.code y_M_isOn b_M_isOn 5 (some .boolean)] ({ frames := 1, cells := 0, slots := 0, locals := 25 }) (z_Pc s0 [.ref (E 0), .int (nI i), .int (nI j), .int x, .int y] (fun H => z_Md (dC, dI) cI H E th mp ms mc mn mm gv)) (z_Qr (some (.int (pi_b (pm_on (gv 5) (gv 6) i j x y))))) 0 0 z_no := by
  refine z_ofW (by decide +kernel) (Nat.le_of_ble_eq_true rfl) ?_
  intro p e s m below meth c hx hb hml hr hown hlocks hnm hW0 hB ls hl
  have hts := z_hts (args := [.ref (E 0), .int (nI i), .int (nI j), .int x, .int y].toArray) G.1 hW0
  have hN := z_nstW G.2.1 hW0
  have hK := va_K.moved hW0.alike G.2.2.1
  have hAI := arrOfT_moved hW0.alike G.2.2.2.1
  have hl : lv_has ls 5 [(0, .ref (E 0)), (1, .int (nI i)), (2, .int (nI j)), (3, .int x), (4, .int y)] := hl
  obtain ⟨⟨hE0, hGA⟩, hEi, ⟨hmp, hms, hmn, hmm, hmc⟩⟩ := id hB
  refine lv_aload_n hx hb d_M_isOn_0 rfl (lv_at hl 0 rfl) ?_
  refine va_get (D := (dC, dI)) (ci := 4) (v := .ref (E 6)) (C := R_M) (T := T_M) (N := 23) hx hb hts in_M hown hK hE0.P 0 rfl rfl 8 (by decide) (hts _ w_548) (fun _ h9 => h9) rfl d_M_isOn_1 ?_
  refine lv_iload_n hx hb d_M_isOn_4 rfl (lv_at hl 1 rfl) ?_
  refine z_iald hx hb hAI (show z_A cI _ (E 6) 384 (gv 5) from hGA 5 (by omega)) (by omega) (by decide) d_M_isOn_5 ?_
  refine lv_aload_n hx hb d_M_isOn_6 rfl (lv_at hl 0 rfl) ?_
  refine va_get (D := (dC, dI)) (ci := 4) (v := .ref (E 7)) (C := R_M) (T := T_M) (N := 23) hx hb hts in_M hown hK hE0.P 0 rfl rfl 9 (by decide) (hts _ w_549) (fun _ h9 => h9) rfl d_M_isOn_7 ?_
  refine lv_iload_n hx hb d_M_isOn_10 rfl (lv_at hl 1 rfl) ?_
  refine z_iald hx hb hAI (show z_A cI _ (E 7) 384 (gv 6) from hGA 6 (by omega)) (by omega) (by decide) d_M_isOn_11 ?_
  refine lv_aload_n hx hb d_M_isOn_12 rfl (lv_at hl 0 rfl) ?_
  refine va_get (D := (dC, dI)) (ci := 4) (v := .ref (E 6)) (C := R_M) (T := T_M) (N := 23) hx hb hts in_M hown hK hE0.P 0 rfl rfl 8 (by decide) (hts _ w_548) (fun _ h9 => h9) rfl d_M_isOn_13 ?_
  refine lv_iload_n hx hb d_M_isOn_16 rfl (lv_at hl 2 rfl) ?_
  refine z_iald hx hb hAI (show z_A cI _ (E 6) 384 (gv 5) from hGA 5 (by omega)) (by omega) (by decide) d_M_isOn_17 ?_
  refine lv_aload_n hx hb d_M_isOn_18 rfl (lv_at hl 0 rfl) ?_
  refine va_get (D := (dC, dI)) (ci := 4) (v := .ref (E 7)) (C := R_M) (T := T_M) (N := 23) hx hb hts in_M hown hK hE0.P 0 rfl rfl 9 (by decide) (hts _ w_549) (fun _ h9 => h9) rfl d_M_isOn_19 ?_
  refine lv_iload_n hx hb d_M_isOn_22 rfl (lv_at hl 2 rfl) ?_
  refine z_iald hx hb hAI (show z_A cI _ (E 7) 384 (gv 6) from hGA 6 (by omega)) (by omega) (by decide) d_M_isOn_23 ?_
  refine lv_iload_n hx hb d_M_isOn_24 rfl (lv_at hl 3 rfl) ?_
  refine lv_iload hx hb d_M_isOn_25 (lv_at hl 4 rfl) ?_
  refine z_rdS (n := 6) (rest := []) ⟨hx, hb, hml, hown, hts⟩ hW0 (c_M_side G ((gv 5) i) ((gv 6) i) ((gv 5) j) ((gv 6) j) x y) w_663 w_661 w_662 w_4 (by decide +kernel) ⟨rfl, rfl, Nat.le_of_ble_eq_true rfl, Nat.le_of_ble_eq_true rfl⟩ (trivial) rfl rfl hl.1 (Nat.le_of_ble_eq_true rfl) d_M_isOn_27 ⟨Nat.zero_le _, Nat.zero_le _⟩ ?_
  refine lv_if_ne (tgt := 76) hx hb d_M_isOn_30 (by decide) (fun c_1 => ?_) (fun c_1 => ?_)
  · skip
    refine lv_iconst (v := 0) hx hb d_M_isOn_76 (by decide) ?_
    exact z_zret hx hb hr hlocks (by simp [pi_b, pm_on, c_1]) d_M_isOn_77
  · skip
    refine lv_iload_n hx hb d_M_isOn_33 rfl (lv_at hl 3 rfl) ?_
    refine lv_aload_n hx hb d_M_isOn_34 rfl (lv_at hl 0 rfl) ?_
    refine va_get (D := (dC, dI)) (ci := 4) (v := .ref (E 6)) (C := R_M) (T := T_M) (N := 23) hx hb hts in_M hown hK hE0.P 0 rfl rfl 8 (by decide) (hts _ w_548) (fun _ h9 => h9) rfl d_M_isOn_35 ?_
    refine lv_iload_n hx hb d_M_isOn_38 rfl (lv_at hl 1 rfl) ?_
    refine z_iald hx hb hAI (show z_A cI _ (E 6) 384 (gv 5) from hGA 5 (by omega)) (by omega) (by decide) d_M_isOn_39 ?_
    refine lv_aload_n hx hb d_M_isOn_40 rfl (lv_at hl 0 rfl) ?_
    refine va_get (D := (dC, dI)) (ci := 4) (v := .ref (E 6)) (C := R_M) (T := T_M) (N := 23) hx hb hts in_M hown hK hE0.P 0 rfl rfl 8 (by decide) (hts _ w_548) (fun _ h9 => h9) rfl d_M_isOn_41 ?_
    refine lv_iload_n hx hb d_M_isOn_44 rfl (lv_at hl 2 rfl) ?_
    refine z_iald hx hb hAI (show z_A cI _ (E 6) 384 (gv 5) from hGA 5 (by omega)) (by omega) (by decide) d_M_isOn_45 ?_
    refine z_rdS (n := 3) (rest := []) ⟨hx, hb, hml, hown, hts⟩ hW0 (c_M_between G x ((gv 5) i) ((gv 5) j)) w_666 w_664 w_665 w_4 (by decide +kernel) ⟨rfl, rfl, Nat.le_of_ble_eq_true rfl, Nat.le_of_ble_eq_true rfl⟩ (trivial) rfl rfl hl.1 (Nat.le_of_ble_eq_true rfl) d_M_isOn_46 ⟨Nat.zero_le _, Nat.zero_le _⟩ ?_
    refine lv_if_eq (tgt := 76) hx hb d_M_isOn_49 (by decide) (fun c_2 => ?_) (fun c_2 => ?_)
    · skip
      have c_2 : (pm_btw x ((gv 5) i) ((gv 5) j)) = false := pi_b_0.mp c_2
      refine lv_iconst (v := 0) hx hb d_M_isOn_76 (by decide) ?_
      exact z_zret hx hb hr hlocks (by simp [pi_b, pm_on, c_1, c_2]) d_M_isOn_77
    · skip
      have c_2 : (pm_btw x ((gv 5) i) ((gv 5) j)) = true := pi_b_1.mp c_2
      refine lv_iload hx hb d_M_isOn_52 (lv_at hl 4 rfl) ?_
      refine lv_aload_n hx hb d_M_isOn_54 rfl (lv_at hl 0 rfl) ?_
      refine va_get (D := (dC, dI)) (ci := 4) (v := .ref (E 7)) (C := R_M) (T := T_M) (N := 23) hx hb hts in_M hown hK hE0.P 0 rfl rfl 9 (by decide) (hts _ w_549) (fun _ h9 => h9) rfl d_M_isOn_55 ?_
      refine lv_iload_n hx hb d_M_isOn_58 rfl (lv_at hl 1 rfl) ?_
      refine z_iald hx hb hAI (show z_A cI _ (E 7) 384 (gv 6) from hGA 6 (by omega)) (by omega) (by decide) d_M_isOn_59 ?_
      refine lv_aload_n hx hb d_M_isOn_60 rfl (lv_at hl 0 rfl) ?_
      refine va_get (D := (dC, dI)) (ci := 4) (v := .ref (E 7)) (C := R_M) (T := T_M) (N := 23) hx hb hts in_M hown hK hE0.P 0 rfl rfl 9 (by decide) (hts _ w_549) (fun _ h9 => h9) rfl d_M_isOn_61 ?_
      refine lv_iload_n hx hb d_M_isOn_64 rfl (lv_at hl 2 rfl) ?_
      refine z_iald hx hb hAI (show z_A cI _ (E 7) 384 (gv 6) from hGA 6 (by omega)) (by omega) (by decide) d_M_isOn_65 ?_
      refine z_rdS (n := 3) (rest := []) ⟨hx, hb, hml, hown, hts⟩ hW0 (c_M_between G y ((gv 6) i) ((gv 6) j)) w_666 w_664 w_665 w_4 (by decide +kernel) ⟨rfl, rfl, Nat.le_of_ble_eq_true rfl, Nat.le_of_ble_eq_true rfl⟩ (trivial) rfl rfl hl.1 (Nat.le_of_ble_eq_true rfl) d_M_isOn_66 ⟨Nat.zero_le _, Nat.zero_le _⟩ ?_
      refine lv_if_eq (tgt := 76) hx hb d_M_isOn_69 (by decide) (fun c_3 => ?_) (fun c_3 => ?_)
      · skip
        have c_3 : (pm_btw y ((gv 6) i) ((gv 6) j)) = false := pi_b_0.mp c_3
        refine lv_iconst (v := 0) hx hb d_M_isOn_76 (by decide) ?_
        exact z_zret hx hb hr hlocks (by simp [pi_b, pm_on, c_1, c_2, c_3]) d_M_isOn_77
      · skip
        have c_3 : (pm_btw y ((gv 6) i) ((gv 6) j)) = true := pi_b_1.mp c_3
        refine lv_iconst (v := 1) hx hb d_M_isOn_72 (by decide) ?_
        refine lv_goto (tgt := 77) hx hb d_M_isOn_73 (by decide) ?_
        exact z_zret hx hb hr hlocks (by simp [pi_b, pm_on, c_1, c_2, c_3]) d_M_isOn_77
set_option maxRecDepth 100000 in
set_option maxHeartbeats 4000000 in
theorem c_M_meet (G : z_G s0 (dC, dI) cI cS) (E : Nat → Nat) (th : Int32) (mp ms mc mn mm : Nat) (gv : Nat → Nat → Int32) (i j k q : Nat) (hi : i < 384) (hj : j < 384) (hk : k < 384) (hq : q < 384) : Met l y_M_meet [Cond.code y_M_meet b_M_meet 7 (some .boolean)] ({ frames := 2, cells := 0, slots := 0, locals := 49 }) (z_Pc s0 [.ref (E 0), .int (nI i), .int (nI j), .int (nI k), .int (nI q)] (fun H => z_Md (dC, dI) cI H E th mp ms mc mn mm gv)) (z_Qr (some (.int (pi_b (pm_meet (gv 5) (gv 6) i j k q))))) 0 0 z_no := by
  refine z_ofW (by decide +kernel) (Nat.le_of_ble_eq_true rfl) ?_
  intro p e s m below meth c hx hb hml hr hown hlocks hnm hW0 hB ls hl
  have hts := z_hts (args := [.ref (E 0), .int (nI i), .int (nI j), .int (nI k), .int (nI q)].toArray) G.1 hW0
  have hN := z_nstW G.2.1 hW0
  have hK := va_K.moved hW0.alike G.2.2.1
  have hAI := arrOfT_moved hW0.alike G.2.2.2.1
  have hl : lv_has ls 7 [(0, .ref (E 0)), (1, .int (nI i)), (2, .int (nI j)), (3, .int (nI k)), (4, .int (nI q))] := hl
  obtain ⟨⟨hE0, hGA⟩, hEi, ⟨hmp, hms, hmn, hmm, hmc⟩⟩ := id hB
  refine lv_aload_n hx hb d_M_meet_0 rfl (lv_at hl 0 rfl) ?_
  refine lv_iload_n hx hb d_M_meet_1 rfl (lv_at hl 1 rfl) ?_
  refine lv_iload_n hx hb d_M_meet_2 rfl (lv_at hl 2 rfl) ?_
  refine lv_aload_n hx hb d_M_meet_3 rfl (lv_at hl 0 rfl) ?_
  refine va_get (D := (dC, dI)) (ci := 4) (v := .ref (E 6)) (C := R_M) (T := T_M) (N := 23) hx hb hts in_M hown hK hE0.P 0 rfl rfl 8 (by decide) (hts _ w_548) (fun _ h9 => h9) rfl d_M_meet_4 ?_
  refine lv_iload_n hx hb d_M_meet_7 rfl (lv_at hl 3 rfl) ?_
  refine z_iald hx hb hAI (show z_A cI _ (E 6) 384 (gv 5) from hGA 5 (by omega)) (by omega) (by decide) d_M_meet_8 ?_
  refine lv_aload_n hx hb d_M_meet_9 rfl (lv_at hl 0 rfl) ?_
  refine va_get (D := (dC, dI)) (ci := 4) (v := .ref (E 7)) (C := R_M) (T := T_M) (N := 23) hx hb hts in_M hown hK hE0.P 0 rfl rfl 9 (by decide) (hts _ w_549) (fun _ h9 => h9) rfl d_M_meet_10 ?_
  refine lv_iload_n hx hb d_M_meet_13 rfl (lv_at hl 3 rfl) ?_
  refine z_iald hx hb hAI (show z_A cI _ (E 7) 384 (gv 6) from hGA 6 (by omega)) (by omega) (by decide) d_M_meet_14 ?_
  refine z_rdV (n := 4) (C := R_M) (rest := []) ⟨hx, hb, hml, hown, hts⟩ hW0 (c_M_isOn G E th mp ms mc mn mm gv i j ((gv 5) k) ((gv 6) k) (by omega) (by omega)) w_660 w_657 w_659 wp_23 w_4 (by decide +kernel) ⟨rfl, rfl, Nat.le_of_ble_eq_true rfl, Nat.le_of_ble_eq_true rfl⟩ (hE0.recv hK rfl) (hB) rfl rfl hl.1 (Nat.le_of_ble_eq_true rfl) d_M_meet_15 ⟨Nat.zero_le _, Nat.zero_le _⟩ ?_
  refine lv_if_ne (tgt := 88) hx hb d_M_meet_18 (by decide) (fun c_1 => ?_) (fun c_1 => ?_)
  · skip
    have c_1 : (pm_on (gv 5) (gv 6) i j ((gv 5) k) ((gv 6) k)) = true := pi_b_1.mp c_1
    refine lv_iconst (v := 1) hx hb d_M_meet_88 (by decide) ?_
    exact z_zret hx hb hr hlocks (by simp [pi_b, pm_meet, pm_cross, c_1]) d_M_meet_89
  · skip
    have c_1 : (pm_on (gv 5) (gv 6) i j ((gv 5) k) ((gv 6) k)) = false := pi_b_0.mp c_1
    refine lv_aload_n hx hb d_M_meet_21 rfl (lv_at hl 0 rfl) ?_
    refine lv_iload_n hx hb d_M_meet_22 rfl (lv_at hl 1 rfl) ?_
    refine lv_iload_n hx hb d_M_meet_23 rfl (lv_at hl 2 rfl) ?_
    refine lv_aload_n hx hb d_M_meet_24 rfl (lv_at hl 0 rfl) ?_
    refine va_get (D := (dC, dI)) (ci := 4) (v := .ref (E 6)) (C := R_M) (T := T_M) (N := 23) hx hb hts in_M hown hK hE0.P 0 rfl rfl 8 (by decide) (hts _ w_548) (fun _ h9 => h9) rfl d_M_meet_25 ?_
    refine lv_iload hx hb d_M_meet_28 (lv_at hl 4 rfl) ?_
    refine z_iald hx hb hAI (show z_A cI _ (E 6) 384 (gv 5) from hGA 5 (by omega)) (by omega) (by decide) d_M_meet_30 ?_
    refine lv_aload_n hx hb d_M_meet_31 rfl (lv_at hl 0 rfl) ?_
    refine va_get (D := (dC, dI)) (ci := 4) (v := .ref (E 7)) (C := R_M) (T := T_M) (N := 23) hx hb hts in_M hown hK hE0.P 0 rfl rfl 9 (by decide) (hts _ w_549) (fun _ h9 => h9) rfl d_M_meet_32 ?_
    refine lv_iload hx hb d_M_meet_35 (lv_at hl 4 rfl) ?_
    refine z_iald hx hb hAI (show z_A cI _ (E 7) 384 (gv 6) from hGA 6 (by omega)) (by omega) (by decide) d_M_meet_37 ?_
    refine z_rdV (n := 4) (C := R_M) (rest := []) ⟨hx, hb, hml, hown, hts⟩ hW0 (c_M_isOn G E th mp ms mc mn mm gv i j ((gv 5) q) ((gv 6) q) (by omega) (by omega)) w_660 w_657 w_659 wp_23 w_4 (by decide +kernel) ⟨rfl, rfl, Nat.le_of_ble_eq_true rfl, Nat.le_of_ble_eq_true rfl⟩ (hE0.recv hK rfl) (hB) rfl rfl hl.1 (Nat.le_of_ble_eq_true rfl) d_M_meet_38 ⟨Nat.zero_le _, Nat.zero_le _⟩ ?_
    refine lv_if_ne (tgt := 88) hx hb d_M_meet_41 (by decide) (fun c_2 => ?_) (fun c_2 => ?_)
    · skip
      have c_2 : (pm_on (gv 5) (gv 6) i j ((gv 5) q) ((gv 6) q)) = true := pi_b_1.mp c_2
      refine lv_iconst (v := 1) hx hb d_M_meet_88 (by decide) ?_
      exact z_zret hx hb hr hlocks (by simp [pi_b, pm_meet, pm_cross, c_1, c_2]) d_M_meet_89
    · skip
      have c_2 : (pm_on (gv 5) (gv 6) i j ((gv 5) q) ((gv 6) q)) = false := pi_b_0.mp c_2
      refine lv_aload_n hx hb d_M_meet_44 rfl (lv_at hl 0 rfl) ?_
      refine lv_iload_n hx hb d_M_meet_45 rfl (lv_at hl 3 rfl) ?_
      refine lv_iload hx hb d_M_meet_46 (lv_at hl 4 rfl) ?_
      refine lv_aload_n hx hb d_M_meet_48 rfl (lv_at hl 0 rfl) ?_
      refine va_get (D := (dC, dI)) (ci := 4) (v := .ref (E 6)) (C := R_M) (T := T_M) (N := 23) hx hb hts in_M hown hK hE0.P 0 rfl rfl 8 (by decide) (hts _ w_548) (fun _ h9 => h9) rfl d_M_meet_49 ?_
      refine lv_iload_n hx hb d_M_meet_52 rfl (lv_at hl 1 rfl) ?_
      refine z_iald hx hb hAI (show z_A cI _ (E 6) 384 (gv 5) from hGA 5 (by omega)) (by omega) (by decide) d_M_meet_53 ?_
      refine lv_aload_n hx hb d_M_meet_54 rfl (lv_at hl 0 rfl) ?_
      refine va_get (D := (dC, dI)) (ci := 4) (v := .ref (E 7)) (C := R_M) (T := T_M) (N := 23) hx hb hts in_M hown hK hE0.P 0 rfl rfl 9 (by decide) (hts _ w_549) (fun _ h9 => h9) rfl d_M_meet_55 ?_
      refine lv_iload_n hx hb d_M_meet_58 rfl (lv_at hl 1 rfl) ?_
      refine z_iald hx hb hAI (show z_A cI _ (E 7) 384 (gv 6) from hGA 6 (by omega)) (by omega) (by decide) d_M_meet_59 ?_
      refine z_rdV (n := 4) (C := R_M) (rest := []) ⟨hx, hb, hml, hown, hts⟩ hW0 (c_M_isOn G E th mp ms mc mn mm gv k q ((gv 5) i) ((gv 6) i) (by omega) (by omega)) w_660 w_657 w_659 wp_23 w_4 (by decide +kernel) ⟨rfl, rfl, Nat.le_of_ble_eq_true rfl, Nat.le_of_ble_eq_true rfl⟩ (hE0.recv hK rfl) (hB) rfl rfl hl.1 (Nat.le_of_ble_eq_true rfl) d_M_meet_60 ⟨Nat.zero_le _, Nat.zero_le _⟩ ?_
      refine lv_if_ne (tgt := 88) hx hb d_M_meet_63 (by decide) (fun c_3 => ?_) (fun c_3 => ?_)
      · skip
        have c_3 : (pm_on (gv 5) (gv 6) k q ((gv 5) i) ((gv 6) i)) = true := pi_b_1.mp c_3
        refine lv_iconst (v := 1) hx hb d_M_meet_88 (by decide) ?_
        exact z_zret hx hb hr hlocks (by simp [pi_b, pm_meet, pm_cross, c_1, c_2, c_3]) d_M_meet_89
      · skip
        have c_3 : (pm_on (gv 5) (gv 6) k q ((gv 5) i) ((gv 6) i)) = false := pi_b_0.mp c_3
        refine lv_aload_n hx hb d_M_meet_66 rfl (lv_at hl 0 rfl) ?_
        refine lv_iload_n hx hb d_M_meet_67 rfl (lv_at hl 3 rfl) ?_
        refine lv_iload hx hb d_M_meet_68 (lv_at hl 4 rfl) ?_
        refine lv_aload_n hx hb d_M_meet_70 rfl (lv_at hl 0 rfl) ?_
        refine va_get (D := (dC, dI)) (ci := 4) (v := .ref (E 6)) (C := R_M) (T := T_M) (N := 23) hx hb hts in_M hown hK hE0.P 0 rfl rfl 8 (by decide) (hts _ w_548) (fun _ h9 => h9) rfl d_M_meet_71 ?_
        refine lv_iload_n hx hb d_M_meet_74 rfl (lv_at hl 2 rfl) ?_
        refine z_iald hx hb hAI (show z_A cI _ (E 6) 384 (gv 5) from hGA 5 (by omega)) (by omega) (by decide) d_M_meet_75 ?_
        refine lv_aload_n hx hb d_M_meet_76 rfl (lv_at hl 0 rfl) ?_
        refine va_get (D := (dC, dI)) (ci := 4) (v := .ref (E 7)) (C := R_M) (T := T_M) (N := 23) hx hb hts in_M hown hK hE0.P 0 rfl rfl 9 (by decide) (hts _ w_549) (fun _ h9 => h9) rfl d_M_meet_77 ?_
        refine lv_iload_n hx hb d_M_meet_80 rfl (lv_at hl 2 rfl) ?_
        refine z_iald hx hb hAI (show z_A cI _ (E 7) 384 (gv 6) from hGA 6 (by omega)) (by omega) (by decide) d_M_meet_81 ?_
        refine z_rdV (n := 4) (C := R_M) (rest := []) ⟨hx, hb, hml, hown, hts⟩ hW0 (c_M_isOn G E th mp ms mc mn mm gv k q ((gv 5) j) ((gv 6) j) (by omega) (by omega)) w_660 w_657 w_659 wp_23 w_4 (by decide +kernel) ⟨rfl, rfl, Nat.le_of_ble_eq_true rfl, Nat.le_of_ble_eq_true rfl⟩ (hE0.recv hK rfl) (hB) rfl rfl hl.1 (Nat.le_of_ble_eq_true rfl) d_M_meet_82 ⟨Nat.zero_le _, Nat.zero_le _⟩ ?_
        refine lv_if_eq (tgt := 90) hx hb d_M_meet_85 (by decide) (fun c_4 => ?_) (fun c_4 => ?_)
        · skip
          have c_4 : (pm_on (gv 5) (gv 6) k q ((gv 5) j) ((gv 6) j)) = false := pi_b_0.mp c_4
          refine lv_aload_n hx hb d_M_meet_90 rfl (lv_at hl 0 rfl) ?_
          refine va_get (D := (dC, dI)) (ci := 4) (v := .ref (E 6)) (C := R_M) (T := T_M) (N := 23) hx hb hts in_M hown hK hE0.P 0 rfl rfl 8 (by decide) (hts _ w_548) (fun _ h9 => h9) rfl d_M_meet_91 ?_
          refine lv_iload_n hx hb d_M_meet_94 rfl (lv_at hl 1 rfl) ?_
          refine z_iald hx hb hAI (show z_A cI _ (E 6) 384 (gv 5) from hGA 5 (by omega)) (by omega) (by decide) d_M_meet_95 ?_
          refine lv_aload_n hx hb d_M_meet_96 rfl (lv_at hl 0 rfl) ?_
          refine va_get (D := (dC, dI)) (ci := 4) (v := .ref (E 7)) (C := R_M) (T := T_M) (N := 23) hx hb hts in_M hown hK hE0.P 0 rfl rfl 9 (by decide) (hts _ w_549) (fun _ h9 => h9) rfl d_M_meet_97 ?_
          refine lv_iload_n hx hb d_M_meet_100 rfl (lv_at hl 1 rfl) ?_
          refine z_iald hx hb hAI (show z_A cI _ (E 7) 384 (gv 6) from hGA 6 (by omega)) (by omega) (by decide) d_M_meet_101 ?_
          refine lv_aload_n hx hb d_M_meet_102 rfl (lv_at hl 0 rfl) ?_
          refine va_get (D := (dC, dI)) (ci := 4) (v := .ref (E 6)) (C := R_M) (T := T_M) (N := 23) hx hb hts in_M hown hK hE0.P 0 rfl rfl 8 (by decide) (hts _ w_548) (fun _ h9 => h9) rfl d_M_meet_103 ?_
          refine lv_iload_n hx hb d_M_meet_106 rfl (lv_at hl 2 rfl) ?_
          refine z_iald hx hb hAI (show z_A cI _ (E 6) 384 (gv 5) from hGA 5 (by omega)) (by omega) (by decide) d_M_meet_107 ?_
          refine lv_aload_n hx hb d_M_meet_108 rfl (lv_at hl 0 rfl) ?_
          refine va_get (D := (dC, dI)) (ci := 4) (v := .ref (E 7)) (C := R_M) (T := T_M) (N := 23) hx hb hts in_M hown hK hE0.P 0 rfl rfl 9 (by decide) (hts _ w_549) (fun _ h9 => h9) rfl d_M_meet_109 ?_
          refine lv_iload_n hx hb d_M_meet_112 rfl (lv_at hl 2 rfl) ?_
          refine z_iald hx hb hAI (show z_A cI _ (E 7) 384 (gv 6) from hGA 6 (by omega)) (by omega) (by decide) d_M_meet_113 ?_
          refine lv_aload_n hx hb d_M_meet_114 rfl (lv_at hl 0 rfl) ?_
          refine va_get (D := (dC, dI)) (ci := 4) (v := .ref (E 6)) (C := R_M) (T := T_M) (N := 23) hx hb hts in_M hown hK hE0.P 0 rfl rfl 8 (by decide) (hts _ w_548) (fun _ h9 => h9) rfl d_M_meet_115 ?_
          refine lv_iload_n hx hb d_M_meet_118 rfl (lv_at hl 3 rfl) ?_
          refine z_iald hx hb hAI (show z_A cI _ (E 6) 384 (gv 5) from hGA 5 (by omega)) (by omega) (by decide) d_M_meet_119 ?_
          refine lv_aload_n hx hb d_M_meet_120 rfl (lv_at hl 0 rfl) ?_
          refine va_get (D := (dC, dI)) (ci := 4) (v := .ref (E 7)) (C := R_M) (T := T_M) (N := 23) hx hb hts in_M hown hK hE0.P 0 rfl rfl 9 (by decide) (hts _ w_549) (fun _ h9 => h9) rfl d_M_meet_121 ?_
          refine lv_iload_n hx hb d_M_meet_124 rfl (lv_at hl 3 rfl) ?_
          refine z_iald hx hb hAI (show z_A cI _ (E 7) 384 (gv 6) from hGA 6 (by omega)) (by omega) (by decide) d_M_meet_125 ?_
          refine z_rdS (n := 6) (rest := []) ⟨hx, hb, hml, hown, hts⟩ hW0 (c_M_side G ((gv 5) i) ((gv 6) i) ((gv 5) j) ((gv 6) j) ((gv 5) k) ((gv 6) k)) w_663 w_661 w_662 w_4 (by decide +kernel) ⟨rfl, rfl, Nat.le_of_ble_eq_true rfl, Nat.le_of_ble_eq_true rfl⟩ (trivial) rfl rfl hl.1 (Nat.le_of_ble_eq_true rfl) d_M_meet_126 ⟨Nat.zero_le _, Nat.zero_le _⟩ ?_
          refine z_rdS (n := 1) (rest := []) ⟨hx, hb, hml, hown, hts⟩ hW0 (c_M_sign G (pm_side ((gv 5) i) ((gv 6) i) ((gv 5) j) ((gv 6) j) ((gv 5) k) ((gv 6) k))) w_673 w_671 w_672 w_4 (by decide +kernel) ⟨rfl, rfl, Nat.le_of_ble_eq_true rfl, Nat.le_of_ble_eq_true rfl⟩ (trivial) rfl rfl hl.1 (Nat.le_of_ble_eq_true rfl) d_M_meet_129 ⟨Nat.zero_le _, Nat.zero_le _⟩ ?_
          refine lv_aload_n hx hb d_M_meet_132 rfl (lv_at hl 0 rfl) ?_
          refine va_get (D := (dC, dI)) (ci := 4) (v := .ref (E 6)) (C := R_M) (T := T_M) (N := 23) hx hb hts in_M hown hK hE0.P 0 rfl rfl 8 (by decide) (hts _ w_548) (fun _ h9 => h9) rfl d_M_meet_133 ?_
          refine lv_iload_n hx hb d_M_meet_136 rfl (lv_at hl 1 rfl) ?_
          refine z_iald hx hb hAI (show z_A cI _ (E 6) 384 (gv 5) from hGA 5 (by omega)) (by omega) (by decide) d_M_meet_137 ?_
          refine lv_aload_n hx hb d_M_meet_138 rfl (lv_at hl 0 rfl) ?_
          refine va_get (D := (dC, dI)) (ci := 4) (v := .ref (E 7)) (C := R_M) (T := T_M) (N := 23) hx hb hts in_M hown hK hE0.P 0 rfl rfl 9 (by decide) (hts _ w_549) (fun _ h9 => h9) rfl d_M_meet_139 ?_
          refine lv_iload_n hx hb d_M_meet_142 rfl (lv_at hl 1 rfl) ?_
          refine z_iald hx hb hAI (show z_A cI _ (E 7) 384 (gv 6) from hGA 6 (by omega)) (by omega) (by decide) d_M_meet_143 ?_
          refine lv_aload_n hx hb d_M_meet_144 rfl (lv_at hl 0 rfl) ?_
          refine va_get (D := (dC, dI)) (ci := 4) (v := .ref (E 6)) (C := R_M) (T := T_M) (N := 23) hx hb hts in_M hown hK hE0.P 0 rfl rfl 8 (by decide) (hts _ w_548) (fun _ h9 => h9) rfl d_M_meet_145 ?_
          refine lv_iload_n hx hb d_M_meet_148 rfl (lv_at hl 2 rfl) ?_
          refine z_iald hx hb hAI (show z_A cI _ (E 6) 384 (gv 5) from hGA 5 (by omega)) (by omega) (by decide) d_M_meet_149 ?_
          refine lv_aload_n hx hb d_M_meet_150 rfl (lv_at hl 0 rfl) ?_
          refine va_get (D := (dC, dI)) (ci := 4) (v := .ref (E 7)) (C := R_M) (T := T_M) (N := 23) hx hb hts in_M hown hK hE0.P 0 rfl rfl 9 (by decide) (hts _ w_549) (fun _ h9 => h9) rfl d_M_meet_151 ?_
          refine lv_iload_n hx hb d_M_meet_154 rfl (lv_at hl 2 rfl) ?_
          refine z_iald hx hb hAI (show z_A cI _ (E 7) 384 (gv 6) from hGA 6 (by omega)) (by omega) (by decide) d_M_meet_155 ?_
          refine lv_aload_n hx hb d_M_meet_156 rfl (lv_at hl 0 rfl) ?_
          refine va_get (D := (dC, dI)) (ci := 4) (v := .ref (E 6)) (C := R_M) (T := T_M) (N := 23) hx hb hts in_M hown hK hE0.P 0 rfl rfl 8 (by decide) (hts _ w_548) (fun _ h9 => h9) rfl d_M_meet_157 ?_
          refine lv_iload hx hb d_M_meet_160 (lv_at hl 4 rfl) ?_
          refine z_iald hx hb hAI (show z_A cI _ (E 6) 384 (gv 5) from hGA 5 (by omega)) (by omega) (by decide) d_M_meet_162 ?_
          refine lv_aload_n hx hb d_M_meet_163 rfl (lv_at hl 0 rfl) ?_
          refine va_get (D := (dC, dI)) (ci := 4) (v := .ref (E 7)) (C := R_M) (T := T_M) (N := 23) hx hb hts in_M hown hK hE0.P 0 rfl rfl 9 (by decide) (hts _ w_549) (fun _ h9 => h9) rfl d_M_meet_164 ?_
          refine lv_iload hx hb d_M_meet_167 (lv_at hl 4 rfl) ?_
          refine z_iald hx hb hAI (show z_A cI _ (E 7) 384 (gv 6) from hGA 6 (by omega)) (by omega) (by decide) d_M_meet_169 ?_
          refine z_rdS (n := 6) (rest := [.int (pm_sign (pm_side ((gv 5) i) ((gv 6) i) ((gv 5) j) ((gv 6) j) ((gv 5) k) ((gv 6) k)))]) ⟨hx, hb, hml, hown, hts⟩ hW0 (c_M_side G ((gv 5) i) ((gv 6) i) ((gv 5) j) ((gv 6) j) ((gv 5) q) ((gv 6) q)) w_663 w_661 w_662 w_4 (by decide +kernel) ⟨rfl, rfl, Nat.le_of_ble_eq_true rfl, Nat.le_of_ble_eq_true rfl⟩ (trivial) rfl rfl hl.1 (Nat.le_of_ble_eq_true rfl) d_M_meet_170 ⟨Nat.zero_le _, Nat.zero_le _⟩ ?_
          refine z_rdS (n := 1) (rest := [.int (pm_sign (pm_side ((gv 5) i) ((gv 6) i) ((gv 5) j) ((gv 6) j) ((gv 5) k) ((gv 6) k)))]) ⟨hx, hb, hml, hown, hts⟩ hW0 (c_M_sign G (pm_side ((gv 5) i) ((gv 6) i) ((gv 5) j) ((gv 6) j) ((gv 5) q) ((gv 6) q))) w_673 w_671 w_672 w_4 (by decide +kernel) ⟨rfl, rfl, Nat.le_of_ble_eq_true rfl, Nat.le_of_ble_eq_true rfl⟩ (trivial) rfl rfl hl.1 (Nat.le_of_ble_eq_true rfl) d_M_meet_173 ⟨Nat.zero_le _, Nat.zero_le _⟩ ?_
          refine lv_imul hx hb d_M_meet_176 ?_
          refine lv_istore (lv' := [(5, .int ((pm_sign (pm_side ((gv 5) i) ((gv 6) i) ((gv 5) j) ((gv 6) j) ((gv 5) k) ((gv 6) k))) * (pm_sign (pm_side ((gv 5) i) ((gv 6) i) ((gv 5) j) ((gv 6) j) ((gv 5) q) ((gv 6) q))))), (0, .ref (E 0)), (1, .int (nI i)), (2, .int (nI j)), (3, .int (nI k)), (4, .int (nI q))]) hx hb d_M_meet_177 hl (by decide) rfl (fun ls hl => ?_)
          refine lv_aload_n hx hb d_M_meet_179 rfl (lv_at hl 1 rfl) ?_
          refine va_get (D := (dC, dI)) (ci := 4) (v := .ref (E 6)) (C := R_M) (T := T_M) (N := 23) hx hb hts in_M hown hK hE0.P 0 rfl rfl 8 (by decide) (hts _ w_548) (fun _ h9 => h9) rfl d_M_meet_180 ?_
          refine lv_iload_n hx hb d_M_meet_183 rfl (lv_at hl 4 rfl) ?_
          refine z_iald hx hb hAI (show z_A cI _ (E 6) 384 (gv 5) from hGA 5 (by omega)) (by omega) (by decide) d_M_meet_184 ?_
          refine lv_aload_n hx hb d_M_meet_185 rfl (lv_at hl 1 rfl) ?_
          refine va_get (D := (dC, dI)) (ci := 4) (v := .ref (E 7)) (C := R_M) (T := T_M) (N := 23) hx hb hts in_M hown hK hE0.P 0 rfl rfl 9 (by decide) (hts _ w_549) (fun _ h9 => h9) rfl d_M_meet_186 ?_
          refine lv_iload_n hx hb d_M_meet_189 rfl (lv_at hl 4 rfl) ?_
          refine z_iald hx hb hAI (show z_A cI _ (E 7) 384 (gv 6) from hGA 6 (by omega)) (by omega) (by decide) d_M_meet_190 ?_
          refine lv_aload_n hx hb d_M_meet_191 rfl (lv_at hl 1 rfl) ?_
          refine va_get (D := (dC, dI)) (ci := 4) (v := .ref (E 6)) (C := R_M) (T := T_M) (N := 23) hx hb hts in_M hown hK hE0.P 0 rfl rfl 8 (by decide) (hts _ w_548) (fun _ h9 => h9) rfl d_M_meet_192 ?_
          refine lv_iload hx hb d_M_meet_195 (lv_at hl 5 rfl) ?_
          refine z_iald hx hb hAI (show z_A cI _ (E 6) 384 (gv 5) from hGA 5 (by omega)) (by omega) (by decide) d_M_meet_197 ?_
          refine lv_aload_n hx hb d_M_meet_198 rfl (lv_at hl 1 rfl) ?_
          refine va_get (D := (dC, dI)) (ci := 4) (v := .ref (E 7)) (C := R_M) (T := T_M) (N := 23) hx hb hts in_M hown hK hE0.P 0 rfl rfl 9 (by decide) (hts _ w_549) (fun _ h9 => h9) rfl d_M_meet_199 ?_
          refine lv_iload hx hb d_M_meet_202 (lv_at hl 5 rfl) ?_
          refine z_iald hx hb hAI (show z_A cI _ (E 7) 384 (gv 6) from hGA 6 (by omega)) (by omega) (by decide) d_M_meet_204 ?_
          refine lv_aload_n hx hb d_M_meet_205 rfl (lv_at hl 1 rfl) ?_
          refine va_get (D := (dC, dI)) (ci := 4) (v := .ref (E 6)) (C := R_M) (T := T_M) (N := 23) hx hb hts in_M hown hK hE0.P 0 rfl rfl 8 (by decide) (hts _ w_548) (fun _ h9 => h9) rfl d_M_meet_206 ?_
          refine lv_iload_n hx hb d_M_meet_209 rfl (lv_at hl 2 rfl) ?_
          refine z_iald hx hb hAI (show z_A cI _ (E 6) 384 (gv 5) from hGA 5 (by omega)) (by omega) (by decide) d_M_meet_210 ?_
          refine lv_aload_n hx hb d_M_meet_211 rfl (lv_at hl 1 rfl) ?_
          refine va_get (D := (dC, dI)) (ci := 4) (v := .ref (E 7)) (C := R_M) (T := T_M) (N := 23) hx hb hts in_M hown hK hE0.P 0 rfl rfl 9 (by decide) (hts _ w_549) (fun _ h9 => h9) rfl d_M_meet_212 ?_
          refine lv_iload_n hx hb d_M_meet_215 rfl (lv_at hl 2 rfl) ?_
          refine z_iald hx hb hAI (show z_A cI _ (E 7) 384 (gv 6) from hGA 6 (by omega)) (by omega) (by decide) d_M_meet_216 ?_
          refine z_rdS (n := 6) (rest := []) ⟨hx, hb, hml, hown, hts⟩ hW0 (c_M_side G ((gv 5) k) ((gv 6) k) ((gv 5) q) ((gv 6) q) ((gv 5) i) ((gv 6) i)) w_663 w_661 w_662 w_4 (by decide +kernel) ⟨rfl, rfl, Nat.le_of_ble_eq_true rfl, Nat.le_of_ble_eq_true rfl⟩ (trivial) rfl rfl hl.1 (Nat.le_of_ble_eq_true rfl) d_M_meet_217 ⟨Nat.zero_le _, Nat.zero_le _⟩ ?_
          refine z_rdS (n := 1) (rest := []) ⟨hx, hb, hml, hown, hts⟩ hW0 (c_M_sign G (pm_side ((gv 5) k) ((gv 6) k) ((gv 5) q) ((gv 6) q) ((gv 5) i) ((gv 6) i))) w_673 w_671 w_672 w_4 (by decide +kernel) ⟨rfl, rfl, Nat.le_of_ble_eq_true rfl, Nat.le_of_ble_eq_true rfl⟩ (trivial) rfl rfl hl.1 (Nat.le_of_ble_eq_true rfl) d_M_meet_220 ⟨Nat.zero_le _, Nat.zero_le _⟩ ?_
          refine lv_aload_n hx hb d_M_meet_223 rfl (lv_at hl 1 rfl) ?_
          refine va_get (D := (dC, dI)) (ci := 4) (v := .ref (E 6)) (C := R_M) (T := T_M) (N := 23) hx hb hts in_M hown hK hE0.P 0 rfl rfl 8 (by decide) (hts _ w_548) (fun _ h9 => h9) rfl d_M_meet_224 ?_
          refine lv_iload_n hx hb d_M_meet_227 rfl (lv_at hl 4 rfl) ?_
          refine z_iald hx hb hAI (show z_A cI _ (E 6) 384 (gv 5) from hGA 5 (by omega)) (by omega) (by decide) d_M_meet_228 ?_
          refine lv_aload_n hx hb d_M_meet_229 rfl (lv_at hl 1 rfl) ?_
          refine va_get (D := (dC, dI)) (ci := 4) (v := .ref (E 7)) (C := R_M) (T := T_M) (N := 23) hx hb hts in_M hown hK hE0.P 0 rfl rfl 9 (by decide) (hts _ w_549) (fun _ h9 => h9) rfl d_M_meet_230 ?_
          refine lv_iload_n hx hb d_M_meet_233 rfl (lv_at hl 4 rfl) ?_
          refine z_iald hx hb hAI (show z_A cI _ (E 7) 384 (gv 6) from hGA 6 (by omega)) (by omega) (by decide) d_M_meet_234 ?_
          refine lv_aload_n hx hb d_M_meet_235 rfl (lv_at hl 1 rfl) ?_
          refine va_get (D := (dC, dI)) (ci := 4) (v := .ref (E 6)) (C := R_M) (T := T_M) (N := 23) hx hb hts in_M hown hK hE0.P 0 rfl rfl 8 (by decide) (hts _ w_548) (fun _ h9 => h9) rfl d_M_meet_236 ?_
          refine lv_iload hx hb d_M_meet_239 (lv_at hl 5 rfl) ?_
          refine z_iald hx hb hAI (show z_A cI _ (E 6) 384 (gv 5) from hGA 5 (by omega)) (by omega) (by decide) d_M_meet_241 ?_
          refine lv_aload_n hx hb d_M_meet_242 rfl (lv_at hl 1 rfl) ?_
          refine va_get (D := (dC, dI)) (ci := 4) (v := .ref (E 7)) (C := R_M) (T := T_M) (N := 23) hx hb hts in_M hown hK hE0.P 0 rfl rfl 9 (by decide) (hts _ w_549) (fun _ h9 => h9) rfl d_M_meet_243 ?_
          refine lv_iload hx hb d_M_meet_246 (lv_at hl 5 rfl) ?_
          refine z_iald hx hb hAI (show z_A cI _ (E 7) 384 (gv 6) from hGA 6 (by omega)) (by omega) (by decide) d_M_meet_248 ?_
          refine lv_aload_n hx hb d_M_meet_249 rfl (lv_at hl 1 rfl) ?_
          refine va_get (D := (dC, dI)) (ci := 4) (v := .ref (E 6)) (C := R_M) (T := T_M) (N := 23) hx hb hts in_M hown hK hE0.P 0 rfl rfl 8 (by decide) (hts _ w_548) (fun _ h9 => h9) rfl d_M_meet_250 ?_
          refine lv_iload_n hx hb d_M_meet_253 rfl (lv_at hl 3 rfl) ?_
          refine z_iald hx hb hAI (show z_A cI _ (E 6) 384 (gv 5) from hGA 5 (by omega)) (by omega) (by decide) d_M_meet_254 ?_
          refine lv_aload_n hx hb d_M_meet_255 rfl (lv_at hl 1 rfl) ?_
          refine va_get (D := (dC, dI)) (ci := 4) (v := .ref (E 7)) (C := R_M) (T := T_M) (N := 23) hx hb hts in_M hown hK hE0.P 0 rfl rfl 9 (by decide) (hts _ w_549) (fun _ h9 => h9) rfl d_M_meet_256 ?_
          refine lv_iload_n hx hb d_M_meet_259 rfl (lv_at hl 3 rfl) ?_
          refine z_iald hx hb hAI (show z_A cI _ (E 7) 384 (gv 6) from hGA 6 (by omega)) (by omega) (by decide) d_M_meet_260 ?_
          refine z_rdS (n := 6) (rest := [.int (pm_sign (pm_side ((gv 5) k) ((gv 6) k) ((gv 5) q) ((gv 6) q) ((gv 5) i) ((gv 6) i)))]) ⟨hx, hb, hml, hown, hts⟩ hW0 (c_M_side G ((gv 5) k) ((gv 6) k) ((gv 5) q) ((gv 6) q) ((gv 5) j) ((gv 6) j)) w_663 w_661 w_662 w_4 (by decide +kernel) ⟨rfl, rfl, Nat.le_of_ble_eq_true rfl, Nat.le_of_ble_eq_true rfl⟩ (trivial) rfl rfl hl.1 (Nat.le_of_ble_eq_true rfl) d_M_meet_261 ⟨Nat.zero_le _, Nat.zero_le _⟩ ?_
          refine z_rdS (n := 1) (rest := [.int (pm_sign (pm_side ((gv 5) k) ((gv 6) k) ((gv 5) q) ((gv 6) q) ((gv 5) i) ((gv 6) i)))]) ⟨hx, hb, hml, hown, hts⟩ hW0 (c_M_sign G (pm_side ((gv 5) k) ((gv 6) k) ((gv 5) q) ((gv 6) q) ((gv 5) j) ((gv 6) j))) w_673 w_671 w_672 w_4 (by decide +kernel) ⟨rfl, rfl, Nat.le_of_ble_eq_true rfl, Nat.le_of_ble_eq_true rfl⟩ (trivial) rfl rfl hl.1 (Nat.le_of_ble_eq_true rfl) d_M_meet_264 ⟨Nat.zero_le _, Nat.zero_le _⟩ ?_
          refine lv_imul hx hb d_M_meet_267 ?_
          refine lv_istore (lv' := [(6, .int ((pm_sign (pm_side ((gv 5) k) ((gv 6) k) ((gv 5) q) ((gv 6) q) ((gv 5) i) ((gv 6) i))) * (pm_sign (pm_side ((gv 5) k) ((gv 6) k) ((gv 5) q) ((gv 6) q) ((gv 5) j) ((gv 6) j))))), (5, .int ((pm_sign (pm_side ((gv 5) i) ((gv 6) i) ((gv 5) j) ((gv 6) j) ((gv 5) k) ((gv 6) k))) * (pm_sign (pm_side ((gv 5) i) ((gv 6) i) ((gv 5) j) ((gv 6) j) ((gv 5) q) ((gv 6) q))))), (0, .ref (E 0)), (1, .int (nI i)), (2, .int (nI j)), (3, .int (nI k)), (4, .int (nI q))]) hx hb d_M_meet_268 hl (by decide) rfl (fun ls hl => ?_)
          refine lv_iload hx hb d_M_meet_270 (lv_at hl 1 rfl) ?_
          refine lv_if_ge (tgt := 284) hx hb d_M_meet_272 (by decide) (fun c_5 => ?_) (fun c_5 => ?_)
          · skip
            have c_5' : ¬ (((pm_sign (pm_side ((gv 5) i) ((gv 6) i) ((gv 5) j) ((gv 6) j) ((gv 5) k) ((gv 6) k))) * (pm_sign (pm_side ((gv 5) i) ((gv 6) i) ((gv 5) j) ((gv 6) j) ((gv 5) q) ((gv 6) q)))) < (0 : Int32)) := Int32.not_lt.mpr c_5
            refine lv_iconst (v := 0) hx hb d_M_meet_284 (by decide) ?_
            exact z_zret hx hb hr hlocks (by simp [pi_b, pm_meet, pm_cross, c_1, c_2, c_3, c_4, c_5, c_5']) d_M_meet_285
          · skip
            have c_5' : ((pm_sign (pm_side ((gv 5) i) ((gv 6) i) ((gv 5) j) ((gv 6) j) ((gv 5) k) ((gv 6) k))) * (pm_sign (pm_side ((gv 5) i) ((gv 6) i) ((gv 5) j) ((gv 6) j) ((gv 5) q) ((gv 6) q)))) < (0 : Int32) := Int32.not_le.mp c_5
            refine lv_iload hx hb d_M_meet_275 (lv_at hl 0 rfl) ?_
            refine lv_if_ge (tgt := 284) hx hb d_M_meet_277 (by decide) (fun c_6 => ?_) (fun c_6 => ?_)
            · skip
              have c_6' : ¬ (((pm_sign (pm_side ((gv 5) k) ((gv 6) k) ((gv 5) q) ((gv 6) q) ((gv 5) i) ((gv 6) i))) * (pm_sign (pm_side ((gv 5) k) ((gv 6) k) ((gv 5) q) ((gv 6) q) ((gv 5) j) ((gv 6) j)))) < (0 : Int32)) := Int32.not_lt.mpr c_6
              refine lv_iconst (v := 0) hx hb d_M_meet_284 (by decide) ?_
              exact z_zret hx hb hr hlocks (by simp [pi_b, pm_meet, pm_cross, c_1, c_2, c_3, c_4, c_5, c_5', c_6, c_6']) d_M_meet_285
            · skip
              have c_6' : ((pm_sign (pm_side ((gv 5) k) ((gv 6) k) ((gv 5) q) ((gv 6) q) ((gv 5) i) ((gv 6) i))) * (pm_sign (pm_side ((gv 5) k) ((gv 6) k) ((gv 5) q) ((gv 6) q) ((gv 5) j) ((gv 6) j)))) < (0 : Int32) := Int32.not_le.mp c_6
              refine lv_iconst (v := 1) hx hb d_M_meet_280 (by decide) ?_
              refine lv_goto (tgt := 285) hx hb d_M_meet_281 (by decide) ?_
              exact z_zret hx hb hr hlocks (by simp [pi_b, pm_meet, pm_cross, c_1, c_2, c_3, c_4, c_5, c_5', c_6, c_6']) d_M_meet_285
        · skip
          have c_4 : (pm_on (gv 5) (gv 6) k q ((gv 5) j) ((gv 6) j)) = true := pi_b_1.mp c_4
          refine lv_iconst (v := 1) hx hb d_M_meet_88 (by decide) ?_
          exact z_zret hx hb hr hlocks (by simp [pi_b, pm_meet, pm_cross, c_1, c_2, c_3, c_4]) d_M_meet_89
set_option maxRecDepth 100000 in
set_option maxHeartbeats 4000000 in
theorem c_M_after (G : z_G s0 (dC, dI) cI cS) (E : Nat → Nat) (th : Int32) (mp ms mc mn mm : Nat) (gv : Nat → Nat → Int32) (q k n : Nat) (hq : q < 32) (hk : k < 100) (hm : gv 4 q = nI n) (hn0 : 0 < n) (hn : n ≤ 12) : Met l y_M_after [Cond.code y_M_after b_M_after 3 (some .int)] ({ frames := 0, cells := 0, slots := 0, locals := 0 }) (z_Pc s0 [.ref (E 0), .int (nI q), .int (nI k)] (fun H => z_Md (dC, dI) cI H E th mp ms mc mn mm gv)) (z_Qr (some (.int (nI (pm_af n q k))))) 0 0 z_no := by
  refine z_ofW (by decide +kernel) (Nat.le_of_ble_eq_true rfl) ?_
  intro p e s m below meth c hx hb hml hr hown hlocks hnm hW0 hB ls hl
  have hts := z_hts (args := [.ref (E 0), .int (nI q), .int (nI k)].toArray) G.1 hW0
  have hN := z_nstW G.2.1 hW0
  have hK := va_K.moved hW0.alike G.2.2.1
  have hAI := arrOfT_moved hW0.alike G.2.2.2.1
  have hl : lv_has ls 3 [(0, .ref (E 0)), (1, .int (nI q)), (2, .int (nI k))] := hl
  obtain ⟨⟨hE0, hGA⟩, hEi, ⟨hmp, hms, hmn, hmm, hmc⟩⟩ := id hB
  refine lv_bipush (v := 12) hx hb d_M_after_0 (by decide) ?_
  refine lv_iload_n hx hb d_M_after_2 rfl (lv_at hl 1 rfl) ?_
  refine lv_imul hx hb d_M_after_3 ?_
  refine z_topi (y := nI (12 * q)) (pk_mul 12 q) ?_
  refine lv_iload_n hx hb d_M_after_4 rfl (lv_at hl 2 rfl) ?_
  refine lv_iconst (v := 1) hx hb d_M_after_5 (by decide) ?_
  refine lv_iadd hx hb d_M_after_6 ?_
  refine z_topi (y := nI (k + 1)) (nI_add k 1) ?_
  refine lv_aload_n hx hb d_M_after_7 rfl (lv_at hl 0 rfl) ?_
  refine va_get (D := (dC, dI)) (ci := 4) (v := .ref (E 5)) (C := R_M) (T := T_M) (N := 23) hx hb hts in_M hown hK hE0.P 0 rfl rfl 7 (by decide) (hts _ w_547) (fun _ h9 => h9) rfl d_M_after_8 ?_
  refine lv_iload_n hx hb d_M_after_11 rfl (lv_at hl 1 rfl) ?_
  refine z_iald hx hb hAI (show z_A cI _ (E 5) 32 (gv 4) from hGA 4 (by omega)) (by omega) (by decide) d_M_after_12 ?_
  refine z_topi (y := nI n) hm ?_
  refine lv_irem hx hb d_M_after_13 (nI_ne0 (n := n) (by omega) (by omega)) ?_
  refine z_topi (y := nI ((k + 1) % n)) (pk_rem (a := k + 1) (d := n) (by omega) (by omega) (by omega)) ?_
  refine lv_iadd hx hb d_M_after_14 ?_
  refine z_topi (y := nI (12 * q + ((k + 1) % n))) (nI_add (12 * q) ((k + 1) % n)) ?_
  exact z_iret hx hb hr hlocks (by rfl) d_M_after_15
set_option maxRecDepth 100000 in
set_option maxHeartbeats 4000000 in
theorem c_M_part (G : z_G s0 (dC, dI) cI cS) (E : Nat → Nat) (th : Int32) (mp ms mc mn mm : Nat) (gv : Nat → Nat → Int32) (i j : Nat) (x y : Int32) (hi : i < 12) (hj : j < 12) : Met l y_M_part [Cond.code y_M_part b_M_part 5 (some .int)] ({ frames := 1, cells := 0, slots := 0, locals := 25 }) (z_Pc s0 [.ref (E 0), .int (nI i), .int (nI j), .int x, .int y] (fun H => z_Md (dC, dI) cI H E th mp ms mc mn mm gv)) (z_Qr (some (.int (pm_side (gv 13 i) (gv 14 i) (gv 13 j) (gv 14 j) x y)))) 0 0 z_no := by
  refine z_ofW (by decide +kernel) (Nat.le_of_ble_eq_true rfl) ?_
  intro p e s m below meth c hx hb hml hr hown hlocks hnm hW0 hB ls hl
  have hts := z_hts (args := [.ref (E 0), .int (nI i), .int (nI j), .int x, .int y].toArray) G.1 hW0
  have hN := z_nstW G.2.1 hW0
  have hK := va_K.moved hW0.alike G.2.2.1
  have hAI := arrOfT_moved hW0.alike G.2.2.2.1
  have hl : lv_has ls 5 [(0, .ref (E 0)), (1, .int (nI i)), (2, .int (nI j)), (3, .int x), (4, .int y)] := hl
  obtain ⟨⟨hE0, hGA⟩, hEi, ⟨hmp, hms, hmn, hmm, hmc⟩⟩ := id hB
  refine lv_aload_n hx hb d_M_part_0 rfl (lv_at hl 0 rfl) ?_
  refine va_get (D := (dC, dI)) (ci := 4) (v := .ref (E 14)) (C := R_M) (T := T_M) (N := 23) hx hb hts in_M hown hK hE0.P 0 rfl rfl 19 (by decide) (hts _ w_559) (fun _ h9 => h9) rfl d_M_part_1 ?_
  refine lv_iload_n hx hb d_M_part_4 rfl (lv_at hl 1 rfl) ?_
  refine z_iald hx hb hAI (show z_A cI _ (E 14) 12 (gv 13) from hGA 13 (by omega)) (by omega) (by decide) d_M_part_5 ?_
  refine lv_aload_n hx hb d_M_part_6 rfl (lv_at hl 0 rfl) ?_
  refine va_get (D := (dC, dI)) (ci := 4) (v := .ref (E 15)) (C := R_M) (T := T_M) (N := 23) hx hb hts in_M hown hK hE0.P 0 rfl rfl 20 (by decide) (hts _ w_560) (fun _ h9 => h9) rfl d_M_part_7 ?_
  refine lv_iload_n hx hb d_M_part_10 rfl (lv_at hl 1 rfl) ?_
  refine z_iald hx hb hAI (show z_A cI _ (E 15) 12 (gv 14) from hGA 14 (by omega)) (by omega) (by decide) d_M_part_11 ?_
  refine lv_aload_n hx hb d_M_part_12 rfl (lv_at hl 0 rfl) ?_
  refine va_get (D := (dC, dI)) (ci := 4) (v := .ref (E 14)) (C := R_M) (T := T_M) (N := 23) hx hb hts in_M hown hK hE0.P 0 rfl rfl 19 (by decide) (hts _ w_559) (fun _ h9 => h9) rfl d_M_part_13 ?_
  refine lv_iload_n hx hb d_M_part_16 rfl (lv_at hl 2 rfl) ?_
  refine z_iald hx hb hAI (show z_A cI _ (E 14) 12 (gv 13) from hGA 13 (by omega)) (by omega) (by decide) d_M_part_17 ?_
  refine lv_aload_n hx hb d_M_part_18 rfl (lv_at hl 0 rfl) ?_
  refine va_get (D := (dC, dI)) (ci := 4) (v := .ref (E 15)) (C := R_M) (T := T_M) (N := 23) hx hb hts in_M hown hK hE0.P 0 rfl rfl 20 (by decide) (hts _ w_560) (fun _ h9 => h9) rfl d_M_part_19 ?_
  refine lv_iload_n hx hb d_M_part_22 rfl (lv_at hl 2 rfl) ?_
  refine z_iald hx hb hAI (show z_A cI _ (E 15) 12 (gv 14) from hGA 14 (by omega)) (by omega) (by decide) d_M_part_23 ?_
  refine lv_iload_n hx hb d_M_part_24 rfl (lv_at hl 3 rfl) ?_
  refine lv_iload hx hb d_M_part_25 (lv_at hl 4 rfl) ?_
  refine z_rdS (n := 6) (rest := []) ⟨hx, hb, hml, hown, hts⟩ hW0 (c_M_side G ((gv 13) i) ((gv 14) i) ((gv 13) j) ((gv 14) j) x y) w_663 w_661 w_662 w_4 (by decide +kernel) ⟨rfl, rfl, Nat.le_of_ble_eq_true rfl, Nat.le_of_ble_eq_true rfl⟩ (trivial) rfl rfl hl.1 (Nat.le_of_ble_eq_true rfl) d_M_part_27 ⟨Nat.zero_le _, Nat.zero_le _⟩ ?_
  exact z_iret hx hb hr hlocks (by rfl) d_M_part_30
set_option maxRecDepth 100000 in
set_option maxHeartbeats 4000000 in
theorem c_M_holds (G : z_G s0 (dC, dI) cI cS) (E : Nat → Nat) (th : Int32) (mp ms mc mn mm : Nat) (gv : Nat → Nat → Int32) (i j k : Nat) (x y : Int32) (hi : i < 12) (hj : j < 12) (hk : k < 12) : Met l y_M_holds [Cond.code y_M_holds b_M_holds 7 (some .boolean)] ({ frames := 2, cells := 0, slots := 0, locals := 49 }) (z_Pc s0 [.ref (E 0), .int (nI i), .int (nI j), .int (nI k), .int x, .int y] (fun H => z_Md (dC, dI) cI H E th mp ms mc mn mm gv)) (z_Qr (some (.int (pi_b (pm_hold (gv 13) (gv 14) i j k x y))))) 0 0 z_no := by
  refine z_ofW (by decide +kernel) (Nat.le_of_ble_eq_true rfl) ?_
  intro p e s m below meth c hx hb hml hr hown hlocks hnm hW0 hB ls hl
  have hts := z_hts (args := [.ref (E 0), .int (nI i), .int (nI j), .int (nI k), .int x, .int y].toArray) G.1 hW0
  have hN := z_nstW G.2.1 hW0
  have hK := va_K.moved hW0.alike G.2.2.1
  have hAI := arrOfT_moved hW0.alike G.2.2.2.1
  have hl : lv_has ls 7 [(0, .ref (E 0)), (1, .int (nI i)), (2, .int (nI j)), (3, .int (nI k)), (4, .int x), (5, .int y)] := hl
  obtain ⟨⟨hE0, hGA⟩, hEi, ⟨hmp, hms, hmn, hmm, hmc⟩⟩ := id hB
  refine lv_aload_n hx hb d_M_holds_0 rfl (lv_at hl 0 rfl) ?_
  refine lv_iload_n hx hb d_M_holds_1 rfl (lv_at hl 1 rfl) ?_
  refine lv_iload_n hx hb d_M_holds_2 rfl (lv_at hl 2 rfl) ?_
  refine lv_aload_n hx hb d_M_holds_3 rfl (lv_at hl 0 rfl) ?_
  refine va_get (D := (dC, dI)) (ci := 4) (v := .ref (E 14)) (C := R_M) (T := T_M) (N := 23) hx hb hts in_M hown hK hE0.P 0 rfl rfl 19 (by decide) (hts _ w_559) (fun _ h9 => h9) rfl d_M_holds_4 ?_
  refine lv_iload_n hx hb d_M_holds_7 rfl (lv_at hl 3 rfl) ?_
  refine z_iald hx hb hAI (show z_A cI _ (E 14) 12 (gv 13) from hGA 13 (by omega)) (by omega) (by decide) d_M_holds_8 ?_
  refine lv_aload_n hx hb d_M_holds_9 rfl (lv_at hl 0 rfl) ?_
  refine va_get (D := (dC, dI)) (ci := 4) (v := .ref (E 15)) (C := R_M) (T := T_M) (N := 23) hx hb hts in_M hown hK hE0.P 0 rfl rfl 20 (by decide) (hts _ w_560) (fun _ h9 => h9) rfl d_M_holds_10 ?_
  refine lv_iload_n hx hb d_M_holds_13 rfl (lv_at hl 3 rfl) ?_
  refine z_iald hx hb hAI (show z_A cI _ (E 15) 12 (gv 14) from hGA 14 (by omega)) (by omega) (by decide) d_M_holds_14 ?_
  refine z_rdV (n := 4) (C := R_M) (rest := []) ⟨hx, hb, hml, hown, hts⟩ hW0 (c_M_part G E th mp ms mc mn mm gv i j ((gv 13) k) ((gv 14) k) (by omega) (by omega)) w_741 w_738 w_740 wp_30 w_4 (by decide +kernel) ⟨rfl, rfl, Nat.le_of_ble_eq_true rfl, Nat.le_of_ble_eq_true rfl⟩ (hE0.recv hK rfl) (hB) rfl rfl hl.1 (Nat.le_of_ble_eq_true rfl) d_M_holds_15 ⟨Nat.zero_le _, Nat.zero_le _⟩ ?_
  refine z_rdS (n := 1) (rest := []) ⟨hx, hb, hml, hown, hts⟩ hW0 (c_M_sign G (pm_side (gv 13 i) (gv 14 i) (gv 13 j) (gv 14 j) ((gv 13) k) ((gv 14) k))) w_673 w_671 w_672 w_4 (by decide +kernel) ⟨rfl, rfl, Nat.le_of_ble_eq_true rfl, Nat.le_of_ble_eq_true rfl⟩ (trivial) rfl rfl hl.1 (Nat.le_of_ble_eq_true rfl) d_M_holds_18 ⟨Nat.zero_le _, Nat.zero_le _⟩ ?_
  refine lv_istore (lv' := [(6, .int (pm_sign (pm_side (gv 13 i) (gv 14 i) (gv 13 j) (gv 14 j) ((gv 13) k) ((gv 14) k)))), (0, .ref (E 0)), (1, .int (nI i)), (2, .int (nI j)), (3, .int (nI k)), (4, .int x), (5, .int y)]) hx hb d_M_holds_21 hl (by decide) rfl (fun ls hl => ?_)
  refine lv_iload hx hb d_M_holds_23 (lv_at hl 0 rfl) ?_
  refine lv_if_eq (tgt := 89) hx hb d_M_holds_25 (by decide) (fun c_1 => ?_) (fun c_1 => ?_)
  · skip
    refine lv_iconst (v := 0) hx hb d_M_holds_89 (by decide) ?_
    exact z_zret hx hb hr hlocks (by simp [pi_b, pm_hold, c_1]) d_M_holds_90
  · skip
    refine lv_iload hx hb d_M_holds_28 (lv_at hl 0 rfl) ?_
    refine lv_aload_n hx hb d_M_holds_30 rfl (lv_at hl 1 rfl) ?_
    refine lv_iload_n hx hb d_M_holds_31 rfl (lv_at hl 2 rfl) ?_
    refine lv_iload_n hx hb d_M_holds_32 rfl (lv_at hl 3 rfl) ?_
    refine lv_iload hx hb d_M_holds_33 (lv_at hl 5 rfl) ?_
    refine lv_iload hx hb d_M_holds_35 (lv_at hl 6 rfl) ?_
    refine z_rdV (n := 4) (C := R_M) (rest := [.int (pm_sign (pm_side (gv 13 i) (gv 14 i) (gv 13 j) (gv 14 j) ((gv 13) k) ((gv 14) k)))]) ⟨hx, hb, hml, hown, hts⟩ hW0 (c_M_part G E th mp ms mc mn mm gv i j x y (by omega) (by omega)) w_741 w_738 w_740 wp_30 w_4 (by decide +kernel) ⟨rfl, rfl, Nat.le_of_ble_eq_true rfl, Nat.le_of_ble_eq_true rfl⟩ (hE0.recv hK rfl) (hB) rfl rfl hl.1 (Nat.le_of_ble_eq_true rfl) d_M_holds_37 ⟨Nat.zero_le _, Nat.zero_le _⟩ ?_
    refine z_rdS (n := 1) (rest := [.int (pm_sign (pm_side (gv 13 i) (gv 14 i) (gv 13 j) (gv 14 j) ((gv 13) k) ((gv 14) k)))]) ⟨hx, hb, hml, hown, hts⟩ hW0 (c_M_sign G (pm_side (gv 13 i) (gv 14 i) (gv 13 j) (gv 14 j) x y)) w_673 w_671 w_672 w_4 (by decide +kernel) ⟨rfl, rfl, Nat.le_of_ble_eq_true rfl, Nat.le_of_ble_eq_true rfl⟩ (trivial) rfl rfl hl.1 (Nat.le_of_ble_eq_true rfl) d_M_holds_40 ⟨Nat.zero_le _, Nat.zero_le _⟩ ?_
    refine lv_imul hx hb d_M_holds_43 ?_
    refine lv_if_lt (tgt := 89) hx hb d_M_holds_44 (by decide) (fun c_2 => ?_) (fun c_2 => ?_)
    · skip
      have c_2' : ¬ ((0 : Int32) ≤ ((pm_sign (pm_side (gv 13 i) (gv 14 i) (gv 13 j) (gv 14 j) ((gv 13) k) ((gv 14) k))) * (pm_sign (pm_side (gv 13 i) (gv 14 i) (gv 13 j) (gv 14 j) x y)))) := Int32.not_le.mpr c_2
      refine lv_iconst (v := 0) hx hb d_M_holds_89 (by decide) ?_
      exact z_zret hx hb hr hlocks (by simp [pi_b, pm_hold, c_1, c_2, c_2']) d_M_holds_90
    · skip
      have c_2' : (0 : Int32) ≤ ((pm_sign (pm_side (gv 13 i) (gv 14 i) (gv 13 j) (gv 14 j) ((gv 13) k) ((gv 14) k))) * (pm_sign (pm_side (gv 13 i) (gv 14 i) (gv 13 j) (gv 14 j) x y))) := Int32.not_lt.mp c_2
      refine lv_iload hx hb d_M_holds_47 (lv_at hl 0 rfl) ?_
      refine lv_aload_n hx hb d_M_holds_49 rfl (lv_at hl 1 rfl) ?_
      refine lv_iload_n hx hb d_M_holds_50 rfl (lv_at hl 3 rfl) ?_
      refine lv_iload_n hx hb d_M_holds_51 rfl (lv_at hl 4 rfl) ?_
      refine lv_iload hx hb d_M_holds_52 (lv_at hl 5 rfl) ?_
      refine lv_iload hx hb d_M_holds_54 (lv_at hl 6 rfl) ?_
      refine z_rdV (n := 4) (C := R_M) (rest := [.int (pm_sign (pm_side (gv 13 i) (gv 14 i) (gv 13 j) (gv 14 j) ((gv 13) k) ((gv 14) k)))]) ⟨hx, hb, hml, hown, hts⟩ hW0 (c_M_part G E th mp ms mc mn mm gv j k x y (by omega) (by omega)) w_741 w_738 w_740 wp_30 w_4 (by decide +kernel) ⟨rfl, rfl, Nat.le_of_ble_eq_true rfl, Nat.le_of_ble_eq_true rfl⟩ (hE0.recv hK rfl) (hB) rfl rfl hl.1 (Nat.le_of_ble_eq_true rfl) d_M_holds_56 ⟨Nat.zero_le _, Nat.zero_le _⟩ ?_
      refine z_rdS (n := 1) (rest := [.int (pm_sign (pm_side (gv 13 i) (gv 14 i) (gv 13 j) (gv 14 j) ((gv 13) k) ((gv 14) k)))]) ⟨hx, hb, hml, hown, hts⟩ hW0 (c_M_sign G (pm_side (gv 13 j) (gv 14 j) (gv 13 k) (gv 14 k) x y)) w_673 w_671 w_672 w_4 (by decide +kernel) ⟨rfl, rfl, Nat.le_of_ble_eq_true rfl, Nat.le_of_ble_eq_true rfl⟩ (trivial) rfl rfl hl.1 (Nat.le_of_ble_eq_true rfl) d_M_holds_59 ⟨Nat.zero_le _, Nat.zero_le _⟩ ?_
      refine lv_imul hx hb d_M_holds_62 ?_
      refine lv_if_lt (tgt := 89) hx hb d_M_holds_63 (by decide) (fun c_3 => ?_) (fun c_3 => ?_)
      · skip
        have c_3' : ¬ ((0 : Int32) ≤ ((pm_sign (pm_side (gv 13 i) (gv 14 i) (gv 13 j) (gv 14 j) ((gv 13) k) ((gv 14) k))) * (pm_sign (pm_side (gv 13 j) (gv 14 j) (gv 13 k) (gv 14 k) x y)))) := Int32.not_le.mpr c_3
        refine lv_iconst (v := 0) hx hb d_M_holds_89 (by decide) ?_
        exact z_zret hx hb hr hlocks (by simp [pi_b, pm_hold, c_1, c_2, c_2', c_3, c_3']) d_M_holds_90
      · skip
        have c_3' : (0 : Int32) ≤ ((pm_sign (pm_side (gv 13 i) (gv 14 i) (gv 13 j) (gv 14 j) ((gv 13) k) ((gv 14) k))) * (pm_sign (pm_side (gv 13 j) (gv 14 j) (gv 13 k) (gv 14 k) x y))) := Int32.not_lt.mp c_3
        refine lv_iload hx hb d_M_holds_66 (lv_at hl 0 rfl) ?_
        refine lv_aload_n hx hb d_M_holds_68 rfl (lv_at hl 1 rfl) ?_
        refine lv_iload_n hx hb d_M_holds_69 rfl (lv_at hl 4 rfl) ?_
        refine lv_iload_n hx hb d_M_holds_70 rfl (lv_at hl 2 rfl) ?_
        refine lv_iload hx hb d_M_holds_71 (lv_at hl 5 rfl) ?_
        refine lv_iload hx hb d_M_holds_73 (lv_at hl 6 rfl) ?_
        refine z_rdV (n := 4) (C := R_M) (rest := [.int (pm_sign (pm_side (gv 13 i) (gv 14 i) (gv 13 j) (gv 14 j) ((gv 13) k) ((gv 14) k)))]) ⟨hx, hb, hml, hown, hts⟩ hW0 (c_M_part G E th mp ms mc mn mm gv k i x y (by omega) (by omega)) w_741 w_738 w_740 wp_30 w_4 (by decide +kernel) ⟨rfl, rfl, Nat.le_of_ble_eq_true rfl, Nat.le_of_ble_eq_true rfl⟩ (hE0.recv hK rfl) (hB) rfl rfl hl.1 (Nat.le_of_ble_eq_true rfl) d_M_holds_75 ⟨Nat.zero_le _, Nat.zero_le _⟩ ?_
        refine z_rdS (n := 1) (rest := [.int (pm_sign (pm_side (gv 13 i) (gv 14 i) (gv 13 j) (gv 14 j) ((gv 13) k) ((gv 14) k)))]) ⟨hx, hb, hml, hown, hts⟩ hW0 (c_M_sign G (pm_side (gv 13 k) (gv 14 k) (gv 13 i) (gv 14 i) x y)) w_673 w_671 w_672 w_4 (by decide +kernel) ⟨rfl, rfl, Nat.le_of_ble_eq_true rfl, Nat.le_of_ble_eq_true rfl⟩ (trivial) rfl rfl hl.1 (Nat.le_of_ble_eq_true rfl) d_M_holds_78 ⟨Nat.zero_le _, Nat.zero_le _⟩ ?_
        refine lv_imul hx hb d_M_holds_81 ?_
        refine lv_if_lt (tgt := 89) hx hb d_M_holds_82 (by decide) (fun c_4 => ?_) (fun c_4 => ?_)
        · skip
          have c_4' : ¬ ((0 : Int32) ≤ ((pm_sign (pm_side (gv 13 i) (gv 14 i) (gv 13 j) (gv 14 j) ((gv 13) k) ((gv 14) k))) * (pm_sign (pm_side (gv 13 k) (gv 14 k) (gv 13 i) (gv 14 i) x y)))) := Int32.not_le.mpr c_4
          refine lv_iconst (v := 0) hx hb d_M_holds_89 (by decide) ?_
          exact z_zret hx hb hr hlocks (by simp [pi_b, pm_hold, c_1, c_2, c_2', c_3, c_3', c_4, c_4']) d_M_holds_90
        · skip
          have c_4' : (0 : Int32) ≤ ((pm_sign (pm_side (gv 13 i) (gv 14 i) (gv 13 j) (gv 14 j) ((gv 13) k) ((gv 14) k))) * (pm_sign (pm_side (gv 13 k) (gv 14 k) (gv 13 i) (gv 14 i) x y))) := Int32.not_lt.mp c_4
          refine lv_iconst (v := 1) hx hb d_M_holds_85 (by decide) ?_
          refine lv_goto (tgt := 90) hx hb d_M_holds_86 (by decide) ?_
          exact z_zret hx hb hr hlocks (by simp [pi_b, pm_hold, c_1, c_2, c_2', c_3, c_3', c_4, c_4']) d_M_holds_90
end M1
end
