/-! A NEW EXCEPTION IS THROWN (own text): its words, moved from s0 to any later state; the five instructions in one row -/
/-- nothing of s0's heap has been written -/
def z_Old (s0 : State) (H : Heap) : Prop := s0.heap.size ≤ H.size ∧ ∀ q : Nat, q < s0.heap.size → H[q]? = s0.heap[q]?
theorem z_Old.rf {s0 : State} : z_Old s0 s0.heap := ⟨Nat.le_refl _, fun _ _ => rfl⟩
theorem xt_ref {s0 s : State} {args : Array Value} {C n d : String} (hW : s0.WarmedH s.vm) (hO : z_Old s0 s.heap) (hl : (Cond.laysStatic C n d).before #[] s0 = true) (hini : (Cond.initialized C).before #[] s0 = true) (h : (Cond.isRef (.static C n d)).before #[] s0 = true) : (Cond.isRef (.static C n d)).before args s = true := by
  have z := va_Zqof (A := fun q => s0.heap.size ≤ q) hl hini h (fun a ha => Nat.not_le.mpr ha)
  have z2 := va_Zq.moved hW.alike (z.kept (H1 := s.heap) (fun a ha _ => hO.2 a ha))
  have key : ∀ v : Value, v.isRef = true → va_Z C n d v (fun q => s0.heap.size ≤ q) s s.heap → (Cond.isRef (.static C n d)).before args s = true := by
    intro v hv hz
    obtain ⟨cf, kf, fi, f, a, cell, h1, h2, h3, h4, h5, h6, h7, -⟩ := hz
    have he : (Term.static C n d).eval args s none [] s = some v := by
      simp [Term.eval, State.fieldNamed?, h1, h2, h4, h5, h6, h7]
    simp only [Cond.before, Cond.holds, Cond.value, he]
    cases v <;> simp_all [Value.isRef]
  rcases z2 with h | ⟨t, h⟩
  · exact key _ rfl h
  · exact key _ rfl h
theorem xt_lays {s0 s : State} {args : Array Value} {C n d : String} (hW : s0.WarmedH s.vm) (hO : z_Old s0 s.heap) (hl : (Cond.laysStatic C n d).before #[] s0 = true) : (Cond.laysStatic C n d).before args s = true := by
  obtain ⟨c, k, i, f, a, cell, h1, h2, h3, h4, h5, h6, h7, h8, h9⟩ := Cond.laysStatic_spec hl
  obtain ⟨k', hi', he⟩ := State.fieldFound?_setVm hW.alike h2
  show (Cond.laysStatic C n d).holds args s none s [] = true
  exact Cond.laysStatic_of (by rw [hW.alike.findClass]; exact h1) hi' h3 (by rw [he]; exact h4) (by rw [hO.2 a (Array.getElem?_eq_some_iff.mp h5).1]; exact h5) h6 h7 h8 (by rw [he]; exact h9)
def xt_nms : List String := ["java/lang/RuntimeException", "java/lang/Exception"]
/-- the words of a throw that the tables' growth leaves -/
def xt_kind : Cond → Bool
  | .declares _ => true
  | .castable _ _ => true
  | .laysStatic _ _ _ => true
  | .isRef (.static C n d) => decide (Cond.isRef (.static C n d) = .isRef (.static Bundle.tN "UNASSIGNED_STACK" Bundle.steD)) || decide (Cond.isRef (.static C n d) = .isRef (.static Bundle.tN "SUPPRESSED_SENTINEL" Bundle.listD))
  | w => goodWord w
def xt_At (own : String) (ic : Nat) (X : String) (s0 : State) : Prop := ∀ w ∈ Bundle.ownAtoms own ic X xt_nms, w.before #[] s0 = true
theorem xt_move {s0 s : State} {args : Array Value} {own X : String} {ic : Nat} (hW : s0.WarmedH s.vm) (hO : z_Old s0 s.heap) (hA : xt_At own ic X s0) (hk : (Bundle.ownAtoms own ic X xt_nms).all xt_kind = true) :
    ∀ w ∈ Bundle.ownAtoms own ic X xt_nms, w.before args s = true := by
  intro w hw
  have h := hA w hw
  have hg := List.all_eq_true.mp hk w hw
  have good : goodWord w = true → w.before args s = true := fun g => word_at hW (good_of_word g) h
  have hini : (Cond.initialized Bundle.tN).before #[] s0 = true := hA _ (by simp [Bundle.ownAtoms, Bundle.throwableAtoms])
  unfold xt_kind at hg
  split at hg
  · exact va_Nw.use rfl (va_Nw.warmD hW h)
  · exact va_Nw.use rfl (va_Nw.warmC hW h)
  · exact xt_lays hW hO h
  · simp only [Bool.or_eq_true, decide_eq_true_eq] at hg
    rcases hg with e | e
    · rw [e] at h ⊢; exact xt_ref hW hO (hA _ (by simp [Bundle.ownAtoms, Bundle.throwableAtoms])) hini h
    · rw [e] at h ⊢; exact xt_ref hW hO (hA _ (by simp [Bundle.ownAtoms, Bundle.throwableAtoms])) hini h
  · exact good hg
section XN
variable {p : Program} {l : Launch} {e : Env} {R : Room} {s0 s : State} {m : MethodId} {args : Array Value} {below : List Frame} {meth : Method} {c : Code} {cc : ByteArray} {pc : Nat} {ls : Array Slot}
/-- 'throw new X("text")' where nothing has been written yet -/
theorem xt_new (hx : p.tables.exec = Jvm.exec) (hb : c.code = cc) (hl0 : l.stackTraces = false) {own X tx : String} {ia ib ic : Nat} (hown : s.vm.findClass own = some m.cls) (hW0 : s0.WarmedH s.vm) (hO : z_Old s0 s.heap)
    (hfit : Bundle.fit X = true) (hat : xt_At own ic X s0) (hk : (Bundle.ownAtoms own ic X xt_nms).all xt_kind = true) (hstr : ∃ q, vk_R own ib tx q s0)
    (hlink : (Cond.classLink own ia X).before args s = true) (hini : (Cond.initialized X).before args s = true) (hno : c.exceptionTable.isEmpty = true) (hlocks : meth.locks = false) (hsize : ls.size = c.maxLocals)
    (d0 : decode cc pc = .ok (.new ia, 3)) (d3 : decode cc (pc + 3) = .ok (.dup, 1)) (d4 : decode cc (pc + 4) = .ok (.ldc ib, 2)) (d6 : decode cc (pc + 6) = .ok (.invokespecial ic, 3)) (d9 : decode cc (pc + 9) = .ok (.athrow, 1))
    (hRf : 5 < R.frames) (hRl : 82 ≤ R.locals) (hRc : 1 ≤ R.cells) (hRs : 6 ≤ R.slots) :
    W p l e R s m args below meth c s.heap [] 0 0 (xt_Z below X args s) (F0 m pc ls []) := by
  have hall := xt_move (args := args) hW0 hO hat hk
  have hins : (Cond.instantiable X 6).before args s = true := hall _ (by simp [Bundle.ownAtoms])
  refine W.newc hx hb hown hlink hins hini (g := F0 m pc ls []) rfl d0 (by omega) (by omega) fun cC kC h1 h2 h3 h4 => ?_
  show W p l e R s m args below meth c _ [] (0 + 1) (0 + 6) (xt_Z below X args s) (F0 m (pc + 3) ls [.ref s.heap.size])
  refine lv_dup hx hb d3 rfl ?_
  obtain ⟨q, hq⟩ := hstr
  refine va_ldcS hx hb hown (vk_R.warm hW0 hq) d4 ?_
  intro T hT Xs
  have htr : e.platform.stackTraces = false := (show e.platform.stackTraces = l.stackTraces by rw [Xs.admits.platform]).trans hl0
  subst hb
  have hout : ∀ z ∈ c.exceptionTable.toList, covers z (pc + 9) = false := fun z hz => by
    have h0 : c.exceptionTable = #[] := Array.isEmpty_iff.mp hno
    rw [h0] at hz; cases hz
  obtain ⟨U, a1, a2, a3, a4, a5, ce, hce, O⟩ := Xs.ctorThrowS hx htr (own := own) (cls := X) (names := xt_nms) (ic := ic) hown hfit (by decide +kernel) hall (fun x hx => nomatch hx) h1 h2 (a := s.heap.size) (by rw [hT]; simp [freshCell]) (Nat.le_refl _) (msg := .ref q) rfl
    (g := F0 m (pc + 6) ls [.ref q, .ref s.heap.size, .ref s.heap.size]) rfl hsize rfl rfl (rest := []) rfl d6 d9 hout (by show 2 + 3 < _; omega) (by show 2 * 0 + 1 + (13 * (2 + 1) + 42) ≤ _; omega) hlocks
  exact ⟨U, a1, .threw s.heap.size, a2, a3, ⟨_, ce, rfl, hce, O.vm, by rw [a4.alike.findClass]; exact O.cls⟩, ⟨_, rfl⟩, a4, a5⟩
end XN
