/-! WRITERS (own text): rows that change the heap; what a writer leaves -/
/-- the cells that a writer may change: its own, and those that it makes -/
def z_fr (F : Nat → Prop) (sz : Nat) : Nat → Prop := fun q => F q ∨ sz ≤ q
/-- a writer's end -/
def z_Qw (post : Option Value → Heap → Prop) (A : Nat → Prop) : Array Value → State → Outcome → State → Prop := fun _ st o t => ∃ r, o = .returned r ∧ post r t.heap ∧ va_F A st t
theorem z_O.keep {D : va_G} {H H1 : Heap} {a ci : Nat} {fs : List Value} (h : z_O D H a ci fs) (e : H1[a]? = H[a]?) : z_O D H1 a ci fs := va_at.kept h e
theorem z_A.keep {cI : ClassId} {H H1 : Heap} {a n : Nat} {f : Nat → Int32} (h : z_A cI H a n f) (e : H1[a]? = H[a]?) : z_A cI H1 a n f := e.trans h
theorem z_B.keep {cS : ClassId} {H H1 : Heap} {a n : Nat} {f : Nat → Option Nat} (h : z_B cS H a n f) (e : H1[a]? = H[a]?) : z_B cS H1 a n f := e.trans h
section ZW
variable {p : Program} {l : Launch} {e : Env} {R : Room} {s : State} {m : MethodId} {args : Array Value} {below : List Frame} {meth : Method} {c : Code} {H : Heap} {locs : List Loc} {cells slots : Nat} {Q : State → Prop}
variable {cc : ByteArray} {pc : Nat} {ls : Array Slot} {rest : List Value} {A : Nat → Prop} {H0 : Heap}
theorem z_iast {cI : ClassId} {a n k : Nat} {f : Nat → Int32} {x : Int32} (hx : p.tables.exec = Jvm.exec) (hb : c.code = cc) (hAI : ArrOfT s cI .int) (hA : z_A cI H a n f) (hS : va_S A H0 H locs) (ha : A a) (hk : k < n) (hn : n < 2 ^ 31) (hdg : decode cc pc = .ok (.iastore, 1))
    (kk : ∀ (H1 : Heap) (locs1 : List Loc), H1.size = H.size → z_A cI H1 a n (upd f k x) → (∀ q : Nat, q ≠ a → H1[q]? = H[q]?) → va_S A H0 H1 locs1 → W p l e R s m args below meth c H1 locs1 cells slots Q (F0 m (pc + 1) ls rest)) : W p l e R s m args below meth c H locs cells slots Q (F0 m pc ls (.int x :: .int (nI k) :: .ref a :: rest)) := by
  have hc : (nI k).toNatClampNeg = k := nI_clamp (by omega)
  refine W.iast hx hb hA (hAI n (fun j => .int (f j))) (fun q => by cases q) (by show ¬ (nI k < 0 ∨ (arrV _ _ _).slots.size ≤ _); rw [arrV_size]; exact nI_in hk hn) rfl rfl hdg fun H1 e z oq => ?_
  refine kk H1 _ z ?_ oq (hS.put z oq ha)
  show H1[a]? = some (vp_cell _ _)
  rw [e, hc, vp_cell_i, vp_cell_i, arrV_store]
  congr 2
  funext q
  by_cases hq : q = k
  · subst hq; simp [updV, upd]
  · simp [updV, upd, hq]
theorem z_put {D : va_G} {tys : List (ClassId × FieldType)} {a ci : Nat} {own ref C : String} {T : u_T} {N index : Nat} (hx : p.tables.exec = Jvm.exec) (hb : c.code = cc) (hts : ∀ w ∈ z_tbl, w.before args s = true) (hin : ∀ w ∈ u_ws C T N, w ∈ z_tbl) (ty0 : Nat → FieldType) (hty : ∀ k, k < N → parseFieldDescriptor (T k).2.2.1 = some (ty0 k)) (hnm : ∀ a, a < N → ∀ b, b < N → a ≠ b → (T a).2.1 ≠ (T b).2.1) (hown : s.vm.findClass own = some m.cls) (hK : va_K D vwCl tys s) {fs : List Value} (hO : z_O D H a ci fs) (hS : va_S A H0 H locs) (ha : A a) (hc : vwCl[ci]? = some (C, T, N)) (k : Nat) (hk : k < N)
    (hlink : (Cond.fieldLink own index ref (T k).2.1 (T k).2.2.1).before args s = true) (hsame : ∀ x, s.fieldFound? (T k).1 (T k).2.1 (T k).2.2.1 = some x → s.fieldFound? ref (T k).2.1 (T k).2.2.1 = some x) (hfin : (T k).2.2.2 = false) {ty : FieldType} {v : Value} (hd : parseFieldDescriptor (T k).2.2.1 = some ty) (hn : narrow ty v = v) (hfit : fits ty v = true) (hl : k < fs.length)
    (hdg : decode cc pc = .ok (.putfield index, 3)) (kk : ∀ (H1 : Heap) (locs1 : List Loc), H1.size = H.size → z_O D H1 a ci (fs.set k v) → (∀ q : Nat, q ≠ a → H1[q]? = H[q]?) → va_S A H0 H1 locs1 → W p l e R s m args below meth c H1 locs1 cells slots Q (F0 m (pc + 3) ls rest)) : W p l e R s m args below meth c H locs cells slots Q (F0 m pc ls (v :: .ref a :: rest)) := by
  have hap := va_apart (own := own) hts hin ty0 hty hnm hK hc
  obtain ⟨r, h1, cell, q1, q2, q3, q4⟩ := hO
  have hr : r = (C, T, N) := Option.some.inj (h1.symm.trans hc)
  subst hr
  obtain ⟨hSl, hfc, kC, hkC, hkind⟩ := hK.1 ci _ hc
  obtain ⟨cf, kf, fi, f, hi, hsl⟩ := hSl k hk
  have hlay := hts _ (hin _ (u_in_lay hk))
  unfold u_lay at hlay
  rw [if_neg (by rw [hfin]; decide)] at hlay
  have hst := (u_facts hfc hkC (u_lays hts hin hk) hi).1
  have h6 := u_store hfc hkC hkind hlay hi hd hn hfit
  refine W.putK hx hb (f := f) ⟨hown, hlink, ⟨_, _, _, hsame _ hi⟩, hst⟩ (by rw [q2]; exact h6) q1 q3 (by rw [hsl]; exact k2_hasslot (q4 k hk)) rfl rfl hdg fun H' e1 e2 e3 => ?_
  rw [hsl] at e1 ⊢
  exact kk H' _ e2 ⟨_, hc, t_OB.to (V := updV (vp_V fs) k v) ⟨_, e1, q2, q3, t_set q4 hap hk v⟩ (fun j _ => vp_updV_set hl v j)⟩ e3 (hS.put e2 e3 ha)
/-- a writer's returns -/
theorem z_wi {v : Int32} {post : Option Value → Heap → Prop} (hx : p.tables.exec = Jvm.exec) (hb : c.code = cc) (hr : meth.sig.returnType = some .int) (hlocks : meth.locks = false) (h : post (some (.int v)) H) (hS : va_S A s.heap H locs) (hdg : decode cc pc = .ok (.ireturn, 1)) :
    W p l e R s m args below meth c H locs cells slots (MQ below (z_Qw post A) args s cells slots A) (F0 m pc ls [.int v]) :=
  W.iret hx hb hr (fun t ht _ => ⟨_, rfl, by rw [ht]; exact h, hS.F ht⟩) hS.2.2 hdg hlocks
theorem z_wz {v : Bool} {x : Int32} {post : Option Value → Heap → Prop} (hx : p.tables.exec = Jvm.exec) (hb : c.code = cc) (hr : meth.sig.returnType = some .boolean) (hlocks : meth.locks = false) (e0 : x = pi_b v) (h : post (some (.int (pi_b v))) H) (hS : va_S A s.heap H locs) (hdg : decode cc pc = .ok (.ireturn, 1)) :
    W p l e R s m args below meth c H locs cells slots (MQ below (z_Qw post A) args s cells slots A) (F0 m pc ls [.int x]) :=
  W.zret hx hb hr (by rw [e0]; cases v <;> rfl) (fun t ht _ => ⟨_, rfl, by rw [ht, e0]; exact h, hS.F ht⟩) hS.2.2 hdg hlocks
theorem z_wv {post : Option Value → Heap → Prop} (hx : p.tables.exec = Jvm.exec) (hb : c.code = cc) (hr : meth.sig.returnType = none) (hlocks : meth.locks = false) (h : post none H) (hS : va_S A s.heap H locs) (hdg : decode cc pc = .ok (.return_, 1)) :
    W p l e R s m args below meth c H locs cells slots (MQ below (z_Qw post A) args s cells slots A) (F0 m pc ls []) :=
  W.vret hx hb hr (fun t ht _ => ⟨_, rfl, by rw [ht]; exact h, hS.F ht⟩) hS.2.2 hdg hlocks
/-- a writer's call comes back -/
theorem z_wrC {post : Option Value → Heap → Prop} {a : Array Value} {stk : List Value} {mc ms : Nat} {A1 : Nat → Prop} (hr : va_Run p l e R s m args below meth c H locs cells slots mc ms (F0 m pc ls stk) rest (z_Qw post A1 a) A1) (hS : va_S A H0 H locs) (hsub : ∀ q, A1 q → A q)
    (k : ∀ (r : Option Value) (H1 : Heap) (locs1 : List Loc), post r H1 → H.size ≤ H1.size → (∀ q : Nat, q < H.size → ¬ A1 q → H1[q]? = H[q]?) → va_S A H0 H1 locs1 → W p l e R s m args below meth c H1 locs1 (cells + mc) (slots + ms) Q (F0 m (pc + 3) ls (r.toList ++ rest))) : W p l e R s m args below meth c H locs cells slots Q (F0 m pc ls stk) := by
  intro T hT X
  obtain ⟨v, st₀, t, T', L, h0, X', hL, e1, -, ⟨r, hv, hp, hz, hk⟩, stp⟩ := hr T hT X
  have hv : v = r := Outcome.returned.inj hv
  subst hv
  rw [h0] at hz hk
  obtain ⟨t2, a1, b1⟩ := k v t.heap (locs ++ L) hp hz hk ⟨Nat.le_trans hS.1 hz, fun q h1 h2 => (hk q (Nat.lt_of_lt_of_le h1 hS.1) (fun z => h2 (hsub q z))).trans (hS.2.1 q h1 h2), fun q hq => by
    rcases List.mem_append.mp hq with h | h
    · exact hS.2.2 q h
    · exact hsub _ (hL q h)⟩ T' e1 X'
  exact ⟨t2, stp t2 a1, b1⟩
end ZW
/-- the reference's own cells -/
def z_mF (E : Nat → Nat) : Nat → Prop := fun q => ∃ k, k < 18 ∧ q = E k
/-- a store into the reference's k-th array -/
theorem z_Md.store {D : va_G} {cI : ClassId} {H H1 : Heap} {E : Nat → Nat} {th : Int32} {mp ms mc mn mm : Nat} {gv : Nat → Nat → Int32} (h : z_Md D cI H E th mp ms mc mn mm gv) {k j : Nat} {x : Int32} (hk : k < 17)
    (hA : z_A cI H1 (E (1 + k)) (z_mlen k) (upd (gv k) j x)) (ho : ∀ q : Nat, q ≠ E (1 + k) → H1[q]? = H[q]?) : z_Md D cI H1 E th mp ms mc mn mm (va_up gv k (upd (gv k) j x)) := by
  obtain ⟨⟨h0, hG⟩, hi, hb⟩ := h
  refine ⟨⟨h0.keep (ho _ (fun e => ?_)), fun i hi' => ?_⟩, hi, hb⟩
  · have := hi 0 (1 + k) (by omega) (by omega) e; omega
  · by_cases e : i = k
    · subst e; rw [va_up_self]; exact hA
    · rw [va_up_ne _ _ e]; exact (hG i hi').keep (ho _ (fun e2 => e (by have := hi (1 + i) (1 + k) (by omega) (by omega) e2; omega)))
/-- the reference's object is written: its numbers change -/
theorem z_Md.put {D : va_G} {cI : ClassId} {H H1 : Heap} {E : Nat → Nat} {th th2 : Int32} {mp ms mc mn mm mp2 ms2 mc2 mn2 mm2 : Nat} {gv : Nat → Nat → Int32} (h : z_Md D cI H E th mp ms mc mn mm gv) (hO : z_O D H1 (E 0) 4 (z_mfs E th2 mp2 ms2 mc2 mn2 mm2)) (ho : ∀ q : Nat, q ≠ E 0 → H1[q]? = H[q]?)
    (hb : mp2 ≤ 16 ∧ ms2 ≤ 32 ∧ mn2 ≤ 40 ∧ mm2 ≤ 12 ∧ mc2 < 2 ^ 30) : z_Md D cI H1 E th2 mp2 ms2 mc2 mn2 mm2 gv := by
  obtain ⟨⟨h0, hG⟩, hi, -⟩ := h
  exact ⟨⟨hO, fun i hi' => (hG i hi').keep (ho _ (fun e => by have := hi (1 + i) 0 (by omega) (by omega) e; omega))⟩, hi, hb⟩
