/-! MAKING (own text): new objects and arrays lie at the heap's end -/
/-- what makes int arrays and arrays of shapes rests on, at s0 -/
def z_GI (s0 : State) (cI : ClassId) : Prop := va_RA s0 cI .int ∧ va_AO "BorderDays$Shape" s0
theorem va_S.add {A : Nat → Prop} {H0 H H1 : Heap} {locs : List Loc} {h : Nat} (hS : va_S A H0 H locs) (hh : H.size = h) (z : H1.size = h + 1) (o : ∀ q : Nat, q < h → H1[q]? = H[q]?) : va_S A H0 H1 locs :=
  ⟨by have := hS.1; omega, fun q h1 h2 => (o q (by have := hS.1; omega)).trans (hS.2.1 q h1 h2), hS.2.2⟩
section ZN
variable {p : Program} {l : Launch} {e : Env} {R : Room} {s s0 : State} {m : MethodId} {args : Array Value} {below : List Frame} {meth : Method} {c : Code} {H H0 : Heap} {locs : List Loc} {cells slots : Nat} {Q : State → Prop}
variable {cc : ByteArray} {pc : Nat} {ls : Array Slot} {rest : List Value} {A : Nat → Prop} {D : va_G} {h : Nat}
theorem z_newa {cI : ClassId} {n : Int32} {N : Nat} (hx : p.tables.exec = Jvm.exec) (hb : c.code = cc) (harr : (Cond.arrayClass .int).before args s = true) (hRI : va_RA s cI .int) (hh : H.size = h) (hS : va_S A H0 H locs)
    (hn : ¬ n < 0) (hN : n.toNatClampNeg = N) (hbytes : N * componentBytes .int ≤ 536870912) (hcells : cells + 1 ≤ R.cells) (hslots : slots + N ≤ R.slots) (hdg : decode cc pc = .ok (.newarray .int, 2))
    (kk : ∀ (H1 : Heap), H1.size = h + 1 → z_A cI H1 h N (fun _ => 0) → (∀ q : Nat, q < h → H1[q]? = H[q]?) → va_S A H0 H1 locs → W p l e R s m args below meth c H1 locs (cells + 1) (slots + N) Q (F0 m (pc + 2) ls (.ref h :: rest))) : W p l e R s m args below meth c H locs cells slots Q (F0 m pc ls (.int n :: rest)) := by
  refine va_newaK (atype := .int) (g := F0 m pc ls (.int n :: rest)) (n := n) (N := N) (rest := rest) (h := h) hx hb harr rfl hdg rfl hn hN hbytes hcells hslots hh fun H1 cA e1 z1 o1 hAr hNm => ?_
  have hc : cI = cA := Option.some.inj ((show s.vm.findClass ("[" ++ (FieldType.int).toString) = some cI from hRI).symm.trans hNm)
  subst hc
  refine kk H1 z1 ?_ o1 (hS.add hh z1 o1)
  show H1[h]? = some (vp_cell _ _)
  rw [vp_cell_i]; exact e1
theorem z_anew {cS : ClassId} {own C : String} {index : Nat} {n : Int32} {N : Nat} (hx : p.tables.exec = Jvm.exec) (hb : c.code = cc) (hown : s.vm.findClass own = some m.cls) (hclink : (Cond.classLink own index C).before args s = true) (hover : va_AO C s) (hRA : va_RA s cS (.object C)) (hh : H.size = h) (hS : va_S A H0 H locs)
    (hn : ¬ n < 0) (hN : n.toNatClampNeg = N) (hbytes : N * 4 ≤ 536870912) (hcells : cells + 1 ≤ R.cells) (hslots : slots + N ≤ R.slots) (hdg : decode cc pc = .ok (.anewarray index, 3))
    (kk : ∀ (H1 : Heap), H1.size = h + 1 → z_B cS H1 h N (fun _ => none) → (∀ q : Nat, q < h → H1[q]? = H[q]?) → va_S A H0 H1 locs → W p l e R s m args below meth c H1 locs (cells + 1) (slots + N) Q (F0 m (pc + 3) ls (.ref h :: rest))) : W p l e R s m args below meth c H locs cells slots Q (F0 m pc ls (.int n :: rest)) := by
  subst hN
  subst hh
  refine W.anew hx hb hown hclink (va_AO.use hover) rfl hdg rfl hn hbytes hcells hslots fun cA kA comp f1 f2 f3 f4 => ?_
  obtain ⟨kA', comp', g1, g2, g3, g4⟩ := hRA
  have hc : cS = cA := Option.some.inj (g4.symm.trans f1)
  subst hc
  generalize hH1 : H.push ({ cls := cS, slots := Array.replicate n.toNatClampNeg .null, vm := .none } : Cell) = H1
  have z1 : H1.size = H.size + 1 := by rw [← hH1, Array.size_push]
  have e1 : H1[H.size]? = some (arrV cS n.toNatClampNeg (fun _ => .null)) := by rw [← hH1, Array.getElem?_push_size, ← arrV_new]
  have o1 : ∀ q : Nat, q < H.size → H1[q]? = H[q]? := fun q hq => by rw [← hH1, Array.getElem?_push, if_neg (Nat.ne_of_lt hq)]
  refine kk H1 z1 ?_ o1 (hS.add rfl z1 o1)
  show H1[H.size]? = some (vp_cell _ _)
  rw [vp_cell_q]; exact e1
theorem z_new {own C : String} {T : u_T} {N ci index : Nat} {fs : List Value} (hx : p.tables.exec = Jvm.exec) (hb : c.code = cc) (hts : ∀ w ∈ z_tbl, w.before args s = true) (hin : ∀ w ∈ u_ws C T N, w ∈ z_tbl) (ty : Nat → FieldType) (hty : ∀ k, k < N → parseFieldDescriptor (T k).2.2.1 = some (ty k)) (hown : s.vm.findClass own = some m.cls) (hcl : (Cond.classLink own index C).before args s = true) (hinst : (Cond.instantiable C N).before args s = true) (hini : (Cond.initialized C).before args s = true)
    (hK : va_K D vwCl [] s) (hh : H.size = h) (hS : va_S A H0 H locs) (hc : vwCl[ci]? = some (C, T, N)) (hfs : ∀ j, j < N → defaultValue (ty j) = vp_V fs j) (hcells : cells + 1 ≤ R.cells) (hslots : slots + N ≤ R.slots) (hdg : decode cc pc = .ok (.new index, 3))
    (kk : ∀ (H1 : Heap), H1.size = h + 1 → z_O D H1 h ci fs → (∀ q : Nat, q < h → H1[q]? = H[q]?) → va_S A H0 H1 locs → W p l e R s m args below meth c H1 locs (cells + 1) (slots + N) Q (F0 m (pc + 3) ls (.ref h :: rest))) : W p l e R s m args below meth c H locs cells slots Q (F0 m pc ls rest) := by
  have hKn := hK.1 ci _ hc
  refine W.newcK hx hb hown hcl hinst hini rfl hdg hcells hslots hKn.2.1 hh fun H1 kC hkC e1 z1 o1 => ?_
  exact kk H1 z1 ⟨_, hc, (u_born ty hts hin hKn hkC e1 hty).to hfs⟩ o1 (hS.add hh z1 o1)
/-- a final field, in its own constructor -/
theorem z_putF {tys : List (ClassId × FieldType)} {a ci : Nat} {own ref C : String} {T : u_T} {N index : Nat} (hx : p.tables.exec = Jvm.exec) (hb : c.code = cc) (hts : ∀ w ∈ z_tbl, w.before args s = true) (hin : ∀ w ∈ u_ws C T N, w ∈ z_tbl) (ty0 : Nat → FieldType) (hty : ∀ k, k < N → parseFieldDescriptor (T k).2.2.1 = some (ty0 k)) (hnm : ∀ a, a < N → ∀ b, b < N → a ≠ b → (T a).2.1 ≠ (T b).2.1) (hown : s.vm.findClass own = some m.cls) (hK : va_K D vwCl tys s) {fs : List Value} (hO : z_O D H a ci fs) (hS : va_S A H0 H locs) (ha : A a) (hc : vwCl[ci]? = some (C, T, N)) (k : Nat) (hk : k < N)
    (hlink : (Cond.fieldLink own index ref (T k).2.1 (T k).2.2.1).before args s = true) (hsame : ∀ x, s.fieldFound? (T k).1 (T k).2.1 (T k).2.2.1 = some x → s.fieldFound? ref (T k).2.1 (T k).2.2.1 = some x) (hfin : (T k).2.2.2 = true) (hin2 : meth.name = "<init>") (hdecl : (T k).1 = own) {ty : FieldType} {v : Value} (hd : parseFieldDescriptor (T k).2.2.1 = some ty) (hn : narrow ty v = v) (hfit : fits ty v = true) (hl : k < fs.length)
    (hdg : decode cc pc = .ok (.putfield index, 3)) (kk : ∀ (H1 : Heap) (locs1 : List Loc), H1.size = H.size → z_O D H1 a ci (fs.set k v) → (∀ q : Nat, q ≠ a → H1[q]? = H[q]?) → va_S A H0 H1 locs1 → W p l e R s m args below meth c H1 locs1 cells slots Q (F0 m (pc + 3) ls rest)) : W p l e R s m args below meth c H locs cells slots Q (F0 m pc ls (v :: .ref a :: rest)) := by
  have hap := va_apart (own := own) hts hin ty0 hty hnm hK hc
  obtain ⟨r, h1, cell, q1, q2, q3, q4⟩ := hO
  have hr : r = (C, T, N) := Option.some.inj (h1.symm.trans hc)
  subst hr
  obtain ⟨hSl, hfc, kC, hkC, hkind⟩ := hK.1 ci _ hc
  obtain ⟨cf, kf, fi, f, hi, hsl⟩ := hSl k hk
  have hlay := hts _ (hin _ (u_in_lay hk))
  unfold u_lay at hlay
  rw [if_pos hfin] at hlay
  have hst := (u_facts hfc hkC (u_lays hts hin hk) hi).1
  have hcf : m.cls = cf := by
    obtain ⟨_, _, c', _, _, _, -, -, hf', -, -, -, hown2, -⟩ := Cond.laysFinal_spec hlay
    have e1 : c' = cf := by have := hi.symm.trans hf'; simp at this; exact this.1.symm
    rw [hdecl] at hown2
    rw [← e1]; exact Option.some.inj (hown.symm.trans hown2)
  have h6 := u_fits hfc hkC hkind (Or.inr hlay) hi hd hn hfit
  refine W.putFinK hx hb hown hlink (hsame _ hi) hst hcf hin2 (by rw [q2]; exact h6) q1 q3 (by rw [hsl]; exact k2_hasslot (q4 k hk)) rfl rfl hdg fun H' e1 e2 e3 => ?_
  rw [hsl] at e1 ⊢
  exact kk H' _ e2 ⟨_, hc, t_OB.to (V := updV (vp_V fs) k v) ⟨_, e1, q2, q3, t_set q4 hap hk v⟩ (fun j _ => vp_updV_set hl v j)⟩ e3 (hS.put e2 e3 ha)
/-- an object goes into an array of its class -/
theorem z_aast {cS : ClassId} {r : vw_C} {a n k v ci : Nat} {vs : List Value} {f : Nat → Option Nat} (hx : p.tables.exec = Jvm.exec) (hb : c.code = cc) (hK : va_K D vwCl [] s) (hRA : va_RA s cS (.object r.1)) (hA : z_B cS H a n f) (hv : z_O D H v ci vs) (hc : vwCl[ci]? = some r) (hS : va_S A H0 H locs) (ha : A a) (hk : k < n) (hn : n < 2 ^ 31) (hdg : decode cc pc = .ok (.aastore, 1))
    (kk : ∀ (H1 : Heap) (locs1 : List Loc), H1.size = H.size → z_B cS H1 a n (va_up f k (some v)) → (∀ q : Nat, q ≠ a → H1[q]? = H[q]?) → va_S A H0 H1 locs1 → W p l e R s m args below meth c H1 locs1 cells slots Q (F0 m (pc + 1) ls rest)) : W p l e R s m args below meth c H locs cells slots Q (F0 m pc ls (.ref v :: .int (nI k) :: .ref a :: rest)) := by
  have hc2 : (nI k).toNatClampNeg = k := nI_clamp (by omega)
  have h0 : ¬ nI k < 0 := nI_pos (by omega)
  obtain ⟨r', hr', cellV, g1, g2, g3, -⟩ := hv
  have hcls := (hK.1 ci r hc).2
  obtain ⟨kA, comp, k1, k2, k3, -⟩ := hRA
  have hcomp : comp = D.1 ci := Option.some.inj (k3.symm.trans hcls.1)
  subst hcomp
  obtain ⟨kC, hkC, -⟩ := hcls.2
  refine W.aast hx hb hA (fun q h => by cases h) (fun h => by cases h) k1 k2 rfl hkC ⟨h0, by show _ < (arrV _ _ _).slots.size; rw [arrV_size, hc2]; exact hk⟩ g1 (fun q h => by rw [g3] at h; cases h) (by rw [g2]; exact hkC) (by rw [g2]; exact va_assign hcls) rfl rfl hdg fun H1 e z oq => ?_
  refine kk H1 _ z ?_ oq (hS.put z oq ha)
  show H1[a]? = some (vp_cell _ _)
  rw [e, hc2, vp_cell_q, vp_cell_q, arrV_store]
  congr 2
  funext q
  by_cases hq : q = k
  · subst hq; simp [updV, va_up, va_rf]
  · simp [updV, va_up, hq]
/-- a constructor is called -/
theorem z_wrI {y : MethodName} {bytes : ByteArray} {maxL nL n index mc ms a : Nat} {rm : Room} {own : String} {As stk : List Value} {B P : Heap → Prop} {A1 : Nat → Prop} (S : CallFix p m c cc nL s args z_tbl own) (hW0 : s0.WarmedH s.vm) (hM : Met l y [Cond.code y bytes maxL none] rm (z_Pc s0 (.ref a :: As) B) (z_Qw (fun r H => r = none ∧ P H) A1) mc ms A1)
    (w1 : Cond.code y bytes maxL none ∈ z_tbl) (w2 : Cond.methodLink own index y ∈ z_tbl) (w3 : Cond.instanceMethod y ∈ z_tbl) (w5 : Cond.initialized y.cls ∈ z_tbl) (hy : y.name = "<init>")
    (hd : z_dsc y n) (hR : z_rmk rm R maxL mc ms) (hB : B H) (hn : As.length = n) (hstk : stk = As.reverse ++ .ref a :: rest) (hsize : ls.size = nL) (hst : (rest.map fun v => v.category).sum ≤ 8)
    (hdg : decode cc pc = .ok (.invokespecial index, 3)) (hf : cells + mc ≤ R.cells ∧ slots + ms ≤ R.slots) (hS : va_S A H0 H locs) (hsub : ∀ q, A1 q → A q)
    (k : ∀ (H1 : Heap) (locs1 : List Loc), P H1 → H.size ≤ H1.size → (∀ q : Nat, q < H.size → ¬ A1 q → H1[q]? = H[q]?) → va_S A H0 H1 locs1 → W p l e R s m args below meth c H1 locs1 (cells + mc) (slots + ms) Q (F0 m (pc + 3) ls rest)) : W p l e R s m args below meth c H locs cells slots Q (F0 m pc ls stk) :=
  z_wrC (va_runI (g := F0 m pc ls stk) S hM ⟨z_callB S.2.2.2.2 w1 w2 w5 hd hR, hy, S.2.2.2.2 _ w3⟩
    ⟨z_blind, fun U hU hW => ⟨rfl, hW0.trans hW, by rw [hU]; exact hB⟩⟩ rfl hn hsize hstk (by show 2 * 0 + _ ≤ 8; omega) hdg hf) hS hsub
    (fun r H1 locs1 hp hz hk hS1 => by obtain ⟨rfl, hp⟩ := hp; exact k H1 locs1 hp hz hk hS1)
end ZN
