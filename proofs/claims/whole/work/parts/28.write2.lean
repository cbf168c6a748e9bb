section ZV
variable {p : Program} {l : Launch} {e : Env} {R : Room} {s s0 : State} {m : MethodId} {args : Array Value} {below : List Frame} {meth : Method} {c : Code} {H H0 : Heap} {locs : List Loc} {cells slots : Nat} {Q : State → Prop}
variable {cc : ByteArray} {pc : Nat} {ls : Array Slot} {rest : List Value} {A A1 : Nat → Prop} {y : MethodName} {bytes : ByteArray} {maxL nL n index mc ms a : Nat} {ret : Option FieldType} {rm : Room} {own C : String} {As stk : List Value} {B P : Heap → Prop} {v : Value}
/-- a writer is called: virtual; its answer is v, the heap then holds P -/
theorem z_wrV (S : CallFix p m c cc nL s args z_tbl own) (hW0 : s0.WarmedH s.vm) (hM : Met l y [Cond.code y bytes maxL ret] rm (z_Pc s0 (.ref a :: As) B) (z_Qw (fun r H => r = some v ∧ P H) A1) mc ms A1)
    (w1 : Cond.code y bytes maxL ret ∈ z_tbl) (w2 : Cond.methodLink own index y ∈ z_tbl) (w3 : Cond.instanceMethod y ∈ z_tbl) (w4 : Cond.selects C y y ∈ z_tbl) (w5 : Cond.initialized y.cls ∈ z_tbl)
    (hd : z_dsc y n) (hR : z_rmk rm R maxL mc ms)
    (hrecv : ∃ cell : Cell, H[a]? = some cell ∧ cell.vm.isStatics = false ∧ s.vm.findClass C = some cell.cls) (hB : B H) (hn : As.length = n) (hstk : stk = As.reverse ++ .ref a :: rest) (hsize : ls.size = nL) (hst : (rest.map fun v => v.category).sum ≤ 8)
    (hdg : decode cc pc = .ok (.invokevirtual index, 3)) (hf : cells + mc ≤ R.cells ∧ slots + ms ≤ R.slots) (hS : va_S A H0 H locs) (hsub : ∀ q, A1 q → A q)
    (k : ∀ (H1 : Heap) (locs1 : List Loc), P H1 → H.size ≤ H1.size → (∀ q : Nat, q < H.size → ¬ A1 q → H1[q]? = H[q]?) → va_S A H0 H1 locs1 → W p l e R s m args below meth c H1 locs1 (cells + mc) (slots + ms) Q (F0 m (pc + 3) ls (v :: rest))) : W p l e R s m args below meth c H locs cells slots Q (F0 m pc ls stk) :=
  z_wrC (va_runV (C := C) (g := F0 m pc ls stk) S hM ⟨z_callB S.2.2.2.2 w1 w2 w5 hd hR, S.2.2.2.2 _ w3, S.2.2.2.2 _ w4⟩
    ⟨z_blind, hrecv, fun U hU hW => ⟨rfl, hW0.trans hW, by rw [hU]; exact hB⟩⟩ rfl hn hsize hstk (by show 2 * 0 + _ ≤ 8; omega) hdg hf) hS hsub
    (fun r H1 locs1 hp hz hk hS1 => by obtain ⟨rfl, hp⟩ := hp; exact k H1 locs1 hp hz hk hS1)
/-- .. that answers nothing -/
theorem z_wrVv (S : CallFix p m c cc nL s args z_tbl own) (hW0 : s0.WarmedH s.vm) (hM : Met l y [Cond.code y bytes maxL ret] rm (z_Pc s0 (.ref a :: As) B) (z_Qw (fun r H => r = none ∧ P H) A1) mc ms A1)
    (w1 : Cond.code y bytes maxL ret ∈ z_tbl) (w2 : Cond.methodLink own index y ∈ z_tbl) (w3 : Cond.instanceMethod y ∈ z_tbl) (w4 : Cond.selects C y y ∈ z_tbl) (w5 : Cond.initialized y.cls ∈ z_tbl)
    (hd : z_dsc y n) (hR : z_rmk rm R maxL mc ms)
    (hrecv : ∃ cell : Cell, H[a]? = some cell ∧ cell.vm.isStatics = false ∧ s.vm.findClass C = some cell.cls) (hB : B H) (hn : As.length = n) (hstk : stk = As.reverse ++ .ref a :: rest) (hsize : ls.size = nL) (hst : (rest.map fun v => v.category).sum ≤ 8)
    (hdg : decode cc pc = .ok (.invokevirtual index, 3)) (hf : cells + mc ≤ R.cells ∧ slots + ms ≤ R.slots) (hS : va_S A H0 H locs) (hsub : ∀ q, A1 q → A q)
    (k : ∀ (H1 : Heap) (locs1 : List Loc), P H1 → H.size ≤ H1.size → (∀ q : Nat, q < H.size → ¬ A1 q → H1[q]? = H[q]?) → va_S A H0 H1 locs1 → W p l e R s m args below meth c H1 locs1 (cells + mc) (slots + ms) Q (F0 m (pc + 3) ls rest)) : W p l e R s m args below meth c H locs cells slots Q (F0 m pc ls stk) :=
  z_wrC (va_runV (C := C) (g := F0 m pc ls stk) S hM ⟨z_callB S.2.2.2.2 w1 w2 w5 hd hR, S.2.2.2.2 _ w3, S.2.2.2.2 _ w4⟩
    ⟨z_blind, hrecv, fun U hU hW => ⟨rfl, hW0.trans hW, by rw [hU]; exact hB⟩⟩ rfl hn hsize hstk (by show 2 * 0 + _ ≤ 8; omega) hdg hf) hS hsub
    (fun r H1 locs1 hp hz hk hS1 => by obtain ⟨rfl, hp⟩ := hp; exact k H1 locs1 hp hz hk hS1)
end ZV
def pm_th (a b c : Bool) : Int32 := if a = false then 1 else if b = false then 2 else if c = false then 3 else 0
