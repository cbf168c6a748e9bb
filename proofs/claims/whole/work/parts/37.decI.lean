theorem d_M_init_0 : decode b_M_init 0 = .ok (.aload_n 0, 1) := by decide +kernel
theorem d_M_init_1 : decode b_M_init 1 = .ok (.invokespecial 1, 3) := by decide +kernel
theorem d_M_init_4 : decode b_M_init 4 = .ok (.aload_n 0, 1) := by decide +kernel
theorem d_M_init_5 : decode b_M_init 5 = .ok (.bipush 16, 2) := by decide +kernel
theorem d_M_init_7 : decode b_M_init 7 = .ok (.newarray .int, 2) := by decide +kernel
theorem d_M_init_9 : decode b_M_init 9 = .ok (.putfield 7, 3) := by decide +kernel
theorem d_M_init_12 : decode b_M_init 12 = .ok (.aload_n 0, 1) := by decide +kernel
theorem d_M_init_13 : decode b_M_init 13 = .ok (.bipush 32, 2) := by decide +kernel
theorem d_M_init_15 : decode b_M_init 15 = .ok (.newarray .int, 2) := by decide +kernel
theorem d_M_init_17 : decode b_M_init 17 = .ok (.putfield 13, 3) := by decide +kernel
theorem d_M_init_20 : decode b_M_init 20 = .ok (.aload_n 0, 1) := by decide +kernel
theorem d_M_init_21 : decode b_M_init 21 = .ok (.bipush 32, 2) := by decide +kernel
theorem d_M_init_23 : decode b_M_init 23 = .ok (.newarray .int, 2) := by decide +kernel
theorem d_M_init_25 : decode b_M_init 25 = .ok (.putfield 16, 3) := by decide +kernel
theorem d_M_init_28 : decode b_M_init 28 = .ok (.aload_n 0, 1) := by decide +kernel
theorem d_M_init_29 : decode b_M_init 29 = .ok (.bipush 32, 2) := by decide +kernel
theorem d_M_init_31 : decode b_M_init 31 = .ok (.newarray .int, 2) := by decide +kernel
theorem d_M_init_33 : decode b_M_init 33 = .ok (.putfield 19, 3) := by decide +kernel
theorem d_M_init_36 : decode b_M_init 36 = .ok (.aload_n 0, 1) := by decide +kernel
theorem d_M_init_37 : decode b_M_init 37 = .ok (.bipush 32, 2) := by decide +kernel
theorem d_M_init_39 : decode b_M_init 39 = .ok (.newarray .int, 2) := by decide +kernel
theorem d_M_init_41 : decode b_M_init 41 = .ok (.putfield 22, 3) := by decide +kernel
theorem d_M_init_44 : decode b_M_init 44 = .ok (.aload_n 0, 1) := by decide +kernel
theorem d_M_init_45 : decode b_M_init 45 = .ok (.sipush 384, 3) := by decide +kernel
theorem d_M_init_48 : decode b_M_init 48 = .ok (.newarray .int, 2) := by decide +kernel
theorem d_M_init_50 : decode b_M_init 50 = .ok (.putfield 25, 3) := by decide +kernel
theorem d_M_init_53 : decode b_M_init 53 = .ok (.aload_n 0, 1) := by decide +kernel
theorem d_M_init_54 : decode b_M_init 54 = .ok (.sipush 384, 3) := by decide +kernel
theorem d_M_init_57 : decode b_M_init 57 = .ok (.newarray .int, 2) := by decide +kernel
theorem d_M_init_59 : decode b_M_init 59 = .ok (.putfield 28, 3) := by decide +kernel
theorem d_M_init_62 : decode b_M_init 62 = .ok (.aload_n 0, 1) := by decide +kernel
theorem d_M_init_63 : decode b_M_init 63 = .ok (.bipush 32, 2) := by decide +kernel
theorem d_M_init_65 : decode b_M_init 65 = .ok (.newarray .int, 2) := by decide +kernel
theorem d_M_init_67 : decode b_M_init 67 = .ok (.putfield 31, 3) := by decide +kernel
theorem d_M_init_70 : decode b_M_init 70 = .ok (.aload_n 0, 1) := by decide +kernel
theorem d_M_init_71 : decode b_M_init 71 = .ok (.bipush 32, 2) := by decide +kernel
theorem d_M_init_73 : decode b_M_init 73 = .ok (.newarray .int, 2) := by decide +kernel
theorem d_M_init_75 : decode b_M_init 75 = .ok (.putfield 34, 3) := by decide +kernel
theorem d_M_init_78 : decode b_M_init 78 = .ok (.aload_n 0, 1) := by decide +kernel
theorem d_M_init_79 : decode b_M_init 79 = .ok (.bipush 40, 2) := by decide +kernel
theorem d_M_init_81 : decode b_M_init 81 = .ok (.newarray .int, 2) := by decide +kernel
theorem d_M_init_83 : decode b_M_init 83 = .ok (.putfield 37, 3) := by decide +kernel
theorem d_M_init_86 : decode b_M_init 86 = .ok (.aload_n 0, 1) := by decide +kernel
theorem d_M_init_87 : decode b_M_init 87 = .ok (.bipush 40, 2) := by decide +kernel
theorem d_M_init_89 : decode b_M_init 89 = .ok (.newarray .int, 2) := by decide +kernel
theorem d_M_init_91 : decode b_M_init 91 = .ok (.putfield 40, 3) := by decide +kernel
theorem d_M_init_94 : decode b_M_init 94 = .ok (.aload_n 0, 1) := by decide +kernel
theorem d_M_init_95 : decode b_M_init 95 = .ok (.bipush 40, 2) := by decide +kernel
theorem d_M_init_97 : decode b_M_init 97 = .ok (.newarray .int, 2) := by decide +kernel
theorem d_M_init_99 : decode b_M_init 99 = .ok (.putfield 43, 3) := by decide +kernel
theorem d_M_init_102 : decode b_M_init 102 = .ok (.aload_n 0, 1) := by decide +kernel
theorem d_M_init_103 : decode b_M_init 103 = .ok (.bipush 40, 2) := by decide +kernel
theorem d_M_init_105 : decode b_M_init 105 = .ok (.newarray .int, 2) := by decide +kernel
theorem d_M_init_107 : decode b_M_init 107 = .ok (.putfield 46, 3) := by decide +kernel
theorem d_M_init_110 : decode b_M_init 110 = .ok (.aload_n 0, 1) := by decide +kernel
theorem d_M_init_111 : decode b_M_init 111 = .ok (.bipush 12, 2) := by decide +kernel
theorem d_M_init_113 : decode b_M_init 113 = .ok (.newarray .int, 2) := by decide +kernel
theorem d_M_init_115 : decode b_M_init 115 = .ok (.putfield 49, 3) := by decide +kernel
theorem d_M_init_118 : decode b_M_init 118 = .ok (.aload_n 0, 1) := by decide +kernel
theorem d_M_init_119 : decode b_M_init 119 = .ok (.bipush 12, 2) := by decide +kernel
theorem d_M_init_121 : decode b_M_init 121 = .ok (.newarray .int, 2) := by decide +kernel
theorem d_M_init_123 : decode b_M_init 123 = .ok (.putfield 52, 3) := by decide +kernel
theorem d_M_init_126 : decode b_M_init 126 = .ok (.aload_n 0, 1) := by decide +kernel
theorem d_M_init_127 : decode b_M_init 127 = .ok (.bipush 12, 2) := by decide +kernel
theorem d_M_init_129 : decode b_M_init 129 = .ok (.newarray .int, 2) := by decide +kernel
theorem d_M_init_131 : decode b_M_init 131 = .ok (.putfield 55, 3) := by decide +kernel
theorem d_M_init_134 : decode b_M_init 134 = .ok (.aload_n 0, 1) := by decide +kernel
theorem d_M_init_135 : decode b_M_init 135 = .ok (.bipush 12, 2) := by decide +kernel
theorem d_M_init_137 : decode b_M_init 137 = .ok (.newarray .int, 2) := by decide +kernel
theorem d_M_init_139 : decode b_M_init 139 = .ok (.putfield 58, 3) := by decide +kernel
theorem d_M_init_142 : decode b_M_init 142 = .ok (.return_, 1) := by decide +kernel
theorem z_O.lt {D : va_G} {H : Heap} {a ci : Nat} {fs : List Value} (h : z_O D H a ci fs) : a < H.size := va_at.lt h
theorem z_A.lt {cI : ClassId} {H : Heap} {a n : Nat} {f : Nat → Int32} (h : z_A cI H a n f) : a < H.size := (Array.getElem?_eq_some_iff.mp h).1
/-- the addresses of a new object of the class, of the reference -/
def z_A0 (a sz : Nat) : Nat → Nat := fun k => if k = 0 then a else if k = 1 then sz + 2 else if k = 2 then sz + 7 else if k = 3 then sz + 1 else if k = 4 then sz else if k < 9 then sz + (k - 2) else sz + (k - 1)
def z_E0 (a sz : Nat) : Nat → Nat := fun k => if k = 0 then a else sz + (k - 1)
theorem z_A0_inj {a sz : Nat} (ha : a < sz) : ∀ i j, i < 13 → j < 13 → z_A0 a sz i = z_A0 a sz j → i = j := by
  intro i j hi hj h
  unfold z_A0 at h
  repeat' split at h
  all_goals omega
theorem z_E0_inj {a sz : Nat} (ha : a < sz) : ∀ i j, i < 18 → j < 18 → z_E0 a sz i = z_E0 a sz j → i = j := by
  intro i j hi hj h
  unfold z_E0 at h
  repeat' split at h
  all_goals omega
theorem z_BD0 {D : va_G} {cI cS : ClassId} {H : Heap} {a sz : Nat} (ha : a < sz) (hO : z_O D H a 3 [.ref sz, .int 0, .ref (sz + 1), .int 0, .int 0, .ref (sz + 2), .ref (sz + 7)])
    (h1 : z_O D H (sz + 2) 0 [.ref (sz + 3), .ref (sz + 4), .ref (sz + 5), .ref (sz + 6), .int 0]) (h2 : z_O D H (sz + 7) 1 [.ref (sz + 8), .ref (sz + 9), .ref (sz + 10), .ref (sz + 11), .int 0]) (h3 : z_B cS H (sz + 1) 32 (fun _ => none))
    (a0 : z_A cI H sz 16 (fun _ => 0)) (a1 : z_A cI H (sz + 3) 40 (fun _ => 0)) (a2 : z_A cI H (sz + 4) 40 (fun _ => 0)) (a3 : z_A cI H (sz + 5) 40 (fun _ => 0)) (a4 : z_A cI H (sz + 6) 40 (fun _ => 0)) (a5 : z_A cI H (sz + 8) 12 (fun _ => 0)) (a6 : z_A cI H (sz + 9) 12 (fun _ => 0)) (a7 : z_A cI H (sz + 10) 12 (fun _ => 0)) (a8 : z_A cI H (sz + 11) 12 (fun _ => 0)) :
    z_BD D cI cS H (z_A0 a sz) 0 0 0 0 0 (fun _ _ => 0) (fun _ => 0) (fun _ => 0) (fun _ => 0) (fun _ => 0) (fun _ => 0) (fun _ => none) (fun _ _ => 0) (fun _ _ => 0) := by
  refine ⟨⟨hO, h1, h2, h3, fun k hk => ?_, fun i hi => absurd hi (Nat.not_lt_zero _)⟩, fun i j hi hj => z_A0_inj ha i j (by omega) (by omega), ⟨by omega, by omega, by omega, by omega, by omega⟩, fun i hi => absurd hi (Nat.not_lt_zero _)⟩
  have hk' : k = 0 ∨ k = 1 ∨ k = 2 ∨ k = 3 ∨ k = 4 ∨ k = 5 ∨ k = 6 ∨ k = 7 ∨ k = 8 := by omega
  rcases hk' with rfl | rfl | rfl | rfl | rfl | rfl | rfl | rfl | rfl
  · exact a0
  · exact a1
  · exact a2
  · exact a3
  · exact a4
  · exact a5
  · exact a6
  · exact a7
  · exact a8
theorem z_Md0 {D : va_G} {cI : ClassId} {H : Heap} {a sz : Nat} (ha : a < sz) (hO : z_O D H a 4 [.int 0, .int 0, .ref sz, .int 0, .ref (sz + 1), .ref (sz + 2), .ref (sz + 3), .ref (sz + 4), .ref (sz + 5), .ref (sz + 6), .ref (sz + 7), .int 0, .ref (sz + 8), .int 0, .ref (sz + 9), .ref (sz + 10), .ref (sz + 11), .ref (sz + 12), .int 0, .ref (sz + 13), .ref (sz + 14), .ref (sz + 15), .ref (sz + 16)])
    (hG : ∀ k, k < 17 → z_A cI H (sz + k) (z_mlen k) (fun _ => 0)) : z_Md D cI H (z_E0 a sz) 0 0 0 0 0 0 (fun _ _ => 0) := by
  refine ⟨⟨hO, fun k hk => ?_⟩, z_E0_inj ha, ⟨by omega, by omega, by omega, by omega, by omega⟩⟩
  have e : z_E0 a sz (1 + k) = sz + k := by unfold z_E0; rw [if_neg (by omega)]; congr 1; omega
  rw [e]; exact hG k hk
theorem z_gaN {cI : ClassId} {H H1 : Heap} {sz j N : Nat} (h : ∀ k, k < j → z_A cI H (sz + k) (z_mlen k) (fun _ => 0)) (hA : z_A cI H1 (sz + j) N (fun _ => 0)) (hN : N = z_mlen j) (ho : ∀ q : Nat, q < sz + j → H1[q]? = H[q]?) : ∀ k, k < j + 1 → z_A cI H1 (sz + k) (z_mlen k) (fun _ => 0) := fun k hk => by
  by_cases e : k = j
  · subst e; subst hN; exact hA
  · exact (h k (by omega)).keep (ho _ (by omega))
theorem z_gaP {cI : ClassId} {H H1 : Heap} {sz j a : Nat} (h : ∀ k, k < j → z_A cI H (sz + k) (z_mlen k) (fun _ => 0)) (ha : a < sz) (ho : ∀ q : Nat, q ≠ a → H1[q]? = H[q]?) : ∀ k, k < j → z_A cI H1 (sz + k) (z_mlen k) (fun _ => 0) := fun k hk => (h k hk).keep (ho _ (by omega))
