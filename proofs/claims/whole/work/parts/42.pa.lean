/-! PURE: a border whose lines do not meet goes round once at most (own text): it has at most twelve corners within 10000 of 0 -/
def pa_x (u v : Int × Int) : Int := u.1 * v.2 - u.2 * v.1
def pa_o (p q r : Int × Int) : Int := (q.1 - p.1) * (r.2 - p.2) - (q.2 - p.2) * (r.1 - p.1)
def pa_b (v a b : Int) : Prop := (a ≤ v ∧ v ≤ b) ∨ (b ≤ v ∧ v ≤ a)
def pa_on (p q r : Int × Int) : Prop := pa_o p q r = 0 ∧ pa_b r.1 p.1 q.1 ∧ pa_b r.2 p.2 q.2
def pa_op (a b : Int) : Prop := (0 < a ∧ b < 0) ∨ (a < 0 ∧ 0 < b)
def pa_nm (p q p' q' : Int × Int) : Prop := ¬ pa_on p q p' ∧ ¬ pa_on p q q' ∧ ¬ pa_on p' q' p ∧ ¬ pa_on p' q' q ∧ ¬ (pa_op (pa_o p q p') (pa_o p q q') ∧ pa_op (pa_o p' q' p) (pa_o p' q' q))
theorem pa_pos {a b : Int} (ha : 0 < a) (h : 0 < a * b) : 0 < b := by
  rcases Int.lt_or_le 0 b with c | c
  · exact c
  · have := Int.mul_nonpos_of_nonneg_of_nonpos (Int.le_of_lt ha) c; omega
theorem pa_neg {a b : Int} (ha : 0 < a) (h : a * b < 0) : b < 0 := by
  rcases Int.lt_or_le b 0 with c | c
  · exact c
  · have := Int.mul_nonneg (Int.le_of_lt ha) c; omega
def pa_l (P Q R : Int × Int) : Int := pa_x R Q + pa_x P R
def pa_f (P1 Q1 P2 Q2 R : Int × Int) : Int := pa_x P2 Q2 * pa_l P1 Q1 R - pa_x P1 Q1 * pa_l P2 Q2 R
theorem pa_lin (P1 Q1 P2 Q2 L M R : Int × Int) : pa_x L M * pa_f P1 Q1 P2 Q2 R = pa_x R M * pa_f P1 Q1 P2 Q2 L + pa_x L R * pa_f P1 Q1 P2 Q2 M := by
  unfold pa_f pa_l
  generalize pa_x P2 Q2 = d2
  generalize pa_x P1 Q1 = d1
  unfold pa_x; grind
theorem pa_fP1 (P1 Q1 P2 Q2 : Int × Int) : pa_f P1 Q1 P2 Q2 P1 = pa_x P1 Q1 * pa_o P2 Q2 P1 := by unfold pa_f pa_l pa_x pa_o; grind
theorem pa_fQ1 (P1 Q1 P2 Q2 : Int × Int) : pa_f P1 Q1 P2 Q2 Q1 = pa_x P1 Q1 * pa_o P2 Q2 Q1 := by unfold pa_f pa_l pa_x pa_o; grind
theorem pa_fP2 (P1 Q1 P2 Q2 : Int × Int) : pa_f P1 Q1 P2 Q2 P2 = pa_x P2 Q2 * (- pa_o P1 Q1 P2) := by unfold pa_f pa_l pa_x pa_o; grind
theorem pa_fQ2 (P1 Q1 P2 Q2 : Int × Int) : pa_f P1 Q1 P2 Q2 Q2 = pa_x P2 Q2 * (- pa_o P1 Q1 Q2) := by unfold pa_f pa_l pa_x pa_o; grind
theorem pa_sw (u v : Int × Int) : pa_x u v = - pa_x v u := by unfold pa_x; grind
/-- before L and after M the order stays -/
theorem pa_bef {P1 Q1 P2 Q2 L M R : Int × Int} (h : 0 < pa_x L M) (h1 : 0 ≤ pa_x R L) (h2 : 0 < pa_x R M) (hL : 0 < pa_f P1 Q1 P2 Q2 L) (hM : pa_f P1 Q1 P2 Q2 M ≤ 0) : 0 < pa_f P1 Q1 P2 Q2 R := by
  refine pa_pos h ?_
  rw [pa_lin]
  have a := Int.mul_pos h2 hL
  have b := Int.mul_nonneg_of_nonpos_of_nonpos (show pa_x L R ≤ 0 by rw [pa_sw]; omega) hM
  omega
theorem pa_aft {P1 Q1 P2 Q2 L M R : Int × Int} (h : 0 < pa_x L M) (h1 : 0 ≤ pa_x M R) (h2 : 0 < pa_x L R) (hL : 0 < pa_f P1 Q1 P2 Q2 L) (hM : pa_f P1 Q1 P2 Q2 M ≤ 0) (hs : pa_f P1 Q1 P2 Q2 M < 0 ∨ 0 < pa_x M R) : pa_f P1 Q1 P2 Q2 R < 0 := by
  refine pa_neg h ?_
  rw [pa_lin]
  have e : pa_x R M = - pa_x M R := pa_sw R M
  rcases hs with hs | hs
  · have a := Int.mul_neg_of_pos_of_neg h2 hs
    have b := Int.mul_nonpos_of_nonpos_of_nonneg (show pa_x R M ≤ 0 by omega) (Int.le_of_lt hL)
    omega
  · have a := Int.mul_nonpos_of_nonneg_of_nonpos (Int.le_of_lt h2) hM
    have b := Int.mul_neg_of_neg_of_pos (show pa_x R M < 0 by omega) hL
    omega
theorem pa_X {P1 Q1 P2 Q2 L M : Int × Int} (h : 0 < pa_x L M) (d1 : 0 < pa_x P1 Q1) (d2 : 0 < pa_x P2 Q2) (a1 : 0 ≤ pa_x P1 L) (a2 : 0 < pa_x P1 M) (b1 : 0 ≤ pa_x P2 L) (b2 : 0 < pa_x P2 M)
    (e1 : 0 ≤ pa_x M Q1) (e2 : 0 < pa_x L Q1) (f1 : 0 ≤ pa_x M Q2) (f2 : 0 < pa_x L Q2) (hL : 0 < pa_f P1 Q1 P2 Q2 L) (hM : pa_f P1 Q1 P2 Q2 M ≤ 0) (hs : pa_f P1 Q1 P2 Q2 M < 0 ∨ (0 < pa_x M Q1 ∧ 0 < pa_x M Q2)) (hn : pa_nm P1 Q1 P2 Q2) : False := by
  have p1 := pa_bef h a1 a2 hL hM
  have p2 := pa_bef h b1 b2 hL hM
  have q1 := pa_aft h e1 e2 hL hM (hs.imp id And.left)
  have q2 := pa_aft h f1 f2 hL hM (hs.imp id And.right)
  rw [pa_fP1] at p1
  rw [pa_fP2] at p2
  rw [pa_fQ1] at q1
  rw [pa_fQ2] at q2
  have p1 := pa_pos d1 p1
  have p2 := pa_pos d2 p2
  have q1 := pa_neg d1 q1
  have q2 := pa_neg d2 q2
  exact hn.2.2.2.2 ⟨Or.inr ⟨by omega, by omega⟩, Or.inl ⟨p1, q1⟩⟩
theorem pa_cv {d a b p q r : Int} (hd : 0 < d) (ha : 0 ≤ a) (hb : 0 ≤ b) (hs : a + b = d) (h : d * r = a * p + b * q) : pa_b r p q := by
  rcases Int.le_total p q with c | c
  · left
    have h1 : d * p ≤ d * r := by
      have := Int.mul_le_mul_of_nonneg_left c hb
      rw [h, ← hs, Int.add_mul]; omega
    have h2 : d * r ≤ d * q := by
      have := Int.mul_le_mul_of_nonneg_left c ha
      rw [h, ← hs, Int.add_mul]; omega
    exact ⟨Int.le_of_mul_le_mul_left h1 hd, Int.le_of_mul_le_mul_left h2 hd⟩
  · right
    have h1 : d * r ≤ d * p := by
      have := Int.mul_le_mul_of_nonneg_left c hb
      rw [h, ← hs, Int.add_mul]; omega
    have h2 : d * q ≤ d * r := by
      have := Int.mul_le_mul_of_nonneg_left c ha
      rw [h, ← hs, Int.add_mul]; omega
    exact ⟨Int.le_of_mul_le_mul_left h2 hd, Int.le_of_mul_le_mul_left h1 hd⟩
theorem pa_cone {P Q R : Int × Int} (d : 0 < pa_x P Q) (h1 : 0 ≤ pa_x P R) (h2 : 0 ≤ pa_x R Q) (h0 : pa_o P Q R = 0) : pa_on P Q R := by
  have hs : pa_x R Q + pa_x P R = pa_x P Q := by
    have : pa_o P Q R = pa_x P Q - pa_x R Q - pa_x P R := by unfold pa_o pa_x; grind
    omega
  refine ⟨h0, pa_cv d h2 h1 hs ?_, pa_cv d h2 h1 hs ?_⟩
  · unfold pa_x; grind
  · unfold pa_x; grind
theorem pa_mm {a b c d : Int} (ha : 0 < a) (hb : 0 < b) (hc : 0 < c) (hd : 0 < d) : 0 < a * b + c * d := by
  have := Int.mul_pos ha hb
  have := Int.mul_pos hc hd
  omega
/-- the order of two rounds stays over a corner -/
theorem pa_step {a0 b0 a1 b1 a2 b2 c0 d0 c1 d1 c2 d2 : Int} (ha0 : 0 < a0) (hb0 : 0 < b0) (ha1 : 0 < a1) (hb1 : 0 < b1) (ha2 : 0 < a2) (hb2 : 0 < b2) (hc0 : 0 < c0) (hd0 : 0 < d0) (hc1 : 0 < c1) (hd1 : 0 < d1) (hc2 : 0 < c2) (hd2 : 0 < d2)
    (n1 : pa_nm (b0, -a0) (a1, b1) (d0, -c0) (c1, d1)) (n2 : pa_nm (a1, b1) (-b2, a2) (d0, -c0) (c1, d1)) (n3 : pa_nm (b0, -a0) (a1, b1) (c1, d1) (-d2, c2)) (n4 : pa_nm (a1, b1) (-b2, a2) (c1, d1) (-d2, c2))
    (h : (a0 * a1 + b0 * b1) * (c0 + d1) < (c0 * c1 + d0 * d1) * (a0 + b1)) : (a1 * a2 + b1 * b2) * (c1 + d2) < (c1 * c2 + d1 * d2) * (a1 + b2) := by
  rcases Int.lt_or_le ((a1 * a2 + b1 * b2) * (c1 + d2)) ((c1 * c2 + d1 * d2) * (a1 + b2)) with g | g
  · exact g
  exfalso
  -- all turns that are known
  have xAV : 0 < pa_x (b0, -a0) (a1, b1) := by unfold pa_x; have := pa_mm hb0 hb1 ha0 ha1; grind
  have xAW : 0 < pa_x (b0, -a0) (c1, d1) := by unfold pa_x; have := pa_mm hb0 hd1 ha0 hc1; grind
  have xCV : 0 < pa_x (d0, -c0) (a1, b1) := by unfold pa_x; have := pa_mm hd0 hb1 hc0 ha1; grind
  have xCW : 0 < pa_x (d0, -c0) (c1, d1) := by unfold pa_x; have := pa_mm hd0 hd1 hc0 hc1; grind
  have xVB : 0 < pa_x (a1, b1) (-b2, a2) := by unfold pa_x; have := pa_mm ha1 ha2 hb1 hb2; grind
  have xVD : 0 < pa_x (a1, b1) (-d2, c2) := by unfold pa_x; have := pa_mm ha1 hc2 hb1 hd2; grind
  have xWB : 0 < pa_x (c1, d1) (-b2, a2) := by unfold pa_x; have := pa_mm hc1 ha2 hd1 hb2; grind
  have xWD : 0 < pa_x (c1, d1) (-d2, c2) := by unfold pa_x; have := pa_mm hc1 hc2 hd1 hd2; grind
  have xAe : 0 < pa_x (b0, -a0) (1, 0) := by unfold pa_x; grind
  have xCe : 0 < pa_x (d0, -c0) (1, 0) := by unfold pa_x; grind
  have xeV : 0 < pa_x (1, 0) (a1, b1) := by unfold pa_x; grind
  have xeW : 0 < pa_x (1, 0) (c1, d1) := by unfold pa_x; grind
  have xVf : 0 < pa_x (a1, b1) (0, 1) := by unfold pa_x; grind
  have xWf : 0 < pa_x (c1, d1) (0, 1) := by unfold pa_x; grind
  have xfB : 0 < pa_x (0, 1) (-b2, a2) := by unfold pa_x; grind
  have xfD : 0 < pa_x (0, 1) (-d2, c2) := by unfold pa_x; grind
  have fe : 0 < pa_f (b0, -a0) (a1, b1) (d0, -c0) (c1, d1) (1, 0) := by unfold pa_f pa_l pa_x; grind
  have ff : pa_f (a1, b1) (-b2, a2) (c1, d1) (-d2, c2) (0, 1) ≤ 0 := by unfold pa_f pa_l pa_x; grind
  generalize hA : (b0, -a0) = A at *
  generalize hV : (a1, b1) = V at *
  generalize hB : (-b2, a2) = B at *
  generalize hC : (d0, -c0) = C at *
  generalize hW : (c1, d1) = W at *
  generalize hD : (-d2, c2) = E at *
  generalize ((1, 0) : Int × Int) = e at *
  generalize ((0, 1) : Int × Int) = f at *
  rcases Int.lt_or_le (pa_x V W) 0 with v | v
  · -- W comes before V
    have v' : 0 < pa_x W V := by rw [pa_sw]; omega
    rcases Int.lt_trichotomy (pa_o A V W) 0 with o | o | o
    · rcases Int.lt_trichotomy (pa_o W E V) 0 with q | q | q
      · -- a against e': L = W, M = V
        refine pa_X (L := W) (M := V) v' xAV xWD (Int.le_of_lt xAW) xAV (show 0 ≤ pa_x W W by unfold pa_x; grind) v' (show 0 ≤ pa_x V V by unfold pa_x; grind) v' (Int.le_of_lt xVD) xWD ?_ ?_ (Or.inl ?_) n3
        · rw [pa_fP2]; exact Int.mul_pos xWD (by omega)
        · rw [pa_fQ1]; exact Int.le_of_lt (Int.mul_neg_of_pos_of_neg xAV q)
        · rw [pa_fQ1]; exact Int.mul_neg_of_pos_of_neg xAV q
      · exact n4.2.2.1 (pa_cone xWD (Int.le_of_lt v') (Int.le_of_lt xVD) q)
      · refine pa_X (L := V) (M := f) xVf xVB xWD (show 0 ≤ pa_x V V by unfold pa_x; grind) xVf (Int.le_of_lt v') xWf (Int.le_of_lt xfB) xVB (Int.le_of_lt xfD) xVD ?_ ff (Or.inr ⟨xfB, xfD⟩) n4
        rw [pa_fP1]; exact Int.mul_pos xVB q
    · exact n1.2.1 (pa_cone xAV (Int.le_of_lt xAW) (Int.le_of_lt v') o)
    · refine pa_X (L := e) (M := W) xeW xAV xCW (Int.le_of_lt xAe) xAW (Int.le_of_lt xCe) xCW (Int.le_of_lt v') xeV (show 0 ≤ pa_x W W by unfold pa_x; grind) xeW fe ?_ (Or.inl ?_) n1
      · rw [pa_fQ2]; exact Int.le_of_lt (Int.mul_neg_of_pos_of_neg xCW (by omega))
      · rw [pa_fQ2]; exact Int.mul_neg_of_pos_of_neg xCW (by omega)
  · rcases Int.lt_trichotomy (pa_o C W V) 0 with o | o | o
    · refine pa_X (L := e) (M := V) xeV xAV xCW (Int.le_of_lt xAe) xAV (Int.le_of_lt xCe) xCV (show 0 ≤ pa_x V V by unfold pa_x; grind) xeV v xeW fe ?_ (Or.inl ?_) n1
      · rw [pa_fQ1]; exact Int.le_of_lt (Int.mul_neg_of_pos_of_neg xAV o)
      · rw [pa_fQ1]; exact Int.mul_neg_of_pos_of_neg xAV o
    · exact n1.2.2.2.1 (pa_cone xCW (Int.le_of_lt xCV) v o)
    · rcases Int.lt_trichotomy (pa_o V B W) 0 with q | q | q
      · refine pa_X (L := W) (M := f) xWf xVB xWD v xVf (show 0 ≤ pa_x W W by unfold pa_x; grind) xWf (Int.le_of_lt xfB) xWB (Int.le_of_lt xfD) xWD ?_ ff (Or.inr ⟨xfB, xfD⟩) n4
        rw [pa_fP2]; exact Int.mul_pos xWD (by omega)
      · exact n4.1 (pa_cone xVB v (Int.le_of_lt xWB) q)
      · have f1 : 0 < pa_f V B C W V := by rw [pa_fP1]; exact Int.mul_pos xVB o
        have f2 : pa_f V B C W W < 0 := by rw [pa_fQ2]; exact Int.mul_neg_of_pos_of_neg xCW (by omega)
        have v2 : 0 < pa_x V W := by
          rcases Int.lt_or_le 0 (pa_x V W) with c | c
          · exact c
          · have z : pa_x V W = 0 := by omega
            have l1 := pa_lin V B C W V f W
            rw [z] at l1
            have l2 := Int.mul_neg_of_pos_of_neg xVf f2
            have l3 := Int.mul_pos xWf f1
            omega
        exact pa_X (L := V) (M := W) v2 xVB xCW (show 0 ≤ pa_x V V by unfold pa_x; grind) v2 (Int.le_of_lt xCV) xCW (Int.le_of_lt xWB) xVB (show 0 ≤ pa_x W W by unfold pa_x; grind) v2 f1 (Int.le_of_lt f2) (Or.inl f2) n2
theorem pa_eq {a0 b0 a1 b1 c0 d0 c1 d1 : Int} (ha0 : 0 < a0) (hb0 : 0 < b0) (ha1 : 0 < a1) (hb1 : 0 < b1) (hc0 : 0 < c0) (hd0 : 0 < d0) (hc1 : 0 < c1) (hd1 : 0 < d1)
    (n1 : pa_nm (b0, -a0) (a1, b1) (d0, -c0) (c1, d1)) (h : (a0 * a1 + b0 * b1) * (c0 + d1) = (c0 * c1 + d0 * d1) * (a0 + b1)) : False := by
  have xAV : 0 < pa_x (b0, -a0) (a1, b1) := by unfold pa_x; have := pa_mm hb0 hb1 ha0 ha1; grind
  have xAW : 0 < pa_x (b0, -a0) (c1, d1) := by unfold pa_x; have := pa_mm hb0 hd1 ha0 hc1; grind
  have xCV : 0 < pa_x (d0, -c0) (a1, b1) := by unfold pa_x; have := pa_mm hd0 hb1 hc0 ha1; grind
  have xCW : 0 < pa_x (d0, -c0) (c1, d1) := by unfold pa_x; have := pa_mm hd0 hd1 hc0 hc1; grind
  have xAe : 0 < pa_x (b0, -a0) (1, 0) := by unfold pa_x; grind
  have xCe : 0 < pa_x (d0, -c0) (1, 0) := by unfold pa_x; grind
  have xeV : pa_x (a1, b1) (1, 0) < 0 := by unfold pa_x; grind
  have xeW : pa_x (c1, d1) (1, 0) < 0 := by unfold pa_x; grind
  have fe : pa_f (b0, -a0) (a1, b1) (d0, -c0) (c1, d1) (1, 0) = 0 := by unfold pa_f pa_l pa_x; grind
  generalize hA : (b0, -a0) = A at *
  generalize hV : (a1, b1) = V at *
  generalize hC : (d0, -c0) = C at *
  generalize hW : (c1, d1) = W at *
  generalize ((1, 0) : Int × Int) = e at *
  have l1 := pa_lin A V C W A e C
  have l2 := pa_lin A V C W A e V
  have l3 := pa_lin A V C W A e W
  rw [fe, Int.mul_zero, Int.add_zero] at l1 l2 l3
  rw [pa_fP2] at l1
  rw [pa_fQ1] at l2
  rw [pa_fQ2] at l3
  rcases Int.lt_trichotomy (pa_f A V C W A) 0 with g | g | g
  · have m1 := pa_neg xCW (pa_neg xAe (l1 ▸ Int.mul_neg_of_pos_of_neg xCe g))
    have m2 := pa_pos xAV (pa_pos xAe (l2 ▸ Int.mul_pos_of_neg_of_neg xeV g))
    have m3 := pa_pos xCW (pa_pos xAe (l3 ▸ Int.mul_pos_of_neg_of_neg xeW g))
    rw [pa_fP1] at g
    have m0 := pa_neg xAV g
    exact n1.2.2.2.2 ⟨Or.inl ⟨by omega, by omega⟩, Or.inr ⟨m0, m2⟩⟩
  · rw [g, Int.mul_zero] at l1 l2 l3
    have z1 : pa_o A V C = 0 := by
      have := (Int.mul_eq_zero.mp ((Int.mul_eq_zero.mp l1).resolve_left (by omega))).resolve_left (by omega); omega
    rw [pa_fP1] at g
    have z2 : pa_o C W A = 0 := (Int.mul_eq_zero.mp g).resolve_left (by omega)
    rcases Int.le_total 0 (pa_x A C) with c | c
    · exact n1.1 (pa_cone xAV c (Int.le_of_lt xCV) z1)
    · exact n1.2.2.1 (pa_cone xCW (by rw [pa_sw]; omega) (Int.le_of_lt xAW) z2)
  · have m1 := pa_pos xCW (pa_pos xAe (l1 ▸ Int.mul_pos xCe g))
    have m2 := pa_neg xAV (pa_neg xAe (l2 ▸ Int.mul_neg_of_neg_of_pos xeV g))
    have m3 := pa_neg xCW (pa_neg xAe (l3 ▸ Int.mul_neg_of_neg_of_pos xeW g))
    rw [pa_fP1] at g
    have m0 := pa_pos xAV g
    exact n1.2.2.2.2 ⟨Or.inr ⟨by omega, by omega⟩, Or.inl ⟨m0, m2⟩⟩
/-- a quarter turn back -/
def pa_q (p : Int × Int) : Int × Int := (p.2, -p.1)
def pa_r : Nat → Int × Int → Int × Int
  | 0, p => p
  | k + 1, p => pa_q (pa_r k p)
theorem pa_r4 (k : Nat) (p : Int × Int) : pa_r (k + 4) p = pa_r k p := by
  show pa_q (pa_q (pa_q (pa_q (pa_r k p)))) = _
  simp [pa_q]
theorem pa_oq (p q r : Int × Int) : pa_o (pa_q p) (pa_q q) (pa_q r) = pa_o p q r := by unfold pa_o pa_q; grind
theorem pa_onq (p q r : Int × Int) : pa_on (pa_q p) (pa_q q) (pa_q r) ↔ pa_on p q r := by
  unfold pa_on
  rw [pa_oq]
  unfold pa_b pa_q
  simp only
  omega
theorem pa_nmq {p q p' q' : Int × Int} (h : pa_nm p q p' q') : pa_nm (pa_q p) (pa_q q) (pa_q p') (pa_q q') := by
  unfold pa_nm at h ⊢
  rw [pa_onq, pa_onq, pa_onq, pa_onq, pa_oq, pa_oq, pa_oq, pa_oq]
  exact h
theorem pa_nmr {p q p' q' : Int × Int} (h : pa_nm p q p' q') : ∀ k, pa_nm (pa_r k p) (pa_r k q) (pa_r k p') (pa_r k q') := by
  intro k
  induction k with
  | zero => exact h
  | succ k ih => exact pa_nmq ih
theorem pa_rN {k : Nat} {p : Int × Int} {a b : Int} (h : pa_r (k + 1) p = (a, b)) : pa_r k p = (-b, a) := by
  have h1 : (pa_r k p).2 = a := congrArg Prod.fst h
  have h2 : -(pa_r k p).1 = b := congrArg Prod.snd h
  rw [← h1, ← h2]; simp
section
variable {v : Nat → Int × Int} {a b : Nat → Int}
/-- twelve corners that go from quarter to quarter: three rounds can't be -/
theorem pa_spiral (per : ∀ k, v (k + 12) = v k) (hw : ∀ k, pa_r k (v k) = (a k, b k)) (ha : ∀ k, 0 < a k) (hb : ∀ k, 0 < b k)
    (hN : ∀ i j, i % 12 ≠ j % 12 → (i + 1) % 12 ≠ j % 12 → (j + 1) % 12 ≠ i % 12 → pa_nm (v i) (v (i + 1)) (v j) (v (j + 1))) : False := by
  have f0 : ∀ k, pa_r (k + 1) (v k) = (b k, -a k) := fun k => by show pa_q (pa_r k (v k)) = _; rw [hw]; rfl
  have f1 : ∀ k, pa_r (k + 1) (v (k + 1)) = (a (k + 1), b (k + 1)) := fun k => hw (k + 1)
  have f2 : ∀ k, pa_r (k + 1) (v (k + 2)) = (-b (k + 2), a (k + 2)) := fun k => pa_rN (hw (k + 2))
  have g0 : ∀ k, pa_r (k + 1) (v (k + 4)) = (b (k + 4), -a (k + 4)) := fun k => by rw [← f0 (k + 4), ← pa_r4]
  have g1 : ∀ k, pa_r (k + 1) (v (k + 5)) = (a (k + 5), b (k + 5)) := fun k => by rw [← f1 (k + 4), ← pa_r4]
  have g2 : ∀ k, pa_r (k + 1) (v (k + 6)) = (-b (k + 6), a (k + 6)) := fun k => by rw [← f2 (k + 4), ← pa_r4]
  have pab : ∀ k, a (k + 12) = a k ∧ b (k + 12) = b k := fun k => by
    have h := hw (k + 12)
    rw [per, show pa_r (k + 12) (v k) = pa_r k (v k) by rw [show k + 12 = k + 4 + 4 + 4 from rfl, pa_r4, pa_r4, pa_r4], hw] at h
    exact ⟨(congrArg Prod.fst h).symm, (congrArg Prod.snd h).symm⟩
  have n1 : ∀ k, pa_nm (b k, -a k) (a (k + 1), b (k + 1)) (b (k + 4), -a (k + 4)) (a (k + 5), b (k + 5)) := fun k => by
    have := pa_nmr (hN k (k + 4) (by omega) (by omega) (by omega)) (k + 1)
    rwa [f0, f1, g0, g1] at this
  have n2 : ∀ k, pa_nm (a (k + 1), b (k + 1)) (-b (k + 2), a (k + 2)) (b (k + 4), -a (k + 4)) (a (k + 5), b (k + 5)) := fun k => by
    have := pa_nmr (hN (k + 1) (k + 4) (by omega) (by omega) (by omega)) (k + 1)
    rwa [f1, f2, g0, g1] at this
  have n3 : ∀ k, pa_nm (b k, -a k) (a (k + 1), b (k + 1)) (a (k + 5), b (k + 5)) (-b (k + 6), a (k + 6)) := fun k => by
    have := pa_nmr (hN k (k + 5) (by omega) (by omega) (by omega)) (k + 1)
    rwa [f0, f1, g1, g2] at this
  have n4 : ∀ k, pa_nm (a (k + 1), b (k + 1)) (-b (k + 2), a (k + 2)) (a (k + 5), b (k + 5)) (-b (k + 6), a (k + 6)) := fun k => by
    have := pa_nmr (hN (k + 1) (k + 5) (by omega) (by omega) (by omega)) (k + 1)
    rwa [f1, f2, g1, g2] at this
  have sym : ∀ {p q p' q' : Int × Int}, pa_nm p q p' q' → pa_nm p' q' p q := fun h => ⟨h.2.2.1, h.2.2.2.1, h.1, h.2.1, fun q => h.2.2.2.2 ⟨q.2, q.1⟩⟩
  let N : Nat → Int := fun k => a k * a (k + 1) + b k * b (k + 1)
  let D : Nat → Int := fun k => a k + b (k + 1)
  have hNp : ∀ k, 0 < N k := fun k => pa_mm (ha k) (ha _) (hb k) (hb _)
  have hDp : ∀ k, 0 < D k := fun k => by have := ha k; have := hb (k + 1); show 0 < a k + b (k + 1); omega
  have perN : N 12 = N 0 := by
    show a 12 * a 13 + b 12 * b 13 = a 0 * a 1 + b 0 * b 1
    rw [(pab 0).1, (pab 0).2, (pab 1).1, (pab 1).2]
  have perD : D 12 = D 0 := by
    show a 12 + b 13 = a 0 + b 1
    rw [(pab 0).1, (pab 1).2]
  have up : ∀ k, N k * D (k + 4) < N (k + 4) * D k → N (k + 1) * D (k + 5) < N (k + 5) * D (k + 1) := fun k h =>
    pa_step (ha k) (hb k) (ha _) (hb _) (ha _) (hb _) (ha _) (hb _) (ha _) (hb _) (ha _) (hb _) (n1 k) (n2 k) (n3 k) (n4 k) h
  have dn : ∀ k, N (k + 4) * D k < N k * D (k + 4) → N (k + 5) * D (k + 1) < N (k + 1) * D (k + 5) := fun k h =>
    pa_step (ha _) (hb _) (ha _) (hb _) (ha _) (hb _) (ha _) (hb _) (ha _) (hb _) (ha _) (hb _) (sym (n1 k)) (sym (n3 k)) (sym (n2 k)) (sym (n4 k)) h
  have tri : ∀ x y z p q r : Int, 0 < p → 0 < q → 0 < r → x * q < y * p → y * r < z * q → z * p < x * r → False := fun x y z p q r hp hq hr h1 h2 h3 => by
    have e1 := Int.mul_lt_mul_of_pos_right h1 hr
    have e2 := Int.mul_lt_mul_of_pos_right h2 hp
    have e3 := Int.mul_lt_mul_of_pos_right h3 hq
    have i1 : y * p * r = y * r * p := by grind
    have i2 : z * q * p = z * p * q := by grind
    have i3 : x * r * q = x * q * r := by grind
    omega
  rcases Int.lt_trichotomy (N 0 * D 4) (N 4 * D 0) with h | h | h
  · have h4 := up 3 (up 2 (up 1 (up 0 h)))
    have h8 := up 7 (up 6 (up 5 (up 4 h4)))
    rw [perN, perD] at h8
    exact tri _ _ _ _ _ _ (hDp 0) (hDp 4) (hDp 8) h h4 h8
  · exact pa_eq (ha 0) (hb 0) (ha _) (hb _) (ha _) (hb _) (ha _) (hb _) (n1 0) h
  · have h4 := dn 3 (dn 2 (dn 1 (dn 0 h)))
    have h8 := dn 7 (dn 6 (dn 5 (dn 4 h4)))
    rw [perN, perD] at h8
    exact tri _ _ _ _ _ _ (hDp 0) (hDp 8) (hDp 4) h8 h4 h
end
theorem pa_mb {a b n m : Int} (ha : -n ≤ a ∧ a ≤ n) (hb : -m ≤ b ∧ b ≤ m) : -(n * m) ≤ a * b ∧ a * b ≤ n * m := by
  have h1 : a.natAbs * b.natAbs ≤ n.natAbs * m.natAbs := Nat.mul_le_mul (by omega) (by omega)
  rw [← Int.natAbs_mul, ← Int.natAbs_mul] at h1
  have h2 : 0 ≤ n * m := Int.mul_nonneg (by omega) (by omega)
  omega
theorem pa_tr {x y z : Int} (h1 : 0 < x * y) (h2 : 0 < y * z) : 0 < x * z := by
  have hy : 0 < y * y := by
    rcases Int.lt_trichotomy y 0 with c | c | c
    · exact Int.mul_pos_of_neg_of_neg c c
    · rw [c] at h1; simp at h1
    · exact Int.mul_pos c c
  refine pa_pos hy ?_
  have := Int.mul_pos h1 h2
  have e : y * y * (x * z) = x * y * (y * z) := by grind
  omega
/-- the size of a product -/
theorem pa_ab {a b : Int} (ha : -10000 ≤ a ∧ a ≤ 10000) : a * b ≤ 10000 * (b.natAbs : Int) := by
  have h := pa_mb (a := a) (b := b) (n := 10000) (m := (b.natAbs : Int)) ha (by omega)
  exact h.2
theorem pa_ng {a b : Int} (h : a * b ≤ 0) : a * b = -((a.natAbs : Int) * (b.natAbs : Int)) := by
  have := Int.natAbs_mul a b
  have e : ((a * b).natAbs : Int) = (a.natAbs : Int) * (b.natAbs : Int) := by rw [this]; simp
  omega
theorem pa_tri {a b c d : Int} (ha : -10000 ≤ a ∧ a ≤ 10000) (hb : -10000 ≤ b ∧ b ≤ 10000) (hc : -10000 ≤ c ∧ c ≤ 10000) (hd : -10000 ≤ d ∧ d ≤ 10000) (h : b * c ≤ 0) : a * b + b * c + c * d ≤ 100000000 := by
  have e1 := pa_ab (b := b) ha
  have e2 := pa_ab (b := c) hd
  have e3 := pa_ng h
  have e4 := Int.mul_nonneg (show 0 ≤ 10000 - (b.natAbs : Int) by omega) (show 0 ≤ 10000 - (c.natAbs : Int) by omega)
  have e5 : (10000 - (b.natAbs : Int)) * (10000 - (c.natAbs : Int)) = 100000000 - 10000 * (c.natAbs : Int) - 10000 * (b.natAbs : Int) + (b.natAbs : Int) * (c.natAbs : Int) := by grind
  have e6 : d * c = c * d := Int.mul_comm _ _
  omega
theorem pa_pent {a b c d e f : Int} (ha : -10000 ≤ a ∧ a ≤ 10000) (hb : -10000 ≤ b ∧ b ≤ 10000) (hc : -10000 ≤ c ∧ c ≤ 10000) (hd : -10000 ≤ d ∧ d ≤ 10000) (he : -10000 ≤ e ∧ e ≤ 10000) (hf : -10000 ≤ f ∧ f ≤ 10000) (h : b * c ≤ 0) (g : d * e ≤ 0) : a * b + b * c + c * d + d * e + e * f ≤ 200000000 := by
  have e1 := pa_ab (b := b) ha
  have e2 := pa_ab (b := e) hf
  have e3 := pa_ng h
  have e4 := pa_ng g
  have e7 : c * d ≤ (c.natAbs : Int) * (d.natAbs : Int) := by
    have := pa_mb (a := c) (b := d) (n := (c.natAbs : Int)) (m := (d.natAbs : Int)) (by omega) (by omega)
    exact this.2
  have e5 := Int.mul_nonneg (show 0 ≤ 10000 - (b.natAbs : Int) by omega) (show 0 ≤ 10000 - (c.natAbs : Int) by omega)
  have e6 : (10000 - (b.natAbs : Int)) * (10000 - (c.natAbs : Int)) = 100000000 - 10000 * (c.natAbs : Int) - 10000 * (b.natAbs : Int) + (b.natAbs : Int) * (c.natAbs : Int) := by grind
  have e8 := Int.mul_nonneg (show 0 ≤ 10000 - (d.natAbs : Int) by omega) (show 0 ≤ 10000 - (e.natAbs : Int) by omega)
  have e9 : (10000 - (d.natAbs : Int)) * (10000 - (e.natAbs : Int)) = 100000000 - 10000 * (e.natAbs : Int) - 10000 * (d.natAbs : Int) + (d.natAbs : Int) * (e.natAbs : Int) := by grind
  have e10 : (c.natAbs : Int) * (d.natAbs : Int) ≤ 10000 * (c.natAbs : Int) := by
    rw [Int.mul_comm 10000]; exact Int.mul_le_mul_of_nonneg_left (by omega) (by omega)
  have e11 : f * e = e * f := Int.mul_comm _ _
  omega
section
variable {c : Nat → Int}
theorem pa_chain (i : Nat) : ∀ m, (∀ q, i ≤ q → q < i + m + 1 → 0 < c q * c (q + 1)) → 0 < c i * c (i + m + 1) := by
  intro m
  induction m with
  | zero => intro h; exact h i (by omega) (by omega)
  | succ m ih => intro h; exact pa_tr (ih (fun q a b => h q a (by omega))) (h (i + m + 1) (by omega) (by omega))
def pa_T (c : Nat → Int) (i : Nat) : Int := c i * c (i + 1) + c (i + 1) * c (i + 2) + c (i + 2) * c (i + 3) + c (i + 3) * c (i + 4) + c (i + 4) * c (i + 5) + c (i + 5) * c (i + 6) + c (i + 6) * c (i + 7) + c (i + 7) * c (i + 8) + c (i + 8) * c (i + 9) + c (i + 9) * c (i + 10) + c (i + 10) * c (i + 11) + c (i + 11) * c (i + 12)
theorem pa_Ts (per : ∀ k, c (k + 12) = c k) (i : Nat) : pa_T c (i + 1) = pa_T c i := by
  unfold pa_T
  have h1 := per i
  have h2 := per (i + 1)
  rw [show i + 1 + 11 = i + 12 by omega, show i + 1 + 12 = i + 1 + 12 from rfl, h2]
  simp only [show ∀ k, i + 1 + k = i + (1 + k) from fun k => by omega]
  rw [h1]
  simp only [Nat.reduceAdd]
  omega
theorem pa_T0 (per : ∀ k, c (k + 12) = c k) : ∀ i, pa_T c i = pa_T c 0 := by
  intro i
  induction i with
  | zero => rfl
  | succ i ih => rw [pa_Ts per, ih]
/-- a round of twelve numbers: where two neighbours differ in sign -/
theorem pa_exc (per : ∀ k, c (k + 12) = c k) (bd : ∀ k, -10000 ≤ c k ∧ c k ≤ 10000) (hT : 900000000 < pa_T c 0) (i : Nat) (h : c i * c (i + 1) ≤ 0) :
    (c (i + 1) * c (i + 2) ≤ 0 ∧ ∀ q, i + 2 ≤ q → q < i + 12 → 0 < c q * c (q + 1)) ∨ (c (i + 11) * c (i + 12) ≤ 0 ∧ ∀ q, i + 1 ≤ q → q < i + 11 → 0 < c q * c (q + 1)) := by
  have hT : 900000000 < pa_T c i := by rw [pa_T0 per]; exact hT
  unfold pa_T at hT
  have pb : ∀ k, c k * c (k + 1) ≤ 100000000 := fun k => (pa_mb (n := 10000) (m := 10000) (bd k) (bd (k + 1))).2
  have p1 := pb (i + 1)
  have p2 := pb (i + 2)
  have p3 := pb (i + 3)
  have p4 := pb (i + 4)
  have p5 := pb (i + 5)
  have p6 := pb (i + 6)
  have p7 := pb (i + 7)
  have p8 := pb (i + 8)
  have p9 := pb (i + 9)
  have p10 := pb (i + 10)
  have p11 := pb (i + 11)
  simp only [show ∀ a b, i + a + b = i + (a + b) from fun a b => by omega, Nat.reduceAdd] at p1 p2 p3 p4 p5 p6 p7 p8 p9 p10 p11
  have t0 := pa_tri (bd (i + 11)) (bd i) (bd (i + 1)) (bd (i + 2)) h
  rw [show c (i + 11) * c i = c (i + 11) * c (i + 12) by rw [per i]] at t0
  have tri : ∀ j, c (i + (j + 1)) * c (i + (j + 2)) ≤ 0 → c (i + j) * c (i + (j + 1)) + c (i + (j + 1)) * c (i + (j + 2)) + c (i + (j + 2)) * c (i + (j + 3)) ≤ 100000000 := fun j g => pa_tri (bd _) (bd _) (bd _) (bd _) g
  have t3 := tri 2
  have t4 := tri 3
  have t5 := tri 4
  have t6 := tri 5
  have t7 := tri 6
  have t8 := tri 7
  have t9 := tri 8
  have f2 := pa_pent (bd (i + 11)) (bd i) (bd (i + 1)) (bd (i + 2)) (bd (i + 3)) (bd (i + 4)) h
  rw [show c (i + 11) * c i = c (i + 11) * c (i + 12) by rw [per i]] at f2
  have f10 : c (i + 10) * c (i + 11) ≤ 0 → _ := fun g => pa_pent (bd (i + 9)) (bd (i + 10)) (bd (i + 11)) (bd (i + 12)) (bd (i + 1)) (bd (i + 2)) g (by rw [per i]; exact h)
  have e12 : c (i + 12) * c (i + 1) = c i * c (i + 1) := by rw [per i]
  rw [e12] at f10
  simp only [Nat.reduceAdd] at t3 t4 t5 t6 t7 t8 t9
  have some : c (i + 1) * c (i + 2) ≤ 0 ∨ c (i + 11) * c (i + 12) ≤ 0 := by
    refine Decidable.byContradiction fun no => ?_
    have a1 : 0 < c (i + 1) * c (i + 2) := by omega
    have a11 : 0 < c (i + 11) * c (i + 12) := by omega
    have a2 : 0 < c (i + 2) * c (i + 3) := by omega
    have a3 : 0 < c (i + 3) * c (i + 4) := by omega
    have a4 : 0 < c (i + 4) * c (i + 5) := by omega
    have a5 : 0 < c (i + 5) * c (i + 6) := by omega
    have a6 : 0 < c (i + 6) * c (i + 7) := by omega
    have a7 : 0 < c (i + 7) * c (i + 8) := by omega
    have a8 : 0 < c (i + 8) * c (i + 9) := by omega
    have a9 : 0 < c (i + 9) * c (i + 10) := by omega
    have a10 : 0 < c (i + 10) * c (i + 11) := by omega
    have := pa_tr (pa_tr (pa_tr (pa_tr (pa_tr (pa_tr (pa_tr (pa_tr (pa_tr (pa_tr a1 a2) a3) a4) a5) a6) a7) a8) a9) a10) a11
    rw [per i, Int.mul_comm] at this
    omega
  have qs : ∀ q, i + 1 ≤ q → q < i + 12 → q = i + 1 ∨ q = i + 2 ∨ q = i + 3 ∨ q = i + 4 ∨ q = i + 5 ∨ q = i + 6 ∨ q = i + 7 ∨ q = i + 8 ∨ q = i + 9 ∨ q = i + 10 ∨ q = i + 11 := fun q a b => by omega
  rcases some with s | s
  · left
    refine ⟨s, fun q a b => ?_⟩
    rcases qs q (by omega) b with rfl | rfl | rfl | rfl | rfl | rfl | rfl | rfl | rfl | rfl | rfl <;> simp only [show ∀ a b, i + a + b = i + (a + b) from fun a b => by omega, Nat.reduceAdd] <;> omega
  · right
    refine ⟨s, fun q a b => ?_⟩
    rcases qs q (by omega) (by omega) with rfl | rfl | rfl | rfl | rfl | rfl | rfl | rfl | rfl | rfl | rfl <;> simp only [show ∀ a b, i + a + b = i + (a + b) from fun a b => by omega, Nat.reduceAdd] <;> omega
end
theorem pa_perm {α : Type} {c : Nat → α} (per : ∀ k, c (k + 12) = c k) : ∀ m k, c (k + 12 * m) = c k := by
  intro m
  induction m with
  | zero => intro k; rfl
  | succ m ih => intro k; rw [show k + 12 * (m + 1) = k + 12 * m + 12 by omega, per, ih]
theorem pa_pmod {α : Type} {c : Nat → α} (per : ∀ k, c (k + 12) = c k) {k j : Nat} (h : k % 12 = j % 12) : c k = c j := by
  have h1 := pa_perm per (k / 12) (k % 12)
  have h2 := pa_perm per (j / 12) (j % 12)
  rw [show k % 12 + 12 * (k / 12) = k by omega] at h1
  rw [show j % 12 + 12 * (j / 12) = j by omega] at h2
  rw [h1, h2, h]
theorem pa_reg {c : Nat → Int} (h : ∀ k, 0 < c k * c (k + 1)) : (∀ k, 0 < c k) ∨ (∀ k, c k < 0) := by
  have h0 : c 0 ≠ 0 := fun e => by have := h 0; rw [e] at this; simp at this
  have hk : ∀ k, 0 < c 0 * c k := fun k => by
    cases k with
    | zero =>
      rcases Int.lt_or_gt_of_ne h0 with g | g
      · exact Int.mul_pos_of_neg_of_neg g g
      · exact Int.mul_pos g g
    | succ k =>
      have := pa_chain (c := c) 0 k (fun q _ _ => h q)
      rwa [Nat.zero_add] at this
  rcases Int.lt_or_gt_of_ne h0 with g | g
  · right
    intro k
    have := hk k
    rcases Int.lt_or_le (c k) 0 with q | q
    · exact q
    · have := Int.mul_nonpos_of_nonpos_of_nonneg (Int.le_of_lt g) q; omega
  · left
    intro k
    exact pa_pos g (hk k)
/-- one number stands on the wrong side, near 0; the others are far -/
theorem pa_exc2 {c : Nat → Int} (per : ∀ k, c (k + 12) = c k) (bd : ∀ k, -10000 ≤ c k ∧ c k ≤ 10000) (hT : 947483648 ≤ pa_T c 0) (e : Nat) (h : c e * c (e + 1) ≤ 0) (g : c (e + 1) * c (e + 2) ≤ 0) (ho : ∀ q, e + 2 ≤ q → q < e + 12 → 0 < c q * c (q + 1)) :
    pa_T c 0 ≤ 1000000000 ∧ ∃ σ : Int, (σ = 1 ∨ σ = -1) ∧ (∀ k, k % 12 ≠ (e + 1) % 12 → 4700 ≤ σ * c k) ∧ (∀ k, k % 12 = (e + 1) % 12 → -3000 ≤ σ * c k) := by
  have hT : 947483648 ≤ pa_T c e ∧ pa_T c e = pa_T c 0 := by rw [pa_T0 per e]; exact ⟨hT, rfl⟩
  rw [← hT.2]
  have hT := hT.1
  unfold pa_T at hT ⊢
  have pb : ∀ k, c k * c (k + 1) ≤ 100000000 := fun k => (pa_mb (n := 10000) (m := 10000) (bd k) (bd (k + 1))).2
  have p2 := pb (e + 2)
  have p3 := pb (e + 3)
  have p4 := pb (e + 4)
  have p5 := pb (e + 5)
  have p6 := pb (e + 6)
  have p7 := pb (e + 7)
  have p8 := pb (e + 8)
  have p9 := pb (e + 9)
  have p10 := pb (e + 10)
  have p11 := pb (e + 11)
  simp only [show ∀ a b, e + a + b = e + (a + b) from fun a b => by omega, Nat.reduceAdd] at p2 p3 p4 p5 p6 p7 p8 p9 p10 p11
  have low : ∀ q, e + 2 ≤ q → q < e + 12 → 47483648 ≤ c q * c (q + 1) := fun q a b => by
    have qs : q = e + 2 ∨ q = e + 3 ∨ q = e + 4 ∨ q = e + 5 ∨ q = e + 6 ∨ q = e + 7 ∨ q = e + 8 ∨ q = e + 9 ∨ q = e + 10 ∨ q = e + 11 := by omega
    rcases qs with rfl | rfl | rfl | rfl | rfl | rfl | rfl | rfl | rfl | rfl <;> simp only [show ∀ a b, e + a + b = e + (a + b) from fun a b => by omega, Nat.reduceAdd] <;> omega
  have far : ∀ q, e + 2 ≤ q → q < e + 13 → 4700 ≤ (c q).natAbs := fun q a b => by
    by_cases hq : q < e + 12
    · have h1 := low q a hq
      have h2 := pa_ab (b := c q) (bd (q + 1))
      rw [Int.mul_comm] at h2
      omega
    · have h1 := low (e + 11) (by omega) (by omega)
      have h2 := pa_ab (b := c (e + 11 + 1)) (bd (e + 11))
      rw [show q = e + 11 + 1 by omega]
      omega
  have near : (c (e + 1)).natAbs ≤ 3000 := by
    have e1 := pa_ng h
    have e2 := pa_ng g
    have e3 := pa_ab (b := c (e + 12)) (bd (e + 11))
    rw [per e] at e3
    have e4 := pa_ab (b := c (e + 2)) (bd (e + 3))
    have e5 : c (e + 3) * c (e + 2) = c (e + 2) * c (e + 3) := Int.mul_comm _ _
    have e6 : c (e + 11) * c (e + 12) = c (e + 11) * c e := by rw [per e]
    have b0 := bd e
    have b1 := bd (e + 1)
    have b2 := bd (e + 2)
    generalize hx : ((c e).natAbs : Int) = x at *
    generalize hy : ((c (e + 1)).natAbs : Int) = y at *
    generalize hz : ((c (e + 2)).natAbs : Int) = z at *
    have k1 := Int.mul_nonneg (show 0 ≤ 10000 - y by omega) (show 0 ≤ 10000 - x by omega)
    have k2 := Int.mul_nonneg (show 0 ≤ 10000 - y by omega) (show 0 ≤ 10000 - z by omega)
    have k3 : (10000 - y) * (10000 - x) = 100000000 - 10000 * y - 10000 * x + x * y := by grind
    have k4 : (10000 - y) * (10000 - z) = 100000000 - 10000 * y - 10000 * z + y * z := by grind
    omega
  refine ⟨by omega, ?_⟩
  have same : ∀ q, e + 2 ≤ q → q < e + 13 → 0 < c (e + 2) * c q := fun q a b => by
    by_cases hq : q = e + 2
    · have := far (e + 2) (by omega) (by omega)
      rw [hq]
      rcases Int.lt_or_le (c (e + 2)) 0 with t | t
      · exact Int.mul_pos_of_neg_of_neg t t
      · exact Int.mul_pos (by omega) (by omega)
    · have := pa_chain (c := c) (e + 2) (q - (e + 3)) (fun r r1 r2 => ho r r1 (by omega))
      rwa [show e + 2 + (q - (e + 3)) + 1 = q by omega] at this
  have red : ∀ k, k % 12 ≠ (e + 1) % 12 → ∃ q, e + 2 ≤ q ∧ q < e + 13 ∧ c k = c q := fun k hk =>
    ⟨e + 2 + (k + 11 * (e + 2)) % 12, by omega, by omega, pa_pmod per (by omega)⟩
  have f2 := far (e + 2) (by omega) (by omega)
  rcases Int.lt_or_le (c (e + 2)) 0 with t | t
  · refine ⟨-1, Or.inr rfl, fun k hk => ?_, fun k hk => ?_⟩
    · obtain ⟨q, q1, q2, q3⟩ := red k hk
      have s1 := same q q1 q2
      have s2 := far q q1 q2
      rw [q3]
      rcases Int.lt_or_le (c q) 0 with u | u
      · omega
      · have := Int.mul_nonpos_of_nonpos_of_nonneg (Int.le_of_lt t) u; omega
    · rw [pa_pmod per hk]; omega
  · refine ⟨1, Or.inl rfl, fun k hk => ?_, fun k hk => ?_⟩
    · obtain ⟨q, q1, q2, q3⟩ := red k hk
      have s1 := pa_pos (show 0 < c (e + 2) by omega) (same q q1 q2)
      have s2 := far q q1 q2
      rw [q3]; omega
    · rw [pa_pmod per hk]; omega
theorem pa_radd (p : Int × Int) : ∀ k m, pa_r k (pa_r m p) = pa_r (k + m) p := by
  intro k
  induction k with
  | zero => intro m; rw [Nat.zero_add]; rfl
  | succ k ih => intro m; rw [show k + 1 + m = k + m + 1 by omega]; show pa_q _ = pa_q _; rw [ih]
theorem pa_r4m (p : Int × Int) : ∀ m, pa_r (4 * m) p = p := by
  intro m
  induction m with
  | zero => rfl
  | succ m ih => rw [show 4 * (m + 1) = 4 * m + 4 by omega, pa_r4, ih]
theorem pa_rb {p : Int × Int} {n : Int} (h : (-n ≤ p.1 ∧ p.1 ≤ n) ∧ (-n ≤ p.2 ∧ p.2 ≤ n)) : ∀ k, (-n ≤ (pa_r k p).1 ∧ (pa_r k p).1 ≤ n) ∧ (-n ≤ (pa_r k p).2 ∧ (pa_r k p).2 ≤ n) := by
  intro k
  induction k with
  | zero => exact h
  | succ k ih => show (-n ≤ (pa_r k p).2 ∧ (pa_r k p).2 ≤ n) ∧ (-n ≤ -(pa_r k p).1 ∧ -(pa_r k p).1 ≤ n); omega
theorem pa_xq (p q : Int × Int) : pa_x (pa_q p) (pa_q q) = pa_x p q := by unfold pa_x pa_q; grind
theorem pa_xr (p q : Int × Int) : ∀ k, pa_x (pa_r k p) (pa_r k q) = pa_x p q := by
  intro k
  induction k with
  | zero => rfl
  | succ k ih => rw [← ih]; exact pa_xq _ _
def pa_s (p s : Int × Int) : Int × Int := (p.1 - s.1, p.2 - s.2)
theorem pa_rs (p s : Int × Int) : ∀ k, pa_r k (pa_s p s) = pa_s (pa_r k p) (pa_r k s) := by
  intro k
  induction k with
  | zero => rfl
  | succ k ih =>
    show pa_q (pa_r k (pa_s p s)) = pa_s (pa_q (pa_r k p)) (pa_q (pa_r k s))
    rw [ih]
    unfold pa_s pa_q
    simp only [Prod.mk.injEq, true_and]
    omega
theorem pa_ons (p q r s : Int × Int) : pa_on (pa_s p s) (pa_s q s) (pa_s r s) ↔ pa_on p q r := by
  unfold pa_on
  have e : pa_o (pa_s p s) (pa_s q s) (pa_s r s) = pa_o p q r := by unfold pa_o pa_s; grind
  rw [e]
  unfold pa_b pa_s
  simp only
  omega
theorem pa_nms {p q p' q' : Int × Int} (s : Int × Int) (h : pa_nm p q p' q') : pa_nm (pa_s p s) (pa_s q s) (pa_s p' s) (pa_s q' s) := by
  have e : ∀ p q r, pa_o (pa_s p s) (pa_s q s) (pa_s r s) = pa_o p q r := fun p q r => by unfold pa_o pa_s; grind
  unfold pa_nm at h ⊢
  rw [pa_ons, pa_ons, pa_ons, pa_ons, e, e, e, e]
  exact h
abbrev pa_N (v : Nat → Int × Int) : Prop := ∀ i j, i % 12 ≠ j % 12 → (i + 1) % 12 ≠ j % 12 → (j + 1) % 12 ≠ i % 12 → pa_nm (v i) (v (i + 1)) (v j) (v (j + 1))
/-- .. from quarter to quarter, wherever the first lies -/
theorem pa_spiral2 {v : Nat → Int × Int} {a b : Nat → Int} (per : ∀ k, v (k + 12) = v k) (hw : ∀ k, pa_r k (v k) = (a k, b k)) (ha : (∀ k, 0 < a k) ∨ ∀ k, a k < 0) (hb : (∀ k, 0 < b k) ∨ ∀ k, b k < 0) (hN : pa_N v) : False := by
  have rot : ∀ t, ∀ a' b' : Nat → Int, (∀ k, pa_r t (a k, b k) = (a' k, b' k)) → (∀ k, 0 < a' k) → (∀ k, 0 < b' k) → False := fun t a' b' h1 h2 h3 => by
    refine pa_spiral (v := fun k => pa_r t (v k)) (a := a') (b := b') (fun k => by show pa_r t (v (k + 12)) = _; rw [per]) (fun k => ?_) h2 h3 (fun i j x y z => pa_nmr (hN i j x y z) t)
    show pa_r k (pa_r t (v k)) = _
    rw [pa_radd, Nat.add_comm, ← pa_radd, hw, h1]
  rcases ha with ha | ha <;> rcases hb with hb | hb
  · exact rot 0 a b (fun k => rfl) ha hb
  · exact rot 3 (fun k => -b k) a (fun k => by show ((-b k, -(-a k)) : Int × Int) = _; simp) (fun k => by have := hb k; show 0 < -b k; omega) ha
  · exact rot 1 b (fun k => -a k) (fun k => rfl) hb (fun k => by have := ha k; show 0 < -a k; omega)
  · exact rot 2 (fun k => -a k) (fun k => -b k) (fun k => rfl) (fun k => by have := ha k; show 0 < -a k; omega) (fun k => by have := hb k; show 0 < -b k; omega)
theorem pa_Tb {c : Nat → Int} (bd : ∀ k, -10000 ≤ c k ∧ c k ≤ 10000) : pa_T c 0 ≤ 1200000000 ∧ ((∀ k, c (k + 12) = c k) → 1147483648 ≤ pa_T c 0 → ∀ k, 47483648 ≤ c k * c (k + 1)) := by
  have pb : ∀ k, c k * c (k + 1) ≤ 100000000 := fun k => (pa_mb (n := 10000) (m := 10000) (bd k) (bd (k + 1))).2
  have all : ∀ i, pa_T c i ≤ 1100000000 + c i * c (i + 1) := fun i => by
    have p1 := pb (i + 1)
    have p2 := pb (i + 2)
    have p3 := pb (i + 3)
    have p4 := pb (i + 4)
    have p5 := pb (i + 5)
    have p6 := pb (i + 6)
    have p7 := pb (i + 7)
    have p8 := pb (i + 8)
    have p9 := pb (i + 9)
    have p10 := pb (i + 10)
    have p11 := pb (i + 11)
    simp only [show ∀ a b, i + a + b = i + (a + b) from fun a b => by omega, Nat.reduceAdd] at p1 p2 p3 p4 p5 p6 p7 p8 p9 p10 p11
    unfold pa_T
    omega
  refine ⟨?_, fun per h k => ?_⟩
  · have := all 0
    have := pb 0
    omega
  · have h1 := all k
    rw [pa_T0 per] at h1
    omega
/-- one of the first coordinates is wrong -/
theorem pa_big1 {v : Nat → Int × Int} {a b : Nat → Int} (per : ∀ k, v (k + 12) = v k) (hw : ∀ k, pa_r k (v k) = (a k, b k)) (pera : ∀ k, a (k + 12) = a k) (perb : ∀ k, b (k + 12) = b k) (bda : ∀ k, -10000 ≤ a k ∧ a k ≤ 10000) (bdb : ∀ k, -10000 ≤ b k ∧ b k ≤ 10000) (hN : pa_N v)
    (hS : 2147483648 ≤ pa_T a 0 + pa_T b 0) (i : Nat) (hi : a i * a (i + 1) ≤ 0) : False := by
  have tb := pa_Tb bdb
  have hTa : 947483648 ≤ pa_T a 0 := by omega
  have ex : ∃ e, a e * a (e + 1) ≤ 0 ∧ a (e + 1) * a (e + 2) ≤ 0 ∧ ∀ q, e + 2 ≤ q → q < e + 12 → 0 < a q * a (q + 1) := by
    rcases pa_exc pera bda (by omega) i hi with ⟨h1, h2⟩ | ⟨h1, h2⟩
    · exact ⟨i, hi, h1, h2⟩
    · refine ⟨i + 11, h1, ?_, fun q a1 a2 => ?_⟩
      · rw [show i + 11 + 1 = i + 12 from rfl, show i + 11 + 2 = i + 1 + 12 by omega, pera, pera]; exact hi
      · have := h2 (q - 12) (by omega) (by omega)
        rw [← pera (q - 12), ← pera (q - 12 + 1), show q - 12 + 12 = q by omega, show q - 12 + 1 + 12 = q + 1 by omega] at this
        exact this
  obtain ⟨e, h1, h2, h3⟩ := ex
  obtain ⟨hle, σ, hσ, far, near⟩ := pa_exc2 pera bda hTa e h1 h2 h3
  have pbl := tb.2 perb (by omega)
  have breg := pa_reg (c := b) (fun k => by have := pbl k; omega)
  have bfar : ∀ k, 4700 ≤ (b k).natAbs := fun k => by
    have h4 := pbl k
    have h5 := pa_ab (b := b k) (bdb (k + 1))
    rw [Int.mul_comm] at h5
    omega
  -- the middle is moved
  let s : Int × Int := pa_r (3 * (e + 1)) (-3500 * σ, 0)
  have sb : ∀ k, (-3500 ≤ (pa_r k s).1 ∧ (pa_r k s).1 ≤ 3500) ∧ (-3500 ≤ (pa_r k s).2 ∧ (pa_r k s).2 ≤ 3500) := fun k => pa_rb (pa_rb (p := (-3500 * σ, 0)) (n := 3500) (by show (-3500 ≤ -3500 * σ ∧ -3500 * σ ≤ 3500) ∧ (-3500 ≤ (0 : Int) ∧ (0 : Int) ≤ 3500); omega) _) k
  have se : ∀ k, k % 12 = (e + 1) % 12 → pa_r k s = (-3500 * σ, 0) := fun k hk => by
    show pa_r k (pa_r (3 * (e + 1)) _) = _
    rw [pa_radd, show k + 3 * (e + 1) = 4 * ((k + 3 * (e + 1)) / 4) by omega, pa_r4m]
  refine pa_spiral2 (v := fun k => pa_s (v k) s) (a := fun k => a k - (pa_r k s).1) (b := fun k => b k - (pa_r k s).2) (fun k => by show pa_s (v (k + 12)) s = _; rw [per]) (fun k => by rw [pa_rs, hw]; rfl) ?_ ?_ (fun i j x y z => pa_nms s (hN i j x y z))
  · have key : ∀ k, 0 < σ * (a k - (pa_r k s).1) := fun k => by
      have h6 := sb k
      by_cases hk : k % 12 = (e + 1) % 12
      · have h7 := near k hk
        rw [se k hk]
        show 0 < σ * (a k - -3500 * σ)
        rcases hσ with rfl | rfl <;> omega
      · have h7 := far k hk
        rcases hσ with rfl | rfl <;> omega
    rcases hσ with rfl | rfl
    · left; intro k; have := key k; omega
    · right; intro k; have := key k; omega
  · rcases breg with h | h
    · left; intro k; have := h k; have := bfar k; have := sb k; omega
    · right; intro k; have := h k; have := bfar k; have := sb k; omega
/-- three rounds: no -/
theorem pa_big {v : Nat → Int × Int} (per : ∀ k, v (k + 12) = v k) (bd : ∀ k, (-10000 ≤ (v k).1 ∧ (v k).1 ≤ 10000) ∧ (-10000 ≤ (v k).2 ∧ (v k).2 ≤ 10000)) (hN : pa_N v)
    (hS : 2147483648 ≤ pa_x (v 0) (v 1) + pa_x (v 1) (v 2) + pa_x (v 2) (v 3) + pa_x (v 3) (v 4) + pa_x (v 4) (v 5) + pa_x (v 5) (v 6) + pa_x (v 6) (v 7) + pa_x (v 7) (v 8) + pa_x (v 8) (v 9) + pa_x (v 9) (v 10) + pa_x (v 10) (v 11) + pa_x (v 11) (v 12)) : False := by
  let a : Nat → Int := fun k => (pa_r k (v k)).1
  let b : Nat → Int := fun k => (pa_r k (v k)).2
  have hw : ∀ k, pa_r k (v k) = (a k, b k) := fun k => rfl
  have p12 : ∀ k, pa_r (k + 12) (v (k + 12)) = pa_r k (v k) := fun k => by rw [per, show k + 12 = k + 4 + 4 + 4 from rfl, pa_r4, pa_r4, pa_r4]
  have pera : ∀ k, a (k + 12) = a k := fun k => by show (pa_r (k + 12) (v (k + 12))).1 = _; rw [p12]
  have perb : ∀ k, b (k + 12) = b k := fun k => by show (pa_r (k + 12) (v (k + 12))).2 = _; rw [p12]
  have bda : ∀ k, -10000 ≤ a k ∧ a k ≤ 10000 := fun k => (pa_rb (bd k) k).1
  have bdb : ∀ k, -10000 ≤ b k ∧ b k ≤ 10000 := fun k => (pa_rb (bd k) k).2
  have xe : ∀ k, pa_x (v k) (v (k + 1)) = a k * a (k + 1) + b k * b (k + 1) := fun k => by
    rw [← pa_xr (v k) (v (k + 1)) k, hw, pa_rN (hw (k + 1))]
    unfold pa_x; grind
  have hS : 2147483648 ≤ pa_T a 0 + pa_T b 0 := by
    have x0 := xe 0
    have x1 := xe 1
    have x2 := xe 2
    have x3 := xe 3
    have x4 := xe 4
    have x5 := xe 5
    have x6 := xe 6
    have x7 := xe 7
    have x8 := xe 8
    have x9 := xe 9
    have x10 := xe 10
    have x11 := xe 11
    unfold pa_T
    simp only [Nat.reduceAdd] at *
    omega
  by_cases ha : ∀ k, 0 < a k * a (k + 1)
  · by_cases hb : ∀ k, 0 < b k * b (k + 1)
    · exact pa_spiral2 per hw (pa_reg ha) (pa_reg hb) hN
    · obtain ⟨i, hi⟩ := Classical.not_forall.mp hb
      refine pa_big1 (v := fun k => pa_r 1 (v k)) (a := b) (b := fun k => -a k) (fun k => by show pa_r 1 (v (k + 12)) = _; rw [per]) (fun k => ?_) perb (fun k => by show -a (k + 12) = -a k; rw [pera]) bdb (fun k => by have := bda k; show -10000 ≤ -a k ∧ -a k ≤ 10000; omega) (fun i j x y z => pa_nmr (hN i j x y z) 1) ?_ i (by omega)
      · show pa_r k (pa_r 1 (v k)) = _
        rw [pa_radd, Nat.add_comm, ← pa_radd, hw]; rfl
      · have : pa_T (fun k => -a k) 0 = pa_T a 0 := by unfold pa_T; simp only [Int.neg_mul_neg]
        rw [this]; omega
  · obtain ⟨i, hi⟩ := Classical.not_forall.mp ha
    exact pa_big1 per hw pera perb bda bdb hN hS i (by omega)
