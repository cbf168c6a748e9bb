section STP
variable {s0 : State} {dC : Nat → ClassId} {dI : Nat → Nat → Nat} {cI cS cL : ClassId} {l : Launch}
set_option maxRecDepth 100000 in
set_option maxHeartbeats 4000000 in
theorem step_place {p : Program} {e : Env} {s : State} {m : MethodId} {below : List Frame} {meth : Method} {c : Code} {l : Launch} {b L : Nat} {xs : Nat → Int32} (C0 : lw_At p s m meth c b L xs) (hL : L ≤ 2560) (G : z_G s (dC, dI) cI cS) (hLX : z_LX s cL) {A E : Nat → Nat} {o i : Nat} {th : Int32} {np ns nc nn nm : Nat} {fv : Nat → Nat → Int32} {so sf st : Nat → Int32} {sn sc : Nat → Nat} {sp : Nat → Option Nat} {sx sy gv : Nat → Nat → Int32} {f : Nat → Int64} {H : Heap} {locs : List Loc} {cells slots : Nat} {Q : State → Prop} (hi : i + 5 ≤ L) (hAp : z_Ap s A ns E o) (hLS : z_LS s (dC, dI) cI cS cL A E o th np ns nc nn nm fv so sf st sn sc sp sx sy gv f H) (hS : va_S (fun q => s.heap.size ≤ q) s.heap H locs) (hcell : cells + 3 ≤ room_1.cells ∧ slots + 33 ≤ room_1.slots) (hGI : z_GI s cI) (hT : z_T s l) (hCp : z_Cp np ns nn nm fv so sf st sn sc sp sx sy gv) (hnc : nc < 9999) (cont : ∀ (A' : Nat → Nat) (th' : Int32) (np' ns' nc' nn' nm' : Nat) (fv' : Nat → Nat → Int32) (so' sf' st' : Nat → Int32) (sn' sc' : Nat → Nat) (sp' : Nat → Option Nat) (sx' sy' gv' : Nat → Nat → Int32) (f' : Nat → Int64) (H1 : Heap) (locs1 : List Loc) (cells1 slots1 : Nat), cells1 ≤ cells + 3 → slots1 ≤ slots + 33 → z_LS s (dC, dI) cI cS cL A' E o th' np' ns' nc' nn' nm' fv' so' sf' st' sn' sc' sp' sx' sy' gv' f' H1 → z_Ap s A' ns' E o → z_Cp np' ns' nn' nm' fv' so' sf' st' sn' sc' sp' sx' sy' gv' → nc' ≤ nc + 1 → A' 0 = A 0 → va_S (fun q => s.heap.size ≤ q) s.heap H1 locs1 → ∀ ls : Array Slot, lv_has ls 7 [(0, .ref b), (1, .ref (A 0)), (2, .ref (E 0)), (3, .ref o), (4, .int (nI i))] → W p l e room_1 s m #[Value.ref b] below meth c H1 locs1 cells1 slots1 Q (F0 m 1342 ls [])) : ∀ ls : Array Slot, lv_has ls 7 [(0, .ref b), (1, .ref (A 0)), (2, .ref (E 0)), (3, .ref o), (4, .int (nI i))] → W p l e room_1 s m #[Value.ref b] below meth c H locs cells slots Q (F0 m 116 ls []) := by
  intro ls hl
  have hb : z_Sb ns nc sn sc sp := hLS.1.1.2.2.2
  obtain ⟨hnp, hns, hnn, hnm, hnc30⟩ := hLS.1.1.2.2.1
  by_cases h1 : (xs (i + 1)) = -1
  · skip
    have g1 : (decide ((xs (i + 1)) = -1) || pm_idx np (xs (i + 1))) = true := by rw [h1]; rfl
    by_cases h2 : np < 16
    · skip
      have hM := c_B_place_n (l := l) G H.size A np ns nc nn nm fv so sf st sn sc sp sx sy h2
      rw [← h1] at hM
      have hm := fun sz => c_M_place_ok (l := l) G E th np ns nc nn nm gv sz (xs (i + 1)) h2 (z_gT g1 (decide_eq_true h2) rfl)
      have cp := hCp.place (xs (i + 1))
      exact go_place C0 hL G hLX hi hAp hLS hS hcell hM ⟨rfl, rfl, by decide, by decide⟩ hm ⟨rfl, rfl, by decide, by decide⟩ (fun q h => h.elim (fun e => ⟨0, by omega, e⟩) (fun e => ⟨4, by omega, e⟩)) (fun k hk => Or.inl ⟨k, hk, rfl⟩) rfl ⟨Nat.zero_le _, Nat.zero_le _⟩ (fun H1 l1 c1 s1 h1 h2 h3 hS1 ls hl => cont _ _ _ _ _ _ _ _ _ _ _ _ _ _ _ _ _ _ H1 l1 c1 s1 h1 h2 h3 hAp cp (by omega) rfl hS1 ls hl) ls hl
    · skip
      have g2 : decide (np < 16) = false := decide_eq_false h2
      have hM := t_B_place_2 (l := l) G hT A np ns nc nn nm fv so sf st sn sc sp sx sy (by omega)
      rw [← h1] at hM
      have hm := fun sz => c_M_place_no (l := l) G E th np ns nc nn nm gv sz (xs (i + 1)) (z_g2 g2)
      simp only [z_th2 g1 g2] at hm
      exact go_place_t2 C0 hL G hLX hi hAp hLS hS hcell hM ⟨rfl, rfl, by decide, by decide⟩ hm ⟨rfl, rfl, by decide, by decide⟩ (fun H1 l1 c1 s1 h1 h2 h3 hS1 ls hl => cont A _ np ns nc nn nm fv so sf st sn sc sp sx sy gv _ H1 l1 c1 s1 h1 h2 h3 hAp hCp (by omega) rfl hS1 ls hl) ls hl
  · skip
    rcases pk_ix (xs (i + 1)) (n := np) (by omega) with h3 | h3 | ⟨k, hk, h3⟩
    · have h3 : (xs (i + 1)) < 0 ∨ nI np ≤ (xs (i + 1)) := Or.inl h3
      have h3F := z_ixF h3
      have g1 : (decide ((xs (i + 1)) = -1) || pm_idx np (xs (i + 1))) = false := by rw [h3F, decide_eq_false h1]; rfl
      have hM := t_B_place_1 (l := l) G hT A np ns nc nn nm fv so sf st sn sc sp sx sy (xs (i + 1)) h3 h1
      have hm := fun sz => c_M_place_no (l := l) G E th np ns nc nn nm gv sz (xs (i + 1)) (z_g1 g1)
      simp only [z_th1 g1] at hm
      exact go_place_t1 C0 hL G hLX hi hAp hLS hS hcell hM ⟨rfl, rfl, by decide, by decide⟩ hm ⟨rfl, rfl, by decide, by decide⟩ (fun H1 l1 c1 s1 h1 h2 h3 hS1 ls hl => cont A _ np ns nc nn nm fv so sf st sn sc sp sx sy gv _ H1 l1 c1 s1 h1 h2 h3 hAp hCp (by omega) rfl hS1 ls hl) ls hl
    · have h3 : (xs (i + 1)) < 0 ∨ nI np ≤ (xs (i + 1)) := Or.inr h3
      have h3F := z_ixF h3
      have g1 : (decide ((xs (i + 1)) = -1) || pm_idx np (xs (i + 1))) = false := by rw [h3F, decide_eq_false h1]; rfl
      have hM := t_B_place_1 (l := l) G hT A np ns nc nn nm fv so sf st sn sc sp sx sy (xs (i + 1)) h3 h1
      have hm := fun sz => c_M_place_no (l := l) G E th np ns nc nn nm gv sz (xs (i + 1)) (z_g1 g1)
      simp only [z_th1 g1] at hm
      exact go_place_t1 C0 hL G hLX hi hAp hLS hS hcell hM ⟨rfl, rfl, by decide, by decide⟩ hm ⟨rfl, rfl, by decide, by decide⟩ (fun H1 l1 c1 s1 h1 h2 h3 hS1 ls hl => cont A _ np ns nc nn nm fv so sf st sn sc sp sx sy gv _ H1 l1 c1 s1 h1 h2 h3 hAp hCp (by omega) rfl hS1 ls hl) ls hl
    · have h3T : pm_idx np (xs (i + 1)) = true := by rw [h3]; exact pm_idx_ok hk (by omega)
      have g1 : (decide ((xs (i + 1)) = -1) || pm_idx np (xs (i + 1))) = true := by rw [h3T, Bool.or_true]
      by_cases h2 : np < 16
      · skip
        have hM := c_B_place_k (l := l) G H.size A np ns nc nn nm fv so sf st sn sc sp sx sy k hk h2
        rw [← h3] at hM
        have hm := fun sz => c_M_place_ok (l := l) G E th np ns nc nn nm gv sz (xs (i + 1)) h2 (z_gT g1 (decide_eq_true h2) rfl)
        have cp := hCp.place (xs (i + 1))
        exact go_place C0 hL G hLX hi hAp hLS hS hcell hM ⟨rfl, rfl, by decide, by decide⟩ hm ⟨rfl, rfl, by decide, by decide⟩ (fun q h => h.elim (fun e => ⟨0, by omega, e⟩) (fun e => ⟨4, by omega, e⟩)) (fun k hk => Or.inl ⟨k, hk, rfl⟩) rfl ⟨Nat.zero_le _, Nat.zero_le _⟩ (fun H1 l1 c1 s1 h1 h2 h3 hS1 ls hl => cont _ _ _ _ _ _ _ _ _ _ _ _ _ _ _ _ _ _ H1 l1 c1 s1 h1 h2 h3 hAp cp (by omega) rfl hS1 ls hl) ls hl
      · skip
        have g2 : decide (np < 16) = false := decide_eq_false h2
        have hM := t_B_place_3 (l := l) G hT A np ns nc nn nm fv so sf st sn sc sp sx sy k hk (by omega)
        rw [← h3] at hM
        have hm := fun sz => c_M_place_no (l := l) G E th np ns nc nn nm gv sz (xs (i + 1)) (z_g2 g2)
        simp only [z_th2 g1 g2] at hm
        exact go_place_t2 C0 hL G hLX hi hAp hLS hS hcell hM ⟨rfl, rfl, by decide, by decide⟩ hm ⟨rfl, rfl, by decide, by decide⟩ (fun H1 l1 c1 s1 h1 h2 h3 hS1 ls hl => cont A _ np ns nc nn nm fv so sf st sn sc sp sx sy gv _ H1 l1 c1 s1 h1 h2 h3 hAp hCp (by omega) rfl hS1 ls hl) ls hl
set_option maxRecDepth 100000 in
set_option maxHeartbeats 4000000 in
theorem step_shape {p : Program} {e : Env} {s : State} {m : MethodId} {below : List Frame} {meth : Method} {c : Code} {l : Launch} {b L : Nat} {xs : Nat → Int32} (C0 : lw_At p s m meth c b L xs) (hL : L ≤ 2560) (G : z_G s (dC, dI) cI cS) (hLX : z_LX s cL) {A E : Nat → Nat} {o i : Nat} {th : Int32} {np ns nc nn nm : Nat} {fv : Nat → Nat → Int32} {so sf st : Nat → Int32} {sn sc : Nat → Nat} {sp : Nat → Option Nat} {sx sy gv : Nat → Nat → Int32} {f : Nat → Int64} {H : Heap} {locs : List Loc} {cells slots : Nat} {Q : State → Prop} (hi : i + 5 ≤ L) (hAp : z_Ap s A ns E o) (hLS : z_LS s (dC, dI) cI cS cL A E o th np ns nc nn nm fv so sf st sn sc sp sx sy gv f H) (hS : va_S (fun q => s.heap.size ≤ q) s.heap H locs) (hcell : cells + 3 ≤ room_1.cells ∧ slots + 33 ≤ room_1.slots) (hGI : z_GI s cI) (hT : z_T s l) (hCp : z_Cp np ns nn nm fv so sf st sn sc sp sx sy gv) (hnc : nc < 9999) (cont : ∀ (A' : Nat → Nat) (th' : Int32) (np' ns' nc' nn' nm' : Nat) (fv' : Nat → Nat → Int32) (so' sf' st' : Nat → Int32) (sn' sc' : Nat → Nat) (sp' : Nat → Option Nat) (sx' sy' gv' : Nat → Nat → Int32) (f' : Nat → Int64) (H1 : Heap) (locs1 : List Loc) (cells1 slots1 : Nat), cells1 ≤ cells + 3 → slots1 ≤ slots + 33 → z_LS s (dC, dI) cI cS cL A' E o th' np' ns' nc' nn' nm' fv' so' sf' st' sn' sc' sp' sx' sy' gv' f' H1 → z_Ap s A' ns' E o → z_Cp np' ns' nn' nm' fv' so' sf' st' sn' sc' sp' sx' sy' gv' → nc' ≤ nc + 1 → A' 0 = A 0 → va_S (fun q => s.heap.size ≤ q) s.heap H1 locs1 → ∀ ls : Array Slot, lv_has ls 7 [(0, .ref b), (1, .ref (A 0)), (2, .ref (E 0)), (3, .ref o), (4, .int (nI i))] → W p l e room_1 s m #[Value.ref b] below meth c H1 locs1 cells1 slots1 Q (F0 m 1342 ls [])) : ∀ ls : Array Slot, lv_has ls 7 [(0, .ref b), (1, .ref (A 0)), (2, .ref (E 0)), (3, .ref o), (4, .int (nI i))] → W p l e room_1 s m #[Value.ref b] below meth c H locs cells slots Q (F0 m 172 ls []) := by
  intro ls hl
  have hb : z_Sb ns nc sn sc sp := hLS.1.1.2.2.2
  obtain ⟨hnp, hns, hnn, hnm, hnc30⟩ := hLS.1.1.2.2.1
  rcases pk_ix (xs (i + 1)) (n := np) (by omega) with h3 | h3 | ⟨k, hk, h3⟩
  · have h3 : (xs (i + 1)) < 0 ∨ nI np ≤ (xs (i + 1)) := Or.inl h3
    have h3F := z_ixF h3
    have hM := t_B_shape_1 (l := l) G hT A np ns nc nn nm fv so sf st sn sc sp sx sy (xs (i + 1)) h3 (xs (i + 2)) (xs (i + 3))
    have hm := fun sz => c_M_shape_no (l := l) G E th np ns nc nn nm gv sz (xs (i + 1)) (xs (i + 2)) (xs (i + 3)) (z_g1 h3F)
    simp only [z_th1 h3F] at hm
    exact go_shape_t1 C0 hL G hLX hi hAp hLS hS hcell hM ⟨rfl, rfl, by decide, by decide⟩ hm ⟨rfl, rfl, by decide, by decide⟩ (fun H1 l1 c1 s1 h1 h2 h3 hS1 ls hl => cont A _ np ns nc nn nm fv so sf st sn sc sp sx sy gv _ H1 l1 c1 s1 h1 h2 h3 hAp hCp (by omega) rfl hS1 ls hl) ls hl
  · have h3 : (xs (i + 1)) < 0 ∨ nI np ≤ (xs (i + 1)) := Or.inr h3
    have h3F := z_ixF h3
    have hM := t_B_shape_1 (l := l) G hT A np ns nc nn nm fv so sf st sn sc sp sx sy (xs (i + 1)) h3 (xs (i + 2)) (xs (i + 3))
    have hm := fun sz => c_M_shape_no (l := l) G E th np ns nc nn nm gv sz (xs (i + 1)) (xs (i + 2)) (xs (i + 3)) (z_g1 h3F)
    simp only [z_th1 h3F] at hm
    exact go_shape_t1 C0 hL G hLX hi hAp hLS hS hcell hM ⟨rfl, rfl, by decide, by decide⟩ hm ⟨rfl, rfl, by decide, by decide⟩ (fun H1 l1 c1 s1 h1 h2 h3 hS1 ls hl => cont A _ np ns nc nn nm fv so sf st sn sc sp sx sy gv _ H1 l1 c1 s1 h1 h2 h3 hAp hCp (by omega) rfl hS1 ls hl) ls hl
  · have h3T : pm_idx np (xs (i + 1)) = true := by rw [h3]; exact pm_idx_ok hk (by omega)
    by_cases hd1 : z_day (xs (i + 2))
    · skip
      have hd1T := z_dyT hd1
      by_cases hd2 : z_day (xs (i + 3))
      · skip
        have hd2T := z_dyT hd2
        by_cases hle : (xs (i + 2)) ≤ (xs (i + 3))
        · skip
          have g2 : (pm_day (xs (i + 2)) && (pm_day (xs (i + 3)) && decide ((xs (i + 2)) ≤ (xs (i + 3))))) = true := by rw [hd1T, hd2T, decide_eq_true hle]; rfl
          by_cases h5 : ns < 32
          · skip
            have hM := c_B_shape (l := l) G hGI H.size A np ns nc nn nm fv so sf st sn sc sp sx sy k hk (xs (i + 2)) (xs (i + 3)) hd1 hd2 hle h5
            rw [← h3] at hM
            have hm := fun sz => c_M_shape_ok (l := l) G E th np ns nc nn nm gv sz (xs (i + 1)) (xs (i + 2)) (xs (i + 3)) h5 (z_gT h3T g2 (decide_eq_true h5))
            have cp := hCp.shape hb h5 (xs (i + 1)) (xs (i + 2)) (xs (i + 3))
            exact go_shape C0 hL G hLX hi hAp hLS hS hcell hM ⟨rfl, rfl, by decide, by decide⟩ hm ⟨rfl, rfl, by decide, by decide⟩ (fun q h => h.elim (fun e => ⟨0, by omega, e⟩) (fun e => ⟨3, by omega, e⟩)) z_anA (if_pos (by omega)) ⟨by decide, by decide⟩ (fun H1 l1 c1 s1 h1 h2 h3 hS1 ls hl => cont _ _ _ _ _ _ _ _ _ _ _ _ _ _ _ _ _ _ H1 l1 c1 s1 h1 h2 h3 (hAp.new hLS.2.1.1 (fun j hj => hLS.2.2.lt hj) hLS.1.2.lt) cp (by omega) (if_pos (by omega)) hS1 ls hl) ls hl
          · skip
            have g3 : decide (ns < 32) = false := decide_eq_false h5
            have hM := t_B_shape_5 (l := l) G hT A np ns nc nn nm fv so sf st sn sc sp sx sy k hk (xs (i + 2)) (xs (i + 3)) hd1 hd2 hle (by omega)
            rw [← h3] at hM
            have hm := fun sz => c_M_shape_no (l := l) G E th np ns nc nn nm gv sz (xs (i + 1)) (xs (i + 2)) (xs (i + 3)) (z_g3F g3)
            simp only [z_th3 h3T g2 g3] at hm
            exact go_shape_t3 C0 hL G hLX hi hAp hLS hS hcell hM ⟨rfl, rfl, by decide, by decide⟩ hm ⟨rfl, rfl, by decide, by decide⟩ (fun H1 l1 c1 s1 h1 h2 h3 hS1 ls hl => cont A _ np ns nc nn nm fv so sf st sn sc sp sx sy gv _ H1 l1 c1 s1 h1 h2 h3 hAp hCp (by omega) rfl hS1 ls hl) ls hl
        · skip
          have g2 : (pm_day (xs (i + 2)) && (pm_day (xs (i + 3)) && decide ((xs (i + 2)) ≤ (xs (i + 3))))) = false := by rw [hd1T, hd2T, decide_eq_false hle]; rfl
          have hM := t_B_shape_4 (l := l) G hT A np ns nc nn nm fv so sf st sn sc sp sx sy k hk (xs (i + 2)) (xs (i + 3)) hd1 hd2 hle
          rw [← h3] at hM
          have hm := fun sz => c_M_shape_no (l := l) G E th np ns nc nn nm gv sz (xs (i + 1)) (xs (i + 2)) (xs (i + 3)) (z_g2 g2)
          simp only [z_th2 h3T g2] at hm
          exact go_shape_t2 C0 hL G hLX hi hAp hLS hS hcell hM ⟨rfl, rfl, by decide, by decide⟩ hm ⟨rfl, rfl, by decide, by decide⟩ (fun H1 l1 c1 s1 h1 h2 h3 hS1 ls hl => cont A _ np ns nc nn nm fv so sf st sn sc sp sx sy gv _ H1 l1 c1 s1 h1 h2 h3 hAp hCp (by omega) rfl hS1 ls hl) ls hl
      · skip
        have hd2F := z_dyF hd2
        have g2 : (pm_day (xs (i + 2)) && (pm_day (xs (i + 3)) && decide ((xs (i + 2)) ≤ (xs (i + 3))))) = false := by rw [hd1T, hd2F]; rfl
        have hM := t_B_shape_3 (l := l) G hT A np ns nc nn nm fv so sf st sn sc sp sx sy k hk (xs (i + 2)) (xs (i + 3)) hd1 hd2
        rw [← h3] at hM
        have hm := fun sz => c_M_shape_no (l := l) G E th np ns nc nn nm gv sz (xs (i + 1)) (xs (i + 2)) (xs (i + 3)) (z_g2 g2)
        simp only [z_th2 h3T g2] at hm
        exact go_shape_t2 C0 hL G hLX hi hAp hLS hS hcell hM ⟨rfl, rfl, by decide, by decide⟩ hm ⟨rfl, rfl, by decide, by decide⟩ (fun H1 l1 c1 s1 h1 h2 h3 hS1 ls hl => cont A _ np ns nc nn nm fv so sf st sn sc sp sx sy gv _ H1 l1 c1 s1 h1 h2 h3 hAp hCp (by omega) rfl hS1 ls hl) ls hl
    · skip
      have hd1F := z_dyF hd1
      have g2 : (pm_day (xs (i + 2)) && (pm_day (xs (i + 3)) && decide ((xs (i + 2)) ≤ (xs (i + 3))))) = false := by rw [hd1F]; rfl
      have hM := t_B_shape_2 (l := l) G hT A np ns nc nn nm fv so sf st sn sc sp sx sy k hk (xs (i + 2)) (xs (i + 3)) hd1
      rw [← h3] at hM
      have hm := fun sz => c_M_shape_no (l := l) G E th np ns nc nn nm gv sz (xs (i + 1)) (xs (i + 2)) (xs (i + 3)) (z_g2 g2)
      simp only [z_th2 h3T g2] at hm
      exact go_shape_t2 C0 hL G hLX hi hAp hLS hS hcell hM ⟨rfl, rfl, by decide, by decide⟩ hm ⟨rfl, rfl, by decide, by decide⟩ (fun H1 l1 c1 s1 h1 h2 h3 hS1 ls hl => cont A _ np ns nc nn nm fv so sf st sn sc sp sx sy gv _ H1 l1 c1 s1 h1 h2 h3 hAp hCp (by omega) rfl hS1 ls hl) ls hl
set_option maxRecDepth 100000 in
set_option maxHeartbeats 4000000 in
theorem step_name {p : Program} {e : Env} {s : State} {m : MethodId} {below : List Frame} {meth : Method} {c : Code} {l : Launch} {b L : Nat} {xs : Nat → Int32} (C0 : lw_At p s m meth c b L xs) (hL : L ≤ 2560) (G : z_G s (dC, dI) cI cS) (hLX : z_LX s cL) {A E : Nat → Nat} {o i : Nat} {th : Int32} {np ns nc nn nm : Nat} {fv : Nat → Nat → Int32} {so sf st : Nat → Int32} {sn sc : Nat → Nat} {sp : Nat → Option Nat} {sx sy gv : Nat → Nat → Int32} {f : Nat → Int64} {H : Heap} {locs : List Loc} {cells slots : Nat} {Q : State → Prop} (hi : i + 5 ≤ L) (hAp : z_Ap s A ns E o) (hLS : z_LS s (dC, dI) cI cS cL A E o th np ns nc nn nm fv so sf st sn sc sp sx sy gv f H) (hS : va_S (fun q => s.heap.size ≤ q) s.heap H locs) (hcell : cells + 3 ≤ room_1.cells ∧ slots + 33 ≤ room_1.slots) (hGI : z_GI s cI) (hT : z_T s l) (hCp : z_Cp np ns nn nm fv so sf st sn sc sp sx sy gv) (hnc : nc < 9999) (cont : ∀ (A' : Nat → Nat) (th' : Int32) (np' ns' nc' nn' nm' : Nat) (fv' : Nat → Nat → Int32) (so' sf' st' : Nat → Int32) (sn' sc' : Nat → Nat) (sp' : Nat → Option Nat) (sx' sy' gv' : Nat → Nat → Int32) (f' : Nat → Int64) (H1 : Heap) (locs1 : List Loc) (cells1 slots1 : Nat), cells1 ≤ cells + 3 → slots1 ≤ slots + 33 → z_LS s (dC, dI) cI cS cL A' E o th' np' ns' nc' nn' nm' fv' so' sf' st' sn' sc' sp' sx' sy' gv' f' H1 → z_Ap s A' ns' E o → z_Cp np' ns' nn' nm' fv' so' sf' st' sn' sc' sp' sx' sy' gv' → nc' ≤ nc + 1 → A' 0 = A 0 → va_S (fun q => s.heap.size ≤ q) s.heap H1 locs1 → ∀ ls : Array Slot, lv_has ls 7 [(0, .ref b), (1, .ref (A 0)), (2, .ref (E 0)), (3, .ref o), (4, .int (nI i))] → W p l e room_1 s m #[Value.ref b] below meth c H1 locs1 cells1 slots1 Q (F0 m 1342 ls [])) : ∀ ls : Array Slot, lv_has ls 7 [(0, .ref b), (1, .ref (A 0)), (2, .ref (E 0)), (3, .ref o), (4, .int (nI i))] → W p l e room_1 s m #[Value.ref b] below meth c H locs cells slots Q (F0 m 938 ls []) := by
  intro ls hl
  have hb : z_Sb ns nc sn sc sp := hLS.1.1.2.2.2
  obtain ⟨hnp, hns, hnn, hnm, hnc30⟩ := hLS.1.1.2.2.1
  rcases pk_ix (xs (i + 1)) (n := np) (by omega) with h3 | h3 | ⟨k, hk, h3⟩
  · have h3 : (xs (i + 1)) < 0 ∨ nI np ≤ (xs (i + 1)) := Or.inl h3
    have h3F := z_ixF h3
    have hM := t_B_name_1 (l := l) G hT A np ns nc nn nm fv so sf st sn sc sp sx sy (xs (i + 1)) h3 (xs (i + 2)) (xs (i + 3)) (xs (i + 4))
    have hm := fun sz => c_M_name_no (l := l) G E th np ns nc nn nm gv sz (xs (i + 1)) (xs (i + 2)) (xs (i + 3)) (xs (i + 4)) (z_g1 h3F)
    simp only [z_th1 h3F] at hm
    exact go_name_t1 C0 hL G hLX hi hAp hLS hS hcell hM ⟨rfl, rfl, by decide, by decide⟩ hm ⟨rfl, rfl, by decide, by decide⟩ (fun H1 l1 c1 s1 h1 h2 h3 hS1 ls hl => cont A _ np ns nc nn nm fv so sf st sn sc sp sx sy gv _ H1 l1 c1 s1 h1 h2 h3 hAp hCp (by omega) rfl hS1 ls hl) ls hl
  · have h3 : (xs (i + 1)) < 0 ∨ nI np ≤ (xs (i + 1)) := Or.inr h3
    have h3F := z_ixF h3
    have hM := t_B_name_1 (l := l) G hT A np ns nc nn nm fv so sf st sn sc sp sx sy (xs (i + 1)) h3 (xs (i + 2)) (xs (i + 3)) (xs (i + 4))
    have hm := fun sz => c_M_name_no (l := l) G E th np ns nc nn nm gv sz (xs (i + 1)) (xs (i + 2)) (xs (i + 3)) (xs (i + 4)) (z_g1 h3F)
    simp only [z_th1 h3F] at hm
    exact go_name_t1 C0 hL G hLX hi hAp hLS hS hcell hM ⟨rfl, rfl, by decide, by decide⟩ hm ⟨rfl, rfl, by decide, by decide⟩ (fun H1 l1 c1 s1 h1 h2 h3 hS1 ls hl => cont A _ np ns nc nn nm fv so sf st sn sc sp sx sy gv _ H1 l1 c1 s1 h1 h2 h3 hAp hCp (by omega) rfl hS1 ls hl) ls hl
  · have h3T : pm_idx np (xs (i + 1)) = true := by rw [h3]; exact pm_idx_ok hk (by omega)
    by_cases hd1 : z_day (xs (i + 3))
    · skip
      have hd1T := z_dyT hd1
      by_cases hd2 : z_day (xs (i + 4))
      · skip
        have hd2T := z_dyT hd2
        by_cases hle : (xs (i + 3)) ≤ (xs (i + 4))
        · skip
          by_cases h6 : 0 ≤ (xs (i + 2))
          · skip
            have g2 : (pm_day (xs (i + 3)) && (pm_day (xs (i + 4)) && (decide ((xs (i + 3)) ≤ (xs (i + 4))) && decide (0 ≤ (xs (i + 2)))))) = true := by rw [hd1T, hd2T, decide_eq_true hle, decide_eq_true h6]; rfl
            by_cases h5 : nn < 40
            · skip
              have hM := c_B_name (l := l) G H.size A np ns nc nn nm fv so sf st sn sc sp sx sy k hk (xs (i + 2)) (xs (i + 3)) (xs (i + 4)) hd1 hd2 hle h6 h5
              rw [← h3] at hM
              have hm := fun sz => c_M_name_ok (l := l) G E th np ns nc nn nm gv sz (xs (i + 1)) (xs (i + 2)) (xs (i + 3)) (xs (i + 4)) h5 (z_gT h3T g2 (decide_eq_true h5))
              have cp := hCp.name (xs (i + 1)) (xs (i + 2)) (xs (i + 3)) (xs (i + 4))
              exact go_name C0 hL G hLX hi hAp hLS hS hcell hM ⟨rfl, rfl, by decide, by decide⟩ hm ⟨rfl, rfl, by decide, by decide⟩ (fun q h => h) (fun k hk => Or.inl ⟨k, hk, rfl⟩) rfl ⟨Nat.zero_le _, Nat.zero_le _⟩ (fun H1 l1 c1 s1 h1 h2 h3 hS1 ls hl => cont _ _ _ _ _ _ _ _ _ _ _ _ _ _ _ _ _ _ H1 l1 c1 s1 h1 h2 h3 hAp cp (by omega) rfl hS1 ls hl) ls hl
            · skip
              have g3 : decide (nn < 40) = false := decide_eq_false h5
              have hM := t_B_name_6 (l := l) G hT A np ns nc nn nm fv so sf st sn sc sp sx sy k hk (xs (i + 2)) (xs (i + 3)) (xs (i + 4)) hd1 hd2 hle h6 (by omega)
              rw [← h3] at hM
              have hm := fun sz => c_M_name_no (l := l) G E th np ns nc nn nm gv sz (xs (i + 1)) (xs (i + 2)) (xs (i + 3)) (xs (i + 4)) (z_g3F g3)
              simp only [z_th3 h3T g2 g3] at hm
              exact go_name_t3 C0 hL G hLX hi hAp hLS hS hcell hM ⟨rfl, rfl, by decide, by decide⟩ hm ⟨rfl, rfl, by decide, by decide⟩ (fun H1 l1 c1 s1 h1 h2 h3 hS1 ls hl => cont A _ np ns nc nn nm fv so sf st sn sc sp sx sy gv _ H1 l1 c1 s1 h1 h2 h3 hAp hCp (by omega) rfl hS1 ls hl) ls hl
          · skip
            have g2 : (pm_day (xs (i + 3)) && (pm_day (xs (i + 4)) && (decide ((xs (i + 3)) ≤ (xs (i + 4))) && decide (0 ≤ (xs (i + 2)))))) = false := by rw [hd1T, hd2T, decide_eq_true hle, decide_eq_false h6]; rfl
            have hM := t_B_name_5 (l := l) G hT A np ns nc nn nm fv so sf st sn sc sp sx sy k hk (xs (i + 2)) (xs (i + 3)) (xs (i + 4)) hd1 hd2 hle h6
            rw [← h3] at hM
            have hm := fun sz => c_M_name_no (l := l) G E th np ns nc nn nm gv sz (xs (i + 1)) (xs (i + 2)) (xs (i + 3)) (xs (i + 4)) (z_g2 g2)
            simp only [z_th2 h3T g2] at hm
            exact go_name_t2 C0 hL G hLX hi hAp hLS hS hcell hM ⟨rfl, rfl, by decide, by decide⟩ hm ⟨rfl, rfl, by decide, by decide⟩ (fun H1 l1 c1 s1 h1 h2 h3 hS1 ls hl => cont A _ np ns nc nn nm fv so sf st sn sc sp sx sy gv _ H1 l1 c1 s1 h1 h2 h3 hAp hCp (by omega) rfl hS1 ls hl) ls hl
        · skip
          have g2 : (pm_day (xs (i + 3)) && (pm_day (xs (i + 4)) && (decide ((xs (i + 3)) ≤ (xs (i + 4))) && decide (0 ≤ (xs (i + 2)))))) = false := by rw [hd1T, hd2T, decide_eq_false hle]; rfl
          have hM := t_B_name_4 (l := l) G hT A np ns nc nn nm fv so sf st sn sc sp sx sy k hk (xs (i + 2)) (xs (i + 3)) (xs (i + 4)) hd1 hd2 hle
          rw [← h3] at hM
          have hm := fun sz => c_M_name_no (l := l) G E th np ns nc nn nm gv sz (xs (i + 1)) (xs (i + 2)) (xs (i + 3)) (xs (i + 4)) (z_g2 g2)
          simp only [z_th2 h3T g2] at hm
          exact go_name_t2 C0 hL G hLX hi hAp hLS hS hcell hM ⟨rfl, rfl, by decide, by decide⟩ hm ⟨rfl, rfl, by decide, by decide⟩ (fun H1 l1 c1 s1 h1 h2 h3 hS1 ls hl => cont A _ np ns nc nn nm fv so sf st sn sc sp sx sy gv _ H1 l1 c1 s1 h1 h2 h3 hAp hCp (by omega) rfl hS1 ls hl) ls hl
      · skip
        have hd2F := z_dyF hd2
        have g2 : (pm_day (xs (i + 3)) && (pm_day (xs (i + 4)) && (decide ((xs (i + 3)) ≤ (xs (i + 4))) && decide (0 ≤ (xs (i + 2)))))) = false := by rw [hd1T, hd2F]; rfl
        have hM := t_B_name_3 (l := l) G hT A np ns nc nn nm fv so sf st sn sc sp sx sy k hk (xs (i + 2)) (xs (i + 3)) (xs (i + 4)) hd1 hd2
        rw [← h3] at hM
        have hm := fun sz => c_M_name_no (l := l) G E th np ns nc nn nm gv sz (xs (i + 1)) (xs (i + 2)) (xs (i + 3)) (xs (i + 4)) (z_g2 g2)
        simp only [z_th2 h3T g2] at hm
        exact go_name_t2 C0 hL G hLX hi hAp hLS hS hcell hM ⟨rfl, rfl, by decide, by decide⟩ hm ⟨rfl, rfl, by decide, by decide⟩ (fun H1 l1 c1 s1 h1 h2 h3 hS1 ls hl => cont A _ np ns nc nn nm fv so sf st sn sc sp sx sy gv _ H1 l1 c1 s1 h1 h2 h3 hAp hCp (by omega) rfl hS1 ls hl) ls hl
    · skip
      have hd1F := z_dyF hd1
      have g2 : (pm_day (xs (i + 3)) && (pm_day (xs (i + 4)) && (decide ((xs (i + 3)) ≤ (xs (i + 4))) && decide (0 ≤ (xs (i + 2)))))) = false := by rw [hd1F]; rfl
      have hM := t_B_name_2 (l := l) G hT A np ns nc nn nm fv so sf st sn sc sp sx sy k hk (xs (i + 2)) (xs (i + 3)) (xs (i + 4)) hd1
      rw [← h3] at hM
      have hm := fun sz => c_M_name_no (l := l) G E th np ns nc nn nm gv sz (xs (i + 1)) (xs (i + 2)) (xs (i + 3)) (xs (i + 4)) (z_g2 g2)
      simp only [z_th2 h3T g2] at hm
      exact go_name_t2 C0 hL G hLX hi hAp hLS hS hcell hM ⟨rfl, rfl, by decide, by decide⟩ hm ⟨rfl, rfl, by decide, by decide⟩ (fun H1 l1 c1 s1 h1 h2 h3 hS1 ls hl => cont A _ np ns nc nn nm fv so sf st sn sc sp sx sy gv _ H1 l1 c1 s1 h1 h2 h3 hAp hCp (by omega) rfl hS1 ls hl) ls hl
set_option maxRecDepth 100000 in
set_option maxHeartbeats 4000000 in
theorem step_corner {p : Program} {e : Env} {s : State} {m : MethodId} {below : List Frame} {meth : Method} {c : Code} {l : Launch} {b L : Nat} {xs : Nat → Int32} (C0 : lw_At p s m meth c b L xs) (hL : L ≤ 2560) (G : z_G s (dC, dI) cI cS) (hLX : z_LX s cL) {A E : Nat → Nat} {o i : Nat} {th : Int32} {np ns nc nn nm : Nat} {fv : Nat → Nat → Int32} {so sf st : Nat → Int32} {sn sc : Nat → Nat} {sp : Nat → Option Nat} {sx sy gv : Nat → Nat → Int32} {f : Nat → Int64} {H : Heap} {locs : List Loc} {cells slots : Nat} {Q : State → Prop} (hi : i + 5 ≤ L) (hAp : z_Ap s A ns E o) (hLS : z_LS s (dC, dI) cI cS cL A E o th np ns nc nn nm fv so sf st sn sc sp sx sy gv f H) (hS : va_S (fun q => s.heap.size ≤ q) s.heap H locs) (hcell : cells + 3 ≤ room_1.cells ∧ slots + 33 ≤ room_1.slots) (hGI : z_GI s cI) (hT : z_T s l) (hCp : z_Cp np ns nn nm fv so sf st sn sc sp sx sy gv) (hnc : nc < 9999) (cont : ∀ (A' : Nat → Nat) (th' : Int32) (np' ns' nc' nn' nm' : Nat) (fv' : Nat → Nat → Int32) (so' sf' st' : Nat → Int32) (sn' sc' : Nat → Nat) (sp' : Nat → Option Nat) (sx' sy' gv' : Nat → Nat → Int32) (f' : Nat → Int64) (H1 : Heap) (locs1 : List Loc) (cells1 slots1 : Nat), cells1 ≤ cells + 3 → slots1 ≤ slots + 33 → z_LS s (dC, dI) cI cS cL A' E o th' np' ns' nc' nn' nm' fv' so' sf' st' sn' sc' sp' sx' sy' gv' f' H1 → z_Ap s A' ns' E o → z_Cp np' ns' nn' nm' fv' so' sf' st' sn' sc' sp' sx' sy' gv' → nc' ≤ nc + 1 → A' 0 = A 0 → va_S (fun q => s.heap.size ≤ q) s.heap H1 locs1 → ∀ ls : Array Slot, lv_has ls 7 [(0, .ref b), (1, .ref (A 0)), (2, .ref (E 0)), (3, .ref o), (4, .int (nI i))] → W p l e room_1 s m #[Value.ref b] below meth c H1 locs1 cells1 slots1 Q (F0 m 1342 ls [])) : ∀ ls : Array Slot, lv_has ls 7 [(0, .ref b), (1, .ref (A 0)), (2, .ref (E 0)), (3, .ref o), (4, .int (nI i))] → W p l e room_1 s m #[Value.ref b] below meth c H locs cells slots Q (F0 m 252 ls []) := by
  intro ls hl
  have hb : z_Sb ns nc sn sc sp := hLS.1.1.2.2.2
  obtain ⟨hnp, hns, hnn, hnm, hnc30⟩ := hLS.1.1.2.2.1
  rcases pk_ix (xs (i + 1)) (n := ns) (by omega) with h3 | h3 | ⟨k, hk, h3⟩
  · have h3 : (xs (i + 1)) < 0 ∨ nI ns ≤ (xs (i + 1)) := Or.inl h3
    have h3F := z_ixF h3
    have hM := t_B_corner_1 (l := l) G hT A np ns nc nn nm fv so sf st sn sc sp sx sy (xs (i + 1)) h3 (xs (i + 2)) (xs (i + 3))
    have hm := fun sz => c_M_corner_un (l := l) G E th np ns nc nn nm gv sz (xs (i + 1)) (xs (i + 2)) (xs (i + 3)) h3F (rfl)
    simp only [z_th1 rfl] at hm
    exact go_corner_t1 C0 hL G hLX hi hAp hLS hS hcell hM ⟨rfl, rfl, by decide, by decide⟩ hm ⟨rfl, rfl, by decide, by decide⟩ (fun H1 l1 c1 s1 h1 h2 h3 hS1 ls hl => cont A _ np ns nc nn nm fv so sf st sn sc sp sx sy gv _ H1 l1 c1 s1 h1 h2 h3 hAp hCp (by omega) rfl hS1 ls hl) ls hl
  · have h3 : (xs (i + 1)) < 0 ∨ nI ns ≤ (xs (i + 1)) := Or.inr h3
    have h3F := z_ixF h3
    have hM := t_B_corner_1 (l := l) G hT A np ns nc nn nm fv so sf st sn sc sp sx sy (xs (i + 1)) h3 (xs (i + 2)) (xs (i + 3))
    have hm := fun sz => c_M_corner_un (l := l) G E th np ns nc nn nm gv sz (xs (i + 1)) (xs (i + 2)) (xs (i + 3)) h3F (rfl)
    simp only [z_th1 rfl] at hm
    exact go_corner_t1 C0 hL G hLX hi hAp hLS hS hcell hM ⟨rfl, rfl, by decide, by decide⟩ hm ⟨rfl, rfl, by decide, by decide⟩ (fun H1 l1 c1 s1 h1 h2 h3 hS1 ls hl => cont A _ np ns nc nn nm fv so sf st sn sc sp sx sy gv _ H1 l1 c1 s1 h1 h2 h3 hAp hCp (by omega) rfl hS1 ls hl) ls hl
  · have h3T : pm_idx ns (xs (i + 1)) = true := by rw [h3]; exact pm_idx_ok hk (by omega)
    have h9 := hCp.2.1 k hk
    have hcn := hCp.cn hb k hk
    have e7 : gv 7 k = nI (sc k) := h9.2.2.2.2.1
    have hsc := (hb k hk).2.1
    by_cases hp : z_pt (xs (i + 2)) (xs (i + 3))
    · skip
      have hpT := z_ptT hp
      by_cases h7 : 0 < nI (sc k) ∨ 12 ≤ sn k
      · skip
        have g3 : (decide (gv 7 k = 0) && decide (sn k < 12)) = false := by rw [e7]; rcases h7 with h7 | h7; (rw [decide_eq_false (fun e => by rw [e] at h7; exact absurd h7 (by decide))]; rfl); (rw [decide_eq_false (show ¬ sn k < 12 by omega), Bool.and_false])
        have hM := t_B_corner_3 (l := l) G hT A np ns nc nn nm fv so sf st sn sc sp sx sy k hk (xs (i + 2)) (xs (i + 3)) hp h7
        rw [← h3] at hM
        have hm := fun sz => c_M_corner_no (l := l) G E th np ns nc nn nm gv sz k (sn k) hk hcn.1 hcn.2.1 (xs (i + 2)) (xs (i + 3)) (z_g3F g3)
        simp only [z_th3 rfl hpT g3, ← h3] at hm
        exact go_corner_t3 C0 hL G hLX hi hAp hLS hS hcell hM ⟨rfl, rfl, by decide, by decide⟩ hm ⟨rfl, rfl, by decide, by decide⟩ (fun H1 l1 c1 s1 h1 h2 h3 hS1 ls hl => cont A _ np ns nc nn nm fv so sf st sn sc sp sx sy gv _ H1 l1 c1 s1 h1 h2 h3 hAp hCp (by omega) rfl hS1 ls hl) ls hl
      · skip
        have hz : sc k = 0 := by rcases Nat.eq_zero_or_pos (sc k) with e | e; exact e; exact absurd (Or.inl ((nI_ltI (a := 0) (b := sc k) (by omega) (by omega)).mpr e)) h7
        have hlt : sn k < 12 := by by_cases q : sn k < 12; exact q; exact absurd (Or.inr (by omega)) h7
        have g3 : (decide (gv 7 k = 0) && decide (sn k < 12)) = true := by rw [e7, hz, decide_eq_true hlt]; rfl
        have hM := c_B_corner (l := l) G H.size A np ns nc nn nm fv so sf st sn sc sp sx sy k hk (xs (i + 2)) (xs (i + 3)) hp (by omega) hlt
        rw [← h3] at hM
        have hm := fun sz => c_M_corner_ok (l := l) G E th np ns nc nn nm gv sz k (sn k) hk hcn.1 hcn.2.1 (xs (i + 2)) (xs (i + 3)) hlt (z_gT rfl hpT g3)
        simp only [← h3] at hm
        have cp := hCp.corner hb hk (by omega) hlt hp
        exact go_corner C0 hL G hLX hi hAp hLS hS hcell hM ⟨rfl, rfl, by decide, by decide⟩ hm ⟨rfl, rfl, by decide, by decide⟩ (fun q h => h) (fun k hk => Or.inl ⟨k, hk, rfl⟩) rfl ⟨Nat.zero_le _, Nat.zero_le _⟩ (fun H1 l1 c1 s1 h1 h2 h3 hS1 ls hl => cont _ _ _ _ _ _ _ _ _ _ _ _ _ _ _ _ _ _ H1 l1 c1 s1 h1 h2 h3 hAp cp (by omega) rfl hS1 ls hl) ls hl
    · skip
      have hpF := z_ptF hp
      have hM := t_B_corner_2 (l := l) G hT A np ns nc nn nm fv so sf st sn sc sp sx sy k hk (xs (i + 2)) (xs (i + 3)) hp
      rw [← h3] at hM
      have hm := fun sz => c_M_corner_no (l := l) G E th np ns nc nn nm gv sz k (sn k) hk hcn.1 hcn.2.1 (xs (i + 2)) (xs (i + 3)) (z_g2 hpF)
      simp only [z_th2 rfl hpF, ← h3] at hm
      exact go_corner_t2 C0 hL G hLX hi hAp hLS hS hcell hM ⟨rfl, rfl, by decide, by decide⟩ hm ⟨rfl, rfl, by decide, by decide⟩ (fun H1 l1 c1 s1 h1 h2 h3 hS1 ls hl => cont A _ np ns nc nn nm fv so sf st sn sc sp sx sy gv _ H1 l1 c1 s1 h1 h2 h3 hAp hCp (by omega) rfl hS1 ls hl) ls hl
set_option maxRecDepth 100000 in
set_option maxHeartbeats 4000000 in
theorem step_close {p : Program} {e : Env} {s : State} {m : MethodId} {below : List Frame} {meth : Method} {c : Code} {l : Launch} {b L : Nat} {xs : Nat → Int32} (C0 : lw_At p s m meth c b L xs) (hL : L ≤ 2560) (G : z_G s (dC, dI) cI cS) (hLX : z_LX s cL) {A E : Nat → Nat} {o i : Nat} {th : Int32} {np ns nc nn nm : Nat} {fv : Nat → Nat → Int32} {so sf st : Nat → Int32} {sn sc : Nat → Nat} {sp : Nat → Option Nat} {sx sy gv : Nat → Nat → Int32} {f : Nat → Int64} {H : Heap} {locs : List Loc} {cells slots : Nat} {Q : State → Prop} (hi : i + 5 ≤ L) (hAp : z_Ap s A ns E o) (hLS : z_LS s (dC, dI) cI cS cL A E o th np ns nc nn nm fv so sf st sn sc sp sx sy gv f H) (hS : va_S (fun q => s.heap.size ≤ q) s.heap H locs) (hcell : cells + 3 ≤ room_1.cells ∧ slots + 33 ≤ room_1.slots) (hGI : z_GI s cI) (hT : z_T s l) (hCp : z_Cp np ns nn nm fv so sf st sn sc sp sx sy gv) (hnc : nc < 9999) (cont : ∀ (A' : Nat → Nat) (th' : Int32) (np' ns' nc' nn' nm' : Nat) (fv' : Nat → Nat → Int32) (so' sf' st' : Nat → Int32) (sn' sc' : Nat → Nat) (sp' : Nat → Option Nat) (sx' sy' gv' : Nat → Nat → Int32) (f' : Nat → Int64) (H1 : Heap) (locs1 : List Loc) (cells1 slots1 : Nat), cells1 ≤ cells + 3 → slots1 ≤ slots + 33 → z_LS s (dC, dI) cI cS cL A' E o th' np' ns' nc' nn' nm' fv' so' sf' st' sn' sc' sp' sx' sy' gv' f' H1 → z_Ap s A' ns' E o → z_Cp np' ns' nn' nm' fv' so' sf' st' sn' sc' sp' sx' sy' gv' → nc' ≤ nc + 1 → A' 0 = A 0 → va_S (fun q => s.heap.size ≤ q) s.heap H1 locs1 → ∀ ls : Array Slot, lv_has ls 7 [(0, .ref b), (1, .ref (A 0)), (2, .ref (E 0)), (3, .ref o), (4, .int (nI i))] → W p l e room_1 s m #[Value.ref b] below meth c H1 locs1 cells1 slots1 Q (F0 m 1342 ls [])) : ∀ ls : Array Slot, lv_has ls 7 [(0, .ref b), (1, .ref (A 0)), (2, .ref (E 0)), (3, .ref o), (4, .int (nI i))] → W p l e room_1 s m #[Value.ref b] below meth c H locs cells slots Q (F0 m 332 ls []) := by
  intro ls hl
  have hb : z_Sb ns nc sn sc sp := hLS.1.1.2.2.2
  obtain ⟨hnp, hns, hnn, hnm, hnc30⟩ := hLS.1.1.2.2.1
  rcases pk_ix (xs (i + 1)) (n := ns) (by omega) with h3 | h3 | ⟨k, hk, h3⟩
  · have h3 : (xs (i + 1)) < 0 ∨ nI ns ≤ (xs (i + 1)) := Or.inl h3
    have h3F := z_ixF h3
    have hM := t_B_close_1 (l := l) G hT A np ns nc nn nm fv so sf st sn sc sp sx sy (xs (i + 1)) h3
    have hm := fun sz => c_M_close_un (l := l) G E th np ns nc nn nm gv sz (xs (i + 1)) h3F (rfl)
    simp only [z_th1 rfl] at hm
    exact go_close_t1 C0 hL G hLX hi hAp hLS hS hcell hM ⟨rfl, rfl, by decide, by decide⟩ hm ⟨rfl, rfl, by decide, by decide⟩ (fun H1 l1 c1 s1 h1 h2 h3 hS1 ls hl => cont A _ np ns nc nn nm fv so sf st sn sc sp sx sy gv _ H1 l1 c1 s1 h1 h2 h3 hAp hCp (by omega) rfl hS1 ls hl) ls hl
  · have h3 : (xs (i + 1)) < 0 ∨ nI ns ≤ (xs (i + 1)) := Or.inr h3
    have h3F := z_ixF h3
    have hM := t_B_close_1 (l := l) G hT A np ns nc nn nm fv so sf st sn sc sp sx sy (xs (i + 1)) h3
    have hm := fun sz => c_M_close_un (l := l) G E th np ns nc nn nm gv sz (xs (i + 1)) h3F (rfl)
    simp only [z_th1 rfl] at hm
    exact go_close_t1 C0 hL G hLX hi hAp hLS hS hcell hM ⟨rfl, rfl, by decide, by decide⟩ hm ⟨rfl, rfl, by decide, by decide⟩ (fun H1 l1 c1 s1 h1 h2 h3 hS1 ls hl => cont A _ np ns nc nn nm fv so sf st sn sc sp sx sy gv _ H1 l1 c1 s1 h1 h2 h3 hAp hCp (by omega) rfl hS1 ls hl) ls hl
  · have h3T : pm_idx ns (xs (i + 1)) = true := by rw [h3]; exact pm_idx_ok hk (by omega)
    have h9 := hCp.2.1 k hk
    have hcn := hCp.cn hb k hk
    have e7 : gv 7 k = nI (sc k) := h9.2.2.2.2.1
    by_cases hcan : pc_can (sx k) (sy k) (sn k) (nI (sc k)) = true
    · skip
      have hop : ¬ 0 < nI (sc k) := fun q => by unfold pc_can at hcan; rw [if_pos q] at hcan; cases hcan
      have hM := c_B_close_ok (l := l) G H.size A np ns nc nn nm fv so sf st sn sc sp sx sy k hk hcan (by omega)
      rw [← h3] at hM
      have hm := fun sz => c_M_close_ok (l := l) G E th np ns nc nn nm gv sz k (sn k) hk hcn.1 hcn.2.1 (by rw [e7]; exact hop) ((hCp.can hk hop).trans hcan) (by omega) (rfl)
      simp only [← h3] at hm
      have cp := hCp.close (nc := nc) hk hcan
      exact go_close C0 hL G hLX hi hAp hLS hS hcell hM ⟨rfl, rfl, by decide, by decide⟩ hm ⟨rfl, rfl, by decide, by decide⟩ (fun q h => h.elim (fun e => ⟨0, by omega, e⟩) (fun e => ⟨13 + 3 * k, by omega, e⟩)) (fun k hk => Or.inl ⟨k, hk, rfl⟩) rfl ⟨Nat.zero_le _, Nat.zero_le _⟩ (fun H1 l1 c1 s1 h1 h2 h3 hS1 ls hl => cont _ _ _ _ _ _ _ _ _ _ _ _ _ _ _ _ _ _ H1 l1 c1 s1 h1 h2 h3 hAp cp (by omega) rfl hS1 ls hl) ls hl
    · skip
      have hcan : pc_can (sx k) (sy k) (sn k) (nI (sc k)) = false := by cases q : pc_can (sx k) (sy k) (sn k) (nI (sc k)); rfl; exact absurd q hcan
      have hno : ¬ (¬ 0 < gv 7 k ∧ pm_can (gv 5) (gv 6) (sn k) k = true) := by
        intro q
        rw [e7] at q
        have q2 := (hCp.can hk q.1).symm.trans q.2
        rw [hcan] at q2
        cases q2
      have hM0 := c_B_close_no (l := l) G A np ns nc nn nm fv so sf st sn sc sp sx sy k hk hcan
      rw [← h3] at hM0
      have hM := z_rdw (sz := H.size) (F := z_fr (fun _ => False) H.size) hM0
      have hm := fun sz => c_M_close_no (l := l) G E th np ns nc nn nm gv sz k (sn k) hk hcn.1 hcn.2.1 hno (rfl)
      simp only [← h3] at hm
      exact go_close C0 hL G hLX hi hAp hLS hS hcell (F := fun _ => False) hM ⟨rfl, rfl, by decide, by decide⟩ hm ⟨rfl, rfl, by decide, by decide⟩ (fun q h => h.elim) (fun k hk => Or.inl ⟨k, hk, rfl⟩) rfl ⟨Nat.zero_le _, Nat.zero_le _⟩ (fun H1 l1 c1 s1 h1 h2 h3 hS1 ls hl => cont A _ np ns nc nn nm fv so sf st sn sc sp sx sy gv _ H1 l1 c1 s1 h1 h2 h3 hAp hCp (by omega) rfl hS1 ls hl) ls hl
set_option maxRecDepth 100000 in
set_option maxHeartbeats 4000000 in
theorem step_unsure {p : Program} {e : Env} {s : State} {m : MethodId} {below : List Frame} {meth : Method} {c : Code} {l : Launch} {b L : Nat} {xs : Nat → Int32} (C0 : lw_At p s m meth c b L xs) (hL : L ≤ 2560) (G : z_G s (dC, dI) cI cS) (hLX : z_LX s cL) {A E : Nat → Nat} {o i : Nat} {th : Int32} {np ns nc nn nm : Nat} {fv : Nat → Nat → Int32} {so sf st : Nat → Int32} {sn sc : Nat → Nat} {sp : Nat → Option Nat} {sx sy gv : Nat → Nat → Int32} {f : Nat → Int64} {H : Heap} {locs : List Loc} {cells slots : Nat} {Q : State → Prop} (hi : i + 5 ≤ L) (hAp : z_Ap s A ns E o) (hLS : z_LS s (dC, dI) cI cS cL A E o th np ns nc nn nm fv so sf st sn sc sp sx sy gv f H) (hS : va_S (fun q => s.heap.size ≤ q) s.heap H locs) (hcell : cells + 3 ≤ room_1.cells ∧ slots + 33 ≤ room_1.slots) (hGI : z_GI s cI) (hT : z_T s l) (hCp : z_Cp np ns nn nm fv so sf st sn sc sp sx sy gv) (hnc : nc < 9999) (cont : ∀ (A' : Nat → Nat) (th' : Int32) (np' ns' nc' nn' nm' : Nat) (fv' : Nat → Nat → Int32) (so' sf' st' : Nat → Int32) (sn' sc' : Nat → Nat) (sp' : Nat → Option Nat) (sx' sy' gv' : Nat → Nat → Int32) (f' : Nat → Int64) (H1 : Heap) (locs1 : List Loc) (cells1 slots1 : Nat), cells1 ≤ cells + 3 → slots1 ≤ slots + 33 → z_LS s (dC, dI) cI cS cL A' E o th' np' ns' nc' nn' nm' fv' so' sf' st' sn' sc' sp' sx' sy' gv' f' H1 → z_Ap s A' ns' E o → z_Cp np' ns' nn' nm' fv' so' sf' st' sn' sc' sp' sx' sy' gv' → nc' ≤ nc + 1 → A' 0 = A 0 → va_S (fun q => s.heap.size ≤ q) s.heap H1 locs1 → ∀ ls : Array Slot, lv_has ls 7 [(0, .ref b), (1, .ref (A 0)), (2, .ref (E 0)), (3, .ref o), (4, .int (nI i))] → W p l e room_1 s m #[Value.ref b] below meth c H1 locs1 cells1 slots1 Q (F0 m 1342 ls [])) : ∀ ls : Array Slot, lv_has ls 7 [(0, .ref b), (1, .ref (A 0)), (2, .ref (E 0)), (3, .ref o), (4, .int (nI i))] → W p l e room_1 s m #[Value.ref b] below meth c H locs cells slots Q (F0 m 395 ls []) := by
  intro ls hl
  have hb : z_Sb ns nc sn sc sp := hLS.1.1.2.2.2
  obtain ⟨hnp, hns, hnn, hnm, hnc30⟩ := hLS.1.1.2.2.1
  rcases pk_ix (xs (i + 1)) (n := ns) (by omega) with h3 | h3 | ⟨k, hk, h3⟩
  · have h3 : (xs (i + 1)) < 0 ∨ nI ns ≤ (xs (i + 1)) := Or.inl h3
    have h3F := z_ixF h3
    have g1 : (pm_idx ns (xs (i + 1)) && pm_idx ns (xs (i + 2))) = false := by rw [h3F]; rfl
    have hM := t_B_unsure_1 (l := l) G hT A np ns nc nn nm fv so sf st sn sc sp sx sy (xs (i + 1)) h3 (xs (i + 2))
    have hm := fun sz => c_M_unsure_un (l := l) G E th np ns nc nn nm gv sz (xs (i + 1)) (xs (i + 2)) (z_g1 g1)
    simp only [z_th1 g1] at hm
    exact go_unsure_t1 C0 hL G hLX hi hAp hLS hS hcell hM ⟨rfl, rfl, by decide, by decide⟩ hm ⟨rfl, rfl, by decide, by decide⟩ (fun H1 l1 c1 s1 h1 h2 h3 hS1 ls hl => cont A _ np ns nc nn nm fv so sf st sn sc sp sx sy gv _ H1 l1 c1 s1 h1 h2 h3 hAp hCp (by omega) rfl hS1 ls hl) ls hl
  · have h3 : (xs (i + 1)) < 0 ∨ nI ns ≤ (xs (i + 1)) := Or.inr h3
    have h3F := z_ixF h3
    have g1 : (pm_idx ns (xs (i + 1)) && pm_idx ns (xs (i + 2))) = false := by rw [h3F]; rfl
    have hM := t_B_unsure_1 (l := l) G hT A np ns nc nn nm fv so sf st sn sc sp sx sy (xs (i + 1)) h3 (xs (i + 2))
    have hm := fun sz => c_M_unsure_un (l := l) G E th np ns nc nn nm gv sz (xs (i + 1)) (xs (i + 2)) (z_g1 g1)
    simp only [z_th1 g1] at hm
    exact go_unsure_t1 C0 hL G hLX hi hAp hLS hS hcell hM ⟨rfl, rfl, by decide, by decide⟩ hm ⟨rfl, rfl, by decide, by decide⟩ (fun H1 l1 c1 s1 h1 h2 h3 hS1 ls hl => cont A _ np ns nc nn nm fv so sf st sn sc sp sx sy gv _ H1 l1 c1 s1 h1 h2 h3 hAp hCp (by omega) rfl hS1 ls hl) ls hl
  · have h3T : pm_idx ns (xs (i + 1)) = true := by rw [h3]; exact pm_idx_ok hk (by omega)
    rcases pk_ix (xs (i + 2)) (n := ns) (by omega) with h4 | h4 | ⟨j, hj, h4⟩
    · have h4 : (xs (i + 2)) < 0 ∨ nI ns ≤ (xs (i + 2)) := Or.inl h4
      have h4F := z_ixF h4
      have g1 : (pm_idx ns (xs (i + 1)) && pm_idx ns (xs (i + 2))) = false := by rw [h4F, Bool.and_false]
      have hM := t_B_unsure_2 (l := l) G hT A np ns nc nn nm fv so sf st sn sc sp sx sy k hk (xs (i + 2)) h4
      rw [← h3] at hM
      have hm := fun sz => c_M_unsure_un (l := l) G E th np ns nc nn nm gv sz (xs (i + 1)) (xs (i + 2)) (z_g1 g1)
      simp only [z_th1 g1] at hm
      exact go_unsure_t1 C0 hL G hLX hi hAp hLS hS hcell hM ⟨rfl, rfl, by decide, by decide⟩ hm ⟨rfl, rfl, by decide, by decide⟩ (fun H1 l1 c1 s1 h1 h2 h3 hS1 ls hl => cont A _ np ns nc nn nm fv so sf st sn sc sp sx sy gv _ H1 l1 c1 s1 h1 h2 h3 hAp hCp (by omega) rfl hS1 ls hl) ls hl
    · have h4 : (xs (i + 2)) < 0 ∨ nI ns ≤ (xs (i + 2)) := Or.inr h4
      have h4F := z_ixF h4
      have g1 : (pm_idx ns (xs (i + 1)) && pm_idx ns (xs (i + 2))) = false := by rw [h4F, Bool.and_false]
      have hM := t_B_unsure_2 (l := l) G hT A np ns nc nn nm fv so sf st sn sc sp sx sy k hk (xs (i + 2)) h4
      rw [← h3] at hM
      have hm := fun sz => c_M_unsure_un (l := l) G E th np ns nc nn nm gv sz (xs (i + 1)) (xs (i + 2)) (z_g1 g1)
      simp only [z_th1 g1] at hm
      exact go_unsure_t1 C0 hL G hLX hi hAp hLS hS hcell hM ⟨rfl, rfl, by decide, by decide⟩ hm ⟨rfl, rfl, by decide, by decide⟩ (fun H1 l1 c1 s1 h1 h2 h3 hS1 ls hl => cont A _ np ns nc nn nm fv so sf st sn sc sp sx sy gv _ H1 l1 c1 s1 h1 h2 h3 hAp hCp (by omega) rfl hS1 ls hl) ls hl
    · have h4T : pm_idx ns (xs (i + 2)) = true := by rw [h4]; exact pm_idx_ok hj (by omega)
      have h9 := hCp.2.1 k hk
      have h8 := hCp.2.1 j hj
      have e7 : gv 7 k = nI (sc k) := h9.2.2.2.2.1
      have f7 : gv 7 j = nI (sc j) := h8.2.2.2.2.1
      by_cases hno : k = j ∨ ¬ so k = so j ∨ ¬ 0 < nI (sc k) ∨ ¬ 0 < nI (sc j)
      · skip
        have hM0 := c_B_unsure_no (l := l) G A np ns nc nn nm fv so sf st sn sc sp sx sy k j hk hj hno
        rw [← h3] at hM0
        rw [← h4] at hM0
        have hM := z_rdw (sz := H.size) (F := z_fr (fun _ => False) H.size) hM0
        have hm := fun sz => c_M_unsure_no (l := l) G E th np ns nc nn nm gv sz k j hk hj (fun q => by rw [e7, f7, h9.1, h8.1] at q; exact hno.elim (fun e => q.1 e) (fun r => r.elim (fun r => r q.2.2.2) (fun r => r.elim (fun r => r q.2.1) (fun r => r q.2.2.1)))) (rfl)
        simp only [← h3, ← h4] at hm
        exact go_unsure C0 hL G hLX hi hAp hLS hS hcell (F := fun _ => False) hM ⟨rfl, rfl, by decide, by decide⟩ hm ⟨rfl, rfl, by decide, by decide⟩ (fun q h => h.elim) (fun k hk => Or.inl ⟨k, hk, rfl⟩) rfl ⟨Nat.zero_le _, Nat.zero_le _⟩ (fun H1 l1 c1 s1 h1 h2 h3 hS1 ls hl => cont A _ np ns nc nn nm fv so sf st sn sc sp sx sy gv _ H1 l1 c1 s1 h1 h2 h3 hAp hCp (by omega) rfl hS1 ls hl) ls hl
      · skip
        have n1 : k ≠ j := fun e => hno (Or.inl e)
        have n2 : so k = so j := Classical.byContradiction fun e => hno (Or.inr (Or.inl e))
        have n3 : 0 < nI (sc k) := Classical.byContradiction fun e => hno (Or.inr (Or.inr (Or.inl e)))
        have n4 : 0 < nI (sc j) := Classical.byContradiction fun e => hno (Or.inr (Or.inr (Or.inr e)))
        have p3 : 0 < sc k := by rcases Nat.eq_zero_or_pos (sc k) with e | e; (rw [e] at n3; exact absurd n3 (by decide)); exact e
        have p4 : 0 < sc j := by rcases Nat.eq_zero_or_pos (sc j) with e | e; (rw [e] at n4; exact absurd n4 (by decide)); exact e
        have hM := c_B_unsure_ok (l := l) G H.size A np ns nc nn nm fv so sf st sn sc sp sx sy k j hk hj n1 n2 n3 n4
        rw [← h3] at hM
        rw [← h4] at hM
        have hm := fun sz => c_M_unsure_ok (l := l) G E th np ns nc nn nm gv sz k j hk hj (sp k) (pb_lv sp k j) n1 (by rw [e7]; exact n3) (by rw [f7]; exact n4) (by rw [h9.1, h8.1]; exact n2) (fun q hq => by have := (hb k hk).2.2.2 q hq; omega) h9.2.2.2.2.2 (fun q hq => by have := (hb j hj).2.2.2 q (pb_lv_of hq); omega) (pq_fr h8.2.2.2.2.2) (rfl)
        simp only [← h3, ← h4] at hm
        have cp := hCp.unsure (i := k) (j := j) p3 p4
        simp only [← h3] at cp
        simp only [← h4] at cp
        exact go_unsure C0 hL G hLX hi hAp hLS hS hcell hM ⟨rfl, rfl, by decide, by decide⟩ hm ⟨rfl, rfl, by decide, by decide⟩ (fun q h => h) (fun k hk => Or.inl ⟨k, hk, rfl⟩) rfl ⟨Nat.zero_le _, Nat.zero_le _⟩ (fun H1 l1 c1 s1 h1 h2 h3 hS1 ls hl => cont _ _ _ _ _ _ _ _ _ _ _ _ _ _ _ _ _ _ H1 l1 c1 s1 h1 h2 h3 hAp cp (by omega) rfl hS1 ls hl) ls hl
set_option maxRecDepth 100000 in
set_option maxHeartbeats 4000000 in
theorem step_force {p : Program} {e : Env} {s : State} {m : MethodId} {below : List Frame} {meth : Method} {c : Code} {l : Launch} {b L : Nat} {xs : Nat → Int32} (C0 : lw_At p s m meth c b L xs) (hL : L ≤ 2560) (G : z_G s (dC, dI) cI cS) (hLX : z_LX s cL) {A E : Nat → Nat} {o i : Nat} {th : Int32} {np ns nc nn nm : Nat} {fv : Nat → Nat → Int32} {so sf st : Nat → Int32} {sn sc : Nat → Nat} {sp : Nat → Option Nat} {sx sy gv : Nat → Nat → Int32} {f : Nat → Int64} {H : Heap} {locs : List Loc} {cells slots : Nat} {Q : State → Prop} (hi : i + 5 ≤ L) (hAp : z_Ap s A ns E o) (hLS : z_LS s (dC, dI) cI cS cL A E o th np ns nc nn nm fv so sf st sn sc sp sx sy gv f H) (hS : va_S (fun q => s.heap.size ≤ q) s.heap H locs) (hcell : cells + 3 ≤ room_1.cells ∧ slots + 33 ≤ room_1.slots) (hGI : z_GI s cI) (hT : z_T s l) (hCp : z_Cp np ns nn nm fv so sf st sn sc sp sx sy gv) (hnc : nc < 9999) (cont : ∀ (A' : Nat → Nat) (th' : Int32) (np' ns' nc' nn' nm' : Nat) (fv' : Nat → Nat → Int32) (so' sf' st' : Nat → Int32) (sn' sc' : Nat → Nat) (sp' : Nat → Option Nat) (sx' sy' gv' : Nat → Nat → Int32) (f' : Nat → Int64) (H1 : Heap) (locs1 : List Loc) (cells1 slots1 : Nat), cells1 ≤ cells + 3 → slots1 ≤ slots + 33 → z_LS s (dC, dI) cI cS cL A' E o th' np' ns' nc' nn' nm' fv' so' sf' st' sn' sc' sp' sx' sy' gv' f' H1 → z_Ap s A' ns' E o → z_Cp np' ns' nn' nm' fv' so' sf' st' sn' sc' sp' sx' sy' gv' → nc' ≤ nc + 1 → A' 0 = A 0 → va_S (fun q => s.heap.size ≤ q) s.heap H1 locs1 → ∀ ls : Array Slot, lv_has ls 7 [(0, .ref b), (1, .ref (A 0)), (2, .ref (E 0)), (3, .ref o), (4, .int (nI i))] → W p l e room_1 s m #[Value.ref b] below meth c H1 locs1 cells1 slots1 Q (F0 m 1342 ls [])) : ∀ ls : Array Slot, lv_has ls 7 [(0, .ref b), (1, .ref (A 0)), (2, .ref (E 0)), (3, .ref o), (4, .int (nI i))] → W p l e room_1 s m #[Value.ref b] below meth c H locs cells slots Q (F0 m 470 ls []) := by
  intro ls hl
  have hb : z_Sb ns nc sn sc sp := hLS.1.1.2.2.2
  obtain ⟨hnp, hns, hnn, hnm, hnc30⟩ := hLS.1.1.2.2.1
  rcases pk_ix (xs (i + 1)) (n := np) (by omega) with h3 | h3 | ⟨k, hk, h3⟩
  · have h3 : (xs (i + 1)) < 0 ∨ nI np ≤ (xs (i + 1)) := Or.inl h3
    have h3F := z_ixF h3
    have hM := t_B_force_1 (l := l) G hT A np ns nc nn nm fv so sf st sn sc sp sx sy (xs (i + 1)) h3 (xs (i + 2))
    have hm := fun sz => c_M_force_no (l := l) G E th np ns nc nn nm gv sz (xs (i + 1)) (xs (i + 2)) (z_g1 h3F)
    simp only [z_th1 h3F] at hm
    exact go_force_t1 C0 hL G hLX hi hAp hLS hS hcell hM ⟨rfl, rfl, by decide, by decide⟩ hm ⟨rfl, rfl, by decide, by decide⟩ (fun H1 l1 c1 s1 h1 h2 h3 hS1 ls hl => cont A _ np ns nc nn nm fv so sf st sn sc sp sx sy gv _ H1 l1 c1 s1 h1 h2 h3 hAp hCp (by omega) rfl hS1 ls hl) ls hl
  · have h3 : (xs (i + 1)) < 0 ∨ nI np ≤ (xs (i + 1)) := Or.inr h3
    have h3F := z_ixF h3
    have hM := t_B_force_1 (l := l) G hT A np ns nc nn nm fv so sf st sn sc sp sx sy (xs (i + 1)) h3 (xs (i + 2))
    have hm := fun sz => c_M_force_no (l := l) G E th np ns nc nn nm gv sz (xs (i + 1)) (xs (i + 2)) (z_g1 h3F)
    simp only [z_th1 h3F] at hm
    exact go_force_t1 C0 hL G hLX hi hAp hLS hS hcell hM ⟨rfl, rfl, by decide, by decide⟩ hm ⟨rfl, rfl, by decide, by decide⟩ (fun H1 l1 c1 s1 h1 h2 h3 hS1 ls hl => cont A _ np ns nc nn nm fv so sf st sn sc sp sx sy gv _ H1 l1 c1 s1 h1 h2 h3 hAp hCp (by omega) rfl hS1 ls hl) ls hl
  · have h3T : pm_idx np (xs (i + 1)) = true := by rw [h3]; exact pm_idx_ok hk (by omega)
    by_cases hd : z_day (xs (i + 2))
    · skip
      have hdT := z_dyT hd
      have hM0 := c_B_force (l := l) G A np ns nc nn nm fv so sf st sn sc sp sx sy k hk (xs (i + 2)) hd
      rw [← h3] at hM0
      have hM := z_rdw (sz := H.size) (F := z_fr (fun _ => False) H.size) hM0
      have hm := fun sz => c_M_force_ok (l := l) G E th np ns nc nn nm gv sz (xs (i + 1)) (xs (i + 2))  (z_gT h3T hdT rfl)
      simp only [hCp.f hb hnc30] at hm
      exact go_force C0 hL G hLX hi hAp hLS hS hcell (F := fun _ => False) hM ⟨rfl, rfl, by decide, by decide⟩ hm ⟨rfl, rfl, by decide, by decide⟩ (fun q h => h.elim) (fun k hk => Or.inl ⟨k, hk, rfl⟩) rfl ⟨Nat.zero_le _, Nat.zero_le _⟩ (fun H1 l1 c1 s1 h1 h2 h3 hS1 ls hl => cont A _ np ns nc nn nm fv so sf st sn sc sp sx sy gv _ H1 l1 c1 s1 h1 h2 h3 hAp hCp (by omega) rfl hS1 ls hl) ls hl
    · skip
      have hdF := z_dyF hd
      have hM := t_B_force_2 (l := l) G hT A np ns nc nn nm fv so sf st sn sc sp sx sy k hk (xs (i + 2)) hd
      rw [← h3] at hM
      have hm := fun sz => c_M_force_no (l := l) G E th np ns nc nn nm gv sz (xs (i + 1)) (xs (i + 2)) (z_g2 hdF)
      simp only [z_th2 h3T hdF] at hm
      exact go_force_t2 C0 hL G hLX hi hAp hLS hS hcell hM ⟨rfl, rfl, by decide, by decide⟩ hm ⟨rfl, rfl, by decide, by decide⟩ (fun H1 l1 c1 s1 h1 h2 h3 hS1 ls hl => cont A _ np ns nc nn nm fv so sf st sn sc sp sx sy gv _ H1 l1 c1 s1 h1 h2 h3 hAp hCp (by omega) rfl hS1 ls hl) ls hl
set_option maxRecDepth 100000 in
set_option maxHeartbeats 4000000 in
theorem step_area {p : Program} {e : Env} {s : State} {m : MethodId} {below : List Frame} {meth : Method} {c : Code} {l : Launch} {b L : Nat} {xs : Nat → Int32} (C0 : lw_At p s m meth c b L xs) (hL : L ≤ 2560) (G : z_G s (dC, dI) cI cS) (hLX : z_LX s cL) {A E : Nat → Nat} {o i : Nat} {th : Int32} {np ns nc nn nm : Nat} {fv : Nat → Nat → Int32} {so sf st : Nat → Int32} {sn sc : Nat → Nat} {sp : Nat → Option Nat} {sx sy gv : Nat → Nat → Int32} {f : Nat → Int64} {H : Heap} {locs : List Loc} {cells slots : Nat} {Q : State → Prop} (hi : i + 5 ≤ L) (hAp : z_Ap s A ns E o) (hLS : z_LS s (dC, dI) cI cS cL A E o th np ns nc nn nm fv so sf st sn sc sp sx sy gv f H) (hS : va_S (fun q => s.heap.size ≤ q) s.heap H locs) (hcell : cells + 3 ≤ room_1.cells ∧ slots + 33 ≤ room_1.slots) (hGI : z_GI s cI) (hT : z_T s l) (hCp : z_Cp np ns nn nm fv so sf st sn sc sp sx sy gv) (hnc : nc < 9999) (cont : ∀ (A' : Nat → Nat) (th' : Int32) (np' ns' nc' nn' nm' : Nat) (fv' : Nat → Nat → Int32) (so' sf' st' : Nat → Int32) (sn' sc' : Nat → Nat) (sp' : Nat → Option Nat) (sx' sy' gv' : Nat → Nat → Int32) (f' : Nat → Int64) (H1 : Heap) (locs1 : List Loc) (cells1 slots1 : Nat), cells1 ≤ cells + 3 → slots1 ≤ slots + 33 → z_LS s (dC, dI) cI cS cL A' E o th' np' ns' nc' nn' nm' fv' so' sf' st' sn' sc' sp' sx' sy' gv' f' H1 → z_Ap s A' ns' E o → z_Cp np' ns' nn' nm' fv' so' sf' st' sn' sc' sp' sx' sy' gv' → nc' ≤ nc + 1 → A' 0 = A 0 → va_S (fun q => s.heap.size ≤ q) s.heap H1 locs1 → ∀ ls : Array Slot, lv_has ls 7 [(0, .ref b), (1, .ref (A 0)), (2, .ref (E 0)), (3, .ref o), (4, .int (nI i))] → W p l e room_1 s m #[Value.ref b] below meth c H1 locs1 cells1 slots1 Q (F0 m 1342 ls [])) : ∀ ls : Array Slot, lv_has ls 7 [(0, .ref b), (1, .ref (A 0)), (2, .ref (E 0)), (3, .ref o), (4, .int (nI i))] → W p l e room_1 s m #[Value.ref b] below meth c H locs cells slots Q (F0 m 722 ls []) := by
  intro ls hl
  have hb : z_Sb ns nc sn sc sp := hLS.1.1.2.2.2
  obtain ⟨hnp, hns, hnn, hnm, hnc30⟩ := hLS.1.1.2.2.1
  rcases pk_ix (xs (i + 1)) (n := np) (by omega) with h3 | h3 | ⟨k, hk, h3⟩
  · have h3 : (xs (i + 1)) < 0 ∨ nI np ≤ (xs (i + 1)) := Or.inl h3
    have h3F := z_ixF h3
    have hM := t_B_area_1 (l := l) G hT A np ns nc nn nm fv so sf st sn sc sp sx sy (xs (i + 1)) h3 (xs (i + 2))
    have hm := fun sz => c_M_area_no (l := l) G E th np ns nc nn nm gv sz (xs (i + 1)) (xs (i + 2)) (z_g1 h3F)
    simp only [z_th1 h3F] at hm
    exact go_area_t1 C0 hL G hLX hi hAp hLS hS hcell hM ⟨rfl, rfl, by decide, by decide⟩ hm ⟨rfl, rfl, by decide, by decide⟩ (fun H1 l1 c1 s1 h1 h2 h3 hS1 ls hl => cont A _ np ns nc nn nm fv so sf st sn sc sp sx sy gv _ H1 l1 c1 s1 h1 h2 h3 hAp hCp (by omega) rfl hS1 ls hl) ls hl
  · have h3 : (xs (i + 1)) < 0 ∨ nI np ≤ (xs (i + 1)) := Or.inr h3
    have h3F := z_ixF h3
    have hM := t_B_area_1 (l := l) G hT A np ns nc nn nm fv so sf st sn sc sp sx sy (xs (i + 1)) h3 (xs (i + 2))
    have hm := fun sz => c_M_area_no (l := l) G E th np ns nc nn nm gv sz (xs (i + 1)) (xs (i + 2)) (z_g1 h3F)
    simp only [z_th1 h3F] at hm
    exact go_area_t1 C0 hL G hLX hi hAp hLS hS hcell hM ⟨rfl, rfl, by decide, by decide⟩ hm ⟨rfl, rfl, by decide, by decide⟩ (fun H1 l1 c1 s1 h1 h2 h3 hS1 ls hl => cont A _ np ns nc nn nm fv so sf st sn sc sp sx sy gv _ H1 l1 c1 s1 h1 h2 h3 hAp hCp (by omega) rfl hS1 ls hl) ls hl
  · have h3T : pm_idx np (xs (i + 1)) = true := by rw [h3]; exact pm_idx_ok hk (by omega)
    by_cases hd : z_day (xs (i + 2))
    · skip
      have hdT := z_dyT hd
      have hM0 := c_B_area (l := l) G A np ns nc nn nm fv so sf st sn sc sp sx sy k hk (xs (i + 2)) hd
      rw [← h3] at hM0
      have hM := z_rdw (sz := H.size) (F := z_fr (fun _ => False) H.size) hM0
      have hm := fun sz => c_M_area_ok (l := l) G E th np ns nc nn nm gv sz (xs (i + 1)) (xs (i + 2)) sn (hCp.cn hb)  (z_gT h3T hdT rfl)
      simp only [hCp.ar hb hnc30] at hm
      exact go_area C0 hL G hLX hi hAp hLS hS hcell (F := fun _ => False) hM ⟨rfl, rfl, by decide, by decide⟩ hm ⟨rfl, rfl, by decide, by decide⟩ (fun q h => h.elim) (fun k hk => Or.inl ⟨k, hk, rfl⟩) rfl ⟨Nat.zero_le _, Nat.zero_le _⟩ (fun H1 l1 c1 s1 h1 h2 h3 hS1 ls hl => cont A _ np ns nc nn nm fv so sf st sn sc sp sx sy gv _ H1 l1 c1 s1 h1 h2 h3 hAp hCp (by omega) rfl hS1 ls hl) ls hl
    · skip
      have hdF := z_dyF hd
      have hM := t_B_area_2 (l := l) G hT A np ns nc nn nm fv so sf st sn sc sp sx sy k hk (xs (i + 2)) hd
      rw [← h3] at hM
      have hm := fun sz => c_M_area_no (l := l) G E th np ns nc nn nm gv sz (xs (i + 1)) (xs (i + 2)) (z_g2 hdF)
      simp only [z_th2 h3T hdF] at hm
      exact go_area_t2 C0 hL G hLX hi hAp hLS hS hcell hM ⟨rfl, rfl, by decide, by decide⟩ hm ⟨rfl, rfl, by decide, by decide⟩ (fun H1 l1 c1 s1 h1 h2 h3 hS1 ls hl => cont A _ np ns nc nn nm fv so sf st sn sc sp sx sy gv _ H1 l1 c1 s1 h1 h2 h3 hAp hCp (by omega) rfl hS1 ls hl) ls hl
set_option maxRecDepth 100000 in
set_option maxHeartbeats 4000000 in
theorem step_nameOn {p : Program} {e : Env} {s : State} {m : MethodId} {below : List Frame} {meth : Method} {c : Code} {l : Launch} {b L : Nat} {xs : Nat → Int32} (C0 : lw_At p s m meth c b L xs) (hL : L ≤ 2560) (G : z_G s (dC, dI) cI cS) (hLX : z_LX s cL) {A E : Nat → Nat} {o i : Nat} {th : Int32} {np ns nc nn nm : Nat} {fv : Nat → Nat → Int32} {so sf st : Nat → Int32} {sn sc : Nat → Nat} {sp : Nat → Option Nat} {sx sy gv : Nat → Nat → Int32} {f : Nat → Int64} {H : Heap} {locs : List Loc} {cells slots : Nat} {Q : State → Prop} (hi : i + 5 ≤ L) (hAp : z_Ap s A ns E o) (hLS : z_LS s (dC, dI) cI cS cL A E o th np ns nc nn nm fv so sf st sn sc sp sx sy gv f H) (hS : va_S (fun q => s.heap.size ≤ q) s.heap H locs) (hcell : cells + 3 ≤ room_1.cells ∧ slots + 33 ≤ room_1.slots) (hGI : z_GI s cI) (hT : z_T s l) (hCp : z_Cp np ns nn nm fv so sf st sn sc sp sx sy gv) (hnc : nc < 9999) (cont : ∀ (A' : Nat → Nat) (th' : Int32) (np' ns' nc' nn' nm' : Nat) (fv' : Nat → Nat → Int32) (so' sf' st' : Nat → Int32) (sn' sc' : Nat → Nat) (sp' : Nat → Option Nat) (sx' sy' gv' : Nat → Nat → Int32) (f' : Nat → Int64) (H1 : Heap) (locs1 : List Loc) (cells1 slots1 : Nat), cells1 ≤ cells + 3 → slots1 ≤ slots + 33 → z_LS s (dC, dI) cI cS cL A' E o th' np' ns' nc' nn' nm' fv' so' sf' st' sn' sc' sp' sx' sy' gv' f' H1 → z_Ap s A' ns' E o → z_Cp np' ns' nn' nm' fv' so' sf' st' sn' sc' sp' sx' sy' gv' → nc' ≤ nc + 1 → A' 0 = A 0 → va_S (fun q => s.heap.size ≤ q) s.heap H1 locs1 → ∀ ls : Array Slot, lv_has ls 7 [(0, .ref b), (1, .ref (A 0)), (2, .ref (E 0)), (3, .ref o), (4, .int (nI i))] → W p l e room_1 s m #[Value.ref b] below meth c H1 locs1 cells1 slots1 Q (F0 m 1342 ls [])) : ∀ ls : Array Slot, lv_has ls 7 [(0, .ref b), (1, .ref (A 0)), (2, .ref (E 0)), (3, .ref o), (4, .int (nI i))] → W p l e room_1 s m #[Value.ref b] below meth c H locs cells slots Q (F0 m 1010 ls []) := by
  intro ls hl
  have hb : z_Sb ns nc sn sc sp := hLS.1.1.2.2.2
  obtain ⟨hnp, hns, hnn, hnm, hnc30⟩ := hLS.1.1.2.2.1
  rcases pk_ix (xs (i + 1)) (n := np) (by omega) with h3 | h3 | ⟨k, hk, h3⟩
  · have h3 : (xs (i + 1)) < 0 ∨ nI np ≤ (xs (i + 1)) := Or.inl h3
    have h3F := z_ixF h3
    have hM := t_B_nameOn_1 (l := l) G hT A np ns nc nn nm fv so sf st sn sc sp sx sy (xs (i + 1)) h3 (xs (i + 2))
    have hm := fun sz => c_M_nameOn_no (l := l) G E th np ns nc nn nm gv sz (xs (i + 1)) (xs (i + 2)) (z_g1 h3F)
    simp only [z_th1 h3F] at hm
    exact go_nameOn_t1 C0 hL G hLX hi hAp hLS hS hcell hM ⟨rfl, rfl, by decide, by decide⟩ hm ⟨rfl, rfl, by decide, by decide⟩ (fun H1 l1 c1 s1 h1 h2 h3 hS1 ls hl => cont A _ np ns nc nn nm fv so sf st sn sc sp sx sy gv _ H1 l1 c1 s1 h1 h2 h3 hAp hCp (by omega) rfl hS1 ls hl) ls hl
  · have h3 : (xs (i + 1)) < 0 ∨ nI np ≤ (xs (i + 1)) := Or.inr h3
    have h3F := z_ixF h3
    have hM := t_B_nameOn_1 (l := l) G hT A np ns nc nn nm fv so sf st sn sc sp sx sy (xs (i + 1)) h3 (xs (i + 2))
    have hm := fun sz => c_M_nameOn_no (l := l) G E th np ns nc nn nm gv sz (xs (i + 1)) (xs (i + 2)) (z_g1 h3F)
    simp only [z_th1 h3F] at hm
    exact go_nameOn_t1 C0 hL G hLX hi hAp hLS hS hcell hM ⟨rfl, rfl, by decide, by decide⟩ hm ⟨rfl, rfl, by decide, by decide⟩ (fun H1 l1 c1 s1 h1 h2 h3 hS1 ls hl => cont A _ np ns nc nn nm fv so sf st sn sc sp sx sy gv _ H1 l1 c1 s1 h1 h2 h3 hAp hCp (by omega) rfl hS1 ls hl) ls hl
  · have h3T : pm_idx np (xs (i + 1)) = true := by rw [h3]; exact pm_idx_ok hk (by omega)
    by_cases hd : z_day (xs (i + 2))
    · skip
      have hdT := z_dyT hd
      have hM0 := c_B_nameOn (l := l) G A np ns nc nn nm fv so sf st sn sc sp sx sy k hk (xs (i + 2)) hd
      rw [← h3] at hM0
      have hM := z_rdw (sz := H.size) (F := z_fr (fun _ => False) H.size) hM0
      have hm := fun sz => c_M_nameOn_ok (l := l) G E th np ns nc nn nm gv sz (xs (i + 1)) (xs (i + 2))  (z_gT h3T hdT rfl)
      simp only [hCp.nam] at hm
      exact go_nameOn C0 hL G hLX hi hAp hLS hS hcell (F := fun _ => False) hM ⟨rfl, rfl, by decide, by decide⟩ hm ⟨rfl, rfl, by decide, by decide⟩ (fun q h => h.elim) (fun k hk => Or.inl ⟨k, hk, rfl⟩) rfl ⟨Nat.zero_le _, Nat.zero_le _⟩ (fun H1 l1 c1 s1 h1 h2 h3 hS1 ls hl => cont A _ np ns nc nn nm fv so sf st sn sc sp sx sy gv _ H1 l1 c1 s1 h1 h2 h3 hAp hCp (by omega) rfl hS1 ls hl) ls hl
    · skip
      have hdF := z_dyF hd
      have hM := t_B_nameOn_2 (l := l) G hT A np ns nc nn nm fv so sf st sn sc sp sx sy k hk (xs (i + 2)) hd
      rw [← h3] at hM
      have hm := fun sz => c_M_nameOn_no (l := l) G E th np ns nc nn nm gv sz (xs (i + 1)) (xs (i + 2)) (z_g2 hdF)
      simp only [z_th2 h3T hdF] at hm
      exact go_nameOn_t2 C0 hL G hLX hi hAp hLS hS hcell hM ⟨rfl, rfl, by decide, by decide⟩ hm ⟨rfl, rfl, by decide, by decide⟩ (fun H1 l1 c1 s1 h1 h2 h3 hS1 ls hl => cont A _ np ns nc nn nm fv so sf st sn sc sp sx sy gv _ H1 l1 c1 s1 h1 h2 h3 hAp hCp (by omega) rfl hS1 ls hl) ls hl
set_option maxRecDepth 100000 in
set_option maxHeartbeats 4000000 in
theorem step_threeWay {p : Program} {e : Env} {s : State} {m : MethodId} {below : List Frame} {meth : Method} {c : Code} {l : Launch} {b L : Nat} {xs : Nat → Int32} (C0 : lw_At p s m meth c b L xs) (hL : L ≤ 2560) (G : z_G s (dC, dI) cI cS) (hLX : z_LX s cL) {A E : Nat → Nat} {o i : Nat} {th : Int32} {np ns nc nn nm : Nat} {fv : Nat → Nat → Int32} {so sf st : Nat → Int32} {sn sc : Nat → Nat} {sp : Nat → Option Nat} {sx sy gv : Nat → Nat → Int32} {f : Nat → Int64} {H : Heap} {locs : List Loc} {cells slots : Nat} {Q : State → Prop} (hi : i + 5 ≤ L) (hAp : z_Ap s A ns E o) (hLS : z_LS s (dC, dI) cI cS cL A E o th np ns nc nn nm fv so sf st sn sc sp sx sy gv f H) (hS : va_S (fun q => s.heap.size ≤ q) s.heap H locs) (hcell : cells + 3 ≤ room_1.cells ∧ slots + 33 ≤ room_1.slots) (hGI : z_GI s cI) (hT : z_T s l) (hCp : z_Cp np ns nn nm fv so sf st sn sc sp sx sy gv) (hnc : nc < 9999) (cont : ∀ (A' : Nat → Nat) (th' : Int32) (np' ns' nc' nn' nm' : Nat) (fv' : Nat → Nat → Int32) (so' sf' st' : Nat → Int32) (sn' sc' : Nat → Nat) (sp' : Nat → Option Nat) (sx' sy' gv' : Nat → Nat → Int32) (f' : Nat → Int64) (H1 : Heap) (locs1 : List Loc) (cells1 slots1 : Nat), cells1 ≤ cells + 3 → slots1 ≤ slots + 33 → z_LS s (dC, dI) cI cS cL A' E o th' np' ns' nc' nn' nm' fv' so' sf' st' sn' sc' sp' sx' sy' gv' f' H1 → z_Ap s A' ns' E o → z_Cp np' ns' nn' nm' fv' so' sf' st' sn' sc' sp' sx' sy' gv' → nc' ≤ nc + 1 → A' 0 = A 0 → va_S (fun q => s.heap.size ≤ q) s.heap H1 locs1 → ∀ ls : Array Slot, lv_has ls 7 [(0, .ref b), (1, .ref (A 0)), (2, .ref (E 0)), (3, .ref o), (4, .int (nI i))] → W p l e room_1 s m #[Value.ref b] below meth c H1 locs1 cells1 slots1 Q (F0 m 1342 ls [])) : ∀ ls : Array Slot, lv_has ls 7 [(0, .ref b), (1, .ref (A 0)), (2, .ref (E 0)), (3, .ref o), (4, .int (nI i))] → W p l e room_1 s m #[Value.ref b] below meth c H locs cells slots Q (F0 m 630 ls []) := by
  intro ls hl
  have hb : z_Sb ns nc sn sc sp := hLS.1.1.2.2.2
  obtain ⟨hnp, hns, hnn, hnm, hnc30⟩ := hLS.1.1.2.2.1
  rcases pk_ix (xs (i + 1)) (n := np) (by omega) with h3 | h3 | ⟨k, hk, h3⟩
  · have h3 : (xs (i + 1)) < 0 ∨ nI np ≤ (xs (i + 1)) := Or.inl h3
    have h3F := z_ixF h3
    have hM := t_B_threeWay_1 (l := l) G hT A np ns nc nn nm fv so sf st sn sc sp sx sy (xs (i + 1)) h3 (xs (i + 2)) (xs (i + 3)) (xs (i + 4))
    have hm := fun sz => c_M_threeWay_no (l := l) G E th np ns nc nn nm gv sz (xs (i + 1)) (xs (i + 2)) (xs (i + 3)) (xs (i + 4)) (z_g1 h3F)
    simp only [z_th1 h3F] at hm
    exact go_threeWay_t1 C0 hL G hLX hi hAp hLS hS hcell hM ⟨rfl, rfl, by decide, by decide⟩ hm ⟨rfl, rfl, by decide, by decide⟩ (fun H1 l1 c1 s1 h1 h2 h3 hS1 ls hl => cont A _ np ns nc nn nm fv so sf st sn sc sp sx sy gv _ H1 l1 c1 s1 h1 h2 h3 hAp hCp (by omega) rfl hS1 ls hl) ls hl
  · have h3 : (xs (i + 1)) < 0 ∨ nI np ≤ (xs (i + 1)) := Or.inr h3
    have h3F := z_ixF h3
    have hM := t_B_threeWay_1 (l := l) G hT A np ns nc nn nm fv so sf st sn sc sp sx sy (xs (i + 1)) h3 (xs (i + 2)) (xs (i + 3)) (xs (i + 4))
    have hm := fun sz => c_M_threeWay_no (l := l) G E th np ns nc nn nm gv sz (xs (i + 1)) (xs (i + 2)) (xs (i + 3)) (xs (i + 4)) (z_g1 h3F)
    simp only [z_th1 h3F] at hm
    exact go_threeWay_t1 C0 hL G hLX hi hAp hLS hS hcell hM ⟨rfl, rfl, by decide, by decide⟩ hm ⟨rfl, rfl, by decide, by decide⟩ (fun H1 l1 c1 s1 h1 h2 h3 hS1 ls hl => cont A _ np ns nc nn nm fv so sf st sn sc sp sx sy gv _ H1 l1 c1 s1 h1 h2 h3 hAp hCp (by omega) rfl hS1 ls hl) ls hl
  · have h3T : pm_idx np (xs (i + 1)) = true := by rw [h3]; exact pm_idx_ok hk (by omega)
    by_cases hp : z_pt (xs (i + 2)) (xs (i + 3))
    · skip
      have hpT := z_ptT hp
      by_cases hd : z_day (xs (i + 4))
      · skip
        have hdT := z_dyT hd
        have g2 : (pm_pt (xs (i + 2)) (xs (i + 3)) && pm_day (xs (i + 4))) = true := by rw [hpT, hdT]; rfl
        have hM0 := c_B_threeWay (l := l) G A np ns nc nn nm fv so sf st sn sc sp sx sy k hk (xs (i + 2)) (xs (i + 3)) (xs (i + 4)) hp hd
        rw [← h3] at hM0
        have hM := z_rdw (sz := H.size) (F := z_fr (fun _ => False) H.size) hM0
        have hm := fun sz => c_M_threeWay_ok (l := l) G E th np ns nc nn nm gv sz (xs (i + 1)) (xs (i + 2)) (xs (i + 3)) (xs (i + 4)) sn (hCp.cn hb) sp (hCp.spn hb) (z_gT h3T g2 rfl)
        simp only [hCp.tw hb hnc30 hp] at hm
        exact go_threeWay C0 hL G hLX hi hAp hLS hS hcell (F := fun _ => False) hM ⟨rfl, rfl, by decide, by decide⟩ hm ⟨rfl, rfl, by decide, by decide⟩ (fun q h => h.elim) (fun k hk => Or.inl ⟨k, hk, rfl⟩) rfl ⟨Nat.zero_le _, Nat.zero_le _⟩ (fun H1 l1 c1 s1 h1 h2 h3 hS1 ls hl => cont A _ np ns nc nn nm fv so sf st sn sc sp sx sy gv _ H1 l1 c1 s1 h1 h2 h3 hAp hCp (by omega) rfl hS1 ls hl) ls hl
      · skip
        have hdF := z_dyF hd
        have g2 : (pm_pt (xs (i + 2)) (xs (i + 3)) && pm_day (xs (i + 4))) = false := by rw [hdF, Bool.and_false]
        have hM := t_B_threeWay_3 (l := l) G hT A np ns nc nn nm fv so sf st sn sc sp sx sy k hk (xs (i + 2)) (xs (i + 3)) (xs (i + 4)) hd hp
        rw [← h3] at hM
        have hm := fun sz => c_M_threeWay_no (l := l) G E th np ns nc nn nm gv sz (xs (i + 1)) (xs (i + 2)) (xs (i + 3)) (xs (i + 4)) (z_g2 g2)
        simp only [z_th2 h3T g2] at hm
        exact go_threeWay_t2 C0 hL G hLX hi hAp hLS hS hcell hM ⟨rfl, rfl, by decide, by decide⟩ hm ⟨rfl, rfl, by decide, by decide⟩ (fun H1 l1 c1 s1 h1 h2 h3 hS1 ls hl => cont A _ np ns nc nn nm fv so sf st sn sc sp sx sy gv _ H1 l1 c1 s1 h1 h2 h3 hAp hCp (by omega) rfl hS1 ls hl) ls hl
    · skip
      have hpF := z_ptF hp
      have g2 : (pm_pt (xs (i + 2)) (xs (i + 3)) && pm_day (xs (i + 4))) = false := by rw [hpF]; rfl
      have hM := t_B_threeWay_2 (l := l) G hT A np ns nc nn nm fv so sf st sn sc sp sx sy k hk (xs (i + 2)) (xs (i + 3)) (xs (i + 4)) hp
      rw [← h3] at hM
      have hm := fun sz => c_M_threeWay_no (l := l) G E th np ns nc nn nm gv sz (xs (i + 1)) (xs (i + 2)) (xs (i + 3)) (xs (i + 4)) (z_g2 g2)
      simp only [z_th2 h3T g2] at hm
      exact go_threeWay_t2 C0 hL G hLX hi hAp hLS hS hcell hM ⟨rfl, rfl, by decide, by decide⟩ hm ⟨rfl, rfl, by decide, by decide⟩ (fun H1 l1 c1 s1 h1 h2 h3 hS1 ls hl => cont A _ np ns nc nn nm fv so sf st sn sc sp sx sy gv _ H1 l1 c1 s1 h1 h2 h3 hAp hCp (by omega) rfl hS1 ls hl) ls hl
set_option maxRecDepth 100000 in
set_option maxHeartbeats 4000000 in
theorem step_distance {p : Program} {e : Env} {s : State} {m : MethodId} {below : List Frame} {meth : Method} {c : Code} {l : Launch} {b L : Nat} {xs : Nat → Int32} (C0 : lw_At p s m meth c b L xs) (hL : L ≤ 2560) (G : z_G s (dC, dI) cI cS) (hLX : z_LX s cL) {A E : Nat → Nat} {o i : Nat} {th : Int32} {np ns nc nn nm : Nat} {fv : Nat → Nat → Int32} {so sf st : Nat → Int32} {sn sc : Nat → Nat} {sp : Nat → Option Nat} {sx sy gv : Nat → Nat → Int32} {f : Nat → Int64} {H : Heap} {locs : List Loc} {cells slots : Nat} {Q : State → Prop} (hi : i + 5 ≤ L) (hAp : z_Ap s A ns E o) (hLS : z_LS s (dC, dI) cI cS cL A E o th np ns nc nn nm fv so sf st sn sc sp sx sy gv f H) (hS : va_S (fun q => s.heap.size ≤ q) s.heap H locs) (hcell : cells + 3 ≤ room_1.cells ∧ slots + 33 ≤ room_1.slots) (hGI : z_GI s cI) (hT : z_T s l) (hCp : z_Cp np ns nn nm fv so sf st sn sc sp sx sy gv) (hnc : nc < 9999) (cont : ∀ (A' : Nat → Nat) (th' : Int32) (np' ns' nc' nn' nm' : Nat) (fv' : Nat → Nat → Int32) (so' sf' st' : Nat → Int32) (sn' sc' : Nat → Nat) (sp' : Nat → Option Nat) (sx' sy' gv' : Nat → Nat → Int32) (f' : Nat → Int64) (H1 : Heap) (locs1 : List Loc) (cells1 slots1 : Nat), cells1 ≤ cells + 3 → slots1 ≤ slots + 33 → z_LS s (dC, dI) cI cS cL A' E o th' np' ns' nc' nn' nm' fv' so' sf' st' sn' sc' sp' sx' sy' gv' f' H1 → z_Ap s A' ns' E o → z_Cp np' ns' nn' nm' fv' so' sf' st' sn' sc' sp' sx' sy' gv' → nc' ≤ nc + 1 → A' 0 = A 0 → va_S (fun q => s.heap.size ≤ q) s.heap H1 locs1 → ∀ ls : Array Slot, lv_has ls 7 [(0, .ref b), (1, .ref (A 0)), (2, .ref (E 0)), (3, .ref o), (4, .int (nI i))] → W p l e room_1 s m #[Value.ref b] below meth c H1 locs1 cells1 slots1 Q (F0 m 1342 ls [])) : ∀ ls : Array Slot, lv_has ls 7 [(0, .ref b), (1, .ref (A 0)), (2, .ref (E 0)), (3, .ref o), (4, .int (nI i))] → W p l e room_1 s m #[Value.ref b] below meth c H locs cells slots Q (F0 m 858 ls []) := by
  intro ls hl
  have hb : z_Sb ns nc sn sc sp := hLS.1.1.2.2.2
  obtain ⟨hnp, hns, hnn, hnm, hnc30⟩ := hLS.1.1.2.2.1
  rcases pk_ix (xs (i + 1)) (n := np) (by omega) with h3 | h3 | ⟨k, hk, h3⟩
  · have h3 : (xs (i + 1)) < 0 ∨ nI np ≤ (xs (i + 1)) := Or.inl h3
    have h3F := z_ixF h3
    have g1 : (pm_idx np (xs (i + 1)) && pm_idx np (xs (i + 2))) = false := by rw [h3F]; rfl
    have hM := t_B_distance_1 (l := l) G hT A np ns nc nn nm fv so sf st sn sc sp sx sy (xs (i + 1)) h3 (xs (i + 2)) (xs (i + 3))
    have hm := fun sz => c_M_distance_no (l := l) G E th np ns nc nn nm gv sz (xs (i + 1)) (xs (i + 2)) (xs (i + 3)) (z_g1 g1)
    simp only [z_th1 g1] at hm
    exact go_distance_t1 C0 hL G hLX hi hAp hLS hS hcell hM ⟨rfl, rfl, by decide, by decide⟩ hm ⟨rfl, rfl, by decide, by decide⟩ (fun H1 l1 c1 s1 h1 h2 h3 hS1 ls hl => cont A _ np ns nc nn nm fv so sf st sn sc sp sx sy gv _ H1 l1 c1 s1 h1 h2 h3 hAp hCp (by omega) rfl hS1 ls hl) ls hl
  · have h3 : (xs (i + 1)) < 0 ∨ nI np ≤ (xs (i + 1)) := Or.inr h3
    have h3F := z_ixF h3
    have g1 : (pm_idx np (xs (i + 1)) && pm_idx np (xs (i + 2))) = false := by rw [h3F]; rfl
    have hM := t_B_distance_1 (l := l) G hT A np ns nc nn nm fv so sf st sn sc sp sx sy (xs (i + 1)) h3 (xs (i + 2)) (xs (i + 3))
    have hm := fun sz => c_M_distance_no (l := l) G E th np ns nc nn nm gv sz (xs (i + 1)) (xs (i + 2)) (xs (i + 3)) (z_g1 g1)
    simp only [z_th1 g1] at hm
    exact go_distance_t1 C0 hL G hLX hi hAp hLS hS hcell hM ⟨rfl, rfl, by decide, by decide⟩ hm ⟨rfl, rfl, by decide, by decide⟩ (fun H1 l1 c1 s1 h1 h2 h3 hS1 ls hl => cont A _ np ns nc nn nm fv so sf st sn sc sp sx sy gv _ H1 l1 c1 s1 h1 h2 h3 hAp hCp (by omega) rfl hS1 ls hl) ls hl
  · have h3T : pm_idx np (xs (i + 1)) = true := by rw [h3]; exact pm_idx_ok hk (by omega)
    rcases pk_ix (xs (i + 2)) (n := np) (by omega) with h4 | h4 | ⟨j, hj, h4⟩
    · have h4 : (xs (i + 2)) < 0 ∨ nI np ≤ (xs (i + 2)) := Or.inl h4
      have h4F := z_ixF h4
      have g1 : (pm_idx np (xs (i + 1)) && pm_idx np (xs (i + 2))) = false := by rw [h4F, Bool.and_false]
      have hM := t_B_distance_2 (l := l) G hT A np ns nc nn nm fv so sf st sn sc sp sx sy k hk (xs (i + 2)) h4 (xs (i + 3))
      rw [← h3] at hM
      have hm := fun sz => c_M_distance_no (l := l) G E th np ns nc nn nm gv sz (xs (i + 1)) (xs (i + 2)) (xs (i + 3)) (z_g1 g1)
      simp only [z_th1 g1] at hm
      exact go_distance_t1 C0 hL G hLX hi hAp hLS hS hcell hM ⟨rfl, rfl, by decide, by decide⟩ hm ⟨rfl, rfl, by decide, by decide⟩ (fun H1 l1 c1 s1 h1 h2 h3 hS1 ls hl => cont A _ np ns nc nn nm fv so sf st sn sc sp sx sy gv _ H1 l1 c1 s1 h1 h2 h3 hAp hCp (by omega) rfl hS1 ls hl) ls hl
    · have h4 : (xs (i + 2)) < 0 ∨ nI np ≤ (xs (i + 2)) := Or.inr h4
      have h4F := z_ixF h4
      have g1 : (pm_idx np (xs (i + 1)) && pm_idx np (xs (i + 2))) = false := by rw [h4F, Bool.and_false]
      have hM := t_B_distance_2 (l := l) G hT A np ns nc nn nm fv so sf st sn sc sp sx sy k hk (xs (i + 2)) h4 (xs (i + 3))
      rw [← h3] at hM
      have hm := fun sz => c_M_distance_no (l := l) G E th np ns nc nn nm gv sz (xs (i + 1)) (xs (i + 2)) (xs (i + 3)) (z_g1 g1)
      simp only [z_th1 g1] at hm
      exact go_distance_t1 C0 hL G hLX hi hAp hLS hS hcell hM ⟨rfl, rfl, by decide, by decide⟩ hm ⟨rfl, rfl, by decide, by decide⟩ (fun H1 l1 c1 s1 h1 h2 h3 hS1 ls hl => cont A _ np ns nc nn nm fv so sf st sn sc sp sx sy gv _ H1 l1 c1 s1 h1 h2 h3 hAp hCp (by omega) rfl hS1 ls hl) ls hl
    · have h4T : pm_idx np (xs (i + 2)) = true := by rw [h4]; exact pm_idx_ok hj (by omega)
      have g1 : (pm_idx np (xs (i + 1)) && pm_idx np (xs (i + 2))) = true := by rw [h3T, h4T]; rfl
      by_cases hd : z_day (xs (i + 3))
      · skip
        have hdT := z_dyT hd
        have hM0 := c_B_distance (l := l) G A np ns nc nn nm fv so sf st sn sc sp sx sy k hk j hj (xs (i + 3)) hd
        rw [← h3] at hM0
        rw [← h4] at hM0
        have hM := z_rdw (sz := H.size) (F := z_fr (fun _ => False) H.size) hM0
        have hm := fun sz => c_M_distance_ok (l := l) G E th np ns nc nn nm gv sz (xs (i + 1)) (xs (i + 2)) (xs (i + 3)) sn (hCp.cn hb) (z_gT g1 hdT rfl)
        simp only [hCp.di hb hnc30] at hm
        exact go_distance C0 hL G hLX hi hAp hLS hS hcell (F := fun _ => False) hM ⟨rfl, rfl, by decide, by decide⟩ hm ⟨rfl, rfl, by decide, by decide⟩ (fun q h => h.elim) (fun k hk => Or.inl ⟨k, hk, rfl⟩) rfl ⟨Nat.zero_le _, Nat.zero_le _⟩ (fun H1 l1 c1 s1 h1 h2 h3 hS1 ls hl => cont A _ np ns nc nn nm fv so sf st sn sc sp sx sy gv _ H1 l1 c1 s1 h1 h2 h3 hAp hCp (by omega) rfl hS1 ls hl) ls hl
      · skip
        have hdF := z_dyF hd
        have hM := t_B_distance_3 (l := l) G hT A np ns nc nn nm fv so sf st sn sc sp sx sy k hk j hj (xs (i + 3)) hd
        rw [← h3] at hM
        rw [← h4] at hM
        have hm := fun sz => c_M_distance_no (l := l) G E th np ns nc nn nm gv sz (xs (i + 1)) (xs (i + 2)) (xs (i + 3)) (z_g2 hdF)
        simp only [z_th2 g1 hdF] at hm
        exact go_distance_t2 C0 hL G hLX hi hAp hLS hS hcell hM ⟨rfl, rfl, by decide, by decide⟩ hm ⟨rfl, rfl, by decide, by decide⟩ (fun H1 l1 c1 s1 h1 h2 h3 hS1 ls hl => cont A _ np ns nc nn nm fv so sf st sn sc sp sx sy gv _ H1 l1 c1 s1 h1 h2 h3 hAp hCp (by omega) rfl hS1 ls hl) ls hl
set_option maxRecDepth 100000 in
set_option maxHeartbeats 4000000 in
theorem step_inside {p : Program} {e : Env} {s : State} {m : MethodId} {below : List Frame} {meth : Method} {c : Code} {l : Launch} {b L : Nat} {xs : Nat → Int32} (C0 : lw_At p s m meth c b L xs) (hL : L ≤ 2560) (G : z_G s (dC, dI) cI cS) (hLX : z_LX s cL) {A E : Nat → Nat} {o i : Nat} {th : Int32} {np ns nc nn nm : Nat} {fv : Nat → Nat → Int32} {so sf st : Nat → Int32} {sn sc : Nat → Nat} {sp : Nat → Option Nat} {sx sy gv : Nat → Nat → Int32} {f : Nat → Int64} {H : Heap} {locs : List Loc} {cells slots : Nat} {Q : State → Prop} (hi : i + 5 ≤ L) (hAp : z_Ap s A ns E o) (hLS : z_LS s (dC, dI) cI cS cL A E o th np ns nc nn nm fv so sf st sn sc sp sx sy gv f H) (hS : va_S (fun q => s.heap.size ≤ q) s.heap H locs) (hcell : cells + 3 ≤ room_1.cells ∧ slots + 33 ≤ room_1.slots) (hGI : z_GI s cI) (hT : z_T s l) (hCp : z_Cp np ns nn nm fv so sf st sn sc sp sx sy gv) (hnc : nc < 9999) (cont : ∀ (A' : Nat → Nat) (th' : Int32) (np' ns' nc' nn' nm' : Nat) (fv' : Nat → Nat → Int32) (so' sf' st' : Nat → Int32) (sn' sc' : Nat → Nat) (sp' : Nat → Option Nat) (sx' sy' gv' : Nat → Nat → Int32) (f' : Nat → Int64) (H1 : Heap) (locs1 : List Loc) (cells1 slots1 : Nat), cells1 ≤ cells + 3 → slots1 ≤ slots + 33 → z_LS s (dC, dI) cI cS cL A' E o th' np' ns' nc' nn' nm' fv' so' sf' st' sn' sc' sp' sx' sy' gv' f' H1 → z_Ap s A' ns' E o → z_Cp np' ns' nn' nm' fv' so' sf' st' sn' sc' sp' sx' sy' gv' → nc' ≤ nc + 1 → A' 0 = A 0 → va_S (fun q => s.heap.size ≤ q) s.heap H1 locs1 → ∀ ls : Array Slot, lv_has ls 7 [(0, .ref b), (1, .ref (A 0)), (2, .ref (E 0)), (3, .ref o), (4, .int (nI i))] → W p l e room_1 s m #[Value.ref b] below meth c H1 locs1 cells1 slots1 Q (F0 m 1342 ls [])) : ∀ ls : Array Slot, lv_has ls 7 [(0, .ref b), (1, .ref (A 0)), (2, .ref (E 0)), (3, .ref o), (4, .int (nI i))] → W p l e room_1 s m #[Value.ref b] below meth c H locs cells slots Q (F0 m 538 ls []) := by
  intro ls hl
  have hb : z_Sb ns nc sn sc sp := hLS.1.1.2.2.2
  obtain ⟨hnp, hns, hnn, hnm, hnc30⟩ := hLS.1.1.2.2.1
  by_cases h3 : 0 ≤ (xs (i + 4))
  · skip
    have h3T : decide (0 ≤ (xs (i + 4))) = true := decide_eq_true h3
    obtain ⟨kk, hkk, hke⟩ := nI_of (x := (xs (i + 4))) (Int32.not_lt.mpr h3)
    by_cases hp : z_pt (xs (i + 1)) (xs (i + 2))
    · skip
      have hpT := z_ptT hp
      by_cases hd : z_day (xs (i + 3))
      · skip
        have hdT := z_dyT hd
        have g2 : (pm_pt (xs (i + 1)) (xs (i + 2)) && pm_day (xs (i + 3))) = true := by rw [hpT, hdT]; rfl
        have hM0 := c_B_inside (l := l) G A np ns nc nn nm fv so sf st sn sc sp sx sy (xs (i + 1)) (xs (i + 2)) (xs (i + 3)) kk hkk hp hd
        rw [← hke] at hM0
        have hM := z_rdw (sz := H.size) (F := z_fr (fun _ => False) H.size) hM0
        have hm := fun sz => c_M_inside_ok (l := l) G E th np ns nc nn nm gv sz (xs (i + 1)) (xs (i + 2)) (xs (i + 3)) kk hkk sn (hCp.cn hb) (z_gT rfl g2 rfl)
        simp only [← hke] at hm
        simp only [hCp.inside hb hnc30 hp] at hm
        exact go_inside C0 hL G hLX hi hAp hLS hS hcell (F := fun _ => False) hM ⟨rfl, rfl, by decide, by decide⟩ hm ⟨rfl, rfl, by decide, by decide⟩ (fun q h => h.elim) (fun k hk => Or.inl ⟨k, hk, rfl⟩) rfl ⟨Nat.zero_le _, Nat.zero_le _⟩ (fun H1 l1 c1 s1 h1 h2 h3 hS1 ls hl => cont A _ np ns nc nn nm fv so sf st sn sc sp sx sy gv _ H1 l1 c1 s1 h1 h2 h3 hAp hCp (by omega) rfl hS1 ls hl) ls hl
      · skip
        have hdF := z_dyF hd
        have g2 : (pm_pt (xs (i + 1)) (xs (i + 2)) && pm_day (xs (i + 3))) = false := by rw [hdF, Bool.and_false]
        have hM := t_B_inside_3 (l := l) G hT A np ns nc nn nm fv so sf st sn sc sp sx sy (xs (i + 1)) (xs (i + 2)) (xs (i + 3)) hd (xs (i + 4)) h3 hp
        have hm := fun sz => c_M_inside_no (l := l) G E th np ns nc nn nm gv sz (xs (i + 1)) (xs (i + 2)) (xs (i + 3)) (xs (i + 4)) (z_g2 g2)
        simp only [z_th2 h3T g2] at hm
        exact go_inside_t2 C0 hL G hLX hi hAp hLS hS hcell hM ⟨rfl, rfl, by decide, by decide⟩ hm ⟨rfl, rfl, by decide, by decide⟩ (fun H1 l1 c1 s1 h1 h2 h3 hS1 ls hl => cont A _ np ns nc nn nm fv so sf st sn sc sp sx sy gv _ H1 l1 c1 s1 h1 h2 h3 hAp hCp (by omega) rfl hS1 ls hl) ls hl
    · skip
      have hpF := z_ptF hp
      have g2 : (pm_pt (xs (i + 1)) (xs (i + 2)) && pm_day (xs (i + 3))) = false := by rw [hpF]; rfl
      have hM := t_B_inside_2 (l := l) G hT A np ns nc nn nm fv so sf st sn sc sp sx sy (xs (i + 1)) (xs (i + 2)) (xs (i + 3)) (xs (i + 4)) h3 hp
      have hm := fun sz => c_M_inside_no (l := l) G E th np ns nc nn nm gv sz (xs (i + 1)) (xs (i + 2)) (xs (i + 3)) (xs (i + 4)) (z_g2 g2)
      simp only [z_th2 h3T g2] at hm
      exact go_inside_t2 C0 hL G hLX hi hAp hLS hS hcell hM ⟨rfl, rfl, by decide, by decide⟩ hm ⟨rfl, rfl, by decide, by decide⟩ (fun H1 l1 c1 s1 h1 h2 h3 hS1 ls hl => cont A _ np ns nc nn nm fv so sf st sn sc sp sx sy gv _ H1 l1 c1 s1 h1 h2 h3 hAp hCp (by omega) rfl hS1 ls hl) ls hl
  · skip
    have h3F : decide (0 ≤ (xs (i + 4))) = false := decide_eq_false h3
    have h3n : (xs (i + 4)) < 0 := Int32.not_le.mp h3
    have hM := t_B_inside_1 (l := l) G hT A np ns nc nn nm fv so sf st sn sc sp sx sy (xs (i + 1)) (xs (i + 2)) (xs (i + 3)) (xs (i + 4)) h3n
    have hm := fun sz => c_M_inside_no (l := l) G E th np ns nc nn nm gv sz (xs (i + 1)) (xs (i + 2)) (xs (i + 3)) (xs (i + 4)) (z_g1 h3F)
    simp only [z_th1 h3F] at hm
    exact go_inside_t1 C0 hL G hLX hi hAp hLS hS hcell hM ⟨rfl, rfl, by decide, by decide⟩ hm ⟨rfl, rfl, by decide, by decide⟩ (fun H1 l1 c1 s1 h1 h2 h3 hS1 ls hl => cont A _ np ns nc nn nm fv so sf st sn sc sp sx sy gv _ H1 l1 c1 s1 h1 h2 h3 hAp hCp (by omega) rfl hS1 ls hl) ls hl
set_option maxRecDepth 100000 in
set_option maxHeartbeats 4000000 in
theorem step_misfit {p : Program} {e : Env} {s : State} {m : MethodId} {below : List Frame} {meth : Method} {c : Code} {l : Launch} {b L : Nat} {xs : Nat → Int32} (C0 : lw_At p s m meth c b L xs) (hL : L ≤ 2560) (G : z_G s (dC, dI) cI cS) (hLX : z_LX s cL) {A E : Nat → Nat} {o i : Nat} {th : Int32} {np ns nc nn nm : Nat} {fv : Nat → Nat → Int32} {so sf st : Nat → Int32} {sn sc : Nat → Nat} {sp : Nat → Option Nat} {sx sy gv : Nat → Nat → Int32} {f : Nat → Int64} {H : Heap} {locs : List Loc} {cells slots : Nat} {Q : State → Prop} (hi : i + 5 ≤ L) (hAp : z_Ap s A ns E o) (hLS : z_LS s (dC, dI) cI cS cL A E o th np ns nc nn nm fv so sf st sn sc sp sx sy gv f H) (hS : va_S (fun q => s.heap.size ≤ q) s.heap H locs) (hcell : cells + 3 ≤ room_1.cells ∧ slots + 33 ≤ room_1.slots) (hGI : z_GI s cI) (hT : z_T s l) (hCp : z_Cp np ns nn nm fv so sf st sn sc sp sx sy gv) (hnc : nc < 9999) (cont : ∀ (A' : Nat → Nat) (th' : Int32) (np' ns' nc' nn' nm' : Nat) (fv' : Nat → Nat → Int32) (so' sf' st' : Nat → Int32) (sn' sc' : Nat → Nat) (sp' : Nat → Option Nat) (sx' sy' gv' : Nat → Nat → Int32) (f' : Nat → Int64) (H1 : Heap) (locs1 : List Loc) (cells1 slots1 : Nat), cells1 ≤ cells + 3 → slots1 ≤ slots + 33 → z_LS s (dC, dI) cI cS cL A' E o th' np' ns' nc' nn' nm' fv' so' sf' st' sn' sc' sp' sx' sy' gv' f' H1 → z_Ap s A' ns' E o → z_Cp np' ns' nn' nm' fv' so' sf' st' sn' sc' sp' sx' sy' gv' → nc' ≤ nc + 1 → A' 0 = A 0 → va_S (fun q => s.heap.size ≤ q) s.heap H1 locs1 → ∀ ls : Array Slot, lv_has ls 7 [(0, .ref b), (1, .ref (A 0)), (2, .ref (E 0)), (3, .ref o), (4, .int (nI i))] → W p l e room_1 s m #[Value.ref b] below meth c H1 locs1 cells1 slots1 Q (F0 m 1342 ls [])) : ∀ ls : Array Slot, lv_has ls 7 [(0, .ref b), (1, .ref (A 0)), (2, .ref (E 0)), (3, .ref o), (4, .int (nI i))] → W p l e room_1 s m #[Value.ref b] below meth c H locs cells slots Q (F0 m 790 ls []) := by
  intro ls hl
  have hb : z_Sb ns nc sn sc sp := hLS.1.1.2.2.2
  obtain ⟨hnp, hns, hnn, hnm, hnc30⟩ := hLS.1.1.2.2.1
  by_cases h3 : 0 ≤ (xs (i + 1))
  · skip
    have h3T : decide (0 ≤ (xs (i + 1))) = true := decide_eq_true h3
    obtain ⟨kk, hkk, hke⟩ := nI_of (x := (xs (i + 1))) (Int32.not_lt.mpr h3)
    by_cases hd : z_day (xs (i + 2))
    · skip
      have hdT := z_dyT hd
      have hM0 := c_B_misfit (l := l) G A np ns nc nn nm fv so sf st sn sc sp sx sy kk (xs (i + 2)) hkk hd
      rw [← hke] at hM0
      have hM := z_rdw (sz := H.size) (F := z_fr (fun _ => False) H.size) hM0
      have hm := fun sz => c_M_misfit_ok (l := l) G E th np ns nc nn nm gv sz kk (xs (i + 2)) hkk sn (hCp.cn hb) (z_gT rfl hdT rfl)
      simp only [← hke] at hm
      simp only [hCp.mis hb hnc30] at hm
      exact go_misfit C0 hL G hLX hi hAp hLS hS hcell (F := fun _ => False) hM ⟨rfl, rfl, by decide, by decide⟩ hm ⟨rfl, rfl, by decide, by decide⟩ (fun q h => h.elim) (fun k hk => Or.inl ⟨k, hk, rfl⟩) rfl ⟨Nat.zero_le _, Nat.zero_le _⟩ (fun H1 l1 c1 s1 h1 h2 h3 hS1 ls hl => cont A _ np ns nc nn nm fv so sf st sn sc sp sx sy gv _ H1 l1 c1 s1 h1 h2 h3 hAp hCp (by omega) rfl hS1 ls hl) ls hl
    · skip
      have hdF := z_dyF hd
      have hM := t_B_misfit_2 (l := l) G hT A np ns nc nn nm fv so sf st sn sc sp sx sy (xs (i + 1)) h3 (xs (i + 2)) hd
      have hm := fun sz => c_M_misfit_no (l := l) G E th np ns nc nn nm gv sz (xs (i + 1)) (xs (i + 2)) (z_g2 hdF)
      simp only [z_th2 h3T hdF] at hm
      exact go_misfit_t2 C0 hL G hLX hi hAp hLS hS hcell hM ⟨rfl, rfl, by decide, by decide⟩ hm ⟨rfl, rfl, by decide, by decide⟩ (fun H1 l1 c1 s1 h1 h2 h3 hS1 ls hl => cont A _ np ns nc nn nm fv so sf st sn sc sp sx sy gv _ H1 l1 c1 s1 h1 h2 h3 hAp hCp (by omega) rfl hS1 ls hl) ls hl
  · skip
    have h3F : decide (0 ≤ (xs (i + 1))) = false := decide_eq_false h3
    have h3n : (xs (i + 1)) < 0 := Int32.not_le.mp h3
    have hM := t_B_misfit_1 (l := l) G hT A np ns nc nn nm fv so sf st sn sc sp sx sy (xs (i + 1)) (xs (i + 2)) h3n
    have hm := fun sz => c_M_misfit_no (l := l) G E th np ns nc nn nm gv sz (xs (i + 1)) (xs (i + 2)) (z_g1 h3F)
    simp only [z_th1 h3F] at hm
    exact go_misfit_t1 C0 hL G hLX hi hAp hLS hS hcell hM ⟨rfl, rfl, by decide, by decide⟩ hm ⟨rfl, rfl, by decide, by decide⟩ (fun H1 l1 c1 s1 h1 h2 h3 hS1 ls hl => cont A _ np ns nc nn nm fv so sf st sn sc sp sx sy gv _ H1 l1 c1 s1 h1 h2 h3 hAp hCp (by omega) rfl hS1 ls hl) ls hl
set_option maxRecDepth 100000 in
set_option maxHeartbeats 4000000 in
theorem step_mark {p : Program} {e : Env} {s : State} {m : MethodId} {below : List Frame} {meth : Method} {c : Code} {l : Launch} {b L : Nat} {xs : Nat → Int32} (C0 : lw_At p s m meth c b L xs) (hL : L ≤ 2560) (G : z_G s (dC, dI) cI cS) (hLX : z_LX s cL) {A E : Nat → Nat} {o i : Nat} {th : Int32} {np ns nc nn nm : Nat} {fv : Nat → Nat → Int32} {so sf st : Nat → Int32} {sn sc : Nat → Nat} {sp : Nat → Option Nat} {sx sy gv : Nat → Nat → Int32} {f : Nat → Int64} {H : Heap} {locs : List Loc} {cells slots : Nat} {Q : State → Prop} (hi : i + 5 ≤ L) (hAp : z_Ap s A ns E o) (hLS : z_LS s (dC, dI) cI cS cL A E o th np ns nc nn nm fv so sf st sn sc sp sx sy gv f H) (hS : va_S (fun q => s.heap.size ≤ q) s.heap H locs) (hcell : cells + 3 ≤ room_1.cells ∧ slots + 33 ≤ room_1.slots) (hGI : z_GI s cI) (hT : z_T s l) (hCp : z_Cp np ns nn nm fv so sf st sn sc sp sx sy gv) (hnc : nc < 9999) (cont : ∀ (A' : Nat → Nat) (th' : Int32) (np' ns' nc' nn' nm' : Nat) (fv' : Nat → Nat → Int32) (so' sf' st' : Nat → Int32) (sn' sc' : Nat → Nat) (sp' : Nat → Option Nat) (sx' sy' gv' : Nat → Nat → Int32) (f' : Nat → Int64) (H1 : Heap) (locs1 : List Loc) (cells1 slots1 : Nat), cells1 ≤ cells + 3 → slots1 ≤ slots + 33 → z_LS s (dC, dI) cI cS cL A' E o th' np' ns' nc' nn' nm' fv' so' sf' st' sn' sc' sp' sx' sy' gv' f' H1 → z_Ap s A' ns' E o → z_Cp np' ns' nn' nm' fv' so' sf' st' sn' sc' sp' sx' sy' gv' → nc' ≤ nc + 1 → A' 0 = A 0 → va_S (fun q => s.heap.size ≤ q) s.heap H1 locs1 → ∀ ls : Array Slot, lv_has ls 7 [(0, .ref b), (1, .ref (A 0)), (2, .ref (E 0)), (3, .ref o), (4, .int (nI i))] → W p l e room_1 s m #[Value.ref b] below meth c H1 locs1 cells1 slots1 Q (F0 m 1342 ls [])) : ∀ ls : Array Slot, lv_has ls 7 [(0, .ref b), (1, .ref (A 0)), (2, .ref (E 0)), (3, .ref o), (4, .int (nI i))] → W p l e room_1 s m #[Value.ref b] below meth c H locs cells slots Q (F0 m 1078 ls []) := by
  intro ls hl
  have hb : z_Sb ns nc sn sc sp := hLS.1.1.2.2.2
  obtain ⟨hnp, hns, hnn, hnm, hnc30⟩ := hLS.1.1.2.2.1
  by_cases hp : z_pt (xs (i + 1)) (xs (i + 2))
  · skip
    have hpT := z_ptT hp
    by_cases hq : z_pt (xs (i + 3)) (xs (i + 4))
    · skip
      have hqT := z_ptT hq
      have g1 : (pm_pt (xs (i + 1)) (xs (i + 2)) && pm_pt (xs (i + 3)) (xs (i + 4))) = true := by rw [hpT, hqT]; rfl
      by_cases h5 : nm < 12
      · skip
        have hM := c_B_mark (l := l) G H.size A np ns nc nn nm fv so sf st sn sc sp sx sy (xs (i + 1)) (xs (i + 2)) (xs (i + 3)) (xs (i + 4)) hp hq h5
        have hm := fun sz => c_M_mark_ok (l := l) G E th np ns nc nn nm gv sz (xs (i + 1)) (xs (i + 2)) (xs (i + 3)) (xs (i + 4)) h5 (z_gT g1 (decide_eq_true h5) rfl)
        have cp := hCp.mark hp hq
        exact go_mark C0 hL G hLX hi hAp hLS hS hcell hM ⟨rfl, rfl, by decide, by decide⟩ hm ⟨rfl, rfl, by decide, by decide⟩ (fun q h => h) (fun k hk => Or.inl ⟨k, hk, rfl⟩) rfl ⟨Nat.zero_le _, Nat.zero_le _⟩ (fun H1 l1 c1 s1 h1 h2 h3 hS1 ls hl => cont _ _ _ _ _ _ _ _ _ _ _ _ _ _ _ _ _ _ H1 l1 c1 s1 h1 h2 h3 hAp cp (by omega) rfl hS1 ls hl) ls hl
      · skip
        have g2 : decide (nm < 12) = false := decide_eq_false h5
        have hM := t_B_mark_3 (l := l) G hT A np ns nc nn nm fv so sf st sn sc sp sx sy (xs (i + 1)) (xs (i + 2)) (xs (i + 3)) (xs (i + 4)) hp hq (by omega)
        have hm := fun sz => c_M_mark_no (l := l) G E th np ns nc nn nm gv sz (xs (i + 1)) (xs (i + 2)) (xs (i + 3)) (xs (i + 4)) (z_g2 g2)
        simp only [z_th2 g1 g2] at hm
        exact go_mark_t2 C0 hL G hLX hi hAp hLS hS hcell hM ⟨rfl, rfl, by decide, by decide⟩ hm ⟨rfl, rfl, by decide, by decide⟩ (fun H1 l1 c1 s1 h1 h2 h3 hS1 ls hl => cont A _ np ns nc nn nm fv so sf st sn sc sp sx sy gv _ H1 l1 c1 s1 h1 h2 h3 hAp hCp (by omega) rfl hS1 ls hl) ls hl
    · skip
      have hqF := z_ptF hq
      have g1 : (pm_pt (xs (i + 1)) (xs (i + 2)) && pm_pt (xs (i + 3)) (xs (i + 4))) = false := by rw [hqF, Bool.and_false]
      have hM := t_B_mark_2 (l := l) G hT A np ns nc nn nm fv so sf st sn sc sp sx sy (xs (i + 1)) (xs (i + 2)) (xs (i + 3)) (xs (i + 4)) hp hq
      have hm := fun sz => c_M_mark_no (l := l) G E th np ns nc nn nm gv sz (xs (i + 1)) (xs (i + 2)) (xs (i + 3)) (xs (i + 4)) (z_g1 g1)
      simp only [z_th1 g1] at hm
      exact go_mark_t1 C0 hL G hLX hi hAp hLS hS hcell hM ⟨rfl, rfl, by decide, by decide⟩ hm ⟨rfl, rfl, by decide, by decide⟩ (fun H1 l1 c1 s1 h1 h2 h3 hS1 ls hl => cont A _ np ns nc nn nm fv so sf st sn sc sp sx sy gv _ H1 l1 c1 s1 h1 h2 h3 hAp hCp (by omega) rfl hS1 ls hl) ls hl
  · skip
    have hpF := z_ptF hp
    have g1 : (pm_pt (xs (i + 1)) (xs (i + 2)) && pm_pt (xs (i + 3)) (xs (i + 4))) = false := by rw [hpF]; rfl
    have hM := t_B_mark_1 (l := l) G hT A np ns nc nn nm fv so sf st sn sc sp sx sy (xs (i + 1)) (xs (i + 2)) (xs (i + 3)) (xs (i + 4)) hp
    have hm := fun sz => c_M_mark_no (l := l) G E th np ns nc nn nm gv sz (xs (i + 1)) (xs (i + 2)) (xs (i + 3)) (xs (i + 4)) (z_g1 g1)
    simp only [z_th1 g1] at hm
    exact go_mark_t1 C0 hL G hLX hi hAp hLS hS hcell hM ⟨rfl, rfl, by decide, by decide⟩ hm ⟨rfl, rfl, by decide, by decide⟩ (fun H1 l1 c1 s1 h1 h2 h3 hS1 ls hl => cont A _ np ns nc nn nm fv so sf st sn sc sp sx sy gv _ H1 l1 c1 s1 h1 h2 h3 hAp hCp (by omega) rfl hS1 ls hl) ls hl
set_option maxRecDepth 100000 in
set_option maxHeartbeats 4000000 in
theorem step_masked {p : Program} {e : Env} {s : State} {m : MethodId} {below : List Frame} {meth : Method} {c : Code} {l : Launch} {b L : Nat} {xs : Nat → Int32} (C0 : lw_At p s m meth c b L xs) (hL : L ≤ 2560) (G : z_G s (dC, dI) cI cS) (hLX : z_LX s cL) {A E : Nat → Nat} {o i : Nat} {th : Int32} {np ns nc nn nm : Nat} {fv : Nat → Nat → Int32} {so sf st : Nat → Int32} {sn sc : Nat → Nat} {sp : Nat → Option Nat} {sx sy gv : Nat → Nat → Int32} {f : Nat → Int64} {H : Heap} {locs : List Loc} {cells slots : Nat} {Q : State → Prop} (hi : i + 5 ≤ L) (hAp : z_Ap s A ns E o) (hLS : z_LS s (dC, dI) cI cS cL A E o th np ns nc nn nm fv so sf st sn sc sp sx sy gv f H) (hS : va_S (fun q => s.heap.size ≤ q) s.heap H locs) (hcell : cells + 3 ≤ room_1.cells ∧ slots + 33 ≤ room_1.slots) (hGI : z_GI s cI) (hT : z_T s l) (hCp : z_Cp np ns nn nm fv so sf st sn sc sp sx sy gv) (hnc : nc < 9999) (cont : ∀ (A' : Nat → Nat) (th' : Int32) (np' ns' nc' nn' nm' : Nat) (fv' : Nat → Nat → Int32) (so' sf' st' : Nat → Int32) (sn' sc' : Nat → Nat) (sp' : Nat → Option Nat) (sx' sy' gv' : Nat → Nat → Int32) (f' : Nat → Int64) (H1 : Heap) (locs1 : List Loc) (cells1 slots1 : Nat), cells1 ≤ cells + 3 → slots1 ≤ slots + 33 → z_LS s (dC, dI) cI cS cL A' E o th' np' ns' nc' nn' nm' fv' so' sf' st' sn' sc' sp' sx' sy' gv' f' H1 → z_Ap s A' ns' E o → z_Cp np' ns' nn' nm' fv' so' sf' st' sn' sc' sp' sx' sy' gv' → nc' ≤ nc + 1 → A' 0 = A 0 → va_S (fun q => s.heap.size ≤ q) s.heap H1 locs1 → ∀ ls : Array Slot, lv_has ls 7 [(0, .ref b), (1, .ref (A 0)), (2, .ref (E 0)), (3, .ref o), (4, .int (nI i))] → W p l e room_1 s m #[Value.ref b] below meth c H1 locs1 cells1 slots1 Q (F0 m 1342 ls [])) : ∀ ls : Array Slot, lv_has ls 7 [(0, .ref b), (1, .ref (A 0)), (2, .ref (E 0)), (3, .ref o), (4, .int (nI i))] → W p l e room_1 s m #[Value.ref b] below meth c H locs cells slots Q (F0 m 1250 ls []) := by
  intro ls hl
  have hb : z_Sb ns nc sn sc sp := hLS.1.1.2.2.2
  obtain ⟨hnp, hns, hnn, hnm, hnc30⟩ := hLS.1.1.2.2.1
  by_cases hax : (xs (i + 4)) = 0 ∨ (xs (i + 4)) = 1
  · skip
    have g1 : (decide ((xs (i + 4)) = 0) || decide ((xs (i + 4)) = 1)) = true := by rcases hax with h | h; (rw [decide_eq_true h]; rfl); (rw [decide_eq_true h, Bool.or_true])
    by_cases hp : z_pt (xs (i + 1)) (xs (i + 2))
    · skip
      have hpT := z_ptT hp
      by_cases hz : 1 ≤ (xs (i + 3)) ∧ (xs (i + 3)) ≤ 10000
      · skip
        have g2 : (pm_pt (xs (i + 1)) (xs (i + 2)) && (decide (1 ≤ (xs (i + 3))) && decide ((xs (i + 3)) ≤ 10000))) = true := by rw [hpT, decide_eq_true hz.1, decide_eq_true hz.2]; rfl
        have hv : pm_msk (if (xs (i + 4)) = 0 then (xs (i + 1)) else (xs (i + 2))) (xs (i + 3)) = pl_fdi (if (xs (i + 4)) = 0 then (xs (i + 1)) else (xs (i + 2))) (xs (i + 3)) * (xs (i + 3)) := by split; exact (pq_msk (pq_pt hp).1 hz.1 hz.2).symm; exact (pq_msk (pq_pt hp).2 hz.1 hz.2).symm
        have hM0 := c_B_masked (l := l) G A np ns nc nn nm fv so sf st sn sc sp sx sy (xs (i + 1)) (xs (i + 2)) (xs (i + 3)) (xs (i + 4)) hax hp hz.1 hz.2
        have hM := z_rdw (sz := H.size) (F := z_fr (fun _ => False) H.size) hM0
        have hm := fun sz => c_M_masked_ok (l := l) G E th np ns nc nn nm gv sz (xs (i + 1)) (xs (i + 2)) (xs (i + 3)) (xs (i + 4)) hz.1 (z_gT g1 g2 rfl)
        simp only [hv] at hm
        exact go_masked C0 hL G hLX hi hAp hLS hS hcell (F := fun _ => False) hM ⟨rfl, rfl, by decide, by decide⟩ hm ⟨rfl, rfl, by decide, by decide⟩ (fun q h => h.elim) (fun k hk => Or.inl ⟨k, hk, rfl⟩) rfl ⟨Nat.zero_le _, Nat.zero_le _⟩ (fun H1 l1 c1 s1 h1 h2 h3 hS1 ls hl => cont A _ np ns nc nn nm fv so sf st sn sc sp sx sy gv _ H1 l1 c1 s1 h1 h2 h3 hAp hCp (by omega) rfl hS1 ls hl) ls hl
      · skip
        have g2 : (pm_pt (xs (i + 1)) (xs (i + 2)) && (decide (1 ≤ (xs (i + 3))) && decide ((xs (i + 3)) ≤ 10000))) = false := by rw [hpT]; by_cases q : 1 ≤ (xs (i + 3)); (rw [decide_eq_true q, decide_eq_false (fun r => hz ⟨q, r⟩)]; rfl); (rw [decide_eq_false q]; rfl)
        have hM := t_B_masked_3 (l := l) G hT A np ns nc nn nm fv so sf st sn sc sp sx sy (xs (i + 1)) (xs (i + 2)) (xs (i + 3)) hz hp (xs (i + 4)) hax
        have hm := fun sz => c_M_masked_no (l := l) G E th np ns nc nn nm gv sz (xs (i + 1)) (xs (i + 2)) (xs (i + 3)) (xs (i + 4)) (z_g2 g2)
        simp only [z_th2 g1 g2] at hm
        exact go_masked_t2 C0 hL G hLX hi hAp hLS hS hcell hM ⟨rfl, rfl, by decide, by decide⟩ hm ⟨rfl, rfl, by decide, by decide⟩ (fun H1 l1 c1 s1 h1 h2 h3 hS1 ls hl => cont A _ np ns nc nn nm fv so sf st sn sc sp sx sy gv _ H1 l1 c1 s1 h1 h2 h3 hAp hCp (by omega) rfl hS1 ls hl) ls hl
    · skip
      have hpF := z_ptF hp
      have g2 : (pm_pt (xs (i + 1)) (xs (i + 2)) && (decide (1 ≤ (xs (i + 3))) && decide ((xs (i + 3)) ≤ 10000))) = false := by rw [hpF]; rfl
      have hM := t_B_masked_2 (l := l) G hT A np ns nc nn nm fv so sf st sn sc sp sx sy (xs (i + 1)) (xs (i + 2)) (xs (i + 3)) hp (xs (i + 4)) hax
      have hm := fun sz => c_M_masked_no (l := l) G E th np ns nc nn nm gv sz (xs (i + 1)) (xs (i + 2)) (xs (i + 3)) (xs (i + 4)) (z_g2 g2)
      simp only [z_th2 g1 g2] at hm
      exact go_masked_t2 C0 hL G hLX hi hAp hLS hS hcell hM ⟨rfl, rfl, by decide, by decide⟩ hm ⟨rfl, rfl, by decide, by decide⟩ (fun H1 l1 c1 s1 h1 h2 h3 hS1 ls hl => cont A _ np ns nc nn nm fv so sf st sn sc sp sx sy gv _ H1 l1 c1 s1 h1 h2 h3 hAp hCp (by omega) rfl hS1 ls hl) ls hl
  · skip
    have g1 : (decide ((xs (i + 4)) = 0) || decide ((xs (i + 4)) = 1)) = false := by rw [decide_eq_false (fun h => hax (Or.inl h)), decide_eq_false (fun h => hax (Or.inr h))]; rfl
    have hM := t_B_masked_1 (l := l) G hT A np ns nc nn nm fv so sf st sn sc sp sx sy (xs (i + 1)) (xs (i + 2)) (xs (i + 3)) (xs (i + 4)) hax
    have hm := fun sz => c_M_masked_no (l := l) G E th np ns nc nn nm gv sz (xs (i + 1)) (xs (i + 2)) (xs (i + 3)) (xs (i + 4)) (z_g1 g1)
    simp only [z_th1 g1] at hm
    exact go_masked_t1 C0 hL G hLX hi hAp hLS hS hcell hM ⟨rfl, rfl, by decide, by decide⟩ hm ⟨rfl, rfl, by decide, by decide⟩ (fun H1 l1 c1 s1 h1 h2 h3 hS1 ls hl => cont A _ np ns nc nn nm fv so sf st sn sc sp sx sy gv _ H1 l1 c1 s1 h1 h2 h3 hAp hCp (by omega) rfl hS1 ls hl) ls hl
set_option maxRecDepth 100000 in
set_option maxHeartbeats 4000000 in
theorem step_placed {p : Program} {e : Env} {s : State} {m : MethodId} {below : List Frame} {meth : Method} {c : Code} {l : Launch} {b L : Nat} {xs : Nat → Int32} (C0 : lw_At p s m meth c b L xs) (hL : L ≤ 2560) (G : z_G s (dC, dI) cI cS) (hLX : z_LX s cL) {A E : Nat → Nat} {o i : Nat} {th : Int32} {np ns nc nn nm : Nat} {fv : Nat → Nat → Int32} {so sf st : Nat → Int32} {sn sc : Nat → Nat} {sp : Nat → Option Nat} {sx sy gv : Nat → Nat → Int32} {f : Nat → Int64} {H : Heap} {locs : List Loc} {cells slots : Nat} {Q : State → Prop} (hi : i + 5 ≤ L) (hAp : z_Ap s A ns E o) (hLS : z_LS s (dC, dI) cI cS cL A E o th np ns nc nn nm fv so sf st sn sc sp sx sy gv f H) (hS : va_S (fun q => s.heap.size ≤ q) s.heap H locs) (hcell : cells + 3 ≤ room_1.cells ∧ slots + 33 ≤ room_1.slots) (hGI : z_GI s cI) (hT : z_T s l) (hCp : z_Cp np ns nn nm fv so sf st sn sc sp sx sy gv) (hnc : nc < 9999) (cont : ∀ (A' : Nat → Nat) (th' : Int32) (np' ns' nc' nn' nm' : Nat) (fv' : Nat → Nat → Int32) (so' sf' st' : Nat → Int32) (sn' sc' : Nat → Nat) (sp' : Nat → Option Nat) (sx' sy' gv' : Nat → Nat → Int32) (f' : Nat → Int64) (H1 : Heap) (locs1 : List Loc) (cells1 slots1 : Nat), cells1 ≤ cells + 3 → slots1 ≤ slots + 33 → z_LS s (dC, dI) cI cS cL A' E o th' np' ns' nc' nn' nm' fv' so' sf' st' sn' sc' sp' sx' sy' gv' f' H1 → z_Ap s A' ns' E o → z_Cp np' ns' nn' nm' fv' so' sf' st' sn' sc' sp' sx' sy' gv' → nc' ≤ nc + 1 → A' 0 = A 0 → va_S (fun q => s.heap.size ≤ q) s.heap H1 locs1 → ∀ ls : Array Slot, lv_has ls 7 [(0, .ref b), (1, .ref (A 0)), (2, .ref (E 0)), (3, .ref o), (4, .int (nI i))] → W p l e room_1 s m #[Value.ref b] below meth c H1 locs1 cells1 slots1 Q (F0 m 1342 ls [])) : ∀ ls : Array Slot, lv_has ls 7 [(0, .ref b), (1, .ref (A 0)), (2, .ref (E 0)), (3, .ref o), (4, .int (nI i))] → W p l e room_1 s m #[Value.ref b] below meth c H locs cells slots Q (F0 m 1170 ls []) := by
  intro ls hl
  have hb : z_Sb ns nc sn sc sp := hLS.1.1.2.2.2
  obtain ⟨hnp, hns, hnn, hnm, hnc30⟩ := hLS.1.1.2.2.1
  obtain ⟨fo, hfo⟩ : ∃ fo, pm_fnd gv nm (xs (i + 1)) (xs (i + 2)) 1728 0 = fo := ⟨_, rfl⟩
  by_cases ha : (xs (i + 3)) = 0
  · skip
    by_cases hp : z_pt (xs (i + 1)) (xs (i + 2))
    · skip
      have hpT := z_ptT hp
      have hF := hCp.fnd hnm hp hpT 1728 rfl
      rw [hfo] at hF
      rcases fo with _ | q
      · skip
        have hM := t_B_placed_3 (l := l) G hT A np ns nc nn nm fv so sf st sn sc sp sx sy (xs (i + 1)) (xs (i + 2)) 0 (Or.inl rfl) hp hF
        rw [← ha] at hM
        have hm := fun sz => c_M_placed_no0 (l := l) G E th np ns nc nn nm gv sz (xs (i + 1)) (xs (i + 2)) none hfo (z_g3F rfl)
        simp only [z_th3 (b1 := true) (b3 := (none : Option Nat).isSome) rfl hpT rfl, ← ha] at hm
        exact go_placed_t3 C0 hL G hLX hi hAp hLS hS hcell hM ⟨rfl, rfl, by decide, by decide⟩ hm ⟨rfl, rfl, by decide, by decide⟩ (fun H1 l1 c1 s1 h1 h2 h3 hS1 ls hl => cont A _ np ns nc nn nm fv so sf st sn sc sp sx sy gv _ H1 l1 c1 s1 h1 h2 h3 hAp hCp (by omega) rfl hS1 ls hl) ls hl
      · skip
        have his := (pm_fnd_ok 1728 0 q hfo).2
        obtain ⟨q1, q2, q3, q4⟩ := hCp.hb hp his
        have hv : pm_val gv (gv 15) (q / 144) (q / 12 % 12) (q % 12) (xs (i + 1)) (xs (i + 2)) = po_val (fv 5) (fv 6) (if (xs (i + 3)) = 0 then fv 7 else fv 8) (q / 144) (q / 12 % 12) (q % 12) (xs (i + 1)) (xs (i + 2)) := by rw [if_pos ha]; exact (hCp.val hp q1 q2 q3 q4).1
        have hM0 := c_B_placed (l := l) G A np ns nc nn nm fv so sf st sn sc sp sx sy (xs (i + 1)) (xs (i + 2)) (xs (i + 3)) (Or.inl ha) hp _ hF (hCp.hq hp)
        have hM := z_rdw (sz := H.size) (F := z_fr (fun _ => False) H.size) hM0
        have hm : ∀ sz, Met l y_M_placed [Cond.code y_M_placed b_M_placed 17 (some .int)] ({ frames := 3, cells := 0, slots := 0, locals := 75 }) (z_Pc s [.ref (E 0), .int (xs (i + 1)), .int (xs (i + 2)), .int (xs (i + 3))] (fun H => H.size = sz ∧ z_Md (dC, dI) cI H E th np ns nc nn nm gv)) (z_Qw (fun r H => r = some (.int (pm_val gv (gv 15) (q / 144) (q / 12 % 12) (q % 12) (xs (i + 1)) (xs (i + 2)))) ∧ z_Md (dC, dI) cI H E 0 np ns nc nn nm gv) (z_fr (z_mF E) sz)) 0 0 (z_fr (z_mF E) sz) := fun sz => by rw [ha]; exact c_M_placed_ok0 (l := l) G E th np ns nc nn nm gv sz (xs (i + 1)) (xs (i + 2)) q hfo (z_gT rfl hpT rfl)
        simp only [hv] at hm
        exact go_placed C0 hL G hLX hi hAp hLS hS hcell (F := fun _ => False) hM ⟨rfl, rfl, by decide, by decide⟩ hm ⟨rfl, rfl, by decide, by decide⟩ (fun q h => h.elim) (fun k hk => Or.inl ⟨k, hk, rfl⟩) rfl ⟨Nat.zero_le _, Nat.zero_le _⟩ (fun H1 l1 c1 s1 h1 h2 h3 hS1 ls hl => cont A _ np ns nc nn nm fv so sf st sn sc sp sx sy gv _ H1 l1 c1 s1 h1 h2 h3 hAp hCp (by omega) rfl hS1 ls hl) ls hl
    · skip
      have hpF := z_ptF hp
      have hM := t_B_placed_2 (l := l) G hT A np ns nc nn nm fv so sf st sn sc sp sx sy (xs (i + 1)) (xs (i + 2)) hp 0 (Or.inl rfl)
      rw [← ha] at hM
      have hm := fun sz => c_M_placed_no0 (l := l) G E th np ns nc nn nm gv sz (xs (i + 1)) (xs (i + 2)) fo hfo (z_g2 hpF)
      simp only [z_th2 rfl hpF, ← ha] at hm
      exact go_placed_t2 C0 hL G hLX hi hAp hLS hS hcell hM ⟨rfl, rfl, by decide, by decide⟩ hm ⟨rfl, rfl, by decide, by decide⟩ (fun H1 l1 c1 s1 h1 h2 h3 hS1 ls hl => cont A _ np ns nc nn nm fv so sf st sn sc sp sx sy gv _ H1 l1 c1 s1 h1 h2 h3 hAp hCp (by omega) rfl hS1 ls hl) ls hl
  · skip
    by_cases ha2 : (xs (i + 3)) = 1
    · skip
      have ha0 := ha
      have ha := ha2
      by_cases hp : z_pt (xs (i + 1)) (xs (i + 2))
      · skip
        have hpT := z_ptT hp
        have hF := hCp.fnd hnm hp hpT 1728 rfl
        rw [hfo] at hF
        rcases fo with _ | q
        · skip
          have hM := t_B_placed_3 (l := l) G hT A np ns nc nn nm fv so sf st sn sc sp sx sy (xs (i + 1)) (xs (i + 2)) 1 (Or.inr rfl) hp hF
          rw [← ha] at hM
          have hm := fun sz => c_M_placed_no1 (l := l) G E th np ns nc nn nm gv sz (xs (i + 1)) (xs (i + 2)) none hfo (z_g3F rfl)
          simp only [z_th3 (b1 := true) (b3 := (none : Option Nat).isSome) rfl hpT rfl, ← ha] at hm
          exact go_placed_t3 C0 hL G hLX hi hAp hLS hS hcell hM ⟨rfl, rfl, by decide, by decide⟩ hm ⟨rfl, rfl, by decide, by decide⟩ (fun H1 l1 c1 s1 h1 h2 h3 hS1 ls hl => cont A _ np ns nc nn nm fv so sf st sn sc sp sx sy gv _ H1 l1 c1 s1 h1 h2 h3 hAp hCp (by omega) rfl hS1 ls hl) ls hl
        · skip
          have his := (pm_fnd_ok 1728 0 q hfo).2
          obtain ⟨q1, q2, q3, q4⟩ := hCp.hb hp his
          have hv : pm_val gv (gv 16) (q / 144) (q / 12 % 12) (q % 12) (xs (i + 1)) (xs (i + 2)) = po_val (fv 5) (fv 6) (if (xs (i + 3)) = 0 then fv 7 else fv 8) (q / 144) (q / 12 % 12) (q % 12) (xs (i + 1)) (xs (i + 2)) := by rw [if_neg (fun e => ha0 e)]; exact (hCp.val hp q1 q2 q3 q4).2
          have hM0 := c_B_placed (l := l) G A np ns nc nn nm fv so sf st sn sc sp sx sy (xs (i + 1)) (xs (i + 2)) (xs (i + 3)) (Or.inr ha) hp _ hF (hCp.hq hp)
          have hM := z_rdw (sz := H.size) (F := z_fr (fun _ => False) H.size) hM0
          have hm : ∀ sz, Met l y_M_placed [Cond.code y_M_placed b_M_placed 17 (some .int)] ({ frames := 3, cells := 0, slots := 0, locals := 75 }) (z_Pc s [.ref (E 0), .int (xs (i + 1)), .int (xs (i + 2)), .int (xs (i + 3))] (fun H => H.size = sz ∧ z_Md (dC, dI) cI H E th np ns nc nn nm gv)) (z_Qw (fun r H => r = some (.int (pm_val gv (gv 16) (q / 144) (q / 12 % 12) (q % 12) (xs (i + 1)) (xs (i + 2)))) ∧ z_Md (dC, dI) cI H E 0 np ns nc nn nm gv) (z_fr (z_mF E) sz)) 0 0 (z_fr (z_mF E) sz) := fun sz => by rw [ha]; exact c_M_placed_ok1 (l := l) G E th np ns nc nn nm gv sz (xs (i + 1)) (xs (i + 2)) q hfo (z_gT rfl hpT rfl)
          simp only [hv] at hm
          exact go_placed C0 hL G hLX hi hAp hLS hS hcell (F := fun _ => False) hM ⟨rfl, rfl, by decide, by decide⟩ hm ⟨rfl, rfl, by decide, by decide⟩ (fun q h => h.elim) (fun k hk => Or.inl ⟨k, hk, rfl⟩) rfl ⟨Nat.zero_le _, Nat.zero_le _⟩ (fun H1 l1 c1 s1 h1 h2 h3 hS1 ls hl => cont A _ np ns nc nn nm fv so sf st sn sc sp sx sy gv _ H1 l1 c1 s1 h1 h2 h3 hAp hCp (by omega) rfl hS1 ls hl) ls hl
      · skip
        have hpF := z_ptF hp
        have hM := t_B_placed_2 (l := l) G hT A np ns nc nn nm fv so sf st sn sc sp sx sy (xs (i + 1)) (xs (i + 2)) hp 1 (Or.inr rfl)
        rw [← ha] at hM
        have hm := fun sz => c_M_placed_no1 (l := l) G E th np ns nc nn nm gv sz (xs (i + 1)) (xs (i + 2)) fo hfo (z_g2 hpF)
        simp only [z_th2 rfl hpF, ← ha] at hm
        exact go_placed_t2 C0 hL G hLX hi hAp hLS hS hcell hM ⟨rfl, rfl, by decide, by decide⟩ hm ⟨rfl, rfl, by decide, by decide⟩ (fun H1 l1 c1 s1 h1 h2 h3 hS1 ls hl => cont A _ np ns nc nn nm fv so sf st sn sc sp sx sy gv _ H1 l1 c1 s1 h1 h2 h3 hAp hCp (by omega) rfl hS1 ls hl) ls hl
    · skip
      have hM := t_B_placed_1 (l := l) G hT A np ns nc nn nm fv so sf st sn sc sp sx sy (xs (i + 1)) (xs (i + 2)) (xs (i + 3)) (fun h => h.elim ha ha2)
      have hm := fun sz => c_M_placed_non (l := l) G E th np ns nc nn nm gv sz (xs (i + 1)) (xs (i + 2)) (xs (i + 3)) ha ha2 fo hfo (rfl)
      simp only [z_th1 rfl] at hm
      exact go_placed_t1 C0 hL G hLX hi hAp hLS hS hcell hM ⟨rfl, rfl, by decide, by decide⟩ hm ⟨rfl, rfl, by decide, by decide⟩ (fun H1 l1 c1 s1 h1 h2 h3 hS1 ls hl => cont A _ np ns nc nn nm fv so sf st sn sc sp sx sy gv _ H1 l1 c1 s1 h1 h2 h3 hAp hCp (by omega) rfl hS1 ls hl) ls hl
end STP
