/-! The model: a day, by its calls (2). -/
set_option maxRecDepth 100000 in
set_option maxHeartbeats 4000000 in
theorem p_cruelO {d : Nat} {h0 h hl : Nat → Nat → Int} (e0 : zup h0 104 0 0 = h) (hP : 0 ≤ h 104 3 ∧ h 104 3 ≤ 6) (h9 : 0 ≤ h 104 9 ∧ h 104 9 ≤ 3) (h15 : 0 ≤ h 104 15 ∧ h 104 15 ≤ 12) {p L B n : Nat} {s : zDS} (hD : 0 < h 104 9 → zMH h p L B n s ∧ zDm h hl p L B n s) {K : Int} (hK11 : h 104 11 = K) (hK : 0 ≤ K ∧ K ≤ 3) : zQ (d + 6) 130 [.inr (.inr (some 104))] (zs h0 hl) (fun r' σ' => (h 104 9 = 0 ∧ r' = some (.inl (-2)) ∧ σ' = zs h hl) ∨ (0 < h 104 9 ∧ (∀ j : Nat, j < p → zCov L s.1 j) ∧ r' = some (.inl (-2)) ∧ σ' = zs h hl) ∨ (0 < h 104 9 ∧ ∃ k : Nat, k < p ∧ (∀ j : Nat, j < k → zCov L s.1 j) ∧ ¬ zCov L s.1 k ∧ ((h 104 15 = 12 ∧ r' = some (.inl (-3)) ∧ σ' = zs h hl) ∨ (¬ h 104 15 = 12 ∧ ∃ (l : Nat) (tr : Int) (g gl : Nat → Nat → Int), zPkS h L B K n k s l tr ∧ r' = some (.inl (k : Int)) ∧ σ' = zs g gl ∧ zDm g gl p L B (n + 1) (zUp h K n k l tr s) ∧ (∀ c : Nat, c < 104 → g c = h c) ∧ (∀ c : Nat, (105 ≤ c ∧ c < 109) ∨ 118 ≤ c → g c = h c) ∧ (∀ j : Nat, j ≠ 14 → j ≠ 15 → g 104 j = h 104 j) ∧ ∀ c : Nat, c ≠ 104 → gl c = hl c)))) := by
  refine zQ_of (Nat.le_of_ble_eq_true rfl) ?_
  show zH (d + 5) 130 (0, [some (.inr (.inr (some 104))), none, none], [], (zs h0 hl)) _
  refine zH_go 3 (c' := (5, [some (.inr (.inr (some 104))), none, none], [], (zs (zup h0 104 0 0) hl))) rfl ?_
  rw [e0]
  refine zH_go 7 (c' := (15, [some (.inr (.inr (some 104))), some (.inl (-9)), some (.inl ((h 104 3) - 1))], [], (zs h hl))) rfl ?_
  obtain ⟨q, hq⟩ := Int.eq_ofNat_of_zero_le hP.1
  have hq : h 104 3 = (q : Int) := hq
  have e2 : h 104 3 - 1 = zpr q := by rw [hq]; exact zpr_eq q
  rw [e2]
  refine zH_dn (X := Int) (F := fun (kq : Nat) (x : Int) => (15, [some (.inr (.inr (some 104))), some (.inl x), some (.inl (zpr kq))], [], (zs h hl))) (I := fun (kq : Nat) (x : Int) => (kq ≤ q ∧ ((x = -9 ∧ (0 < h 104 9 → ∀ j : Nat, kq ≤ j → j < q → zCov L s.1 j)) ∨ (0 < h 104 9 ∧ ∃ y : Nat, x = (y : Int) ∧ kq ≤ y ∧ y < q ∧ ¬ zCov L s.1 y ∧ ∀ j : Nat, kq ≤ j → j < y → zCov L s.1 j)))) (fun k x hI ih => ?_) (fun x hI => ?_) q (-9) ?_
  · replace hI : ((k + 1) ≤ q ∧ ((x = -9 ∧ (0 < h 104 9 → ∀ j : Nat, (k + 1) ≤ j → j < q → zCov L s.1 j)) ∨ (0 < h 104 9 ∧ ∃ y : Nat, x = (y : Int) ∧ (k + 1) ≤ y ∧ y < q ∧ ¬ zCov L s.1 y ∧ ∀ j : Nat, (k + 1) ≤ j → j < y → zCov L s.1 j))) := hI
    show zH _ _ (15, [some (.inr (.inr (some 104))), some (.inl x), some (.inl (k : Int))], [], (zs h hl)) _
    refine zH_go 1 (c' := (16, [some (.inr (.inr (some 104))), some (.inl x), some (.inl (k : Int))], [.inl (k : Int)], (zs h hl))) rfl ?_
    refine zH_bf (x := (k : Int)) (y := 0) (k := .lt) (c1 := (50, [some (.inr (.inr (some 104))), some (.inl x), some (.inl (k : Int))], [], (zs h hl))) (c2 := (19, [some (.inr (.inr (some 104))), some (.inl x), some (.inl (k : Int))], [], (zs h hl))) rfl (by first | assumption | (unfold zr; omega)) ⟨by decide, by decide⟩ (by show ¬ ((k : Int) < 0); omega) ?_
    refine zH_go 2 (c' := (23, [some (.inr (.inr (some 104))), some (.inl x), some (.inl (k : Int))], [.inl (h 104 9)], (zs h hl))) rfl ?_
    refine zH_br (x := (h 104 9)) (y := 0) (k := .le) (c1 := (50, [some (.inr (.inr (some 104))), some (.inl x), some (.inl (k : Int))], [], (zs h hl))) (c2 := (26, [some (.inr (.inr (some 104))), some (.inl x), some (.inl (k : Int))], [], (zs h hl))) rfl (by first | assumption | (unfold zr; omega)) ⟨by decide, by decide⟩ (fun (b_1 : ¬ 0 < (h 104 9)) => ?_) (fun (b_1 : ¬ (¬ 0 < (h 104 9))) => ?_)
    · rcases hI.2 with ⟨rfl, a2⟩ | ⟨a0, y, rfl, a2, a3, a4, a5⟩
      · skip
        show zH _ _ (50, [some (.inr (.inr (some 104))), some (.inl (-9)), some (.inl (k : Int))], [], (zs h hl)) _
        refine zH_go 2 (c' := (53, [some (.inr (.inr (some 104))), some (.inl (-9)), some (.inl (k : Int))], [.inl (-9), .inl (-9)], (zs h hl))) rfl ?_
        refine zH_bf (x := (-9)) (y := (-9)) (k := .ne) (c1 := (59, [some (.inr (.inr (some 104))), some (.inl (-9)), some (.inl (k : Int))], [], (zs h hl))) (c2 := (56, [some (.inr (.inr (some 104))), some (.inl (-9)), some (.inl (k : Int))], [], (zs h hl))) rfl ⟨by decide, by decide⟩ ⟨by decide, by decide⟩ (by show ¬ (¬ (-9) = (-9)); decide) ?_
        refine zH_go 1 (c' := (58, [some (.inr (.inr (some 104))), some (.inl (-9)), some (.inl (k : Int))], [.inl (-2)], (zs h hl))) rfl ?_
        refine zH_ret (v := some (.inl (-2))) rfl (fun q => absurd q (by decide)) ?_
        by_cases ho : 0 < h 104 9
        · exact Or.inr (Or.inl ⟨ho, fun j hj => by have hqp := (hD ho).1.2.2.1; exact a2 ho j (by omega) (by omega), rfl, rfl⟩)
        · exact Or.inl ⟨by omega, rfl, rfl⟩
      · skip
        obtain ⟨hH, hM⟩ := hD (by omega)
        have hHc := hH
        obtain ⟨hL3, hp6, h3, hT, hF, hBs, hn12, hs6, hsp, hsu, htu, hpl, hdg, hpo⟩ := hHc
        have hMc := hM
        obtain ⟨m9, m10, m14, m15, mas, mrec, mfa, mrow, mtr⟩ := hMc
        have hqp : q = p := by omega
        subst hqp
        show zH _ _ (50, [some (.inr (.inr (some 104))), some (.inl (y : Int)), some (.inl (k : Int))], [], (zs h hl)) _
        refine zH_go 2 (c' := (53, [some (.inr (.inr (some 104))), some (.inl (y : Int)), some (.inl (k : Int))], [.inl (-9), .inl (y : Int)], (zs h hl))) rfl ?_
        refine zH_bt (x := (y : Int)) (y := (-9)) (k := .ne) (c1 := (59, [some (.inr (.inr (some 104))), some (.inl (y : Int)), some (.inl (k : Int))], [], (zs h hl))) (c2 := (56, [some (.inr (.inr (some 104))), some (.inl (y : Int)), some (.inl (k : Int))], [], (zs h hl))) rfl (by first | assumption | (unfold zr; omega)) ⟨by decide, by decide⟩ (by show ¬ (y : Int) = (-9); omega) ?_
        refine zH_go 3 (c' := (65, [some (.inr (.inr (some 104))), some (.inl (y : Int)), some (.inl (k : Int))], [.inl 12, .inl (h 104 15)], (zs h hl))) rfl ?_
        refine zH_br (x := (h 104 15)) (y := 12) (k := .ne) (c1 := (71, [some (.inr (.inr (some 104))), some (.inl (y : Int)), some (.inl (k : Int))], [], (zs h hl))) (c2 := (68, [some (.inr (.inr (some 104))), some (.inl (y : Int)), some (.inl (k : Int))], [], (zs h hl))) rfl (by first | assumption | (unfold zr; omega)) ⟨by decide, by decide⟩ (fun (b_2 : ¬ (h 104 15) = 12) => ?_) (fun (b_2 : ¬ (¬ (h 104 15) = 12)) => ?_)
        · refine zH_go 2 (c' := (73, [some (.inr (.inr (some 104))), some (.inl (y : Int)), some (.inl (k : Int))], [.inl (y : Int), .inr (.inr (some 104))], (zs h hl))) rfl ?_
          refine zH_call (M' := 127) (as := [.inr (.inr (some 104)), .inl (y : Int)]) (T := []) rfl (p_comes (pp := y) hH hM (by omega) (by omega) hK11 hK) (fun r' σ' pm => ?_)
          obtain ⟨l, tr, g, gl, c1, rfl, rfl, c2⟩ := pm
          show zH _ _ (76, [some (.inr (.inr (some 104))), some (.inl (y : Int)), some (.inl (k : Int))], [.inl (l : Int)], (zs g gl)) _
          refine zH_go 2 (c' := (78, [some (.inr (.inr (some 104))), some (.inl (y : Int)), some (.inl (l : Int))], [.inl (y : Int)], (zs g gl))) rfl ?_
          refine zH_ret (v := some (.inl (y : Int))) rfl (fun q => absurd q (by decide)) ?_
          exact Or.inr (Or.inr ⟨a0, y, a3, fun j hj => a5 j (by omega) hj, a4, Or.inr ⟨by omega, l, tr, g, gl, c1, rfl, rfl, c2⟩⟩)
        · refine zH_go 1 (c' := (70, [some (.inr (.inr (some 104))), some (.inl (y : Int)), some (.inl (k : Int))], [.inl (-3)], (zs h hl))) rfl ?_
          refine zH_ret (v := some (.inl (-3))) rfl (fun q => absurd q (by decide)) ?_
          exact Or.inr (Or.inr ⟨a0, y, a3, fun j hj => a5 j (by omega) hj, a4, Or.inl ⟨by omega, rfl, rfl⟩⟩)
    · refine zH_go 4 (c' := (32, [some (.inr (.inr (some 104))), some (.inl x), some (.inl (k : Int))], [.inl (k : Int), .inr (.inr (some 109)), .inr (.inr (some 104))], (zs h hl))) rfl ?_
      obtain ⟨hH, hM⟩ := hD (by omega)
      have hHc := hH
      obtain ⟨hL3, hp6, h3, hT, hF, hBs, hn12, hs6, hsp, hsu, htu, hpl, hdg, hpo⟩ := hHc
      have hMc := hM
      obtain ⟨m9, m10, m14, m15, mas, mrec, mfa, mrow, mtr⟩ := hMc
      have hqp : q = p := by omega
      subst hqp
      refine zH_call (M' := 121) (as := [.inr (.inr (some 104)), .inr (.inr (some 109)), .inl (k : Int)]) (T := []) rfl (p_thO109 (h := h) (L := L) (p := q) (pp := k) (sp := s.1) hL3 (by omega) hp6 m9 (fun i hi => (mas i (by omega)).1) hsp hF hT.1) (fun r σ' p_3 => ?_)
      rcases p_3 with ⟨rfl, b_4, rfl⟩ | ⟨rfl, b_4, rfl⟩
      · show zH _ _ (35, [some (.inr (.inr (some 104))), some (.inl x), some (.inl (k : Int))], [.inl 1], (zs h hl)) _
        refine zH_bf (x := 1) (y := 0) (k := .eq) (c1 := (42, [some (.inr (.inr (some 104))), some (.inl x), some (.inl (k : Int))], [], (zs h hl))) (c2 := (38, [some (.inr (.inr (some 104))), some (.inl x), some (.inl (k : Int))], [], (zs h hl))) rfl ⟨by decide, by decide⟩ ⟨by decide, by decide⟩ (by show ¬ (1 = 0); decide) ?_
        refine zH_go 5 (c' := (15, [some (.inr (.inr (some 104))), some (.inl x), some (.inl ((k : Int) + (-1)))], [], (zs h hl))) rfl ?_
        rw [zpr_eq k]
        refine ih x ?_
        show (k ≤ q ∧ ((x = -9 ∧ (0 < h 104 9 → ∀ j : Nat, k ≤ j → j < q → zCov L s.1 j)) ∨ (0 < h 104 9 ∧ ∃ y : Nat, x = (y : Int) ∧ k ≤ y ∧ y < q ∧ ¬ zCov L s.1 y ∧ ∀ j : Nat, k ≤ j → j < y → zCov L s.1 j)))
        refine ⟨by omega, ?_⟩
        rcases hI.2 with ⟨a1, a2⟩ | ⟨a0, y, a1, a2, a3, a4, a5⟩
        · refine Or.inl ⟨a1, fun ho j h1 h2 => ?_⟩
          by_cases w : j = k
          · rw [w]; assumption
          · exact a2 ho j (by omega) h2
        · refine Or.inr ⟨a0, y, a1, by omega, a3, a4, fun j h1 h2 => ?_⟩
          by_cases w : j = k
          · rw [w]; assumption
          · exact a5 j (by omega) h2
      · show zH _ _ (35, [some (.inr (.inr (some 104))), some (.inl x), some (.inl (k : Int))], [.inl 0], (zs h hl)) _
        refine zH_bt (x := 0) (y := 0) (k := .eq) (c1 := (42, [some (.inr (.inr (some 104))), some (.inl x), some (.inl (k : Int))], [], (zs h hl))) (c2 := (38, [some (.inr (.inr (some 104))), some (.inl x), some (.inl (k : Int))], [], (zs h hl))) rfl ⟨by decide, by decide⟩ ⟨by decide, by decide⟩ (by show 0 = 0; decide) ?_
        refine zH_go 4 (c' := (15, [some (.inr (.inr (some 104))), some (.inl (k : Int)), some (.inl ((k : Int) + (-1)))], [], (zs h hl))) rfl ?_
        rw [zpr_eq k]
        refine ih (k : Int) ?_
        show (k ≤ q ∧ (((k : Int) = -9 ∧ (0 < h 104 9 → ∀ j : Nat, k ≤ j → j < q → zCov L s.1 j)) ∨ (0 < h 104 9 ∧ ∃ y : Nat, (k : Int) = (y : Int) ∧ k ≤ y ∧ y < q ∧ ¬ zCov L s.1 y ∧ ∀ j : Nat, k ≤ j → j < y → zCov L s.1 j)))
        exact ⟨by omega, Or.inr ⟨by omega, k, rfl, Nat.le_refl k, by omega, by assumption, fun j h1 h2 => absurd h1 (by omega)⟩⟩
  · replace hI : (0 ≤ q ∧ ((x = -9 ∧ (0 < h 104 9 → ∀ j : Nat, 0 ≤ j → j < q → zCov L s.1 j)) ∨ (0 < h 104 9 ∧ ∃ y : Nat, x = (y : Int) ∧ 0 ≤ y ∧ y < q ∧ ¬ zCov L s.1 y ∧ ∀ j : Nat, 0 ≤ j → j < y → zCov L s.1 j))) := hI
    show zH _ _ (15, [some (.inr (.inr (some 104))), some (.inl x), some (.inl (-1))], [], (zs h hl)) _
    refine zH_go 1 (c' := (16, [some (.inr (.inr (some 104))), some (.inl x), some (.inl (-1))], [.inl (-1)], (zs h hl))) rfl ?_
    refine zH_bt (x := (-1)) (y := 0) (k := .lt) (c1 := (50, [some (.inr (.inr (some 104))), some (.inl x), some (.inl (-1))], [], (zs h hl))) (c2 := (19, [some (.inr (.inr (some 104))), some (.inl x), some (.inl (-1))], [], (zs h hl))) rfl ⟨by decide, by decide⟩ ⟨by decide, by decide⟩ (by show (-1) < 0; decide) ?_
    rcases hI.2 with ⟨rfl, a2⟩ | ⟨a0, y, rfl, a2, a3, a4, a5⟩
    · skip
      show zH _ _ (50, [some (.inr (.inr (some 104))), some (.inl (-9)), some (.inl (-1))], [], (zs h hl)) _
      refine zH_go 2 (c' := (53, [some (.inr (.inr (some 104))), some (.inl (-9)), some (.inl (-1))], [.inl (-9), .inl (-9)], (zs h hl))) rfl ?_
      refine zH_bf (x := (-9)) (y := (-9)) (k := .ne) (c1 := (59, [some (.inr (.inr (some 104))), some (.inl (-9)), some (.inl (-1))], [], (zs h hl))) (c2 := (56, [some (.inr (.inr (some 104))), some (.inl (-9)), some (.inl (-1))], [], (zs h hl))) rfl ⟨by decide, by decide⟩ ⟨by decide, by decide⟩ (by show ¬ (¬ (-9) = (-9)); decide) ?_
      refine zH_go 1 (c' := (58, [some (.inr (.inr (some 104))), some (.inl (-9)), some (.inl (-1))], [.inl (-2)], (zs h hl))) rfl ?_
      refine zH_ret (v := some (.inl (-2))) rfl (fun q => absurd q (by decide)) ?_
      by_cases ho : 0 < h 104 9
      · exact Or.inr (Or.inl ⟨ho, fun j hj => by have hqp := (hD ho).1.2.2.1; exact a2 ho j (by omega) (by omega), rfl, rfl⟩)
      · exact Or.inl ⟨by omega, rfl, rfl⟩
    · skip
      obtain ⟨hH, hM⟩ := hD (by omega)
      have hHc := hH
      obtain ⟨hL3, hp6, h3, hT, hF, hBs, hn12, hs6, hsp, hsu, htu, hpl, hdg, hpo⟩ := hHc
      have hMc := hM
      obtain ⟨m9, m10, m14, m15, mas, mrec, mfa, mrow, mtr⟩ := hMc
      have hqp : q = p := by omega
      subst hqp
      show zH _ _ (50, [some (.inr (.inr (some 104))), some (.inl (y : Int)), some (.inl (-1))], [], (zs h hl)) _
      refine zH_go 2 (c' := (53, [some (.inr (.inr (some 104))), some (.inl (y : Int)), some (.inl (-1))], [.inl (-9), .inl (y : Int)], (zs h hl))) rfl ?_
      refine zH_bt (x := (y : Int)) (y := (-9)) (k := .ne) (c1 := (59, [some (.inr (.inr (some 104))), some (.inl (y : Int)), some (.inl (-1))], [], (zs h hl))) (c2 := (56, [some (.inr (.inr (some 104))), some (.inl (y : Int)), some (.inl (-1))], [], (zs h hl))) rfl (by first | assumption | (unfold zr; omega)) ⟨by decide, by decide⟩ (by show ¬ (y : Int) = (-9); omega) ?_
      refine zH_go 3 (c' := (65, [some (.inr (.inr (some 104))), some (.inl (y : Int)), some (.inl (-1))], [.inl 12, .inl (h 104 15)], (zs h hl))) rfl ?_
      refine zH_br (x := (h 104 15)) (y := 12) (k := .ne) (c1 := (71, [some (.inr (.inr (some 104))), some (.inl (y : Int)), some (.inl (-1))], [], (zs h hl))) (c2 := (68, [some (.inr (.inr (some 104))), some (.inl (y : Int)), some (.inl (-1))], [], (zs h hl))) rfl (by first | assumption | (unfold zr; omega)) ⟨by decide, by decide⟩ (fun (b_5 : ¬ (h 104 15) = 12) => ?_) (fun (b_5 : ¬ (¬ (h 104 15) = 12)) => ?_)
      · refine zH_go 2 (c' := (73, [some (.inr (.inr (some 104))), some (.inl (y : Int)), some (.inl (-1))], [.inl (y : Int), .inr (.inr (some 104))], (zs h hl))) rfl ?_
        refine zH_call (M' := 127) (as := [.inr (.inr (some 104)), .inl (y : Int)]) (T := []) rfl (p_comes (pp := y) hH hM (by omega) (by omega) hK11 hK) (fun r' σ' pm => ?_)
        obtain ⟨l, tr, g, gl, c1, rfl, rfl, c2⟩ := pm
        show zH _ _ (76, [some (.inr (.inr (some 104))), some (.inl (y : Int)), some (.inl (-1))], [.inl (l : Int)], (zs g gl)) _
        refine zH_go 2 (c' := (78, [some (.inr (.inr (some 104))), some (.inl (y : Int)), some (.inl (l : Int))], [.inl (y : Int)], (zs g gl))) rfl ?_
        refine zH_ret (v := some (.inl (y : Int))) rfl (fun q => absurd q (by decide)) ?_
        exact Or.inr (Or.inr ⟨a0, y, a3, fun j hj => a5 j (by omega) hj, a4, Or.inr ⟨by omega, l, tr, g, gl, c1, rfl, rfl, c2⟩⟩)
      · refine zH_go 1 (c' := (70, [some (.inr (.inr (some 104))), some (.inl (y : Int)), some (.inl (-1))], [.inl (-3)], (zs h hl))) rfl ?_
        refine zH_ret (v := some (.inl (-3))) rfl (fun q => absurd q (by decide)) ?_
        exact Or.inr (Or.inr ⟨a0, y, a3, fun j hj => a5 j (by omega) hj, a4, Or.inl ⟨by omega, rfl, rfl⟩⟩)
  · exact ⟨Nat.le_refl _, Or.inl ⟨rfl, fun ho j h1 h2 => absurd h1 (by omega)⟩⟩
set_option maxRecDepth 100000 in
set_option maxHeartbeats 4000000 in
theorem p_askO {d : Nat} {h0 h hl : Nat → Nat → Int} (e0 : zup h0 104 0 0 = h) {a : Int} (ha : zr a) (hP : 0 ≤ h 104 3 ∧ h 104 3 ≤ 6) (h9 : 0 ≤ h 104 9 ∧ h 104 9 ≤ 3) (h15 : 0 ≤ h 104 15 ∧ h 104 15 ≤ 12) {p L B n : Nat} {s : zDS} (hD : 0 < h 104 9 → zMH h p L B n s ∧ zDm h hl p L B n s) {K : Int} (hK11 : h 104 11 = K) (hK : 0 ≤ K ∧ K ≤ 3) : zQ (d + 5) 131 [.inr (.inr (some 104)), .inl a] (zs h0 hl) (fun r' σ' => (¬ (0 ≤ a ∧ a < h 104 3) ∧ r' = some (.inl (-1)) ∧ σ' = zs h hl) ∨ ((0 ≤ a ∧ a < h 104 3) ∧ h 104 9 = 0 ∧ r' = some (.inl (-2)) ∧ σ' = zs h hl) ∨ ((0 ≤ a ∧ a < h 104 3) ∧ 0 < h 104 9 ∧ ∃ (l : Nat) (tr : Int) (g : Nat → Nat → Int), zPkS h L B K n (Int.toNat a) s l tr ∧ r' = some (.inl (l : Int)) ∧ σ' = zs g (zup hl 104 2 (hl 104 2 + tr)) ∧ ∀ c : Nat, c ≠ 118 → g c = h c)) := by
  refine zQ_of (Nat.le_of_ble_eq_true rfl) ?_
  show zH (d + 4) 131 (0, [some (.inr (.inr (some 104))), some (.inl a), none], [], (zs h0 hl)) _
  refine zH_go 3 (c' := (5, [some (.inr (.inr (some 104))), some (.inl a), none], [], (zs (zup h0 104 0 0) hl))) rfl ?_
  rw [e0]
  refine zH_go 2 (c' := (7, [some (.inr (.inr (some 104))), some (.inl a), none], [.inl a, .inr (.inr (some 104))], (zs h hl))) rfl ?_
  refine zH_call (M' := 104) (as := [.inr (.inr (some 104)), .inl a]) (T := []) rfl (p_isPl (by first | assumption | (unfold zr; omega)) hP) (fun r σ' p_1 => ?_)
  rcases p_1 with ⟨rfl, b_2, rfl⟩ | ⟨rfl, b_2, rfl⟩
  · show zH _ _ (10, [some (.inr (.inr (some 104))), some (.inl a), none], [.inl 1], (zs h hl)) _
    refine zH_bt (x := 1) (y := 0) (k := .ne) (c1 := (15, [some (.inr (.inr (some 104))), some (.inl a), none], [], (zs h hl))) (c2 := (13, [some (.inr (.inr (some 104))), some (.inl a), none], [], (zs h hl))) rfl ⟨by decide, by decide⟩ ⟨by decide, by decide⟩ (by show ¬ 1 = 0; decide) ?_
    refine zH_go 2 (c' := (19, [some (.inr (.inr (some 104))), some (.inl a), none], [.inl (h 104 9)], (zs h hl))) rfl ?_
    refine zH_br (x := (h 104 9)) (y := 0) (k := .ne) (c1 := (25, [some (.inr (.inr (some 104))), some (.inl a), none], [], (zs h hl))) (c2 := (22, [some (.inr (.inr (some 104))), some (.inl a), none], [], (zs h hl))) rfl (by first | assumption | (unfold zr; omega)) ⟨by decide, by decide⟩ (fun (b_3 : ¬ (h 104 9) = 0) => ?_) (fun (b_3 : ¬ (¬ (h 104 9) = 0)) => ?_)
    · obtain ⟨hH, hM⟩ := hD (by omega)
      have hHc := hH
      obtain ⟨hL3, hp6, h3, hT, hF, hBs, hn12, hs6, hsp, hsu, htu, hpl, hdg, hpo⟩ := hHc
      have hMc := hM
      obtain ⟨m9, m10, m14, m15, mas, mrec, mfa, mrow, mtr⟩ := hMc
      have hap : h 104 3 = (p : Int) := h3
      obtain ⟨u, rfl⟩ := Int.eq_ofNat_of_zero_le (show 0 ≤ a by omega)
      show zH _ _ (25, [some (.inr (.inr (some 104))), some (.inl (u : Int)), none], [], (zs h hl)) _
      refine zH_go 2 (c' := (27, [some (.inr (.inr (some 104))), some (.inl (u : Int)), some (.inl 0)], [], (zs h hl))) rfl ?_
      refine zH_lp (X := (Nat → Nat → Int)) (F := fun (kq : Nat) (x : (Nat → Nat → Int)) => (27, [some (.inr (.inr (some 104))), some (.inl (u : Int)), some (.inl (kq : Int))], [], (zs x hl))) (I := fun (kq : Nat) (x : (Nat → Nat → Int)) => (∀ c : Nat, c ≠ 118 → x c = h c) ∧ ∀ j : Nat, j < kq → x 118 j = h 117 (512 * n + j)) (N := 512) (fun k g hk hI ih => ?_) (fun g hI => ?_) 0 h (by omega) ?_
      · skip
        replace hI : (∀ c : Nat, c ≠ 118 → g c = h c) ∧ ∀ j : Nat, j < k → g 118 j = h 117 (512 * n + j) := hI
        show zH _ _ (27, [some (.inr (.inr (some 104))), some (.inl (u : Int)), some (.inl (k : Int))], [], (zs g hl)) _
        have g15 : g 104 15 = (n : Int) := by rw [hI.1 104 (by decide)]; exact m15
        have g117 : g 117 ((512 * n) + k) = h 117 (512 * n + k) := by rw [hI.1 117 (by decide)]
        refine zH_go 2 (c' := (31, [some (.inr (.inr (some 104))), some (.inl (u : Int)), some (.inl (k : Int))], [.inl 512, .inl (k : Int)], (zs g hl))) rfl ?_
        refine zH_bf (x := (k : Int)) (y := 512) (k := .ge) (c1 := (61, [some (.inr (.inr (some 104))), some (.inl (u : Int)), some (.inl (k : Int))], [], (zs g hl))) (c2 := (34, [some (.inr (.inr (some 104))), some (.inl (u : Int)), some (.inl (k : Int))], [], (zs g hl))) rfl (by first | assumption | (unfold zr; omega)) ⟨by decide, by decide⟩ (by show ¬ (¬ (k : Int) < 512); omega) ?_
        refine zH_go 8 (c' := (50, [some (.inr (.inr (some 104))), some (.inl (u : Int)), some (.inl (k : Int))], [.inl (g 104 15), .inl 512, .inr (.inr (some 117)), .inl (k : Int), .inr (.inr (some 118))], (zs g hl))) rfl ?_
        rw [g15]
        refine zH_go 3 (c' := (53, [some (.inr (.inr (some 104))), some (.inl (u : Int)), some (.inl (k : Int))], [.inl ((512 * (n : Int)) + (k : Int)), .inr (.inr (some 117)), .inl (k : Int), .inr (.inr (some 118))], (zs g hl))) rfl ?_
        refine zH_np (P := 0 ≤ ((512 * (n : Int)) + (k : Int)) ∧ ((512 * (n : Int)) + (k : Int)) < ((6656 : Nat) : Int)) (c' := (54, [some (.inr (.inr (some 104))), some (.inl (u : Int)), some (.inl (k : Int))], [.inl (g 117 ((512 * n) + k)), .inl (k : Int), .inr (.inr (some 118))], (zs g hl))) rfl ⟨by omega, by omega⟩ ?_
        rw [g117]
        refine zH_np (P := 0 ≤ (k : Int) ∧ (k : Int) < ((2048 : Nat) : Int)) (c' := (55, [some (.inr (.inr (some 104))), some (.inl (u : Int)), some (.inl (k : Int))], [], (zs (zup g 118 k (h 117 (512 * n + k))) hl))) rfl ⟨by omega, by omega⟩ ?_
        refine zH_go 2 (c' := (27, [some (.inr (.inr (some 104))), some (.inl (u : Int)), some (.inl ((k : Int) + 1))], [], (zs (zup g 118 k (h 117 (512 * n + k))) hl))) rfl ?_
        refine ih (zup g 118 k (h 117 (512 * n + k))) ?_
        show (∀ c : Nat, c ≠ 118 → (zup g 118 k (h 117 (512 * n + k))) c = h c) ∧ ∀ j : Nat, j < (k + 1) → (zup g 118 k (h 117 (512 * n + k))) 118 j = h 117 (512 * n + j)
        refine ⟨fun c hc => by rw [← hI.1 c hc]; funext q; exact zup_ne hc, fun j hj => ?_⟩
        by_cases w : j = k
        · rw [w, zup_eq]
        · rw [zup_k w]; exact hI.2 j (by omega)
      · skip
        replace hI : (∀ c : Nat, c ≠ 118 → g c = h c) ∧ ∀ j : Nat, j < 512 → g 118 j = h 117 (512 * n + j) := hI
        show zH _ _ (27, [some (.inr (.inr (some 104))), some (.inl (u : Int)), some (.inl 512)], [], (zs g hl)) _
        refine zH_go 2 (c' := (31, [some (.inr (.inr (some 104))), some (.inl (u : Int)), some (.inl 512)], [.inl 512, .inl 512], (zs g hl))) rfl ?_
        refine zH_bt (x := 512) (y := 512) (k := .ge) (c1 := (61, [some (.inr (.inr (some 104))), some (.inl (u : Int)), some (.inl 512)], [], (zs g hl))) (c2 := (34, [some (.inr (.inr (some 104))), some (.inl (u : Int)), some (.inl 512)], [], (zs g hl))) rfl ⟨by decide, by decide⟩ ⟨by decide, by decide⟩ (by show ¬ 512 < 512; decide) ?_
        have g14 : g 104 14 = s.2.2.1 := by rw [hI.1 104 (by decide)]; exact m14
        refine zH_go 7 (c' := (74, [some (.inr (.inr (some 104))), some (.inl (u : Int)), some (.inl 512)], [.inl (g 104 14), .inr (.inr (some 110)), .inr (.inr (some 109)), .inr (.inr (some 104))], (zs g hl))) rfl ?_
        rw [g14]
        refine zH_go 4 (c' := (80, [some (.inr (.inr (some 104))), some (.inl (u : Int)), some (.inl 512)], [.inl (u : Int), .inl 0, .inr (.inr (some 118)), .inl s.2.2.1, .inr (.inr (some 110)), .inr (.inr (some 109)), .inr (.inr (some 104))], (zs g hl))) rfl ?_
        have gx : ∀ c : Nat, c ≠ 118 → g c = h c := hI.1
        have hcs : ∀ c : Nat, 12 ≤ c → c < 20 → g c = h c := fun c c1 c2 => gx c (by omega)
        have hrn : zRk g p L B (zpl2 s n u) n (fun q => g 118 (0 + q)) := zRk_same hcs (fun j hj => by unfold zpl2; rw [if_neg (by omega)]; have := hpl j hj; exact ⟨rfl, by omega⟩) (fun q hq => by rw [Nat.zero_add]; exact hI.2 q hq) (mrow n (Nat.le_refl n))
        refine zH_call (M' := 123) (as := [.inr (.inr (some 104)), .inr (.inr (some 109)), .inr (.inr (some 110)), .inl s.2.2.1, .inr (.inr (some 118)), .inl 0, .inl (u : Int)]) (T := []) rfl (p_ch109118 (h := g) (L := L) (p := p) (pp := u) (sp := s.1) (B := B) (n := n) (fr := 0) (pl := zpl2 s n u) (K := K) hL3 (by omega) hp6 (by rw [gx 104 (by decide)]; exact m9) (fun i hi => by rw [gx 109 (by decide)]; exact (mas i (by omega)).1) hsp (fun i j hi hj => by rw [gx 108 (by decide), gx (12 + i) (by omega)]; exact hF i j hi hj) (zTD_same hp6 hT (fun c hc => gx c (by omega))).1 (fun l hl => by rw [gx 110 (by decide), (mas l (by omega)).2]; exact hsu l (by omega)) htu (zTD_same hp6 hT (fun c hc => gx c (by omega))) (by decide) hn12 (by unfold zpl2; exact if_pos rfl) hrn hBs (fun i hi => by unfold zpl2; exact (show (if i = n then u else Int.toNat (s.2.2.2.2 0 i)) < p by by_cases q : i = n <;> first | (rw [if_pos q]; omega) | (rw [if_neg q]; exact hpl i (by omega)))) hK (by rw [gx 104 (by decide)]; exact hK11)) (fun r' σ' pc => ?_)
        obtain ⟨l, tr, g2, q1, rfl, rfl, f1, f2⟩ := pc
        have hPk : zPkS h L B K n u s l tr := zPkS_same (g := g) (fun c c1 c2 => (hcs c c1 c2).symm ▸ rfl) hL3.2 hs6 (by omega) (fun j hj => by have := hpl j hj; omega) ⟨zPkR_lt hL3.1 htu.1 q1, zPkR_imp q1 (fun l hl => rfl) (fun l hl => by rw [gx 110 (by decide), (mas l (by omega)).2]) (fun l hl => rfl)⟩
        show zH _ _ (83, [some (.inr (.inr (some 104))), some (.inl (u : Int)), some (.inl 512)], [.inl (l : Int)], (zs g2 (zup hl 104 2 (hl 104 2 + tr)))) _
        refine zH_ret (v := some (.inl (l : Int))) rfl (fun q => absurd q (by decide)) ?_
        exact Or.inr (Or.inr ⟨by omega, by omega, l, tr, g2, by rw [Int.toNat_natCast]; exact hPk, rfl, rfl, fun c hc => by rw [f1 c hc]; exact gx c hc⟩)
      · show (∀ c : Nat, c ≠ 118 → h c = h c) ∧ ∀ j : Nat, j < 0 → h 118 j = h 117 (512 * n + j)
        exact ⟨fun c hc => rfl, fun j hj => absurd hj (Nat.not_lt_zero j)⟩
    · refine zH_go 1 (c' := (24, [some (.inr (.inr (some 104))), some (.inl a), none], [.inl (-2)], (zs h hl))) rfl ?_
      refine zH_ret (v := some (.inl (-2))) rfl (fun q => absurd q (by decide)) ?_
      exact Or.inr (Or.inl ⟨by omega, by omega, rfl, rfl⟩)
  · show zH _ _ (10, [some (.inr (.inr (some 104))), some (.inl a), none], [.inl 0], (zs h hl)) _
    refine zH_bf (x := 0) (y := 0) (k := .ne) (c1 := (15, [some (.inr (.inr (some 104))), some (.inl a), none], [], (zs h hl))) (c2 := (13, [some (.inr (.inr (some 104))), some (.inl a), none], [], (zs h hl))) rfl ⟨by decide, by decide⟩ ⟨by decide, by decide⟩ (by show ¬ (¬ 0 = 0); decide) ?_
    refine zH_go 1 (c' := (14, [some (.inr (.inr (some 104))), some (.inl a), none], [.inl (-1)], (zs h hl))) rfl ?_
    refine zH_ret (v := some (.inl (-1))) rfl (fun q => absurd q (by decide)) ?_
    exact Or.inl ⟨by omega, rfl, rfl⟩
set_option maxRecDepth 100000 in
set_option maxHeartbeats 4000000 in
theorem p_standO {d : Nat} {h0 h hl : Nat → Nat → Int} (e0 : zup h0 104 0 0 = h) (h9 : 0 ≤ h 104 9 ∧ h 104 9 ≤ 3) {p L B n : Nat} {s : zDS} (hD : 0 < h 104 9 → zMH h p L B n s ∧ zDm h hl p L B n s) : zQ (d + 1) 132 [.inr (.inr (some 104))] (zs h0 hl) (fun r' σ' => (h 104 9 = 0 ∧ r' = some (.inl (-2)) ∧ σ' = zs h hl) ∨ (0 < h 104 9 ∧ r' = some (.inl ((zStn L s.1 : Nat) : Int)) ∧ σ' = zs h hl)) := by
  rcases (show h 104 9 = 0 ∨ h 104 9 = 1 ∨ h 104 9 = 2 ∨ h 104 9 = 3 by omega) with e9 | e9 | e9 | e9
  · skip
    refine zQ_of (Nat.le_of_ble_eq_true rfl) ?_
    show zH d 132 (0, [some (.inr (.inr (some 104))), none, none], [], (zs h0 hl)) _
    refine zH_go 3 (c' := (5, [some (.inr (.inr (some 104))), none, none], [], (zs (zup h0 104 0 0) hl))) rfl ?_
    rw [e0]
    refine zH_go 7 (c' := (14, [some (.inr (.inr (some 104))), some (.inl 0), some (.inl 0)], [.inl (h 104 9), .inl 0], (zs h hl))) rfl ?_
    rw [e9]
    refine zH_bt (x := 0) (y := 0) (k := .ge) (c1 := (36, [some (.inr (.inr (some 104))), some (.inl 0), some (.inl 0)], [], (zs h hl))) (c2 := (17, [some (.inr (.inr (some 104))), some (.inl 0), some (.inl 0)], [], (zs h hl))) rfl ⟨by decide, by decide⟩ ⟨by decide, by decide⟩ (by show ¬ 0 < 0; decide) ?_
    refine zH_go 2 (c' := (40, [some (.inr (.inr (some 104))), some (.inl 0), some (.inl 0)], [.inl (h 104 9)], (zs h hl))) rfl ?_
    rw [e9]
    refine zH_bf (x := 0) (y := 0) (k := .ne) (c1 := (48, [some (.inr (.inr (some 104))), some (.inl 0), some (.inl 0)], [], (zs h hl))) (c2 := (43, [some (.inr (.inr (some 104))), some (.inl 0), some (.inl 0)], [], (zs h hl))) rfl ⟨by decide, by decide⟩ ⟨by decide, by decide⟩ (by show ¬ (¬ 0 = 0); decide) ?_
    refine zH_go 2 (c' := (49, [some (.inr (.inr (some 104))), some (.inl 0), some (.inl 0)], [.inl (-2)], (zs h hl))) rfl ?_
    refine zH_ret (v := some (.inl (-2))) rfl (fun q => absurd q (by decide)) ?_
    exact Or.inl ⟨by omega, rfl, rfl⟩
  · skip
    obtain ⟨hH, hM⟩ := hD (by omega)
    have hHc := hH
    obtain ⟨hL3, hp6, h3, hT, hF, hBs, hn12, hs6, hsp, hsu, htu, hpl, hdg, hpo⟩ := hHc
    have hMc := hM
    obtain ⟨m9, m10, m14, m15, mas, mrec, mfa, mrow, mtr⟩ := hMc
    refine zQ_of (Nat.le_of_ble_eq_true rfl) ?_
    show zH d 132 (0, [some (.inr (.inr (some 104))), none, none], [], (zs h0 hl)) _
    refine zH_go 3 (c' := (5, [some (.inr (.inr (some 104))), none, none], [], (zs (zup h0 104 0 0) hl))) rfl ?_
    rw [e0]
    refine zH_go 7 (c' := (14, [some (.inr (.inr (some 104))), some (.inl 0), some (.inl 0)], [.inl (h 104 9), .inl 0], (zs h hl))) rfl ?_
    rw [e9]
    refine zH_bf (x := 0) (y := 1) (k := .ge) (c1 := (36, [some (.inr (.inr (some 104))), some (.inl 0), some (.inl 0)], [], (zs h hl))) (c2 := (17, [some (.inr (.inr (some 104))), some (.inl 0), some (.inl 0)], [], (zs h hl))) rfl ⟨by decide, by decide⟩ ⟨by decide, by decide⟩ (by show ¬ (¬ 0 < 1); decide) ?_
    refine zH_go 4 (c' := (23, [some (.inr (.inr (some 104))), some (.inl 0), some (.inl 0)], [.inl 0, .inr (.inr (some 109)), .inl 0], (zs h hl))) rfl ?_
    refine zH_np (P := 0 ≤ 0 ∧ 0 < ((3 : Nat) : Int)) (c' := (24, [some (.inr (.inr (some 104))), some (.inl 0), some (.inl 0)], [.inl (h 109 0), .inl 0], (zs h hl))) rfl ⟨by decide, by decide⟩ ?_
    refine zH_go 11 (c' := (14, [some (.inr (.inr (some 104))), some (.inl (zor 0 (zshl (h 109 0) 0))), some (.inl 1)], [.inl (h 104 9), .inl 1], (zs h hl))) rfl ?_
    rw [e9]
    refine zH_bt (x := 1) (y := 1) (k := .ge) (c1 := (36, [some (.inr (.inr (some 104))), some (.inl (zor 0 (zshl (h 109 0) 0))), some (.inl 1)], [], (zs h hl))) (c2 := (17, [some (.inr (.inr (some 104))), some (.inl (zor 0 (zshl (h 109 0) 0))), some (.inl 1)], [], (zs h hl))) rfl ⟨by decide, by decide⟩ ⟨by decide, by decide⟩ (by show ¬ 1 < 1; decide) ?_
    refine zH_go 2 (c' := (40, [some (.inr (.inr (some 104))), some (.inl (zor 0 (zshl (h 109 0) 0))), some (.inl 1)], [.inl (h 104 9)], (zs h hl))) rfl ?_
    rw [e9]
    refine zH_bt (x := 1) (y := 0) (k := .ne) (c1 := (48, [some (.inr (.inr (some 104))), some (.inl (zor 0 (zshl (h 109 0) 0))), some (.inl 1)], [], (zs h hl))) (c2 := (43, [some (.inr (.inr (some 104))), some (.inl (zor 0 (zshl (h 109 0) 0))), some (.inl 1)], [], (zs h hl))) rfl ⟨by decide, by decide⟩ ⟨by decide, by decide⟩ (by show ¬ 1 = 0; decide) ?_
    refine zH_go 1 (c' := (49, [some (.inr (.inr (some 104))), some (.inl (zor 0 (zshl (h 109 0) 0))), some (.inl 1)], [.inl (zor 0 (zshl (h 109 0) 0))], (zs h hl))) rfl ?_
    refine zH_ret (v := some (.inl (zor 0 (zshl (h 109 0) 0)))) rfl (fun q => absurd q (by decide)) ?_
    refine Or.inr ⟨by omega, ?_, rfl⟩
    obtain rfl : L = 1 := by omega
    rw [(mas 0 (by decide)).1, zor_st1 _ (show s.1 0 < 8 by have := hs6 0 (by decide); omega)]
    rfl
  · skip
    obtain ⟨hH, hM⟩ := hD (by omega)
    have hHc := hH
    obtain ⟨hL3, hp6, h3, hT, hF, hBs, hn12, hs6, hsp, hsu, htu, hpl, hdg, hpo⟩ := hHc
    have hMc := hM
    obtain ⟨m9, m10, m14, m15, mas, mrec, mfa, mrow, mtr⟩ := hMc
    refine zQ_of (Nat.le_of_ble_eq_true rfl) ?_
    show zH d 132 (0, [some (.inr (.inr (some 104))), none, none], [], (zs h0 hl)) _
    refine zH_go 3 (c' := (5, [some (.inr (.inr (some 104))), none, none], [], (zs (zup h0 104 0 0) hl))) rfl ?_
    rw [e0]
    refine zH_go 7 (c' := (14, [some (.inr (.inr (some 104))), some (.inl 0), some (.inl 0)], [.inl (h 104 9), .inl 0], (zs h hl))) rfl ?_
    rw [e9]
    refine zH_bf (x := 0) (y := 2) (k := .ge) (c1 := (36, [some (.inr (.inr (some 104))), some (.inl 0), some (.inl 0)], [], (zs h hl))) (c2 := (17, [some (.inr (.inr (some 104))), some (.inl 0), some (.inl 0)], [], (zs h hl))) rfl ⟨by decide, by decide⟩ ⟨by decide, by decide⟩ (by show ¬ (¬ 0 < 2); decide) ?_
    refine zH_go 4 (c' := (23, [some (.inr (.inr (some 104))), some (.inl 0), some (.inl 0)], [.inl 0, .inr (.inr (some 109)), .inl 0], (zs h hl))) rfl ?_
    refine zH_np (P := 0 ≤ 0 ∧ 0 < ((3 : Nat) : Int)) (c' := (24, [some (.inr (.inr (some 104))), some (.inl 0), some (.inl 0)], [.inl (h 109 0), .inl 0], (zs h hl))) rfl ⟨by decide, by decide⟩ ?_
    refine zH_go 11 (c' := (14, [some (.inr (.inr (some 104))), some (.inl (zor 0 (zshl (h 109 0) 0))), some (.inl 1)], [.inl (h 104 9), .inl 1], (zs h hl))) rfl ?_
    rw [e9]
    refine zH_bf (x := 1) (y := 2) (k := .ge) (c1 := (36, [some (.inr (.inr (some 104))), some (.inl (zor 0 (zshl (h 109 0) 0))), some (.inl 1)], [], (zs h hl))) (c2 := (17, [some (.inr (.inr (some 104))), some (.inl (zor 0 (zshl (h 109 0) 0))), some (.inl 1)], [], (zs h hl))) rfl ⟨by decide, by decide⟩ ⟨by decide, by decide⟩ (by show ¬ (¬ 1 < 2); decide) ?_
    refine zH_go 4 (c' := (23, [some (.inr (.inr (some 104))), some (.inl (zor 0 (zshl (h 109 0) 0))), some (.inl 1)], [.inl 1, .inr (.inr (some 109)), .inl (zor 0 (zshl (h 109 0) 0))], (zs h hl))) rfl ?_
    refine zH_np (P := 0 ≤ 1 ∧ 1 < ((3 : Nat) : Int)) (c' := (24, [some (.inr (.inr (some 104))), some (.inl (zor 0 (zshl (h 109 0) 0))), some (.inl 1)], [.inl (h 109 1), .inl (zor 0 (zshl (h 109 0) 0))], (zs h hl))) rfl ⟨by decide, by decide⟩ ?_
    refine zH_go 11 (c' := (14, [some (.inr (.inr (some 104))), some (.inl (zor (zor 0 (zshl (h 109 0) 0)) (zshl (h 109 1) 3))), some (.inl 2)], [.inl (h 104 9), .inl 2], (zs h hl))) rfl ?_
    rw [e9]
    refine zH_bt (x := 2) (y := 2) (k := .ge) (c1 := (36, [some (.inr (.inr (some 104))), some (.inl (zor (zor 0 (zshl (h 109 0) 0)) (zshl (h 109 1) 3))), some (.inl 2)], [], (zs h hl))) (c2 := (17, [some (.inr (.inr (some 104))), some (.inl (zor (zor 0 (zshl (h 109 0) 0)) (zshl (h 109 1) 3))), some (.inl 2)], [], (zs h hl))) rfl ⟨by decide, by decide⟩ ⟨by decide, by decide⟩ (by show ¬ 2 < 2; decide) ?_
    refine zH_go 2 (c' := (40, [some (.inr (.inr (some 104))), some (.inl (zor (zor 0 (zshl (h 109 0) 0)) (zshl (h 109 1) 3))), some (.inl 2)], [.inl (h 104 9)], (zs h hl))) rfl ?_
    rw [e9]
    refine zH_bt (x := 2) (y := 0) (k := .ne) (c1 := (48, [some (.inr (.inr (some 104))), some (.inl (zor (zor 0 (zshl (h 109 0) 0)) (zshl (h 109 1) 3))), some (.inl 2)], [], (zs h hl))) (c2 := (43, [some (.inr (.inr (some 104))), some (.inl (zor (zor 0 (zshl (h 109 0) 0)) (zshl (h 109 1) 3))), some (.inl 2)], [], (zs h hl))) rfl ⟨by decide, by decide⟩ ⟨by decide, by decide⟩ (by show ¬ 2 = 0; decide) ?_
    refine zH_go 1 (c' := (49, [some (.inr (.inr (some 104))), some (.inl (zor (zor 0 (zshl (h 109 0) 0)) (zshl (h 109 1) 3))), some (.inl 2)], [.inl (zor (zor 0 (zshl (h 109 0) 0)) (zshl (h 109 1) 3))], (zs h hl))) rfl ?_
    refine zH_ret (v := some (.inl (zor (zor 0 (zshl (h 109 0) 0)) (zshl (h 109 1) 3)))) rfl (fun q => absurd q (by decide)) ?_
    refine Or.inr ⟨by omega, ?_, rfl⟩
    obtain rfl : L = 2 := by omega
    rw [(mas 0 (by decide)).1, (mas 1 (by decide)).1, zor_st2 _ (show s.1 0 < 8 by have := hs6 0 (by decide); omega) _ (show s.1 1 < 8 by have := hs6 1 (by decide); omega)]
    rfl
  · skip
    obtain ⟨hH, hM⟩ := hD (by omega)
    have hHc := hH
    obtain ⟨hL3, hp6, h3, hT, hF, hBs, hn12, hs6, hsp, hsu, htu, hpl, hdg, hpo⟩ := hHc
    have hMc := hM
    obtain ⟨m9, m10, m14, m15, mas, mrec, mfa, mrow, mtr⟩ := hMc
    refine zQ_of (Nat.le_of_ble_eq_true rfl) ?_
    show zH d 132 (0, [some (.inr (.inr (some 104))), none, none], [], (zs h0 hl)) _
    refine zH_go 3 (c' := (5, [some (.inr (.inr (some 104))), none, none], [], (zs (zup h0 104 0 0) hl))) rfl ?_
    rw [e0]
    refine zH_go 7 (c' := (14, [some (.inr (.inr (some 104))), some (.inl 0), some (.inl 0)], [.inl (h 104 9), .inl 0], (zs h hl))) rfl ?_
    rw [e9]
    refine zH_bf (x := 0) (y := 3) (k := .ge) (c1 := (36, [some (.inr (.inr (some 104))), some (.inl 0), some (.inl 0)], [], (zs h hl))) (c2 := (17, [some (.inr (.inr (some 104))), some (.inl 0), some (.inl 0)], [], (zs h hl))) rfl ⟨by decide, by decide⟩ ⟨by decide, by decide⟩ (by show ¬ (¬ 0 < 3); decide) ?_
    refine zH_go 4 (c' := (23, [some (.inr (.inr (some 104))), some (.inl 0), some (.inl 0)], [.inl 0, .inr (.inr (some 109)), .inl 0], (zs h hl))) rfl ?_
    refine zH_np (P := 0 ≤ 0 ∧ 0 < ((3 : Nat) : Int)) (c' := (24, [some (.inr (.inr (some 104))), some (.inl 0), some (.inl 0)], [.inl (h 109 0), .inl 0], (zs h hl))) rfl ⟨by decide, by decide⟩ ?_
    refine zH_go 11 (c' := (14, [some (.inr (.inr (some 104))), some (.inl (zor 0 (zshl (h 109 0) 0))), some (.inl 1)], [.inl (h 104 9), .inl 1], (zs h hl))) rfl ?_
    rw [e9]
    refine zH_bf (x := 1) (y := 3) (k := .ge) (c1 := (36, [some (.inr (.inr (some 104))), some (.inl (zor 0 (zshl (h 109 0) 0))), some (.inl 1)], [], (zs h hl))) (c2 := (17, [some (.inr (.inr (some 104))), some (.inl (zor 0 (zshl (h 109 0) 0))), some (.inl 1)], [], (zs h hl))) rfl ⟨by decide, by decide⟩ ⟨by decide, by decide⟩ (by show ¬ (¬ 1 < 3); decide) ?_
    refine zH_go 4 (c' := (23, [some (.inr (.inr (some 104))), some (.inl (zor 0 (zshl (h 109 0) 0))), some (.inl 1)], [.inl 1, .inr (.inr (some 109)), .inl (zor 0 (zshl (h 109 0) 0))], (zs h hl))) rfl ?_
    refine zH_np (P := 0 ≤ 1 ∧ 1 < ((3 : Nat) : Int)) (c' := (24, [some (.inr (.inr (some 104))), some (.inl (zor 0 (zshl (h 109 0) 0))), some (.inl 1)], [.inl (h 109 1), .inl (zor 0 (zshl (h 109 0) 0))], (zs h hl))) rfl ⟨by decide, by decide⟩ ?_
    refine zH_go 11 (c' := (14, [some (.inr (.inr (some 104))), some (.inl (zor (zor 0 (zshl (h 109 0) 0)) (zshl (h 109 1) 3))), some (.inl 2)], [.inl (h 104 9), .inl 2], (zs h hl))) rfl ?_
    rw [e9]
    refine zH_bf (x := 2) (y := 3) (k := .ge) (c1 := (36, [some (.inr (.inr (some 104))), some (.inl (zor (zor 0 (zshl (h 109 0) 0)) (zshl (h 109 1) 3))), some (.inl 2)], [], (zs h hl))) (c2 := (17, [some (.inr (.inr (some 104))), some (.inl (zor (zor 0 (zshl (h 109 0) 0)) (zshl (h 109 1) 3))), some (.inl 2)], [], (zs h hl))) rfl ⟨by decide, by decide⟩ ⟨by decide, by decide⟩ (by show ¬ (¬ 2 < 3); decide) ?_
    refine zH_go 4 (c' := (23, [some (.inr (.inr (some 104))), some (.inl (zor (zor 0 (zshl (h 109 0) 0)) (zshl (h 109 1) 3))), some (.inl 2)], [.inl 2, .inr (.inr (some 109)), .inl (zor (zor 0 (zshl (h 109 0) 0)) (zshl (h 109 1) 3))], (zs h hl))) rfl ?_
    refine zH_np (P := 0 ≤ 2 ∧ 2 < ((3 : Nat) : Int)) (c' := (24, [some (.inr (.inr (some 104))), some (.inl (zor (zor 0 (zshl (h 109 0) 0)) (zshl (h 109 1) 3))), some (.inl 2)], [.inl (h 109 2), .inl (zor (zor 0 (zshl (h 109 0) 0)) (zshl (h 109 1) 3))], (zs h hl))) rfl ⟨by decide, by decide⟩ ?_
    refine zH_go 11 (c' := (14, [some (.inr (.inr (some 104))), some (.inl (zor (zor (zor 0 (zshl (h 109 0) 0)) (zshl (h 109 1) 3)) (zshl (h 109 2) 6))), some (.inl 3)], [.inl (h 104 9), .inl 3], (zs h hl))) rfl ?_
    rw [e9]
    refine zH_bt (x := 3) (y := 3) (k := .ge) (c1 := (36, [some (.inr (.inr (some 104))), some (.inl (zor (zor (zor 0 (zshl (h 109 0) 0)) (zshl (h 109 1) 3)) (zshl (h 109 2) 6))), some (.inl 3)], [], (zs h hl))) (c2 := (17, [some (.inr (.inr (some 104))), some (.inl (zor (zor (zor 0 (zshl (h 109 0) 0)) (zshl (h 109 1) 3)) (zshl (h 109 2) 6))), some (.inl 3)], [], (zs h hl))) rfl ⟨by decide, by decide⟩ ⟨by decide, by decide⟩ (by show ¬ 3 < 3; decide) ?_
    refine zH_go 2 (c' := (40, [some (.inr (.inr (some 104))), some (.inl (zor (zor (zor 0 (zshl (h 109 0) 0)) (zshl (h 109 1) 3)) (zshl (h 109 2) 6))), some (.inl 3)], [.inl (h 104 9)], (zs h hl))) rfl ?_
    rw [e9]
    refine zH_bt (x := 3) (y := 0) (k := .ne) (c1 := (48, [some (.inr (.inr (some 104))), some (.inl (zor (zor (zor 0 (zshl (h 109 0) 0)) (zshl (h 109 1) 3)) (zshl (h 109 2) 6))), some (.inl 3)], [], (zs h hl))) (c2 := (43, [some (.inr (.inr (some 104))), some (.inl (zor (zor (zor 0 (zshl (h 109 0) 0)) (zshl (h 109 1) 3)) (zshl (h 109 2) 6))), some (.inl 3)], [], (zs h hl))) rfl ⟨by decide, by decide⟩ ⟨by decide, by decide⟩ (by show ¬ 3 = 0; decide) ?_
    refine zH_go 1 (c' := (49, [some (.inr (.inr (some 104))), some (.inl (zor (zor (zor 0 (zshl (h 109 0) 0)) (zshl (h 109 1) 3)) (zshl (h 109 2) 6))), some (.inl 3)], [.inl (zor (zor (zor 0 (zshl (h 109 0) 0)) (zshl (h 109 1) 3)) (zshl (h 109 2) 6))], (zs h hl))) rfl ?_
    refine zH_ret (v := some (.inl (zor (zor (zor 0 (zshl (h 109 0) 0)) (zshl (h 109 1) 3)) (zshl (h 109 2) 6)))) rfl (fun q => absurd q (by decide)) ?_
    refine Or.inr ⟨by omega, ?_, rfl⟩
    obtain rfl : L = 3 := by omega
    rw [(mas 0 (by decide)).1, (mas 1 (by decide)).1, (mas 2 (by decide)).1, zor_st3 _ (show s.1 0 < 8 by have := hs6 0 (by decide); omega) _ (show s.1 1 < 8 by have := hs6 1 (by decide); omega) _ (show s.1 2 < 8 by have := hs6 2 (by decide); omega)]
    rfl
set_option maxRecDepth 100000 in
set_option maxHeartbeats 4000000 in
theorem p_toldO {d : Nat} {h0 h hl : Nat → Nat → Int} (e0 : zup h0 104 0 0 = h) {i what : Int} (hi : zr i) (hw : zr what) (h15 : 0 ≤ h 104 15 ∧ h 104 15 ≤ 12) : zQ (d + 2) 133 [.inr (.inr (some 104)), .inl i, .inl what] (zs h0 hl) (fun r' σ' => ∃ x : Int, zTold h 111 112 113 114 (Int.toNat (h 104 15)) i what x ∧ r' = some (.inl x) ∧ σ' = zs h hl) := by
  refine zQ_of (Nat.le_of_ble_eq_true rfl) ?_
  show zH (d + 1) 133 (0, [some (.inr (.inr (some 104))), some (.inl i), some (.inl what)], [], (zs h0 hl)) _
  refine zH_go 3 (c' := (5, [some (.inr (.inr (some 104))), some (.inl i), some (.inl what)], [], (zs (zup h0 104 0 0) hl))) rfl ?_
  rw [e0]
  refine zH_go 1 (c' := (6, [some (.inr (.inr (some 104))), some (.inl i), some (.inl what)], [.inl i], (zs h hl))) rfl ?_
  refine zH_np (P := zr i) (c' := (7, [some (.inr (.inr (some 104))), some (.inl i), some (.inl what)], [.inr (.inl i)], (zs h hl))) rfl (by first | assumption | (unfold zr; omega)) ?_
  refine zH_go 5 (c' := (14, [some (.inr (.inr (some 104))), some (.inl i), some (.inl what)], [.inl ((h 104 15) - 1), .inr (.inl 0), .inr (.inl i)], (zs h hl))) rfl ?_
  refine zH_np (P := zr ((h 104 15) - 1)) (c' := (15, [some (.inr (.inr (some 104))), some (.inl i), some (.inl what)], [.inr (.inl ((h 104 15) - 1)), .inr (.inl 0), .inr (.inl i)], (zs h hl))) rfl (by first | assumption | (unfold zr; omega)) ?_
  refine zH_call (M' := 103) (as := [.inr (.inl i), .inr (.inl 0), .inr (.inl ((h 104 15) - 1))]) (T := []) rfl (p_in (by first | assumption | exact zr_l (by assumption) | (unfold zrl; omega)) ⟨by decide, by decide⟩ (by first | assumption | exact zr_l (by assumption) | (unfold zrl; omega))) (fun r σ' p_1 => ?_)
  rcases p_1 with ⟨rfl, b_2, rfl⟩ | ⟨rfl, b_2, rfl⟩
  · show zH _ _ (18, [some (.inr (.inr (some 104))), some (.inl i), some (.inl what)], [.inl 1], (zs h hl)) _
    refine zH_bf (x := 1) (y := 0) (k := .eq) (c1 := (33, [some (.inr (.inr (some 104))), some (.inl i), some (.inl what)], [], (zs h hl))) (c2 := (21, [some (.inr (.inr (some 104))), some (.inl i), some (.inl what)], [], (zs h hl))) rfl ⟨by decide, by decide⟩ ⟨by decide, by decide⟩ (by show ¬ (1 = 0); decide) ?_
    refine zH_go 1 (c' := (22, [some (.inr (.inr (some 104))), some (.inl i), some (.inl what)], [.inl what], (zs h hl))) rfl ?_
    refine zH_np (P := zr what) (c' := (23, [some (.inr (.inr (some 104))), some (.inl i), some (.inl what)], [.inr (.inl what)], (zs h hl))) rfl (by first | assumption | (unfold zr; omega)) ?_
    refine zH_go 2 (c' := (27, [some (.inr (.inr (some 104))), some (.inl i), some (.inl what)], [.inr (.inl 3), .inr (.inl 0), .inr (.inl what)], (zs h hl))) rfl ?_
    refine zH_call (M' := 103) (as := [.inr (.inl what), .inr (.inl 0), .inr (.inl 3)]) (T := []) rfl (p_in (by first | assumption | exact zr_l (by assumption) | (unfold zrl; omega)) ⟨by decide, by decide⟩ ⟨by decide, by decide⟩) (fun r σ' p_3 => ?_)
    rcases p_3 with ⟨rfl, b_4, rfl⟩ | ⟨rfl, b_4, rfl⟩
    · show zH _ _ (30, [some (.inr (.inr (some 104))), some (.inl i), some (.inl what)], [.inl 1], (zs h hl)) _
      refine zH_bt (x := 1) (y := 0) (k := .ne) (c1 := (35, [some (.inr (.inr (some 104))), some (.inl i), some (.inl what)], [], (zs h hl))) (c2 := (33, [some (.inr (.inr (some 104))), some (.inl i), some (.inl what)], [], (zs h hl))) rfl ⟨by decide, by decide⟩ ⟨by decide, by decide⟩ (by show ¬ 1 = 0; decide) ?_
      refine zH_go 1 (c' := (36, [some (.inr (.inr (some 104))), some (.inl i), some (.inl what)], [.inl what], (zs h hl))) rfl ?_
      refine zH_br (x := what) (y := 0) (k := .ne) (c1 := (48, [some (.inr (.inr (some 104))), some (.inl i), some (.inl what)], [], (zs h hl))) (c2 := (39, [some (.inr (.inr (some 104))), some (.inl i), some (.inl what)], [], (zs h hl))) rfl (by first | assumption | (unfold zr; omega)) ⟨by decide, by decide⟩ (fun (b_5 : ¬ what = 0) => ?_) (fun (b_5 : ¬ (¬ what = 0)) => ?_)
      · refine zH_go 2 (c' := (50, [some (.inr (.inr (some 104))), some (.inl i), some (.inl what)], [.inl 1, .inl what], (zs h hl))) rfl ?_
        refine zH_br (x := what) (y := 1) (k := .ne) (c1 := (62, [some (.inr (.inr (some 104))), some (.inl i), some (.inl what)], [], (zs h hl))) (c2 := (53, [some (.inr (.inr (some 104))), some (.inl i), some (.inl what)], [], (zs h hl))) rfl (by first | assumption | (unfold zr; omega)) ⟨by decide, by decide⟩ (fun (b_6 : ¬ what = 1) => ?_) (fun (b_6 : ¬ (¬ what = 1)) => ?_)
        · refine zH_go 2 (c' := (64, [some (.inr (.inr (some 104))), some (.inl i), some (.inl what)], [.inl 2, .inl what], (zs h hl))) rfl ?_
          refine zH_br (x := what) (y := 2) (k := .ne) (c1 := (76, [some (.inr (.inr (some 104))), some (.inl i), some (.inl what)], [], (zs h hl))) (c2 := (67, [some (.inr (.inr (some 104))), some (.inl i), some (.inl what)], [], (zs h hl))) rfl (by first | assumption | (unfold zr; omega)) ⟨by decide, by decide⟩ (fun (b_7 : ¬ what = 2) => ?_) (fun (b_7 : ¬ (¬ what = 2)) => ?_)
          · refine zH_go 3 (c' := (81, [some (.inr (.inr (some 104))), some (.inl i), some (.inl what)], [.inl i, .inr (.inr (some 114))], (zs h hl))) rfl ?_
            refine zH_np (P := 0 ≤ i ∧ i < ((12 : Nat) : Int)) (c' := (82, [some (.inr (.inr (some 104))), some (.inl i), some (.inl what)], [.inl (h 114 (Int.toNat i))], (zs h hl))) rfl ⟨by omega, by omega⟩ ?_
            refine zH_ret (v := some (.inl (h 114 (Int.toNat i)))) rfl (fun q => absurd q (by decide)) ?_
            refine ⟨_, ?_, rfl, rfl⟩
            unfold zTold
            omega
          · refine zH_go 3 (c' := (72, [some (.inr (.inr (some 104))), some (.inl i), some (.inl what)], [.inl i, .inr (.inr (some 113))], (zs h hl))) rfl ?_
            refine zH_np (P := 0 ≤ i ∧ i < ((12 : Nat) : Int)) (c' := (73, [some (.inr (.inr (some 104))), some (.inl i), some (.inl what)], [.inl (h 113 (Int.toNat i))], (zs h hl))) rfl ⟨by omega, by omega⟩ ?_
            refine zH_go 1 (c' := (82, [some (.inr (.inr (some 104))), some (.inl i), some (.inl what)], [.inl (h 113 (Int.toNat i))], (zs h hl))) rfl ?_
            refine zH_ret (v := some (.inl (h 113 (Int.toNat i)))) rfl (fun q => absurd q (by decide)) ?_
            refine ⟨_, ?_, rfl, rfl⟩
            unfold zTold
            omega
        · refine zH_go 3 (c' := (58, [some (.inr (.inr (some 104))), some (.inl i), some (.inl what)], [.inl i, .inr (.inr (some 112))], (zs h hl))) rfl ?_
          refine zH_np (P := 0 ≤ i ∧ i < ((12 : Nat) : Int)) (c' := (59, [some (.inr (.inr (some 104))), some (.inl i), some (.inl what)], [.inl (h 112 (Int.toNat i))], (zs h hl))) rfl ⟨by omega, by omega⟩ ?_
          refine zH_go 1 (c' := (82, [some (.inr (.inr (some 104))), some (.inl i), some (.inl what)], [.inl (h 112 (Int.toNat i))], (zs h hl))) rfl ?_
          refine zH_ret (v := some (.inl (h 112 (Int.toNat i)))) rfl (fun q => absurd q (by decide)) ?_
          refine ⟨_, ?_, rfl, rfl⟩
          unfold zTold
          omega
      · refine zH_go 3 (c' := (44, [some (.inr (.inr (some 104))), some (.inl i), some (.inl what)], [.inl i, .inr (.inr (some 111))], (zs h hl))) rfl ?_
        refine zH_np (P := 0 ≤ i ∧ i < ((12 : Nat) : Int)) (c' := (45, [some (.inr (.inr (some 104))), some (.inl i), some (.inl what)], [.inl (h 111 (Int.toNat i))], (zs h hl))) rfl ⟨by omega, by omega⟩ ?_
        refine zH_go 1 (c' := (82, [some (.inr (.inr (some 104))), some (.inl i), some (.inl what)], [.inl (h 111 (Int.toNat i))], (zs h hl))) rfl ?_
        refine zH_ret (v := some (.inl (h 111 (Int.toNat i)))) rfl (fun q => absurd q (by decide)) ?_
        refine ⟨_, ?_, rfl, rfl⟩
        unfold zTold
        omega
    · show zH _ _ (30, [some (.inr (.inr (some 104))), some (.inl i), some (.inl what)], [.inl 0], (zs h hl)) _
      refine zH_bf (x := 0) (y := 0) (k := .ne) (c1 := (35, [some (.inr (.inr (some 104))), some (.inl i), some (.inl what)], [], (zs h hl))) (c2 := (33, [some (.inr (.inr (some 104))), some (.inl i), some (.inl what)], [], (zs h hl))) rfl ⟨by decide, by decide⟩ ⟨by decide, by decide⟩ (by show ¬ (¬ 0 = 0); decide) ?_
      refine zH_go 1 (c' := (34, [some (.inr (.inr (some 104))), some (.inl i), some (.inl what)], [.inl (-1)], (zs h hl))) rfl ?_
      refine zH_ret (v := some (.inl (-1))) rfl (fun q => absurd q (by decide)) ?_
      refine ⟨_, ?_, rfl, rfl⟩
      unfold zTold
      omega
  · show zH _ _ (18, [some (.inr (.inr (some 104))), some (.inl i), some (.inl what)], [.inl 0], (zs h hl)) _
    refine zH_bt (x := 0) (y := 0) (k := .eq) (c1 := (33, [some (.inr (.inr (some 104))), some (.inl i), some (.inl what)], [], (zs h hl))) (c2 := (21, [some (.inr (.inr (some 104))), some (.inl i), some (.inl what)], [], (zs h hl))) rfl ⟨by decide, by decide⟩ ⟨by decide, by decide⟩ (by show 0 = 0; decide) ?_
    refine zH_go 1 (c' := (34, [some (.inr (.inr (some 104))), some (.inl i), some (.inl what)], [.inl (-1)], (zs h hl))) rfl ?_
    refine zH_ret (v := some (.inl (-1))) rfl (fun q => absurd q (by decide)) ?_
    refine ⟨_, ?_, rfl, rfl⟩
    unfold zTold
    omega
set_option maxRecDepth 100000 in
set_option maxHeartbeats 4000000 in
theorem p_costOfO {d : Nat} {h hl : Nat → Nat → Int} (h9 : 1 ≤ h 104 9 ∧ h 104 9 ≤ 3) (hz : ∀ l : Nat, h 104 9 ≤ (l : Int) → l < 3 → h 110 l = 0) : zQ (d + 1) 134 [.inr (.inr (some 104))] (zs h hl) (zI1 (h 110 0 + h 110 1 + h 110 2) (zs h hl)) := by
  rcases (show h 104 9 = 1 ∨ h 104 9 = 2 ∨ h 104 9 = 3 by omega) with e9 | e9 | e9
  · skip
    have z1 := hz 1 (by omega) (by decide)
    have z2 := hz 2 (by omega) (by decide)
    refine zQ_of (Nat.le_of_ble_eq_true rfl) ?_
    show zH d 134 (0, [some (.inr (.inr (some 104))), none, none], [], (zs h hl)) _
    refine zH_go 7 (c' := (9, [some (.inr (.inr (some 104))), some (.inl 0), some (.inl 0)], [.inl (h 104 9), .inl 0], (zs h hl))) rfl ?_
    rw [e9]
    refine zH_bf (x := 0) (y := 1) (k := .ge) (c1 := (27, [some (.inr (.inr (some 104))), some (.inl 0), some (.inl 0)], [], (zs h hl))) (c2 := (12, [some (.inr (.inr (some 104))), some (.inl 0), some (.inl 0)], [], (zs h hl))) rfl ⟨by decide, by decide⟩ ⟨by decide, by decide⟩ (by show ¬ (¬ 0 < 1); decide) ?_
    refine zH_go 4 (c' := (18, [some (.inr (.inr (some 104))), some (.inl 0), some (.inl 0)], [.inl 0, .inr (.inr (some 110)), .inl 0], (zs h hl))) rfl ?_
    refine zH_np (P := 0 ≤ 0 ∧ 0 < ((3 : Nat) : Int)) (c' := (19, [some (.inr (.inr (some 104))), some (.inl 0), some (.inl 0)], [.inl (h 110 0), .inl 0], (zs h hl))) rfl ⟨by decide, by decide⟩ ?_
    refine zH_go 7 (c' := (9, [some (.inr (.inr (some 104))), some (.inl (0 + (h 110 0))), some (.inl 1)], [.inl (h 104 9), .inl 1], (zs h hl))) rfl ?_
    rw [e9]
    refine zH_bt (x := 1) (y := 1) (k := .ge) (c1 := (27, [some (.inr (.inr (some 104))), some (.inl (0 + (h 110 0))), some (.inl 1)], [], (zs h hl))) (c2 := (12, [some (.inr (.inr (some 104))), some (.inl (0 + (h 110 0))), some (.inl 1)], [], (zs h hl))) rfl ⟨by decide, by decide⟩ ⟨by decide, by decide⟩ (by show ¬ 1 < 1; decide) ?_
    refine zH_go 1 (c' := (28, [some (.inr (.inr (some 104))), some (.inl (0 + (h 110 0))), some (.inl 1)], [.inl (0 + (h 110 0))], (zs h hl))) rfl ?_
    refine zH_ret (v := some (.inl (0 + (h 110 0)))) rfl (fun q => absurd q (by decide)) ?_
    refine ⟨?_, rfl⟩
    rw [show (0 + (h 110 0)) = (h 110 0 + h 110 1 + h 110 2) by omega]
  · skip
    have z2 := hz 2 (by omega) (by decide)
    refine zQ_of (Nat.le_of_ble_eq_true rfl) ?_
    show zH d 134 (0, [some (.inr (.inr (some 104))), none, none], [], (zs h hl)) _
    refine zH_go 7 (c' := (9, [some (.inr (.inr (some 104))), some (.inl 0), some (.inl 0)], [.inl (h 104 9), .inl 0], (zs h hl))) rfl ?_
    rw [e9]
    refine zH_bf (x := 0) (y := 2) (k := .ge) (c1 := (27, [some (.inr (.inr (some 104))), some (.inl 0), some (.inl 0)], [], (zs h hl))) (c2 := (12, [some (.inr (.inr (some 104))), some (.inl 0), some (.inl 0)], [], (zs h hl))) rfl ⟨by decide, by decide⟩ ⟨by decide, by decide⟩ (by show ¬ (¬ 0 < 2); decide) ?_
    refine zH_go 4 (c' := (18, [some (.inr (.inr (some 104))), some (.inl 0), some (.inl 0)], [.inl 0, .inr (.inr (some 110)), .inl 0], (zs h hl))) rfl ?_
    refine zH_np (P := 0 ≤ 0 ∧ 0 < ((3 : Nat) : Int)) (c' := (19, [some (.inr (.inr (some 104))), some (.inl 0), some (.inl 0)], [.inl (h 110 0), .inl 0], (zs h hl))) rfl ⟨by decide, by decide⟩ ?_
    refine zH_go 7 (c' := (9, [some (.inr (.inr (some 104))), some (.inl (0 + (h 110 0))), some (.inl 1)], [.inl (h 104 9), .inl 1], (zs h hl))) rfl ?_
    rw [e9]
    refine zH_bf (x := 1) (y := 2) (k := .ge) (c1 := (27, [some (.inr (.inr (some 104))), some (.inl (0 + (h 110 0))), some (.inl 1)], [], (zs h hl))) (c2 := (12, [some (.inr (.inr (some 104))), some (.inl (0 + (h 110 0))), some (.inl 1)], [], (zs h hl))) rfl ⟨by decide, by decide⟩ ⟨by decide, by decide⟩ (by show ¬ (¬ 1 < 2); decide) ?_
    refine zH_go 4 (c' := (18, [some (.inr (.inr (some 104))), some (.inl (0 + (h 110 0))), some (.inl 1)], [.inl 1, .inr (.inr (some 110)), .inl (0 + (h 110 0))], (zs h hl))) rfl ?_
    refine zH_np (P := 0 ≤ 1 ∧ 1 < ((3 : Nat) : Int)) (c' := (19, [some (.inr (.inr (some 104))), some (.inl (0 + (h 110 0))), some (.inl 1)], [.inl (h 110 1), .inl (0 + (h 110 0))], (zs h hl))) rfl ⟨by decide, by decide⟩ ?_
    refine zH_go 7 (c' := (9, [some (.inr (.inr (some 104))), some (.inl ((0 + (h 110 0)) + (h 110 1))), some (.inl 2)], [.inl (h 104 9), .inl 2], (zs h hl))) rfl ?_
    rw [e9]
    refine zH_bt (x := 2) (y := 2) (k := .ge) (c1 := (27, [some (.inr (.inr (some 104))), some (.inl ((0 + (h 110 0)) + (h 110 1))), some (.inl 2)], [], (zs h hl))) (c2 := (12, [some (.inr (.inr (some 104))), some (.inl ((0 + (h 110 0)) + (h 110 1))), some (.inl 2)], [], (zs h hl))) rfl ⟨by decide, by decide⟩ ⟨by decide, by decide⟩ (by show ¬ 2 < 2; decide) ?_
    refine zH_go 1 (c' := (28, [some (.inr (.inr (some 104))), some (.inl ((0 + (h 110 0)) + (h 110 1))), some (.inl 2)], [.inl ((0 + (h 110 0)) + (h 110 1))], (zs h hl))) rfl ?_
    refine zH_ret (v := some (.inl ((0 + (h 110 0)) + (h 110 1)))) rfl (fun q => absurd q (by decide)) ?_
    refine ⟨?_, rfl⟩
    rw [show ((0 + (h 110 0)) + (h 110 1)) = (h 110 0 + h 110 1 + h 110 2) by omega]
  · skip
    refine zQ_of (Nat.le_of_ble_eq_true rfl) ?_
    show zH d 134 (0, [some (.inr (.inr (some 104))), none, none], [], (zs h hl)) _
    refine zH_go 7 (c' := (9, [some (.inr (.inr (some 104))), some (.inl 0), some (.inl 0)], [.inl (h 104 9), .inl 0], (zs h hl))) rfl ?_
    rw [e9]
    refine zH_bf (x := 0) (y := 3) (k := .ge) (c1 := (27, [some (.inr (.inr (some 104))), some (.inl 0), some (.inl 0)], [], (zs h hl))) (c2 := (12, [some (.inr (.inr (some 104))), some (.inl 0), some (.inl 0)], [], (zs h hl))) rfl ⟨by decide, by decide⟩ ⟨by decide, by decide⟩ (by show ¬ (¬ 0 < 3); decide) ?_
    refine zH_go 4 (c' := (18, [some (.inr (.inr (some 104))), some (.inl 0), some (.inl 0)], [.inl 0, .inr (.inr (some 110)), .inl 0], (zs h hl))) rfl ?_
    refine zH_np (P := 0 ≤ 0 ∧ 0 < ((3 : Nat) : Int)) (c' := (19, [some (.inr (.inr (some 104))), some (.inl 0), some (.inl 0)], [.inl (h 110 0), .inl 0], (zs h hl))) rfl ⟨by decide, by decide⟩ ?_
    refine zH_go 7 (c' := (9, [some (.inr (.inr (some 104))), some (.inl (0 + (h 110 0))), some (.inl 1)], [.inl (h 104 9), .inl 1], (zs h hl))) rfl ?_
    rw [e9]
    refine zH_bf (x := 1) (y := 3) (k := .ge) (c1 := (27, [some (.inr (.inr (some 104))), some (.inl (0 + (h 110 0))), some (.inl 1)], [], (zs h hl))) (c2 := (12, [some (.inr (.inr (some 104))), some (.inl (0 + (h 110 0))), some (.inl 1)], [], (zs h hl))) rfl ⟨by decide, by decide⟩ ⟨by decide, by decide⟩ (by show ¬ (¬ 1 < 3); decide) ?_
    refine zH_go 4 (c' := (18, [some (.inr (.inr (some 104))), some (.inl (0 + (h 110 0))), some (.inl 1)], [.inl 1, .inr (.inr (some 110)), .inl (0 + (h 110 0))], (zs h hl))) rfl ?_
    refine zH_np (P := 0 ≤ 1 ∧ 1 < ((3 : Nat) : Int)) (c' := (19, [some (.inr (.inr (some 104))), some (.inl (0 + (h 110 0))), some (.inl 1)], [.inl (h 110 1), .inl (0 + (h 110 0))], (zs h hl))) rfl ⟨by decide, by decide⟩ ?_
    refine zH_go 7 (c' := (9, [some (.inr (.inr (some 104))), some (.inl ((0 + (h 110 0)) + (h 110 1))), some (.inl 2)], [.inl (h 104 9), .inl 2], (zs h hl))) rfl ?_
    rw [e9]
    refine zH_bf (x := 2) (y := 3) (k := .ge) (c1 := (27, [some (.inr (.inr (some 104))), some (.inl ((0 + (h 110 0)) + (h 110 1))), some (.inl 2)], [], (zs h hl))) (c2 := (12, [some (.inr (.inr (some 104))), some (.inl ((0 + (h 110 0)) + (h 110 1))), some (.inl 2)], [], (zs h hl))) rfl ⟨by decide, by decide⟩ ⟨by decide, by decide⟩ (by show ¬ (¬ 2 < 3); decide) ?_
    refine zH_go 4 (c' := (18, [some (.inr (.inr (some 104))), some (.inl ((0 + (h 110 0)) + (h 110 1))), some (.inl 2)], [.inl 2, .inr (.inr (some 110)), .inl ((0 + (h 110 0)) + (h 110 1))], (zs h hl))) rfl ?_
    refine zH_np (P := 0 ≤ 2 ∧ 2 < ((3 : Nat) : Int)) (c' := (19, [some (.inr (.inr (some 104))), some (.inl ((0 + (h 110 0)) + (h 110 1))), some (.inl 2)], [.inl (h 110 2), .inl ((0 + (h 110 0)) + (h 110 1))], (zs h hl))) rfl ⟨by decide, by decide⟩ ?_
    refine zH_go 7 (c' := (9, [some (.inr (.inr (some 104))), some (.inl (((0 + (h 110 0)) + (h 110 1)) + (h 110 2))), some (.inl 3)], [.inl (h 104 9), .inl 3], (zs h hl))) rfl ?_
    rw [e9]
    refine zH_bt (x := 3) (y := 3) (k := .ge) (c1 := (27, [some (.inr (.inr (some 104))), some (.inl (((0 + (h 110 0)) + (h 110 1)) + (h 110 2))), some (.inl 3)], [], (zs h hl))) (c2 := (12, [some (.inr (.inr (some 104))), some (.inl (((0 + (h 110 0)) + (h 110 1)) + (h 110 2))), some (.inl 3)], [], (zs h hl))) rfl ⟨by decide, by decide⟩ ⟨by decide, by decide⟩ (by show ¬ 3 < 3; decide) ?_
    refine zH_go 1 (c' := (28, [some (.inr (.inr (some 104))), some (.inl (((0 + (h 110 0)) + (h 110 1)) + (h 110 2))), some (.inl 3)], [.inl (((0 + (h 110 0)) + (h 110 1)) + (h 110 2))], (zs h hl))) rfl ?_
    refine zH_ret (v := some (.inl (((0 + (h 110 0)) + (h 110 1)) + (h 110 2)))) rfl (fun q => absurd q (by decide)) ?_
    refine ⟨?_, rfl⟩
    rw [show (((0 + (h 110 0)) + (h 110 1)) + (h 110 2)) = (h 110 0 + h 110 1 + h 110 2) by omega]
set_option maxRecDepth 100000 in
set_option maxHeartbeats 4000000 in
theorem p_costO {d : Nat} {h0 h hl : Nat → Nat → Int} (e0 : zup h0 104 0 0 = h) {l : Int} (hl1 : zr l) (h9 : 0 ≤ h 104 9 ∧ h 104 9 ≤ 3) (hz : 0 < h 104 9 → ∀ l : Nat, h 104 9 ≤ (l : Int) → l < 3 → h 110 l = 0) : zQ (d + 2) 135 [.inr (.inr (some 104)), .inl l] (zs h0 hl) (fun r' σ' => (¬ 0 < h 104 9 ∧ r' = some (.inl (-2)) ∧ σ' = zs h hl) ∨ (0 < h 104 9 ∧ (l < -1 ∨ h 104 9 ≤ l) ∧ r' = some (.inl (-1)) ∧ σ' = zs h hl) ∨ (0 < h 104 9 ∧ l = -1 ∧ r' = some (.inl (h 110 0 + h 110 1 + h 110 2)) ∧ σ' = zs h hl) ∨ (0 < h 104 9 ∧ 0 ≤ l ∧ l < h 104 9 ∧ r' = some (.inl (h 110 (Int.toNat l))) ∧ σ' = zs h hl)) := by
  refine zQ_of (Nat.le_of_ble_eq_true rfl) ?_
  show zH (d + 1) 135 (0, [some (.inr (.inr (some 104))), some (.inl l)], [], (zs h0 hl)) _
  refine zH_go 3 (c' := (5, [some (.inr (.inr (some 104))), some (.inl l)], [], (zs (zup h0 104 0 0) hl))) rfl ?_
  rw [e0]
  refine zH_go 2 (c' := (9, [some (.inr (.inr (some 104))), some (.inl l)], [.inl (h 104 9)], (zs h hl))) rfl ?_
  refine zH_br (x := (h 104 9)) (y := 0) (k := .ne) (c1 := (15, [some (.inr (.inr (some 104))), some (.inl l)], [], (zs h hl))) (c2 := (12, [some (.inr (.inr (some 104))), some (.inl l)], [], (zs h hl))) rfl (by first | assumption | (unfold zr; omega)) ⟨by decide, by decide⟩ (fun (b_1 : ¬ (h 104 9) = 0) => ?_) (fun (b_1 : ¬ (¬ (h 104 9) = 0)) => ?_)
  · refine zH_go 2 (c' := (17, [some (.inr (.inr (some 104))), some (.inl l)], [.inl (-1), .inl l], (zs h hl))) rfl ?_
    refine zH_br (x := l) (y := (-1)) (k := .ne) (c1 := (27, [some (.inr (.inr (some 104))), some (.inl l)], [], (zs h hl))) (c2 := (20, [some (.inr (.inr (some 104))), some (.inl l)], [], (zs h hl))) rfl (by first | assumption | (unfold zr; omega)) ⟨by decide, by decide⟩ (fun (b_2 : ¬ l = (-1)) => ?_) (fun (b_2 : ¬ (¬ l = (-1))) => ?_)
    · refine zH_go 1 (c' := (28, [some (.inr (.inr (some 104))), some (.inl l)], [.inl l], (zs h hl))) rfl ?_
      refine zH_np (P := zr l) (c' := (29, [some (.inr (.inr (some 104))), some (.inl l)], [.inr (.inl l)], (zs h hl))) rfl (by first | assumption | (unfold zr; omega)) ?_
      refine zH_go 5 (c' := (36, [some (.inr (.inr (some 104))), some (.inl l)], [.inl ((h 104 9) - 1), .inr (.inl 0), .inr (.inl l)], (zs h hl))) rfl ?_
      refine zH_np (P := zr ((h 104 9) - 1)) (c' := (37, [some (.inr (.inr (some 104))), some (.inl l)], [.inr (.inl ((h 104 9) - 1)), .inr (.inl 0), .inr (.inl l)], (zs h hl))) rfl (by first | assumption | (unfold zr; omega)) ?_
      refine zH_call (M' := 103) (as := [.inr (.inl l), .inr (.inl 0), .inr (.inl ((h 104 9) - 1))]) (T := []) rfl (p_in (by first | assumption | exact zr_l (by assumption) | (unfold zrl; omega)) ⟨by decide, by decide⟩ (by first | assumption | exact zr_l (by assumption) | (unfold zrl; omega))) (fun r σ' p_3 => ?_)
      rcases p_3 with ⟨rfl, b_4, rfl⟩ | ⟨rfl, b_4, rfl⟩
      · show zH _ _ (40, [some (.inr (.inr (some 104))), some (.inl l)], [.inl 1], (zs h hl)) _
        refine zH_bf (x := 1) (y := 0) (k := .eq) (c1 := (52, [some (.inr (.inr (some 104))), some (.inl l)], [], (zs h hl))) (c2 := (43, [some (.inr (.inr (some 104))), some (.inl l)], [], (zs h hl))) rfl ⟨by decide, by decide⟩ ⟨by decide, by decide⟩ (by show ¬ (1 = 0); decide) ?_
        refine zH_go 3 (c' := (48, [some (.inr (.inr (some 104))), some (.inl l)], [.inl l, .inr (.inr (some 110))], (zs h hl))) rfl ?_
        refine zH_np (P := 0 ≤ l ∧ l < ((3 : Nat) : Int)) (c' := (49, [some (.inr (.inr (some 104))), some (.inl l)], [.inl (h 110 (Int.toNat l))], (zs h hl))) rfl ⟨by omega, by omega⟩ ?_
        refine zH_go 1 (c' := (53, [some (.inr (.inr (some 104))), some (.inl l)], [.inl (h 110 (Int.toNat l))], (zs h hl))) rfl ?_
        refine zH_ret (v := some (.inl (h 110 (Int.toNat l)))) rfl (fun q => absurd q (by decide)) ?_
        exact Or.inr (Or.inr (Or.inr ⟨by omega, by omega, by omega, rfl, rfl⟩))
      · show zH _ _ (40, [some (.inr (.inr (some 104))), some (.inl l)], [.inl 0], (zs h hl)) _
        refine zH_bt (x := 0) (y := 0) (k := .eq) (c1 := (52, [some (.inr (.inr (some 104))), some (.inl l)], [], (zs h hl))) (c2 := (43, [some (.inr (.inr (some 104))), some (.inl l)], [], (zs h hl))) rfl ⟨by decide, by decide⟩ ⟨by decide, by decide⟩ (by show 0 = 0; decide) ?_
        refine zH_go 1 (c' := (53, [some (.inr (.inr (some 104))), some (.inl l)], [.inl (-1)], (zs h hl))) rfl ?_
        refine zH_ret (v := some (.inl (-1))) rfl (fun q => absurd q (by decide)) ?_
        exact Or.inr (Or.inl ⟨by omega, by omega, rfl, rfl⟩)
    · refine zH_go 1 (c' := (21, [some (.inr (.inr (some 104))), some (.inl l)], [.inr (.inr (some 104))], (zs h hl))) rfl ?_
      refine zH_call (M' := 134) (as := [.inr (.inr (some 104))]) (T := []) rfl (p_costOfO (by omega) (hz (by omega))) (fun r σ' p_5 => ?_)
      obtain ⟨rfl, rfl⟩ := p_5
      show zH _ _ (24, [some (.inr (.inr (some 104))), some (.inl l)], [.inl (h 110 0 + h 110 1 + h 110 2)], (zs h hl)) _
      refine zH_go 1 (c' := (53, [some (.inr (.inr (some 104))), some (.inl l)], [.inl (h 110 0 + h 110 1 + h 110 2)], (zs h hl))) rfl ?_
      refine zH_ret (v := some (.inl (h 110 0 + h 110 1 + h 110 2))) rfl (fun q => absurd q (by decide)) ?_
      exact Or.inr (Or.inr (Or.inl ⟨by omega, by omega, rfl, rfl⟩))
  · refine zH_go 1 (c' := (14, [some (.inr (.inr (some 104))), some (.inl l)], [.inl (-2)], (zs h hl))) rfl ?_
    refine zH_ret (v := some (.inl (-2))) rfl (fun q => absurd q (by decide)) ?_
    exact Or.inl ⟨by omega, rfl, rfl⟩
set_option maxRecDepth 100000 in
set_option maxHeartbeats 4000000 in
theorem p_movesO {d : Nat} {h0 h hl : Nat → Nat → Int} (e0 : zup h0 104 0 0 = h) {x y : Int} (hx : zr x) (hy : zr y) (hP : 0 ≤ h 104 3 ∧ h 104 3 ≤ 6) (h9 : 0 ≤ h 104 9 ∧ h 104 9 ≤ 3) (h15 : 0 ≤ h 104 15 ∧ h 104 15 ≤ 12) {p L B n : Nat} {s : zDS} (hD : 0 < h 104 9 → zMH h p L B n s ∧ zDm h hl p L B n s) : zQ (d + 3) 136 [.inr (.inr (some 104)), .inl x, .inl y] (zs h0 hl) (fun r' σ' => (h 104 9 = 0 ∧ r' = some (.inl (-2)) ∧ σ' = zs h hl) ∨ (0 < h 104 9 ∧ ¬ (zStd (p : Int) L x ∧ zStd (p : Int) L y) ∧ r' = some (.inl (-1)) ∧ σ' = zs h hl) ∨ (0 < h 104 9 ∧ ∃ X Y : Nat, x = (X : Int) ∧ y = (Y : Int) ∧ zSb p L X = true ∧ zSb p L Y = true ∧ r' = some (.inl (zMv h L X Y)) ∧ σ' = zs h hl)) := by
  refine zQ_of (Nat.le_of_ble_eq_true rfl) ?_
  show zH (d + 2) 136 (0, [some (.inr (.inr (some 104))), some (.inl x), some (.inl y)], [], (zs h0 hl)) _
  refine zH_go 3 (c' := (5, [some (.inr (.inr (some 104))), some (.inl x), some (.inl y)], [], (zs (zup h0 104 0 0) hl))) rfl ?_
  rw [e0]
  refine zH_go 2 (c' := (9, [some (.inr (.inr (some 104))), some (.inl x), some (.inl y)], [.inl (h 104 9)], (zs h hl))) rfl ?_
  refine zH_br (x := (h 104 9)) (y := 0) (k := .ne) (c1 := (15, [some (.inr (.inr (some 104))), some (.inl x), some (.inl y)], [], (zs h hl))) (c2 := (12, [some (.inr (.inr (some 104))), some (.inl x), some (.inl y)], [], (zs h hl))) rfl (by first | assumption | (unfold zr; omega)) ⟨by decide, by decide⟩ (fun (b_1 : ¬ (h 104 9) = 0) => ?_) (fun (b_1 : ¬ (¬ (h 104 9) = 0)) => ?_)
  · obtain ⟨hH, hM⟩ := hD (by omega)
    have hHc := hH
    obtain ⟨hL3, hp6, h3, hT, hF, hBs, hn12, hs6, hsp, hsu, htu, hpl, hdg, hpo⟩ := hHc
    have hMc := hM
    obtain ⟨m9, m10, m14, m15, mas, mrec, mfa, mrow, mtr⟩ := hMc
    have hPp : h 104 3 = (p : Int) := h3
    refine zH_go 3 (c' := (20, [some (.inr (.inr (some 104))), some (.inl x), some (.inl y)], [.inl (h 104 9), .inr (.inr (some 104))], (zs h hl))) rfl ?_
    rw [m9]
    refine zH_go 1 (c' := (21, [some (.inr (.inr (some 104))), some (.inl x), some (.inl y)], [.inl x, .inl (L : Int), .inr (.inr (some 104))], (zs h hl))) rfl ?_
    refine zH_call (M' := 112) (as := [.inr (.inr (some 104)), .inl (L : Int), .inl x]) (T := []) rfl (p_isStd (L := L) hL3 hx hP) (fun r σ' p_2 => ?_)
    rcases p_2 with ⟨rfl, b_3, rfl⟩ | ⟨rfl, b_3, rfl⟩
    · rw [hPp] at b_3
      obtain ⟨X, rfl⟩ := Int.eq_ofNat_of_zero_le b_3.1
      have sbx : zSb p L X = true := zSb_iff.mp b_3
      have slx := zSb_lt hL3.2 sbx
      show zH _ _ (24, [some (.inr (.inr (some 104))), some (.inl (X : Int)), some (.inl y)], [.inl 1], (zs h hl)) _
      refine zH_bf (x := 1) (y := 0) (k := .eq) (c1 := (48, [some (.inr (.inr (some 104))), some (.inl (X : Int)), some (.inl y)], [], (zs h hl))) (c2 := (27, [some (.inr (.inr (some 104))), some (.inl (X : Int)), some (.inl y)], [], (zs h hl))) rfl ⟨by decide, by decide⟩ ⟨by decide, by decide⟩ (by show ¬ (1 = 0); decide) ?_
      refine zH_go 3 (c' := (32, [some (.inr (.inr (some 104))), some (.inl (X : Int)), some (.inl y)], [.inl (h 104 9), .inr (.inr (some 104))], (zs h hl))) rfl ?_
      rw [m9]
      refine zH_go 1 (c' := (33, [some (.inr (.inr (some 104))), some (.inl (X : Int)), some (.inl y)], [.inl y, .inl (L : Int), .inr (.inr (some 104))], (zs h hl))) rfl ?_
      refine zH_call (M' := 112) (as := [.inr (.inr (some 104)), .inl (L : Int), .inl y]) (T := []) rfl (p_isStd (L := L) hL3 hy hP) (fun r σ' p_4 => ?_)
      rcases p_4 with ⟨rfl, b_5, rfl⟩ | ⟨rfl, b_5, rfl⟩
      · rw [hPp] at b_5
        obtain ⟨Y, rfl⟩ := Int.eq_ofNat_of_zero_le b_5.1
        have sby : zSb p L Y = true := zSb_iff.mp b_5
        have sly := zSb_lt hL3.2 sby
        show zH _ _ (36, [some (.inr (.inr (some 104))), some (.inl (X : Int)), some (.inl (Y : Int))], [.inl 1], (zs h hl)) _
        refine zH_bf (x := 1) (y := 0) (k := .eq) (c1 := (48, [some (.inr (.inr (some 104))), some (.inl (X : Int)), some (.inl (Y : Int))], [], (zs h hl))) (c2 := (39, [some (.inr (.inr (some 104))), some (.inl (X : Int)), some (.inl (Y : Int))], [], (zs h hl))) rfl ⟨by decide, by decide⟩ ⟨by decide, by decide⟩ (by show ¬ (1 = 0); decide) ?_
        refine zH_go 3 (c' := (42, [some (.inr (.inr (some 104))), some (.inl (X : Int)), some (.inl (Y : Int))], [.inl (Y : Int), .inl (X : Int), .inr (.inr (some 104))], (zs h hl))) rfl ?_
        refine zH_call (M' := 114) (as := [.inr (.inr (some 104)), .inl (X : Int), .inl (Y : Int)]) (T := []) rfl (p_mvO (p := p) hL3 hp6 sbx sby m9 hF hT.1) (fun r σ' p_6 => ?_)
        obtain ⟨rfl, rfl⟩ := p_6
        show zH _ _ (45, [some (.inr (.inr (some 104))), some (.inl (X : Int)), some (.inl (Y : Int))], [.inl (zMv h L X Y)], (zs h hl)) _
        refine zH_go 1 (c' := (49, [some (.inr (.inr (some 104))), some (.inl (X : Int)), some (.inl (Y : Int))], [.inl (zMv h L X Y)], (zs h hl))) rfl ?_
        refine zH_ret (v := some (.inl (zMv h L X Y))) rfl (fun q => absurd q (by decide)) ?_
        exact Or.inr (Or.inr ⟨by omega, X, Y, rfl, rfl, sbx, sby, rfl, rfl⟩)
      · rw [hPp] at b_5
        show zH _ _ (36, [some (.inr (.inr (some 104))), some (.inl (X : Int)), some (.inl y)], [.inl 0], (zs h hl)) _
        refine zH_bt (x := 0) (y := 0) (k := .eq) (c1 := (48, [some (.inr (.inr (some 104))), some (.inl (X : Int)), some (.inl y)], [], (zs h hl))) (c2 := (39, [some (.inr (.inr (some 104))), some (.inl (X : Int)), some (.inl y)], [], (zs h hl))) rfl ⟨by decide, by decide⟩ ⟨by decide, by decide⟩ (by show 0 = 0; decide) ?_
        refine zH_go 1 (c' := (49, [some (.inr (.inr (some 104))), some (.inl (X : Int)), some (.inl y)], [.inl (-1)], (zs h hl))) rfl ?_
        refine zH_ret (v := some (.inl (-1))) rfl (fun q => absurd q (by decide)) ?_
        exact Or.inr (Or.inl ⟨by omega, fun q => by first | exact absurd q.1 (by assumption) | exact absurd q.2 (by assumption), rfl, rfl⟩)
    · rw [hPp] at b_3
      show zH _ _ (24, [some (.inr (.inr (some 104))), some (.inl x), some (.inl y)], [.inl 0], (zs h hl)) _
      refine zH_bt (x := 0) (y := 0) (k := .eq) (c1 := (48, [some (.inr (.inr (some 104))), some (.inl x), some (.inl y)], [], (zs h hl))) (c2 := (27, [some (.inr (.inr (some 104))), some (.inl x), some (.inl y)], [], (zs h hl))) rfl ⟨by decide, by decide⟩ ⟨by decide, by decide⟩ (by show 0 = 0; decide) ?_
      refine zH_go 1 (c' := (49, [some (.inr (.inr (some 104))), some (.inl x), some (.inl y)], [.inl (-1)], (zs h hl))) rfl ?_
      refine zH_ret (v := some (.inl (-1))) rfl (fun q => absurd q (by decide)) ?_
      exact Or.inr (Or.inl ⟨by omega, fun q => by first | exact absurd q.1 (by assumption) | exact absurd q.2 (by assumption), rfl, rfl⟩)
  · refine zH_go 1 (c' := (14, [some (.inr (.inr (some 104))), some (.inl x), some (.inl y)], [.inl (-2)], (zs h hl))) rfl ?_
    refine zH_ret (v := some (.inl (-2))) rfl (fun q => absurd q (by decide)) ?_
    exact Or.inl ⟨by omega, rfl, rfl⟩
set_option maxRecDepth 100000 in
set_option maxHeartbeats 4000000 in
theorem p_workO {d : Nat} {h0 h hl : Nat → Nat → Int} (e0 : zup h0 104 0 0 = h) {x y : Int} (hx : zr x) (hy : zr y) (hP : 0 ≤ h 104 3 ∧ h 104 3 ≤ 6) (h9 : 0 ≤ h 104 9 ∧ h 104 9 ≤ 3) (h15 : 0 ≤ h 104 15 ∧ h 104 15 ≤ 12) {p L B n : Nat} {s : zDS} (hD : 0 < h 104 9 → zMH h p L B n s ∧ zDm h hl p L B n s) : zQ (d + 4) 137 [.inr (.inr (some 104)), .inl x, .inl y] (zs h0 hl) (fun r' σ' => (h 104 9 = 0 ∧ r' = some (.inl (-2)) ∧ σ' = zs h hl) ∨ (0 < h 104 9 ∧ ¬ ((0 ≤ x ∧ x ≤ h 104 15) ∧ zStd (p : Int) L y) ∧ r' = some (.inl (-1)) ∧ σ' = zs h hl) ∨ (0 < h 104 9 ∧ ∃ u X : Nat, x = (u : Int) ∧ y = (X : Int) ∧ u ≤ n ∧ zSb p L X = true ∧ r' = some (.inl (zWf h L B (fun j => Int.toNat (s.2.2.2.2 0 j)) u X)) ∧ σ' = zs h hl)) := by
  refine zQ_of (Nat.le_of_ble_eq_true rfl) ?_
  show zH (d + 3) 137 (0, [some (.inr (.inr (some 104))), some (.inl x), some (.inl y)], [], (zs h0 hl)) _
  refine zH_go 3 (c' := (5, [some (.inr (.inr (some 104))), some (.inl x), some (.inl y)], [], (zs (zup h0 104 0 0) hl))) rfl ?_
  rw [e0]
  refine zH_go 2 (c' := (9, [some (.inr (.inr (some 104))), some (.inl x), some (.inl y)], [.inl (h 104 9)], (zs h hl))) rfl ?_
  refine zH_br (x := (h 104 9)) (y := 0) (k := .ne) (c1 := (15, [some (.inr (.inr (some 104))), some (.inl x), some (.inl y)], [], (zs h hl))) (c2 := (12, [some (.inr (.inr (some 104))), some (.inl x), some (.inl y)], [], (zs h hl))) rfl (by first | assumption | (unfold zr; omega)) ⟨by decide, by decide⟩ (fun (b_1 : ¬ (h 104 9) = 0) => ?_) (fun (b_1 : ¬ (¬ (h 104 9) = 0)) => ?_)
  · obtain ⟨hH, hM⟩ := hD (by omega)
    have hHc := hH
    obtain ⟨hL3, hp6, h3, hT, hF, hBs, hn12, hs6, hsp, hsu, htu, hpl, hdg, hpo⟩ := hHc
    have hMc := hM
    obtain ⟨m9, m10, m14, m15, mas, mrec, mfa, mrow, mtr⟩ := hMc
    have hPp : h 104 3 = (p : Int) := h3
    refine zH_go 1 (c' := (16, [some (.inr (.inr (some 104))), some (.inl x), some (.inl y)], [.inl x], (zs h hl))) rfl ?_
    refine zH_np (P := zr x) (c' := (17, [some (.inr (.inr (some 104))), some (.inl x), some (.inl y)], [.inr (.inl x)], (zs h hl))) rfl (by first | assumption | (unfold zr; omega)) ?_
    refine zH_go 3 (c' := (22, [some (.inr (.inr (some 104))), some (.inl x), some (.inl y)], [.inl (h 104 15), .inr (.inl 0), .inr (.inl x)], (zs h hl))) rfl ?_
    rw [m15]
    refine zH_np (P := zr (n : Int)) (c' := (23, [some (.inr (.inr (some 104))), some (.inl x), some (.inl y)], [.inr (.inl (n : Int)), .inr (.inl 0), .inr (.inl x)], (zs h hl))) rfl (by first | assumption | (unfold zr; omega)) ?_
    refine zH_call (M' := 103) (as := [.inr (.inl x), .inr (.inl 0), .inr (.inl (n : Int))]) (T := []) rfl (p_in (by first | assumption | exact zr_l (by assumption) | (unfold zrl; omega)) ⟨by decide, by decide⟩ (by first | assumption | exact zr_l (by assumption) | (unfold zrl; omega))) (fun r σ' p_2 => ?_)
    rcases p_2 with ⟨rfl, b_3, rfl⟩ | ⟨rfl, b_3, rfl⟩
    · show zH _ _ (26, [some (.inr (.inr (some 104))), some (.inl x), some (.inl y)], [.inl 1], (zs h hl)) _
      refine zH_bf (x := 1) (y := 0) (k := .eq) (c1 := (58, [some (.inr (.inr (some 104))), some (.inl x), some (.inl y)], [], (zs h hl))) (c2 := (29, [some (.inr (.inr (some 104))), some (.inl x), some (.inl y)], [], (zs h hl))) rfl ⟨by decide, by decide⟩ ⟨by decide, by decide⟩ (by show ¬ (1 = 0); decide) ?_
      obtain ⟨u, rfl⟩ := Int.eq_ofNat_of_zero_le (show 0 ≤ x by omega)
      show zH _ _ (29, [some (.inr (.inr (some 104))), some (.inl (u : Int)), some (.inl y)], [], (zs h hl)) _
      refine zH_go 3 (c' := (34, [some (.inr (.inr (some 104))), some (.inl (u : Int)), some (.inl y)], [.inl (h 104 9), .inr (.inr (some 104))], (zs h hl))) rfl ?_
      rw [m9]
      refine zH_go 1 (c' := (35, [some (.inr (.inr (some 104))), some (.inl (u : Int)), some (.inl y)], [.inl y, .inl (L : Int), .inr (.inr (some 104))], (zs h hl))) rfl ?_
      refine zH_call (M' := 112) (as := [.inr (.inr (some 104)), .inl (L : Int), .inl y]) (T := []) rfl (p_isStd (L := L) hL3 hy hP) (fun r σ' p_4 => ?_)
      rcases p_4 with ⟨rfl, b_5, rfl⟩ | ⟨rfl, b_5, rfl⟩
      · rw [hPp] at b_5
        obtain ⟨Y, rfl⟩ := Int.eq_ofNat_of_zero_le b_5.1
        have sby : zSb p L Y = true := zSb_iff.mp b_5
        have sly := zSb_lt hL3.2 sby
        show zH _ _ (38, [some (.inr (.inr (some 104))), some (.inl (u : Int)), some (.inl (Y : Int))], [.inl 1], (zs h hl)) _
        refine zH_bf (x := 1) (y := 0) (k := .eq) (c1 := (58, [some (.inr (.inr (some 104))), some (.inl (u : Int)), some (.inl (Y : Int))], [], (zs h hl))) (c2 := (41, [some (.inr (.inr (some 104))), some (.inl (u : Int)), some (.inl (Y : Int))], [], (zs h hl))) rfl ⟨by decide, by decide⟩ ⟨by decide, by decide⟩ (by show ¬ (1 = 0); decide) ?_
        refine zH_go 7 (c' := (52, [some (.inr (.inr (some 104))), some (.inl (u : Int)), some (.inl (Y : Int))], [.inl (Y : Int), .inl (512 * (u : Int)), .inr (.inr (some 117)), .inr (.inr (some 104))], (zs h hl))) rfl ?_
        have hrk := mrow u (by omega)
        refine zH_call (M' := 119) (as := [.inr (.inr (some 104)), .inr (.inr (some 117)), .inl (512 * (u : Int)), .inl (Y : Int)]) (T := []) rfl (p_workOf117 (h := h) (p := p) (L := L) (fr := 512 * u) (by omega) hL3 hp6 sby m9 hF hT (fun j hj => hrk.1 j hj) (fun j hj hr => by have := hrk.2.1 j hj hr; exact ⟨this.1, by have := this.2; dsimp only at this; omega⟩)) (fun r' σ' pw => ?_)
        obtain ⟨v, rfl, v1, v2, v3, rfl⟩ := pw
        obtain rfl := zRk_work hL3 hp6 hT (by omega) hrk sby v2 v3
        show zH _ _ (55, [some (.inr (.inr (some 104))), some (.inl (u : Int)), some (.inl (Y : Int))], [.inl (zWf h L B (fun j => Int.toNat (s.2.2.2.2 0 j)) u Y)], (zs h hl)) _
        refine zH_go 1 (c' := (59, [some (.inr (.inr (some 104))), some (.inl (u : Int)), some (.inl (Y : Int))], [.inl (zWf h L B (fun j => Int.toNat (s.2.2.2.2 0 j)) u Y)], (zs h hl))) rfl ?_
        refine zH_ret (v := some (.inl (zWf h L B (fun j => Int.toNat (s.2.2.2.2 0 j)) u Y))) rfl (fun q => absurd q (by decide)) ?_
        exact Or.inr (Or.inr ⟨by omega, u, Y, rfl, rfl, by omega, sby, rfl, rfl⟩)
      · rw [hPp] at b_5
        show zH _ _ (38, [some (.inr (.inr (some 104))), some (.inl (u : Int)), some (.inl y)], [.inl 0], (zs h hl)) _
        refine zH_bt (x := 0) (y := 0) (k := .eq) (c1 := (58, [some (.inr (.inr (some 104))), some (.inl (u : Int)), some (.inl y)], [], (zs h hl))) (c2 := (41, [some (.inr (.inr (some 104))), some (.inl (u : Int)), some (.inl y)], [], (zs h hl))) rfl ⟨by decide, by decide⟩ ⟨by decide, by decide⟩ (by show 0 = 0; decide) ?_
        refine zH_go 1 (c' := (59, [some (.inr (.inr (some 104))), some (.inl (u : Int)), some (.inl y)], [.inl (-1)], (zs h hl))) rfl ?_
        refine zH_ret (v := some (.inl (-1))) rfl (fun q => absurd q (by decide)) ?_
        exact Or.inr (Or.inl ⟨by omega, fun q => by first | exact absurd q.2 (by assumption) | (have := q.1; omega), rfl, rfl⟩)
    · show zH _ _ (26, [some (.inr (.inr (some 104))), some (.inl x), some (.inl y)], [.inl 0], (zs h hl)) _
      refine zH_bt (x := 0) (y := 0) (k := .eq) (c1 := (58, [some (.inr (.inr (some 104))), some (.inl x), some (.inl y)], [], (zs h hl))) (c2 := (29, [some (.inr (.inr (some 104))), some (.inl x), some (.inl y)], [], (zs h hl))) rfl ⟨by decide, by decide⟩ ⟨by decide, by decide⟩ (by show 0 = 0; decide) ?_
      refine zH_go 1 (c' := (59, [some (.inr (.inr (some 104))), some (.inl x), some (.inl y)], [.inl (-1)], (zs h hl))) rfl ?_
      refine zH_ret (v := some (.inl (-1))) rfl (fun q => absurd q (by decide)) ?_
      exact Or.inr (Or.inl ⟨by omega, fun q => by first | exact absurd q.2 (by assumption) | (have := q.1; omega), rfl, rfl⟩)
  · refine zH_go 1 (c' := (14, [some (.inr (.inr (some 104))), some (.inl x), some (.inl y)], [.inl (-2)], (zs h hl))) rfl ?_
    refine zH_ret (v := some (.inl (-2))) rfl (fun q => absurd q (by decide)) ?_
    exact Or.inl ⟨by omega, rfl, rfl⟩
/-- LEAST, as both tell it -/
def zLm (h : Nat → Nat → Int) (p L B : Nat) (pl : Nat → Nat) (i : Nat) (v : Int) : Prop := ∀ w : Int, (∀ X : Nat, zSb p L X = true → zLL X = X → w ≤ zWf h L B pl i X) → (∃ X : Nat, zSb p L X = true ∧ w = zWf h L B pl i X) → v = w
set_option maxRecDepth 100000 in
set_option maxHeartbeats 4000000 in
theorem p_leastO {d : Nat} {h0 h hl : Nat → Nat → Int} (e0 : zup h0 104 0 0 = h) {x : Int} (hx : zr x) (hP : 0 ≤ h 104 3 ∧ h 104 3 ≤ 6) (h9 : 0 ≤ h 104 9 ∧ h 104 9 ≤ 3) (h15 : 0 ≤ h 104 15 ∧ h 104 15 ≤ 12) {p L B n : Nat} {s : zDS} (hD : 0 < h 104 9 → zMH h p L B n s ∧ zDm h hl p L B n s) : zQ (d + 3) 138 [.inr (.inr (some 104)), .inl x] (zs h0 hl) (fun r' σ' => (h 104 9 = 0 ∧ r' = some (.inl (-2)) ∧ σ' = zs h hl) ∨ (0 < h 104 9 ∧ ¬ (0 ≤ x ∧ x ≤ h 104 15) ∧ r' = some (.inl (-1)) ∧ σ' = zs h hl) ∨ (0 < h 104 9 ∧ ∃ (u : Nat) (v : Int), x = (u : Int) ∧ u ≤ n ∧ zLm h p L B (fun j => Int.toNat (s.2.2.2.2 0 j)) u v ∧ r' = some (.inl v) ∧ σ' = zs h hl)) := by
  refine zQ_of (Nat.le_of_ble_eq_true rfl) ?_
  show zH (d + 2) 138 (0, [some (.inr (.inr (some 104))), some (.inl x)], [], (zs h0 hl)) _
  refine zH_go 3 (c' := (5, [some (.inr (.inr (some 104))), some (.inl x)], [], (zs (zup h0 104 0 0) hl))) rfl ?_
  rw [e0]
  refine zH_go 2 (c' := (9, [some (.inr (.inr (some 104))), some (.inl x)], [.inl (h 104 9)], (zs h hl))) rfl ?_
  refine zH_br (x := (h 104 9)) (y := 0) (k := .ne) (c1 := (15, [some (.inr (.inr (some 104))), some (.inl x)], [], (zs h hl))) (c2 := (12, [some (.inr (.inr (some 104))), some (.inl x)], [], (zs h hl))) rfl (by first | assumption | (unfold zr; omega)) ⟨by decide, by decide⟩ (fun (b_1 : ¬ (h 104 9) = 0) => ?_) (fun (b_1 : ¬ (¬ (h 104 9) = 0)) => ?_)
  · obtain ⟨hH, hM⟩ := hD (by omega)
    have hHc := hH
    obtain ⟨hL3, hp6, h3, hT, hF, hBs, hn12, hs6, hsp, hsu, htu, hpl, hdg, hpo⟩ := hHc
    have hMc := hM
    obtain ⟨m9, m10, m14, m15, mas, mrec, mfa, mrow, mtr⟩ := hMc
    have hPp : h 104 3 = (p : Int) := h3
    refine zH_go 1 (c' := (16, [some (.inr (.inr (some 104))), some (.inl x)], [.inl x], (zs h hl))) rfl ?_
    refine zH_np (P := zr x) (c' := (17, [some (.inr (.inr (some 104))), some (.inl x)], [.inr (.inl x)], (zs h hl))) rfl (by first | assumption | (unfold zr; omega)) ?_
    refine zH_go 3 (c' := (22, [some (.inr (.inr (some 104))), some (.inl x)], [.inl (h 104 15), .inr (.inl 0), .inr (.inl x)], (zs h hl))) rfl ?_
    rw [m15]
    refine zH_np (P := zr (n : Int)) (c' := (23, [some (.inr (.inr (some 104))), some (.inl x)], [.inr (.inl (n : Int)), .inr (.inl 0), .inr (.inl x)], (zs h hl))) rfl (by first | assumption | (unfold zr; omega)) ?_
    refine zH_call (M' := 103) (as := [.inr (.inl x), .inr (.inl 0), .inr (.inl (n : Int))]) (T := []) rfl (p_in (by first | assumption | exact zr_l (by assumption) | (unfold zrl; omega)) ⟨by decide, by decide⟩ (by first | assumption | exact zr_l (by assumption) | (unfold zrl; omega))) (fun r σ' p_2 => ?_)
    rcases p_2 with ⟨rfl, b_3, rfl⟩ | ⟨rfl, b_3, rfl⟩
    · show zH _ _ (26, [some (.inr (.inr (some 104))), some (.inl x)], [.inl 1], (zs h hl)) _
      refine zH_bf (x := 1) (y := 0) (k := .eq) (c1 := (44, [some (.inr (.inr (some 104))), some (.inl x)], [], (zs h hl))) (c2 := (29, [some (.inr (.inr (some 104))), some (.inl x)], [], (zs h hl))) rfl ⟨by decide, by decide⟩ ⟨by decide, by decide⟩ (by show ¬ (1 = 0); decide) ?_
      obtain ⟨u, rfl⟩ := Int.eq_ofNat_of_zero_le (show 0 ≤ x by omega)
      show zH _ _ (29, [some (.inr (.inr (some 104))), some (.inl (u : Int))], [], (zs h hl)) _
      refine zH_go 5 (c' := (38, [some (.inr (.inr (some 104))), some (.inl (u : Int))], [.inl (512 * (u : Int)), .inr (.inr (some 117))], (zs h hl))) rfl ?_
      have hrk := mrow u (by omega)
      refine zH_call (M' := 118) (as := [.inr (.inr (some 117)), .inl (512 * (u : Int))]) (T := []) rfl (p_least117 (h := h) (fr := 512 * u) (by omega) (fun j hj => hrk.1 j hj)) (fun r' σ' pw => ?_)
      obtain ⟨v, rfl, v1, v2, v3, rfl⟩ := pw
      have hlm : zLm h p L B (fun j => Int.toNat (s.2.2.2.2 0 j)) u v := fun w k1 k2 => zRk_least hL3 hp6 hT hdg (by omega) ⟨B, hBs⟩ (fun i hi => hpl i (by omega)) hrk v2 v3 k1 k2
      show zH _ _ (41, [some (.inr (.inr (some 104))), some (.inl (u : Int))], [.inl v], (zs h hl)) _
      refine zH_go 1 (c' := (45, [some (.inr (.inr (some 104))), some (.inl (u : Int))], [.inl v], (zs h hl))) rfl ?_
      refine zH_ret (v := some (.inl v)) rfl (fun q => absurd q (by decide)) ?_
      exact Or.inr (Or.inr ⟨by omega, u, v, rfl, by omega, hlm, rfl, rfl⟩)
    · show zH _ _ (26, [some (.inr (.inr (some 104))), some (.inl x)], [.inl 0], (zs h hl)) _
      refine zH_bt (x := 0) (y := 0) (k := .eq) (c1 := (44, [some (.inr (.inr (some 104))), some (.inl x)], [], (zs h hl))) (c2 := (29, [some (.inr (.inr (some 104))), some (.inl x)], [], (zs h hl))) rfl ⟨by decide, by decide⟩ ⟨by decide, by decide⟩ (by show 0 = 0; decide) ?_
      refine zH_go 1 (c' := (45, [some (.inr (.inr (some 104))), some (.inl x)], [.inl (-1)], (zs h hl))) rfl ?_
      refine zH_ret (v := some (.inl (-1))) rfl (fun q => absurd q (by decide)) ?_
      exact Or.inr (Or.inl ⟨by omega, by omega, rfl, rfl⟩)
  · refine zH_go 1 (c' := (14, [some (.inr (.inr (some 104))), some (.inl x)], [.inl (-2)], (zs h hl))) rfl ?_
    refine zH_ret (v := some (.inl (-2))) rfl (fun q => absurd q (by decide)) ?_
    exact Or.inl ⟨by omega, rfl, rfl⟩
set_option maxRecDepth 100000 in
set_option maxHeartbeats 4000000 in
theorem p_ratioO {d : Nat} {h0 h hl : Nat → Nat → Int} (e0 : zup h0 104 0 0 = h) (hP : 0 ≤ h 104 3 ∧ h 104 3 ≤ 6) (h9 : 0 ≤ h 104 9 ∧ h 104 9 ≤ 3) (h15 : 0 ≤ h 104 15 ∧ h 104 15 ≤ 12) {p L B n : Nat} {s : zDS} (hD : 0 < h 104 9 → zMH h p L B n s ∧ zDm h hl p L B n s) (hz : 0 < h 104 9 → ∀ l : Nat, h 104 9 ≤ (l : Int) → l < 3 → h 110 l = 0) : zQ (d + 3) 140 [.inr (.inr (some 104))] (zs h0 hl) (fun r' σ' => (h 104 9 = 0 ∧ r' = some (.inl (-2)) ∧ σ' = zs h hl) ∨ (0 < h 104 9 ∧ ∃ v : Int, zLm h p L B (fun j => Int.toNat (s.2.2.2.2 0 j)) n v ∧ ((v = 0 ∧ r' = some (.inl (-9)) ∧ σ' = zs h hl) ∨ (¬ v = 0 ∧ r' = some (.inl (zdiv (1000 * (h 110 0 + h 110 1 + h 110 2)) v)) ∧ σ' = zs h hl)))) := by
  refine zQ_of (Nat.le_of_ble_eq_true rfl) ?_
  show zH (d + 2) 140 (0, [some (.inr (.inr (some 104))), none], [], (zs h0 hl)) _
  refine zH_go 3 (c' := (5, [some (.inr (.inr (some 104))), none], [], (zs (zup h0 104 0 0) hl))) rfl ?_
  rw [e0]
  refine zH_go 2 (c' := (9, [some (.inr (.inr (some 104))), none], [.inl (h 104 9)], (zs h hl))) rfl ?_
  refine zH_br (x := (h 104 9)) (y := 0) (k := .ne) (c1 := (15, [some (.inr (.inr (some 104))), none], [], (zs h hl))) (c2 := (12, [some (.inr (.inr (some 104))), none], [], (zs h hl))) rfl (by first | assumption | (unfold zr; omega)) ⟨by decide, by decide⟩ (fun (b_1 : ¬ (h 104 9) = 0) => ?_) (fun (b_1 : ¬ (¬ (h 104 9) = 0)) => ?_)
  · obtain ⟨hH, hM⟩ := hD (by omega)
    have hHc := hH
    obtain ⟨hL3, hp6, h3, hT, hF, hBs, hn12, hs6, hsp, hsu, htu, hpl, hdg, hpo⟩ := hHc
    have hMc := hM
    obtain ⟨m9, m10, m14, m15, mas, mrec, mfa, mrow, mtr⟩ := hMc
    have hPp : h 104 3 = (p : Int) := h3
    refine zH_go 5 (c' := (26, [some (.inr (.inr (some 104))), none], [.inl (h 104 15), .inl 512, .inr (.inr (some 117))], (zs h hl))) rfl ?_
    rw [m15]
    refine zH_go 1 (c' := (27, [some (.inr (.inr (some 104))), none], [.inl (512 * (n : Int)), .inr (.inr (some 117))], (zs h hl))) rfl ?_
    have hrk := mrow n (by omega)
    refine zH_call (M' := 118) (as := [.inr (.inr (some 117)), .inl (512 * (n : Int))]) (T := []) rfl (p_least117 (h := h) (fr := 512 * n) (by omega) (fun j hj => hrk.1 j hj)) (fun r' σ' pw => ?_)
    obtain ⟨v, rfl, v1, v2, v3, rfl⟩ := pw
    have hlm : zLm h p L B (fun j => Int.toNat (s.2.2.2.2 0 j)) n v := fun w k1 k2 => zRk_least hL3 hp6 hT hdg (by omega) ⟨B, hBs⟩ (fun i hi => hpl i (by omega)) hrk v2 v3 k1 k2
    show zH _ _ (30, [some (.inr (.inr (some 104))), none], [.inl v], (zs h hl)) _
    refine zH_go 2 (c' := (32, [some (.inr (.inr (some 104))), some (.inl v)], [.inl v], (zs h hl))) rfl ?_
    refine zH_br (x := v) (y := 0) (k := .ne) (c1 := (40, [some (.inr (.inr (some 104))), some (.inl v)], [], (zs h hl))) (c2 := (35, [some (.inr (.inr (some 104))), some (.inl v)], [], (zs h hl))) rfl (by first | assumption | (unfold zr; omega)) ⟨by decide, by decide⟩ (fun (b_2 : ¬ v = 0) => ?_) (fun (b_2 : ¬ (¬ v = 0)) => ?_)
    · refine zH_go 2 (c' := (44, [some (.inr (.inr (some 104))), some (.inl v)], [.inr (.inr (some 104)), .inl 1000], (zs h hl))) rfl ?_
      refine zH_call (M' := 134) (as := [.inr (.inr (some 104))]) (T := [.inl 1000]) rfl (p_costOfO (by omega) (hz (by omega))) (fun r σ' p_3 => ?_)
      obtain ⟨rfl, rfl⟩ := p_3
      show zH _ _ (47, [some (.inr (.inr (some 104))), some (.inl v)], [.inl (h 110 0 + h 110 1 + h 110 2), .inl 1000], (zs h hl)) _
      refine zH_go 2 (c' := (49, [some (.inr (.inr (some 104))), some (.inl v)], [.inl v, .inl (1000 * (h 110 0 + h 110 1 + h 110 2))], (zs h hl))) rfl ?_
      refine zH_np (P := zr v ∧ v ≠ 0) (c' := (50, [some (.inr (.inr (some 104))), some (.inl v)], [.inl (zdiv (1000 * (h 110 0 + h 110 1 + h 110 2)) v)], (zs h hl))) rfl ⟨(by first | assumption | (unfold zr; omega)), by omega⟩ ?_
      refine zH_ret (v := some (.inl (zdiv (1000 * (h 110 0 + h 110 1 + h 110 2)) v))) rfl (fun q => absurd q (by decide)) ?_
      exact Or.inr ⟨by omega, v, hlm, Or.inr ⟨by omega, rfl, rfl⟩⟩
    · refine zH_go 2 (c' := (50, [some (.inr (.inr (some 104))), some (.inl v)], [.inl (-9)], (zs h hl))) rfl ?_
      refine zH_ret (v := some (.inl (-9))) rfl (fun q => absurd q (by decide)) ?_
      exact Or.inr ⟨by omega, v, hlm, Or.inl ⟨by omega, rfl, rfl⟩⟩
  · refine zH_go 1 (c' := (14, [some (.inr (.inr (some 104))), none], [.inl (-2)], (zs h hl))) rfl ?_
    refine zH_ret (v := some (.inl (-2))) rfl (fun q => absurd q (by decide)) ?_
    exact Or.inl ⟨by omega, rfl, rfl⟩
