/-! The model: roads and calls out of books. -/
theorem zDm_same {m ml g gl : Nat → Nat → Int} {p L B n : Nat} {s : zDS} (hM : zDm m ml p L B n s) (h1 : ∀ c : Nat, (12 ≤ c ∧ c < 20) ∨ (109 ≤ c ∧ c ≤ 117) → g c = m c) (h108 : ∀ i j : Nat, i < 6 → j < 6 → g 108 (6 * i + j) = m 108 (6 * i + j)) (h2 : g 104 9 = m 104 9 ∧ g 104 10 = m 104 10 ∧ g 104 14 = m 104 14 ∧ g 104 15 = m 104 15) (h3 : gl 104 2 = ml 104 2) (hr : ∀ j : Nat, j < n → Int.toNat (s.2.2.2.2 0 j) < 8) : zDm g gl p L B n s := by
  obtain ⟨m9, m10, m14, m15, mas, mrec, mfa, mrow, mtr⟩ := hM
  refine ⟨h2.1.trans m9, h2.2.1.trans m10, h2.2.2.1.trans m14, h2.2.2.2.trans m15, fun i hi => by rw [h1 109 (Or.inr (by decide)), h1 110 (Or.inr (by decide))]; exact mas i hi, fun c j hc hj => by rw [h1 (111 + c) (Or.inr (by omega))]; exact mrec c j hc hj, fun i j hi hj => by
    rw [h108 i j hi hj, mfa i j hi hj]
    unfold zFa
    rw [h1 (12 + i) (Or.inl (by omega))], fun i hi => ?_, h3.trans mtr⟩
  exact zRk_same (fun c c1 c2 => h1 c (Or.inl ⟨c1, c2⟩)) (fun j hj => ⟨rfl, hr j (by omega)⟩) (fun q hq => by rw [h1 117 (Or.inr (by decide))]) (mrow i hi)
theorem zMH_same {m g : Nat → Nat → Int} {p L B n : Nat} {s : zDS} (hH : zMH m p L B n s) (h1 : ∀ c : Nat, c < 18 → g c = m c) (h108 : ∀ i j : Nat, i < 6 → j < 6 → g 108 (6 * i + j) = m 108 (6 * i + j)) (h3 : g 104 3 = m 104 3) : zMH g p L B n s := by
  obtain ⟨hL3, hp6, h3', hT, hF, hBs, hn12, hs6, hsp, hsu, htu, hpl, hdg, hpo⟩ := hH
  refine ⟨hL3, hp6, h3.trans h3', zTD_same hp6 hT (fun c hc => h1 c (by omega)), fun i j hi hj => by rw [h108 i j (by omega) (by omega), h1 (12 + i) (by omega)]; exact hF i j hi hj, hBs, hn12, hs6, hsp, hsu, htu, hpl, fun i hi => by rw [h1 (12 + i) (by omega)]; exact hdg i hi, fun i j hi hj hij => by rw [h1 (12 + i) (by omega)]; exact hpo i j hi hj hij⟩
theorem zMH_step {m : Nat → Nat → Int} {p L B n pp l : Nat} {K tr : Int} {s : zDS} (hH : zMH m p L B n s) (hn : n < 12) (hpp : pp < p) (hb : ∀ i : Nat, i < 3 → s.2.1 i ≤ 1500 * (n : Int)) (hl : l < L) : zMH m p L B (n + 1) (zUp m K n pp l tr s) ∧ ∀ i : Nat, i < 3 → (zUp m K n pp l tr s).2.1 i ≤ 1500 * ((n + 1 : Nat) : Int) := by
  obtain ⟨hL3, hp6, h3, hT, hF, hBs, hn12, hs6, hsp, hsu, htu, hpl, hdg, hpo⟩ := hH
  have hsl := hsp l hl
  have f1 := hT.2.1 _ _ hsl hpp
  have f0 := (hT.1 (s.1 l) pp (by omega) (by omega)).1
  have hq : ∀ i : Nat, i < 3 → 0 ≤ (zUp m K n pp l tr s).2.1 i ∧ (zUp m K n pp l tr s).2.1 i ≤ 1500 * ((n + 1 : Nat) : Int) := fun i hi => by
    have a := hb i hi
    have b := hsu i hi
    unfold zUp
    dsimp only
    by_cases w : i = l
    · rw [if_pos w]; omega
    · rw [if_neg w]; omega
  refine ⟨⟨hL3, hp6, h3, hT, hF, hBs, by omega, fun i hi => ?_, fun i hi => ?_, fun i hi => by have := hq i hi; omega, ?_, fun j hj => ?_, hdg, hpo⟩, fun i hi => (hq i hi).2⟩
  · unfold zUp
    dsimp only
    by_cases w : i = l
    · rw [if_pos w]; omega
    · rw [if_neg w]; exact hs6 i hi
  · unfold zUp
    dsimp only
    by_cases w : i = l
    · rw [if_pos w]; exact hpp
    · rw [if_neg w]; exact hsp i hi
  · unfold zUp
    dsimp only
    by_cases w : K = 2 ∧ 0 < m (12 + s.1 l) pp
    · rw [if_pos w]; omega
    · rw [if_neg w]; exact htu
  · unfold zUp
    dsimp only
    by_cases w : j = n
    · rw [if_pos w, if_pos rfl, Int.toNat_natCast]; exact hpp
    · rw [if_neg w]; exact hpl j (by omega)
set_option maxRecDepth 100000 in
set_option maxHeartbeats 4000000 in
theorem p_roadsO0 {d : Nat} {h0 h hl : Nat → Nat → Int} (e0 : zup h0 104 0 0 = h) (hB : zMbk h hl 0) {r : Nat} (hr15 : r ≤ 15) (hr4 : h 104 4 = (r : Int)) (hP : 0 ≤ h 104 3 ∧ h 104 3 ≤ 6) (hon : zr (h 104 9)) : zQ (d + 3) 148 [.inr (.inr (some 104)), .inl 0] (zs h0 hl) (fun r' σ' => (h 119 0 = 0 ∧ r' = some (.inl 0) ∧ σ' = zs (zup (zup h 104 1 0) 104 1 (-11)) hl) ∨ (¬ h 119 0 = 0 ∧ ∃ (R J : Nat) (x : Int), h 121 0 = (R : Int) ∧ r' = some (.inl (J : Int)) ∧ J ≤ R ∧ (∀ q : Nat, q < J → zRDec (h 104 3) (h 104 9) ((r + q : Nat) : Int) (h 122 (0 + q)) (hl 123 (0 + 8 * q)) (hl 123 (0 + 8 * q + 1)) (hl 123 (0 + 8 * q + 2)) 0) ∧ ((J = R ∧ x = 0 ∧ σ' = zs (zAR (zup h 104 1 0) (fun q i => hl 123 (0 + 8 * q + i)) r J) hl) ∨ (J < R ∧ ¬ x = 0 ∧ zRDec (h 104 3) (h 104 9) ((r + J : Nat) : Int) (h 122 (0 + J)) (hl 123 (0 + 8 * J)) (hl 123 (0 + 8 * J + 1)) (hl 123 (0 + 8 * J + 2)) x ∧ σ' = zs (zup (zAR (zup h 104 1 0) (fun q i => hl 123 (0 + 8 * q + i)) r J) 104 1 x) hl)))) := by
  obtain ⟨h119, h121, h120, h122, h123⟩ := hB
  have hh1 : ∀ c j : Nat, (c ≠ 104 ∨ j ≠ 1) → (zup h 104 1 0) c j = h c j := fun c j q => by rw [zup_at, if_neg (by omega)]
  refine zQ_of (Nat.le_of_ble_eq_true rfl) ?_
  show zH (d + 2) 148 (0, [some (.inr (.inr (some 104))), some (.inl 0), none, none, none, none, none], [], (zs h0 hl)) _
  refine zH_go 3 (c' := (5, [some (.inr (.inr (some 104))), some (.inl 0), none, none, none, none, none], [], (zs (zup h0 104 0 0) hl))) rfl ?_
  rw [e0]
  refine zH_go 4 (c' := (11, [some (.inr (.inr (some 104))), some (.inl 0), none, none, none, none, none], [.inl 0], (zs (zup h 104 1 0) hl))) rfl ?_
  refine zH_np (P := zr 0) (c' := (12, [some (.inr (.inr (some 104))), some (.inl 0), none, none, none, none, none], [.inr (.inl 0)], (zs (zup h 104 1 0) hl))) rfl ⟨by decide, by decide⟩ ?_
  refine zH_go 2 (c' := (16, [some (.inr (.inr (some 104))), some (.inl 0), none, none, none, none, none], [.inr (.inl 2), .inr (.inl 0), .inr (.inl 0)], (zs (zup h 104 1 0) hl))) rfl ?_
  refine zH_call (M' := 103) (as := [.inr (.inl 0), .inr (.inl 0), .inr (.inl 2)]) (T := []) rfl (p_in ⟨by decide, by decide⟩ ⟨by decide, by decide⟩ ⟨by decide, by decide⟩) (fun r σ' p_1 => ?_)
  rcases p_1 with ⟨rfl, b_2, rfl⟩ | ⟨rfl, b_2, rfl⟩
  · show zH _ _ (19, [some (.inr (.inr (some 104))), some (.inl 0), none, none, none, none, none], [.inl 1], (zs (zup h 104 1 0) hl)) _
    refine zH_bt (x := 1) (y := 0) (k := .ne) (c1 := (28, [some (.inr (.inr (some 104))), some (.inl 0), none, none, none, none, none], [], (zs (zup h 104 1 0) hl))) (c2 := (22, [some (.inr (.inr (some 104))), some (.inl 0), none, none, none, none, none], [], (zs (zup h 104 1 0) hl))) rfl ⟨by decide, by decide⟩ ⟨by decide, by decide⟩ (by show ¬ 1 = 0; decide) ?_
    refine zH_go 3 (c' := (33, [some (.inr (.inr (some 104))), some (.inl 0), none, none, none, none, none], [.inl 0, .inr (.inr (some 119))], (zs (zup h 104 1 0) hl))) rfl ?_
    refine zH_np (P := 0 ≤ 0 ∧ 0 < ((3 : Nat) : Int)) (c' := (34, [some (.inr (.inr (some 104))), some (.inl 0), none, none, none, none, none], [.inl (h 119 0)], (zs (zup h 104 1 0) hl))) rfl ⟨by decide, by decide⟩ ?_
    refine zH_br (x := (h 119 0)) (y := 0) (k := .ne) (c1 := (45, [some (.inr (.inr (some 104))), some (.inl 0), none, none, none, none, none], [], (zs (zup h 104 1 0) hl))) (c2 := (37, [some (.inr (.inr (some 104))), some (.inl 0), none, none, none, none, none], [], (zs (zup h 104 1 0) hl))) rfl (by first | assumption | (unfold zr; omega)) ⟨by decide, by decide⟩ (fun (b_3 : ¬ (h 119 0) = 0) => ?_) (fun (b_3 : ¬ (¬ (h 119 0) = 0)) => ?_)
    · refine zH_go 4 (c' := (49, [some (.inr (.inr (some 104))), some (.inl 0), some (.inl 0), some (.inl 0), none, none, none], [], (zs (zup h 104 1 0) hl))) rfl ?_
      obtain ⟨R, eR⟩ := Int.eq_ofNat_of_zero_le h121.1
      have eR : h 121 0 = (R : Int) := eR
      obtain ⟨V, eV⟩ : ∃ V : Nat → Nat → Int, V = (fun q i => hl 123 (0 + 8 * q + i)) := ⟨_, rfl⟩
      refine zH_lp (X := (Nat → Nat → Int) × (Option zV) × (Option zV) × (Option zV)) (F := fun (kq : Nat) (x : (Nat → Nat → Int) × (Option zV) × (Option zV) × (Option zV)) => (49, [some (.inr (.inr (some 104))), some (.inl 0), some (.inl (kq : Int)), some (.inl (kq : Int)), x.2.1, x.2.2.1, x.2.2.2], [], (zs x.1 hl))) (I := fun (kq : Nat) (x : (Nat → Nat → Int) × (Option zV) × (Option zV) × (Option zV)) => x.1 = zAR (zup h 104 1 0) V r kq ∧ r + kq ≤ 15 ∧ ∀ q : Nat, q < kq → zRDec (h 104 3) (h 104 9) ((r + q : Nat) : Int) (h 122 (0 + q)) (hl 123 (0 + 8 * q)) (hl 123 (0 + 8 * q + 1)) (hl 123 (0 + 8 * q + 2)) 0) (N := R) (fun k x hk hI ih => ?_) (fun x hI => ?_) 0 ((zup h 104 1 0), none, none, none) (by omega) ?_
      · obtain ⟨g, x4, x5, x6⟩ := x
        replace hI : g = zAR (zup h 104 1 0) V r k ∧ r + k ≤ 15 ∧ ∀ q : Nat, q < k → zRDec (h 104 3) (h 104 9) ((r + q : Nat) : Int) (h 122 (0 + q)) (hl 123 (0 + 8 * q)) (hl 123 (0 + 8 * q + 1)) (hl 123 (0 + 8 * q + 2)) 0 := hI
        show zH _ _ (49, [some (.inr (.inr (some 104))), some (.inl 0), some (.inl (k : Int)), some (.inl (k : Int)), x4, x5, x6], [], (zs g hl)) _
        have g0 := (zAR_o (h := (zup h 104 1 0)) (V := V) (r := r) k)
        have e121 : g 121 0 = (R : Int) := by rw [hI.1, g0.1 121 (by decide) (by decide) (by decide) (by decide), hh1 121 _ (by omega)]; exact eR
        obtain ⟨sz, hsz⟩ : ∃ sz, sz = h 122 (0 + k) := ⟨_, rfl⟩
        have e122 : g 122 (0 + k) = sz := by rw [hI.1, g0.1 122 (by decide) (by decide) (by decide) (by decide), hh1 122 _ (by omega)]; exact hsz.symm
        have e104 : g 104 3 = h 104 3 ∧ g 104 9 = h 104 9 ∧ g 104 4 = ((r + k : Nat) : Int) := by
          refine ⟨?_, ?_, ?_⟩
          · rw [hI.1, g0.2 3 (by decide), hh1 104 3 (by decide)]
          · rw [hI.1, g0.2 9 (by decide), hh1 104 9 (by decide)]
          · rw [hI.1]; exact zAR_4 (by rw [hh1 104 4 (by decide)]; exact hr4) k
        have hszb := h122 k (by omega)
        have hszb : sz = -9 ∨ (0 ≤ sz ∧ sz ≤ 8) := by rw [hsz]; exact hszb
        have z0 := h123 k 0 (by omega) (by decide)
        have z1 := h123 k 1 (by omega) (by decide)
        have z2 := h123 k 2 (by omega) (by decide)
        refine zH_go 4 (c' := (55, [some (.inr (.inr (some 104))), some (.inl 0), some (.inl (k : Int)), some (.inl (k : Int)), x4, x5, x6], [.inl 0, .inr (.inr (some 121)), .inl (k : Int)], (zs g hl))) rfl ?_
        refine zH_np (P := 0 ≤ 0 ∧ 0 < ((3 : Nat) : Int)) (c' := (56, [some (.inr (.inr (some 104))), some (.inl 0), some (.inl (k : Int)), some (.inl (k : Int)), x4, x5, x6], [.inl (g 121 0), .inl (k : Int)], (zs g hl))) rfl ⟨by decide, by decide⟩ ?_
        rw [e121]
        refine zH_bf (x := (k : Int)) (y := (R : Int)) (k := .ge) (c1 := (158, [some (.inr (.inr (some 104))), some (.inl 0), some (.inl (k : Int)), some (.inl (k : Int)), x4, x5, x6], [], (zs g hl))) (c2 := (59, [some (.inr (.inr (some 104))), some (.inl 0), some (.inl (k : Int)), some (.inl (k : Int)), x4, x5, x6], [], (zs g hl))) rfl (by first | assumption | (unfold zr; omega)) (by first | assumption | (unfold zr; omega)) (by show ¬ (¬ (k : Int) < (R : Int)); omega) ?_
        refine zH_go 7 (c' := (68, [some (.inr (.inr (some 104))), some (.inl 0), some (.inl (k : Int)), some (.inl (k : Int)), x4, x5, x6], [.inl (0 + (k : Int)), .inr (.inr (some 122))], (zs g hl))) rfl ?_
        refine zH_np (P := 0 ≤ (0 + (k : Int)) ∧ (0 + (k : Int)) < ((12 : Nat) : Int)) (c' := (69, [some (.inr (.inr (some 104))), some (.inl 0), some (.inl (k : Int)), some (.inl (k : Int)), x4, x5, x6], [.inl (g 122 (0 + k))], (zs g hl))) rfl ⟨by omega, by omega⟩ ?_
        rw [e122]
        refine zH_go 11 (c' := (86, [some (.inr (.inr (some 104))), some (.inl 0), some (.inl (k : Int)), some (.inl (k : Int)), some (.inl sz), some (.inl (0 + (8 * (k : Int)))), x6], [.inl (-9), .inl sz], (zs g hl))) rfl ?_
        refine zH_br (x := sz) (y := (-9)) (k := .ne) (c1 := (94, [some (.inr (.inr (some 104))), some (.inl 0), some (.inl (k : Int)), some (.inl (k : Int)), some (.inl sz), some (.inl (0 + (8 * (k : Int)))), x6], [], (zs g hl))) (c2 := (89, [some (.inr (.inr (some 104))), some (.inl 0), some (.inl (k : Int)), some (.inl (k : Int)), some (.inl sz), some (.inl (0 + (8 * (k : Int)))), x6], [], (zs g hl))) rfl (by first | assumption | (unfold zr; omega)) ⟨by decide, by decide⟩ (fun (b_4 : ¬ sz = (-9)) => ?_) (fun (b_4 : ¬ (¬ sz = (-9))) => ?_)
        · refine zH_go 2 (c' := (97, [some (.inr (.inr (some 104))), some (.inl 0), some (.inl (k : Int)), some (.inl (k : Int)), some (.inl sz), some (.inl (0 + (8 * (k : Int)))), x6], [.inl 3, .inl sz], (zs g hl))) rfl ?_
          refine zH_br (x := sz) (y := 3) (k := .ge) (c1 := (105, [some (.inr (.inr (some 104))), some (.inl 0), some (.inl (k : Int)), some (.inl (k : Int)), some (.inl sz), some (.inl (0 + (8 * (k : Int)))), x6], [], (zs g hl))) (c2 := (100, [some (.inr (.inr (some 104))), some (.inl 0), some (.inl (k : Int)), some (.inl (k : Int)), some (.inl sz), some (.inl (0 + (8 * (k : Int)))), x6], [], (zs g hl))) rfl (by first | assumption | (unfold zr; omega)) ⟨by decide, by decide⟩ (fun (b_5 : ¬ sz < 3) => ?_) (fun (b_5 : ¬ (¬ sz < 3)) => ?_)
          · refine zH_go 4 (c' := (112, [some (.inr (.inr (some 104))), some (.inl 0), some (.inl (k : Int)), some (.inl (k : Int)), some (.inl sz), some (.inl (0 + (8 * (k : Int)))), x6], [.inl (0 + (8 * (k : Int))), .inr (.inr (some 123)), .inr (.inr (some 104))], (zs g hl))) rfl ?_
            refine zH_np (P := 0 ≤ (0 + (8 * (k : Int))) ∧ (0 + (8 * (k : Int))) < ((96 : Nat) : Int)) (c' := (113, [some (.inr (.inr (some 104))), some (.inl 0), some (.inl (k : Int)), some (.inl (k : Int)), some (.inl sz), some (.inl (0 + (8 * (k : Int)))), x6], [.inr (.inl (hl 123 (0 + (8 * k)))), .inr (.inr (some 104))], (zs g hl))) rfl ⟨by omega, by omega⟩ ?_
            refine zH_go 5 (c' := (121, [some (.inr (.inr (some 104))), some (.inl 0), some (.inl (k : Int)), some (.inl (k : Int)), some (.inl sz), some (.inl (0 + (8 * (k : Int)))), x6], [.inl ((0 + (8 * (k : Int))) + 1), .inr (.inr (some 123)), .inr (.inl (hl 123 (0 + (8 * k)))), .inr (.inr (some 104))], (zs g hl))) rfl ?_
            refine zH_np (P := 0 ≤ ((0 + (8 * (k : Int))) + 1) ∧ ((0 + (8 * (k : Int))) + 1) < ((96 : Nat) : Int)) (c' := (122, [some (.inr (.inr (some 104))), some (.inl 0), some (.inl (k : Int)), some (.inl (k : Int)), some (.inl sz), some (.inl (0 + (8 * (k : Int)))), x6], [.inr (.inl (hl 123 ((0 + (8 * k)) + 1))), .inr (.inl (hl 123 (0 + (8 * k)))), .inr (.inr (some 104))], (zs g hl))) rfl ⟨by omega, by omega⟩ ?_
            refine zH_go 5 (c' := (130, [some (.inr (.inr (some 104))), some (.inl 0), some (.inl (k : Int)), some (.inl (k : Int)), some (.inl sz), some (.inl (0 + (8 * (k : Int)))), x6], [.inl ((0 + (8 * (k : Int))) + 2), .inr (.inr (some 123)), .inr (.inl (hl 123 ((0 + (8 * k)) + 1))), .inr (.inl (hl 123 (0 + (8 * k)))), .inr (.inr (some 104))], (zs g hl))) rfl ?_
            refine zH_np (P := 0 ≤ ((0 + (8 * (k : Int))) + 2) ∧ ((0 + (8 * (k : Int))) + 2) < ((96 : Nat) : Int)) (c' := (131, [some (.inr (.inr (some 104))), some (.inl 0), some (.inl (k : Int)), some (.inl (k : Int)), some (.inl sz), some (.inl (0 + (8 * (k : Int)))), x6], [.inr (.inl (hl 123 ((0 + (8 * k)) + 2))), .inr (.inl (hl 123 ((0 + (8 * k)) + 1))), .inr (.inl (hl 123 (0 + (8 * k)))), .inr (.inr (some 104))], (zs g hl))) rfl ⟨by omega, by omega⟩ ?_
            refine zH_call (M' := 108) (as := [.inr (.inr (some 104)), .inr (.inl (hl 123 (0 + (8 * k)))), .inr (.inl (hl 123 ((0 + (8 * k)) + 1))), .inr (.inl (hl 123 ((0 + (8 * k)) + 2)))]) (T := []) rfl (p_addRoadO (h := g) (r := r + k) z0 z1 z2 hI.2.1 e104.2.2 (by rw [e104.1]; exact hP) (by rw [e104.2.1]; exact hon)) (fun r' σ' p_6 => ?_)
            rw [e104.1, e104.2.1] at p_6
            rcases p_6 with ⟨q1, rfl, rfl⟩ | ⟨q1, q2, rfl, rfl⟩ | ⟨q1, q2, q3, rfl, rfl⟩ | ⟨q1, q2, q3, rfl, rfl⟩
            · show zH _ _ (134, [some (.inr (.inr (some 104))), some (.inl 0), some (.inl (k : Int)), some (.inl (k : Int)), some (.inl sz), some (.inl (0 + (8 * (k : Int)))), x6], [.inl (-1)], (zs g hl)) _
              refine zH_go 2 (c' := (138, [some (.inr (.inr (some 104))), some (.inl 0), some (.inl (k : Int)), some (.inl (k : Int)), some (.inl sz), some (.inl (0 + (8 * (k : Int)))), some (.inl (-1))], [.inl (-1)], (zs g hl))) rfl ?_
              refine zH_bf (x := (-1)) (y := 0) (k := .ge) (c1 := (149, [some (.inr (.inr (some 104))), some (.inl 0), some (.inl (k : Int)), some (.inl (k : Int)), some (.inl sz), some (.inl (0 + (8 * (k : Int)))), some (.inl (-1))], [], (zs g hl))) (c2 := (141, [some (.inr (.inr (some 104))), some (.inl 0), some (.inl (k : Int)), some (.inl (k : Int)), some (.inl sz), some (.inl (0 + (8 * (k : Int)))), some (.inl (-1))], [], (zs g hl))) rfl ⟨by decide, by decide⟩ ⟨by decide, by decide⟩ (by show ¬ (¬ (-1) < 0); decide) ?_
              refine zH_go 4 (c' := (148, [some (.inr (.inr (some 104))), some (.inl 0), some (.inl (k : Int)), some (.inl (k : Int)), some (.inl sz), some (.inl (0 + (8 * (k : Int)))), some (.inl (-1))], [.inl (k : Int)], (zs (zup g 104 1 (-1)) hl))) rfl ?_
              refine zH_ret (v := some (.inl (k : Int))) rfl (fun q => absurd q (by decide)) ?_
              refine Or.inr ⟨by omega, R, k, (-1), eR, rfl, by omega, hI.2.2, Or.inr ⟨by omega, by decide, ?_, by rw [hI.1, eV]⟩⟩
              rw [← hsz]
              exact Or.inr (Or.inr (Or.inl ⟨by omega, q1, rfl⟩))
            · show zH _ _ (134, [some (.inr (.inr (some 104))), some (.inl 0), some (.inl (k : Int)), some (.inl (k : Int)), some (.inl sz), some (.inl (0 + (8 * (k : Int)))), x6], [.inl (-2)], (zs g hl)) _
              refine zH_go 2 (c' := (138, [some (.inr (.inr (some 104))), some (.inl 0), some (.inl (k : Int)), some (.inl (k : Int)), some (.inl sz), some (.inl (0 + (8 * (k : Int)))), some (.inl (-2))], [.inl (-2)], (zs g hl))) rfl ?_
              refine zH_bf (x := (-2)) (y := 0) (k := .ge) (c1 := (149, [some (.inr (.inr (some 104))), some (.inl 0), some (.inl (k : Int)), some (.inl (k : Int)), some (.inl sz), some (.inl (0 + (8 * (k : Int)))), some (.inl (-2))], [], (zs g hl))) (c2 := (141, [some (.inr (.inr (some 104))), some (.inl 0), some (.inl (k : Int)), some (.inl (k : Int)), some (.inl sz), some (.inl (0 + (8 * (k : Int)))), some (.inl (-2))], [], (zs g hl))) rfl ⟨by decide, by decide⟩ ⟨by decide, by decide⟩ (by show ¬ (¬ (-2) < 0); decide) ?_
              refine zH_go 4 (c' := (148, [some (.inr (.inr (some 104))), some (.inl 0), some (.inl (k : Int)), some (.inl (k : Int)), some (.inl sz), some (.inl (0 + (8 * (k : Int)))), some (.inl (-2))], [.inl (k : Int)], (zs (zup g 104 1 (-2)) hl))) rfl ?_
              refine zH_ret (v := some (.inl (k : Int))) rfl (fun q => absurd q (by decide)) ?_
              refine Or.inr ⟨by omega, R, k, (-2), eR, rfl, by omega, hI.2.2, Or.inr ⟨by omega, by decide, ?_, by rw [hI.1, eV]⟩⟩
              rw [← hsz]
              exact Or.inr (Or.inr (Or.inr (Or.inl ⟨by omega, q1, q2, rfl⟩)))
            · show zH _ _ (134, [some (.inr (.inr (some 104))), some (.inl 0), some (.inl (k : Int)), some (.inl (k : Int)), some (.inl sz), some (.inl (0 + (8 * (k : Int)))), x6], [.inl (-3)], (zs g hl)) _
              refine zH_go 2 (c' := (138, [some (.inr (.inr (some 104))), some (.inl 0), some (.inl (k : Int)), some (.inl (k : Int)), some (.inl sz), some (.inl (0 + (8 * (k : Int)))), some (.inl (-3))], [.inl (-3)], (zs g hl))) rfl ?_
              refine zH_bf (x := (-3)) (y := 0) (k := .ge) (c1 := (149, [some (.inr (.inr (some 104))), some (.inl 0), some (.inl (k : Int)), some (.inl (k : Int)), some (.inl sz), some (.inl (0 + (8 * (k : Int)))), some (.inl (-3))], [], (zs g hl))) (c2 := (141, [some (.inr (.inr (some 104))), some (.inl 0), some (.inl (k : Int)), some (.inl (k : Int)), some (.inl sz), some (.inl (0 + (8 * (k : Int)))), some (.inl (-3))], [], (zs g hl))) rfl ⟨by decide, by decide⟩ ⟨by decide, by decide⟩ (by show ¬ (¬ (-3) < 0); decide) ?_
              refine zH_go 4 (c' := (148, [some (.inr (.inr (some 104))), some (.inl 0), some (.inl (k : Int)), some (.inl (k : Int)), some (.inl sz), some (.inl (0 + (8 * (k : Int)))), some (.inl (-3))], [.inl (k : Int)], (zs (zup g 104 1 (-3)) hl))) rfl ?_
              refine zH_ret (v := some (.inl (k : Int))) rfl (fun q => absurd q (by decide)) ?_
              refine Or.inr ⟨by omega, R, k, (-3), eR, rfl, by omega, hI.2.2, Or.inr ⟨by omega, by decide, ?_, by rw [hI.1, eV]⟩⟩
              rw [← hsz]
              exact Or.inr (Or.inr (Or.inr (Or.inr (Or.inl ⟨by omega, q1, q2, by omega, rfl⟩))))
            · show zH _ _ (134, [some (.inr (.inr (some 104))), some (.inl 0), some (.inl (k : Int)), some (.inl (k : Int)), some (.inl sz), some (.inl (0 + (8 * (k : Int)))), x6], [.inl (((r + k : Nat) : Int) + 1)], (zs (zup (zup (zup (zup g 105 (r + k) (hl 123 (0 + (8 * k)))) 106 (r + k) (hl 123 ((0 + (8 * k)) + 1))) 107 (r + k) (hl 123 ((0 + (8 * k)) + 2))) 104 4 (((r + k : Nat) : Int) + 1)) hl)) _
              refine zH_go 2 (c' := (138, [some (.inr (.inr (some 104))), some (.inl 0), some (.inl (k : Int)), some (.inl (k : Int)), some (.inl sz), some (.inl (0 + (8 * (k : Int)))), some (.inl (((r + k : Nat) : Int) + 1))], [.inl (((r + k : Nat) : Int) + 1)], (zs (zup (zup (zup (zup g 105 (r + k) (hl 123 (0 + (8 * k)))) 106 (r + k) (hl 123 ((0 + (8 * k)) + 1))) 107 (r + k) (hl 123 ((0 + (8 * k)) + 2))) 104 4 (((r + k : Nat) : Int) + 1)) hl))) rfl ?_
              refine zH_br (x := (((r + k : Nat) : Int) + 1)) (y := 0) (k := .ge) (c1 := (149, [some (.inr (.inr (some 104))), some (.inl 0), some (.inl (k : Int)), some (.inl (k : Int)), some (.inl sz), some (.inl (0 + (8 * (k : Int)))), some (.inl (((r + k : Nat) : Int) + 1))], [], (zs (zup (zup (zup (zup g 105 (r + k) (hl 123 (0 + (8 * k)))) 106 (r + k) (hl 123 ((0 + (8 * k)) + 1))) 107 (r + k) (hl 123 ((0 + (8 * k)) + 2))) 104 4 (((r + k : Nat) : Int) + 1)) hl))) (c2 := (141, [some (.inr (.inr (some 104))), some (.inl 0), some (.inl (k : Int)), some (.inl (k : Int)), some (.inl sz), some (.inl (0 + (8 * (k : Int)))), some (.inl (((r + k : Nat) : Int) + 1))], [], (zs (zup (zup (zup (zup g 105 (r + k) (hl 123 (0 + (8 * k)))) 106 (r + k) (hl 123 ((0 + (8 * k)) + 1))) 107 (r + k) (hl 123 ((0 + (8 * k)) + 2))) 104 4 (((r + k : Nat) : Int) + 1)) hl))) rfl (by first | assumption | (unfold zr; omega)) ⟨by decide, by decide⟩ (fun (b_7 : ¬ (((r + k : Nat) : Int) + 1) < 0) => ?_) (fun (b_7 : ¬ (¬ (((r + k : Nat) : Int) + 1) < 0)) => ?_)
              · refine zH_go 3 (c' := (49, [some (.inr (.inr (some 104))), some (.inl 0), some (.inl ((k : Int) + 1)), some (.inl ((k : Int) + 1)), some (.inl sz), some (.inl (0 + (8 * (k : Int)))), some (.inl (((r + k : Nat) : Int) + 1))], [], (zs (zup (zup (zup (zup g 105 (r + k) (hl 123 (0 + (8 * k)))) 106 (r + k) (hl 123 ((0 + (8 * k)) + 1))) 107 (r + k) (hl 123 ((0 + (8 * k)) + 2))) 104 4 (((r + k : Nat) : Int) + 1)) hl))) rfl ?_
                refine ih ((zup (zup (zup (zup g 105 (r + k) (hl 123 (0 + (8 * k)))) 106 (r + k) (hl 123 ((0 + (8 * k)) + 1))) 107 (r + k) (hl 123 ((0 + (8 * k)) + 2))) 104 4 (((r + k : Nat) : Int) + 1)), (some (.inl sz)), (some (.inl (0 + (8 * (k : Int))))), (some (.inl (((r + k : Nat) : Int) + 1)))) ?_
                show (zup (zup (zup (zup g 105 (r + k) (hl 123 (0 + (8 * k)))) 106 (r + k) (hl 123 ((0 + (8 * k)) + 1))) 107 (r + k) (hl 123 ((0 + (8 * k)) + 2))) 104 4 (((r + k : Nat) : Int) + 1)) = zAR (zup h 104 1 0) V r (k + 1) ∧ r + (k + 1) ≤ 15 ∧ ∀ q : Nat, q < (k + 1) → zRDec (h 104 3) (h 104 9) ((r + q : Nat) : Int) (h 122 (0 + q)) (hl 123 (0 + 8 * q)) (hl 123 (0 + 8 * q + 1)) (hl 123 (0 + 8 * q + 2)) 0
                refine ⟨?_, by omega, fun q hq => ?_⟩
                · rw [hI.1, show (((r + k : Nat) : Int) + 1) = ((r + (k + 1) : Nat) : Int) by omega, eV]
                  rfl
                · by_cases w : q = k
                  · rw [w, ← hsz]
                    exact Or.inr (Or.inr (Or.inr (Or.inr (Or.inr ⟨by omega, q1, q2, by omega, rfl⟩))))
                  · exact hI.2.2 q (by omega)
              · refine zH_go 4 (c' := (148, [some (.inr (.inr (some 104))), some (.inl 0), some (.inl (k : Int)), some (.inl (k : Int)), some (.inl sz), some (.inl (0 + (8 * (k : Int)))), some (.inl (((r + k : Nat) : Int) + 1))], [.inl (k : Int)], (zs (zup (zup (zup (zup (zup g 105 (r + k) (hl 123 (0 + (8 * k)))) 106 (r + k) (hl 123 ((0 + (8 * k)) + 1))) 107 (r + k) (hl 123 ((0 + (8 * k)) + 2))) 104 4 (((r + k : Nat) : Int) + 1)) 104 1 (((r + k : Nat) : Int) + 1)) hl))) rfl ?_
                refine zH_ret (v := some (.inl (k : Int))) rfl (fun q => absurd q (by decide)) ?_
                exfalso; omega
          · refine zH_go 4 (c' := (138, [some (.inr (.inr (some 104))), some (.inl 0), some (.inl (k : Int)), some (.inl (k : Int)), some (.inl sz), some (.inl (0 + (8 * (k : Int)))), some (.inl (-12))], [.inl (-12)], (zs g hl))) rfl ?_
            refine zH_bf (x := (-12)) (y := 0) (k := .ge) (c1 := (149, [some (.inr (.inr (some 104))), some (.inl 0), some (.inl (k : Int)), some (.inl (k : Int)), some (.inl sz), some (.inl (0 + (8 * (k : Int)))), some (.inl (-12))], [], (zs g hl))) (c2 := (141, [some (.inr (.inr (some 104))), some (.inl 0), some (.inl (k : Int)), some (.inl (k : Int)), some (.inl sz), some (.inl (0 + (8 * (k : Int)))), some (.inl (-12))], [], (zs g hl))) rfl ⟨by decide, by decide⟩ ⟨by decide, by decide⟩ (by show ¬ (¬ (-12) < 0); decide) ?_
            refine zH_go 4 (c' := (148, [some (.inr (.inr (some 104))), some (.inl 0), some (.inl (k : Int)), some (.inl (k : Int)), some (.inl sz), some (.inl (0 + (8 * (k : Int)))), some (.inl (-12))], [.inl (k : Int)], (zs (zup g 104 1 (-12)) hl))) rfl ?_
            refine zH_ret (v := some (.inl (k : Int))) rfl (fun q => absurd q (by decide)) ?_
            refine Or.inr ⟨by omega, R, k, (-12), eR, rfl, by omega, hI.2.2, Or.inr ⟨by omega, by decide, ?_, by rw [hI.1, eV]⟩⟩
            rw [← hsz]
            exact Or.inr (Or.inl ⟨by omega, by omega, rfl⟩)
        · refine zH_go 4 (c' := (138, [some (.inr (.inr (some 104))), some (.inl 0), some (.inl (k : Int)), some (.inl (k : Int)), some (.inl sz), some (.inl (0 + (8 * (k : Int)))), some (.inl (-11))], [.inl (-11)], (zs g hl))) rfl ?_
          refine zH_bf (x := (-11)) (y := 0) (k := .ge) (c1 := (149, [some (.inr (.inr (some 104))), some (.inl 0), some (.inl (k : Int)), some (.inl (k : Int)), some (.inl sz), some (.inl (0 + (8 * (k : Int)))), some (.inl (-11))], [], (zs g hl))) (c2 := (141, [some (.inr (.inr (some 104))), some (.inl 0), some (.inl (k : Int)), some (.inl (k : Int)), some (.inl sz), some (.inl (0 + (8 * (k : Int)))), some (.inl (-11))], [], (zs g hl))) rfl ⟨by decide, by decide⟩ ⟨by decide, by decide⟩ (by show ¬ (¬ (-11) < 0); decide) ?_
          refine zH_go 4 (c' := (148, [some (.inr (.inr (some 104))), some (.inl 0), some (.inl (k : Int)), some (.inl (k : Int)), some (.inl sz), some (.inl (0 + (8 * (k : Int)))), some (.inl (-11))], [.inl (k : Int)], (zs (zup g 104 1 (-11)) hl))) rfl ?_
          refine zH_ret (v := some (.inl (k : Int))) rfl (fun q => absurd q (by decide)) ?_
          refine Or.inr ⟨by omega, R, k, (-11), eR, rfl, by omega, hI.2.2, Or.inr ⟨by omega, by decide, ?_, by rw [hI.1, eV]⟩⟩
          rw [← hsz]
          exact Or.inl ⟨by omega, rfl⟩
      · obtain ⟨g, x4, x5, x6⟩ := x
        replace hI : g = zAR (zup h 104 1 0) V r R ∧ r + R ≤ 15 ∧ ∀ q : Nat, q < R → zRDec (h 104 3) (h 104 9) ((r + q : Nat) : Int) (h 122 (0 + q)) (hl 123 (0 + 8 * q)) (hl 123 (0 + 8 * q + 1)) (hl 123 (0 + 8 * q + 2)) 0 := hI
        show zH _ _ (49, [some (.inr (.inr (some 104))), some (.inl 0), some (.inl (R : Int)), some (.inl (R : Int)), x4, x5, x6], [], (zs g hl)) _
        have g0 := (zAR_o (h := (zup h 104 1 0)) (V := V) (r := r) R)
        have e121 : g 121 0 = (R : Int) := by rw [hI.1, g0.1 121 (by decide) (by decide) (by decide) (by decide), hh1 121 _ (by omega)]; exact eR
        refine zH_go 4 (c' := (55, [some (.inr (.inr (some 104))), some (.inl 0), some (.inl (R : Int)), some (.inl (R : Int)), x4, x5, x6], [.inl 0, .inr (.inr (some 121)), .inl (R : Int)], (zs g hl))) rfl ?_
        refine zH_np (P := 0 ≤ 0 ∧ 0 < ((3 : Nat) : Int)) (c' := (56, [some (.inr (.inr (some 104))), some (.inl 0), some (.inl (R : Int)), some (.inl (R : Int)), x4, x5, x6], [.inl (g 121 0), .inl (R : Int)], (zs g hl))) rfl ⟨by decide, by decide⟩ ?_
        rw [e121]
        refine zH_bt (x := (R : Int)) (y := (R : Int)) (k := .ge) (c1 := (158, [some (.inr (.inr (some 104))), some (.inl 0), some (.inl (R : Int)), some (.inl (R : Int)), x4, x5, x6], [], (zs g hl))) (c2 := (59, [some (.inr (.inr (some 104))), some (.inl 0), some (.inl (R : Int)), some (.inl (R : Int)), x4, x5, x6], [], (zs g hl))) rfl (by first | assumption | (unfold zr; omega)) (by first | assumption | (unfold zr; omega)) (by show ¬ (R : Int) < (R : Int); omega) ?_
        refine zH_go 1 (c' := (159, [some (.inr (.inr (some 104))), some (.inl 0), some (.inl (R : Int)), some (.inl (R : Int)), x4, x5, x6], [.inl (R : Int)], (zs g hl))) rfl ?_
        refine zH_ret (v := some (.inl (R : Int))) rfl (fun q => absurd q (by decide)) ?_
        exact Or.inr ⟨by omega, R, R, 0, eR, rfl, Nat.le_refl R, hI.2.2, Or.inl ⟨rfl, rfl, by rw [hI.1, eV]⟩⟩
      · show (zup h 104 1 0) = zAR (zup h 104 1 0) V r 0 ∧ r + 0 ≤ 15 ∧ ∀ q : Nat, q < 0 → zRDec (h 104 3) (h 104 9) ((r + q : Nat) : Int) (h 122 (0 + q)) (hl 123 (0 + 8 * q)) (hl 123 (0 + 8 * q + 1)) (hl 123 (0 + 8 * q + 2)) 0
        exact ⟨rfl, by omega, fun q hq => absurd hq (Nat.not_lt_zero q)⟩
    · refine zH_go 4 (c' := (44, [some (.inr (.inr (some 104))), some (.inl 0), none, none, none, none, none], [.inl 0], (zs (zup (zup h 104 1 0) 104 1 (-11)) hl))) rfl ?_
      refine zH_ret (v := some (.inl 0)) rfl (fun q => absurd q (by decide)) ?_
      exact Or.inl ⟨by omega, rfl, rfl⟩
  · exact absurd (by decide) b_2
set_option maxRecDepth 100000 in
set_option maxHeartbeats 4000000 in
theorem p_callsOF0 {d : Nat} {h0 h hl : Nat → Nat → Int} (e0 : zup h0 104 0 0 = h) {ri : Int} (hr : zr ri) (hB : zMbk h hl 0) (hP : 0 ≤ h 104 3 ∧ h 104 3 ≤ 6) (e9 : h 104 9 = 0) : zQ (d + 2) 149 [.inr (.inr (some 104)), .inl 0, .inl ri] (zs h0 hl) (fun r' σ' => ((h 119 0 = 0 ∨ ((0 ≤ ri ∧ ri < h 121 0) ∧ h 122 (0 + Int.toNat ri) = -9)) ∧ r' = some (.inl 0) ∧ σ' = zs (zup (zup h 104 1 0) 104 1 (-11)) hl) ∨ (¬ h 119 0 = 0 ∧ ¬ (0 ≤ ri ∧ ri < h 121 0) ∧ r' = some (.inl 0) ∧ σ' = zs (zup (zup h 104 1 0) 104 1 (-12)) hl) ∨ ∃ (R S : Nat) (x : Int), ri = (R : Int) ∧ ¬ h 119 0 = 0 ∧ (R : Int) < h 121 0 ∧ h 122 (0 + R) = (S : Int) ∧ r' = some (.inl 0) ∧ ((S = 0 ∧ x = 0 ∧ σ' = zs (zup h 104 1 0) hl) ∨ (0 < S ∧ ¬ x = 0 ∧ zCDec (h 104 3) (h 104 9) (h 104 15) (hl 123 (0 + 8 * R + 0)) x ∧ σ' = zs (zup (zup h 104 1 0) 104 1 x) hl))) := by
  have hBc := hB
  obtain ⟨h119, h121, h120, h122, h123⟩ := hBc
  refine zQ_of (Nat.le_of_ble_eq_true rfl) ?_
  show zH (d + 1) 149 (0, [some (.inr (.inr (some 104))), some (.inl 0), some (.inl ri), none, none, none, none, none], [], (zs h0 hl)) _
  refine zH_go 3 (c' := (5, [some (.inr (.inr (some 104))), some (.inl 0), some (.inl ri), none, none, none, none, none], [], (zs (zup h0 104 0 0) hl))) rfl ?_
  rw [e0]
  refine zH_go 4 (c' := (11, [some (.inr (.inr (some 104))), some (.inl 0), some (.inl ri), none, none, none, none, none], [.inl 0], (zs (zup h 104 1 0) hl))) rfl ?_
  refine zH_np (P := zr 0) (c' := (12, [some (.inr (.inr (some 104))), some (.inl 0), some (.inl ri), none, none, none, none, none], [.inr (.inl 0)], (zs (zup h 104 1 0) hl))) rfl ⟨by decide, by decide⟩ ?_
  refine zH_go 2 (c' := (16, [some (.inr (.inr (some 104))), some (.inl 0), some (.inl ri), none, none, none, none, none], [.inr (.inl 2), .inr (.inl 0), .inr (.inl 0)], (zs (zup h 104 1 0) hl))) rfl ?_
  refine zH_call (M' := 103) (as := [.inr (.inl 0), .inr (.inl 0), .inr (.inl 2)]) (T := []) rfl (p_in ⟨by decide, by decide⟩ ⟨by decide, by decide⟩ ⟨by decide, by decide⟩) (fun r σ' p_1 => ?_)
  rcases p_1 with ⟨rfl, b_2, rfl⟩ | ⟨rfl, b_2, rfl⟩
  · show zH _ _ (19, [some (.inr (.inr (some 104))), some (.inl 0), some (.inl ri), none, none, none, none, none], [.inl 1], (zs (zup h 104 1 0) hl)) _
    refine zH_bt (x := 1) (y := 0) (k := .ne) (c1 := (28, [some (.inr (.inr (some 104))), some (.inl 0), some (.inl ri), none, none, none, none, none], [], (zs (zup h 104 1 0) hl))) (c2 := (22, [some (.inr (.inr (some 104))), some (.inl 0), some (.inl ri), none, none, none, none, none], [], (zs (zup h 104 1 0) hl))) rfl ⟨by decide, by decide⟩ ⟨by decide, by decide⟩ (by show ¬ 1 = 0; decide) ?_
    refine zH_go 3 (c' := (33, [some (.inr (.inr (some 104))), some (.inl 0), some (.inl ri), none, none, none, none, none], [.inl 0, .inr (.inr (some 119))], (zs (zup h 104 1 0) hl))) rfl ?_
    refine zH_np (P := 0 ≤ 0 ∧ 0 < ((3 : Nat) : Int)) (c' := (34, [some (.inr (.inr (some 104))), some (.inl 0), some (.inl ri), none, none, none, none, none], [.inl (h 119 0)], (zs (zup h 104 1 0) hl))) rfl ⟨by decide, by decide⟩ ?_
    refine zH_br (x := (h 119 0)) (y := 0) (k := .eq) (c1 := (70, [some (.inr (.inr (some 104))), some (.inl 0), some (.inl ri), none, none, none, none, none], [], (zs (zup h 104 1 0) hl))) (c2 := (37, [some (.inr (.inr (some 104))), some (.inl 0), some (.inl ri), none, none, none, none, none], [], (zs (zup h 104 1 0) hl))) rfl (by first | assumption | (unfold zr; omega)) ⟨by decide, by decide⟩ (fun (b_3 : (h 119 0) = 0) => ?_) (fun (b_3 : ¬ ((h 119 0) = 0)) => ?_)
    · refine zH_go 4 (c' := (77, [some (.inr (.inr (some 104))), some (.inl 0), some (.inl ri), none, none, none, none, none], [.inl 0], (zs (zup (zup h 104 1 0) 104 1 (-11)) hl))) rfl ?_
      refine zH_ret (v := some (.inl 0)) rfl (fun q => absurd q (by decide)) ?_
      exact Or.inl ⟨by first | exact Or.inl (by omega) | exact Or.inr ⟨by omega, by rw [Int.toNat_natCast]; omega⟩, rfl, rfl⟩
    · refine zH_go 1 (c' := (38, [some (.inr (.inr (some 104))), some (.inl 0), some (.inl ri), none, none, none, none, none], [.inl ri], (zs (zup h 104 1 0) hl))) rfl ?_
      refine zH_np (P := zr ri) (c' := (39, [some (.inr (.inr (some 104))), some (.inl 0), some (.inl ri), none, none, none, none, none], [.inr (.inl ri)], (zs (zup h 104 1 0) hl))) rfl (by first | assumption | (unfold zr; omega)) ?_
      refine zH_go 4 (c' := (45, [some (.inr (.inr (some 104))), some (.inl 0), some (.inl ri), none, none, none, none, none], [.inl 0, .inr (.inr (some 121)), .inr (.inl 0), .inr (.inl ri)], (zs (zup h 104 1 0) hl))) rfl ?_
      refine zH_np (P := 0 ≤ 0 ∧ 0 < ((3 : Nat) : Int)) (c' := (46, [some (.inr (.inr (some 104))), some (.inl 0), some (.inl ri), none, none, none, none, none], [.inl (h 121 0), .inr (.inl 0), .inr (.inl ri)], (zs (zup h 104 1 0) hl))) rfl ⟨by decide, by decide⟩ ?_
      refine zH_go 2 (c' := (48, [some (.inr (.inr (some 104))), some (.inl 0), some (.inl ri), none, none, none, none, none], [.inl ((h 121 0) - 1), .inr (.inl 0), .inr (.inl ri)], (zs (zup h 104 1 0) hl))) rfl ?_
      refine zH_np (P := zr ((h 121 0) - 1)) (c' := (49, [some (.inr (.inr (some 104))), some (.inl 0), some (.inl ri), none, none, none, none, none], [.inr (.inl ((h 121 0) - 1)), .inr (.inl 0), .inr (.inl ri)], (zs (zup h 104 1 0) hl))) rfl (by first | assumption | (unfold zr; omega)) ?_
      refine zH_call (M' := 103) (as := [.inr (.inl ri), .inr (.inl 0), .inr (.inl ((h 121 0) - 1))]) (T := []) rfl (p_in (by first | assumption | exact zr_l (by assumption) | (unfold zrl; omega)) ⟨by decide, by decide⟩ (by first | assumption | exact zr_l (by assumption) | (unfold zrl; omega))) (fun r σ' p_4 => ?_)
      rcases p_4 with ⟨rfl, b_5, rfl⟩ | ⟨rfl, b_5, rfl⟩
      · show zH _ _ (52, [some (.inr (.inr (some 104))), some (.inl 0), some (.inl ri), none, none, none, none, none], [.inl 1], (zs (zup h 104 1 0) hl)) _
        refine zH_bf (x := 1) (y := 0) (k := .eq) (c1 := (78, [some (.inr (.inr (some 104))), some (.inl 0), some (.inl ri), none, none, none, none, none], [], (zs (zup h 104 1 0) hl))) (c2 := (55, [some (.inr (.inr (some 104))), some (.inl 0), some (.inl ri), none, none, none, none, none], [], (zs (zup h 104 1 0) hl))) rfl ⟨by decide, by decide⟩ ⟨by decide, by decide⟩ (by show ¬ (1 = 0); decide) ?_
        obtain ⟨R, rfl⟩ := Int.eq_ofNat_of_zero_le (show 0 ≤ ri by omega)
        show zH _ _ (55, [some (.inr (.inr (some 104))), some (.inl 0), some (.inl (R : Int)), none, none, none, none, none], [], (zs (zup h 104 1 0) hl)) _
        have h2R := h122 R (by omega)
        have h2R : h 122 (0 + R) = -9 ∨ (0 ≤ h 122 (0 + R) ∧ h 122 (0 + R) ≤ 8) := h2R
        refine zH_go 7 (c' := (64, [some (.inr (.inr (some 104))), some (.inl 0), some (.inl (R : Int)), none, none, none, none, none], [.inl (0 + (R : Int)), .inr (.inr (some 122))], (zs (zup h 104 1 0) hl))) rfl ?_
        refine zH_np (P := 0 ≤ (0 + (R : Int)) ∧ (0 + (R : Int)) < ((12 : Nat) : Int)) (c' := (65, [some (.inr (.inr (some 104))), some (.inl 0), some (.inl (R : Int)), none, none, none, none, none], [.inl (h 122 (0 + R))], (zs (zup h 104 1 0) hl))) rfl ⟨by omega, by omega⟩ ?_
        refine zH_go 1 (c' := (67, [some (.inr (.inr (some 104))), some (.inl 0), some (.inl (R : Int)), none, none, none, none, none], [.inl (-9), .inl (h 122 (0 + R))], (zs (zup h 104 1 0) hl))) rfl ?_
        refine zH_br (x := (h 122 (0 + R))) (y := (-9)) (k := .ne) (c1 := (78, [some (.inr (.inr (some 104))), some (.inl 0), some (.inl (R : Int)), none, none, none, none, none], [], (zs (zup h 104 1 0) hl))) (c2 := (70, [some (.inr (.inr (some 104))), some (.inl 0), some (.inl (R : Int)), none, none, none, none, none], [], (zs (zup h 104 1 0) hl))) rfl (by first | assumption | (unfold zr; omega)) ⟨by decide, by decide⟩ (fun (b_6 : ¬ (h 122 (0 + R)) = (-9)) => ?_) (fun (b_6 : ¬ (¬ (h 122 (0 + R)) = (-9))) => ?_)
        · refine zH_go 1 (c' := (79, [some (.inr (.inr (some 104))), some (.inl 0), some (.inl (R : Int)), none, none, none, none, none], [.inl (R : Int)], (zs (zup h 104 1 0) hl))) rfl ?_
          refine zH_np (P := zr (R : Int)) (c' := (80, [some (.inr (.inr (some 104))), some (.inl 0), some (.inl (R : Int)), none, none, none, none, none], [.inr (.inl (R : Int))], (zs (zup h 104 1 0) hl))) rfl (by first | assumption | (unfold zr; omega)) ?_
          refine zH_go 4 (c' := (86, [some (.inr (.inr (some 104))), some (.inl 0), some (.inl (R : Int)), none, none, none, none, none], [.inl 0, .inr (.inr (some 121)), .inr (.inl 0), .inr (.inl (R : Int))], (zs (zup h 104 1 0) hl))) rfl ?_
          refine zH_np (P := 0 ≤ 0 ∧ 0 < ((3 : Nat) : Int)) (c' := (87, [some (.inr (.inr (some 104))), some (.inl 0), some (.inl (R : Int)), none, none, none, none, none], [.inl (h 121 0), .inr (.inl 0), .inr (.inl (R : Int))], (zs (zup h 104 1 0) hl))) rfl ⟨by decide, by decide⟩ ?_
          refine zH_go 2 (c' := (89, [some (.inr (.inr (some 104))), some (.inl 0), some (.inl (R : Int)), none, none, none, none, none], [.inl ((h 121 0) - 1), .inr (.inl 0), .inr (.inl (R : Int))], (zs (zup h 104 1 0) hl))) rfl ?_
          refine zH_np (P := zr ((h 121 0) - 1)) (c' := (90, [some (.inr (.inr (some 104))), some (.inl 0), some (.inl (R : Int)), none, none, none, none, none], [.inr (.inl ((h 121 0) - 1)), .inr (.inl 0), .inr (.inl (R : Int))], (zs (zup h 104 1 0) hl))) rfl (by first | assumption | (unfold zr; omega)) ?_
          refine zH_call (M' := 103) (as := [.inr (.inl (R : Int)), .inr (.inl 0), .inr (.inl ((h 121 0) - 1))]) (T := []) rfl (p_in (by first | assumption | exact zr_l (by assumption) | (unfold zrl; omega)) ⟨by decide, by decide⟩ (by first | assumption | exact zr_l (by assumption) | (unfold zrl; omega))) (fun r σ' p_7 => ?_)
          rcases p_7 with ⟨rfl, b_8, rfl⟩ | ⟨rfl, b_8, rfl⟩
          · show zH _ _ (93, [some (.inr (.inr (some 104))), some (.inl 0), some (.inl (R : Int)), none, none, none, none, none], [.inl 1], (zs (zup h 104 1 0) hl)) _
            refine zH_bt (x := 1) (y := 0) (k := .ne) (c1 := (104, [some (.inr (.inr (some 104))), some (.inl 0), some (.inl (R : Int)), none, none, none, none, none], [], (zs (zup h 104 1 0) hl))) (c2 := (96, [some (.inr (.inr (some 104))), some (.inl 0), some (.inl (R : Int)), none, none, none, none, none], [], (zs (zup h 104 1 0) hl))) rfl ⟨by decide, by decide⟩ ⟨by decide, by decide⟩ (by show ¬ 1 = 0; decide) ?_
            obtain ⟨S, eS⟩ := Int.eq_ofNat_of_zero_le (show 0 ≤ h 122 (0 + R) by omega)
            have eS : h 122 (0 + R) = (S : Int) := eS
            refine zH_go 4 (c' := (109, [some (.inr (.inr (some 104))), some (.inl 0), some (.inl (R : Int)), some (.inl 0), some (.inl 0), none, none, none], [], (zs (zup h 104 1 0) hl))) rfl ?_
            refine zH_go 8 (c' := (120, [some (.inr (.inr (some 104))), some (.inl 0), some (.inl (R : Int)), some (.inl 0), some (.inl 0), none, none, none], [.inl (0 + (R : Int)), .inr (.inr (some 122)), .inl 0], (zs (zup h 104 1 0) hl))) rfl ?_
            refine zH_np (P := 0 ≤ (0 + (R : Int)) ∧ (0 + (R : Int)) < ((12 : Nat) : Int)) (c' := (121, [some (.inr (.inr (some 104))), some (.inl 0), some (.inl (R : Int)), some (.inl 0), some (.inl 0), none, none, none], [.inl (h 122 (0 + R)), .inl 0], (zs (zup h 104 1 0) hl))) rfl ⟨by omega, by omega⟩ ?_
            refine zH_br (x := 0) (y := (h 122 (0 + R))) (k := .ge) (c1 := (220, [some (.inr (.inr (some 104))), some (.inl 0), some (.inl (R : Int)), some (.inl 0), some (.inl 0), none, none, none], [], (zs (zup h 104 1 0) hl))) (c2 := (124, [some (.inr (.inr (some 104))), some (.inl 0), some (.inl (R : Int)), some (.inl 0), some (.inl 0), none, none, none], [], (zs (zup h 104 1 0) hl))) rfl ⟨by decide, by decide⟩ (by first | assumption | (unfold zr; omega)) (fun (b_9 : ¬ 0 < (h 122 (0 + R))) => ?_) (fun (b_9 : ¬ (¬ 0 < (h 122 (0 + R)))) => ?_)
            · refine zH_go 1 (c' := (221, [some (.inr (.inr (some 104))), some (.inl 0), some (.inl (R : Int)), some (.inl 0), some (.inl 0), none, none, none], [.inl 0], (zs (zup h 104 1 0) hl))) rfl ?_
              refine zH_ret (v := some (.inl 0)) rfl (fun q => absurd q (by decide)) ?_
              exact Or.inr (Or.inr ⟨R, S, 0, rfl, by omega, by omega, eS, rfl, Or.inl ⟨by omega, rfl, rfl⟩⟩)
            · refine zH_go 11 (c' := (140, [some (.inr (.inr (some 104))), some (.inl 0), some (.inl (R : Int)), some (.inl 0), some (.inl 0), none, none, none], [.inl ((0 + (8 * (R : Int))) + 0), .inr (.inr (some 123))], (zs (zup h 104 1 0) hl))) rfl ?_
              refine zH_np (P := 0 ≤ ((0 + (8 * (R : Int))) + 0) ∧ ((0 + (8 * (R : Int))) + 0) < ((96 : Nat) : Int)) (c' := (141, [some (.inr (.inr (some 104))), some (.inl 0), some (.inl (R : Int)), some (.inl 0), some (.inl 0), none, none, none], [.inr (.inl (hl 123 ((0 + (8 * R)) + 0)))], (zs (zup h 104 1 0) hl))) rfl ⟨by omega, by omega⟩ ?_
              obtain ⟨v, hv⟩ : ∃ v, v = hl 123 (0 + 8 * R + 0) := ⟨_, rfl⟩
              have hzv : zrl v := by rw [hv]; exact h123 R 0 (by omega) (by decide)
              rw [show (hl 123 ((0 + (8 * R)) + 0)) = v from hv.symm]
              show zH _ _ (141, [some (.inr (.inr (some 104))), some (.inl 0), some (.inl (R : Int)), some (.inl 0), some (.inl 0), none, none, none], [.inr (.inl v)], (zs (zup h 104 1 0) hl)) _
              refine zH_go 7 (c' := (152, [some (.inr (.inr (some 104))), some (.inl 0), some (.inl (R : Int)), some (.inl 0), some (.inl 0), some (.inr (.inl v)), none, none], [.inl ((h 104 3) - 1), .inr (.inl 0), .inr (.inl v)], (zs (zup h 104 1 0) hl))) rfl ?_
              refine zH_np (P := zr ((h 104 3) - 1)) (c' := (153, [some (.inr (.inr (some 104))), some (.inl 0), some (.inl (R : Int)), some (.inl 0), some (.inl 0), some (.inr (.inl v)), none, none], [.inr (.inl ((h 104 3) - 1)), .inr (.inl 0), .inr (.inl v)], (zs (zup h 104 1 0) hl))) rfl (by first | assumption | (unfold zr; omega)) ?_
              refine zH_call (M' := 103) (as := [.inr (.inl v), .inr (.inl 0), .inr (.inl ((h 104 3) - 1))]) (T := []) rfl (p_in (by first | assumption | exact zr_l (by assumption) | (unfold zrl; omega)) ⟨by decide, by decide⟩ (by first | assumption | exact zr_l (by assumption) | (unfold zrl; omega))) (fun r σ' p_10 => ?_)
              rcases p_10 with ⟨rfl, b_11, rfl⟩ | ⟨rfl, b_11, rfl⟩
              · show zH _ _ (156, [some (.inr (.inr (some 104))), some (.inl 0), some (.inl (R : Int)), some (.inl 0), some (.inl 0), some (.inr (.inl v)), none, none], [.inl 1], (zs (zup h 104 1 0) hl)) _
                refine zH_bt (x := 1) (y := 0) (k := .ne) (c1 := (166, [some (.inr (.inr (some 104))), some (.inl 0), some (.inl (R : Int)), some (.inl 0), some (.inl 0), some (.inr (.inl v)), none, none], [], (zs (zup h 104 1 0) hl))) (c2 := (159, [some (.inr (.inr (some 104))), some (.inl 0), some (.inl (R : Int)), some (.inl 0), some (.inl 0), some (.inr (.inl v)), none, none], [], (zs (zup h 104 1 0) hl))) rfl ⟨by decide, by decide⟩ ⟨by decide, by decide⟩ (by show ¬ 1 = 0; decide) ?_
                refine zH_go 2 (c' := (170, [some (.inr (.inr (some 104))), some (.inl 0), some (.inl (R : Int)), some (.inl 0), some (.inl 0), some (.inr (.inl v)), none, none], [.inl (h 104 9)], (zs (zup h 104 1 0) hl))) rfl ?_
                rw [e9]
                refine zH_bt (x := 0) (y := 0) (k := .eq) (c1 := (182, [some (.inr (.inr (some 104))), some (.inl 0), some (.inl (R : Int)), some (.inl 0), some (.inl 0), some (.inr (.inl v)), none, none], [], (zs (zup h 104 1 0) hl))) (c2 := (173, [some (.inr (.inr (some 104))), some (.inl 0), some (.inl (R : Int)), some (.inl 0), some (.inl 0), some (.inr (.inl v)), none, none], [], (zs (zup h 104 1 0) hl))) rfl ⟨by decide, by decide⟩ ⟨by decide, by decide⟩ (by show 0 = 0; decide) ?_
                refine zH_go 3 (c' := (187, [some (.inr (.inr (some 104))), some (.inl 0), some (.inl (R : Int)), some (.inl 0), some (.inl 0), some (.inr (.inl v)), none, none], [.inl (h 104 9), .inr (.inr (some 104))], (zs (zup h 104 1 0) hl))) rfl ?_
                rw [e9]
                refine zH_bf (x := 0) (y := 0) (k := .ne) (c1 := (195, [some (.inr (.inr (some 104))), some (.inl 0), some (.inl (R : Int)), some (.inl 0), some (.inl 0), some (.inr (.inl v)), none, none], [.inr (.inr (some 104))], (zs (zup h 104 1 0) hl))) (c2 := (190, [some (.inr (.inr (some 104))), some (.inl 0), some (.inl (R : Int)), some (.inl 0), some (.inl 0), some (.inr (.inl v)), none, none], [.inr (.inr (some 104))], (zs (zup h 104 1 0) hl))) rfl ⟨by decide, by decide⟩ ⟨by decide, by decide⟩ (by show ¬ (¬ 0 = 0); decide) ?_
                refine zH_go 4 (c' := (201, [some (.inr (.inr (some 104))), some (.inl 0), some (.inl (R : Int)), some (.inl 0), some (.inl 0), some (.inr (.inl v)), none, none], [.inl 0], (zs (zup (zup h 104 1 0) 104 1 (-2)) hl))) rfl ?_
                refine zH_ret (v := some (.inl 0)) rfl (fun q => absurd q (by decide)) ?_
                refine Or.inr (Or.inr ⟨R, S, (-2), rfl, by omega, by omega, eS, rfl, Or.inr ⟨by omega, by decide, ?_, rfl⟩⟩)
                rw [← hv]
                unfold zCDec
                omega
              · show zH _ _ (156, [some (.inr (.inr (some 104))), some (.inl 0), some (.inl (R : Int)), some (.inl 0), some (.inl 0), some (.inr (.inl v)), none, none], [.inl 0], (zs (zup h 104 1 0) hl)) _
                refine zH_bf (x := 0) (y := 0) (k := .ne) (c1 := (166, [some (.inr (.inr (some 104))), some (.inl 0), some (.inl (R : Int)), some (.inl 0), some (.inl 0), some (.inr (.inl v)), none, none], [], (zs (zup h 104 1 0) hl))) (c2 := (159, [some (.inr (.inr (some 104))), some (.inl 0), some (.inl (R : Int)), some (.inl 0), some (.inl 0), some (.inr (.inl v)), none, none], [], (zs (zup h 104 1 0) hl))) rfl ⟨by decide, by decide⟩ ⟨by decide, by decide⟩ (by show ¬ (¬ 0 = 0); decide) ?_
                refine zH_go 4 (c' := (165, [some (.inr (.inr (some 104))), some (.inl 0), some (.inl (R : Int)), some (.inl 0), some (.inl 0), some (.inr (.inl v)), none, none], [.inl 0], (zs (zup (zup h 104 1 0) 104 1 (-1)) hl))) rfl ?_
                refine zH_ret (v := some (.inl 0)) rfl (fun q => absurd q (by decide)) ?_
                refine Or.inr (Or.inr ⟨R, S, (-1), rfl, by omega, by omega, eS, rfl, Or.inr ⟨by omega, by decide, ?_, rfl⟩⟩)
                rw [← hv]
                unfold zCDec
                omega
          · show zH _ _ (93, [some (.inr (.inr (some 104))), some (.inl 0), some (.inl (R : Int)), none, none, none, none, none], [.inl 0], (zs (zup h 104 1 0) hl)) _
            refine zH_bf (x := 0) (y := 0) (k := .ne) (c1 := (104, [some (.inr (.inr (some 104))), some (.inl 0), some (.inl (R : Int)), none, none, none, none, none], [], (zs (zup h 104 1 0) hl))) (c2 := (96, [some (.inr (.inr (some 104))), some (.inl 0), some (.inl (R : Int)), none, none, none, none, none], [], (zs (zup h 104 1 0) hl))) rfl ⟨by decide, by decide⟩ ⟨by decide, by decide⟩ (by show ¬ (¬ 0 = 0); decide) ?_
            refine zH_go 4 (c' := (103, [some (.inr (.inr (some 104))), some (.inl 0), some (.inl (R : Int)), none, none, none, none, none], [.inl 0], (zs (zup (zup h 104 1 0) 104 1 (-12)) hl))) rfl ?_
            refine zH_ret (v := some (.inl 0)) rfl (fun q => absurd q (by decide)) ?_
            exact Or.inr (Or.inl ⟨by omega, by omega, rfl, rfl⟩)
        · refine zH_go 4 (c' := (77, [some (.inr (.inr (some 104))), some (.inl 0), some (.inl (R : Int)), none, none, none, none, none], [.inl 0], (zs (zup (zup h 104 1 0) 104 1 (-11)) hl))) rfl ?_
          refine zH_ret (v := some (.inl 0)) rfl (fun q => absurd q (by decide)) ?_
          exact Or.inl ⟨by first | exact Or.inl (by omega) | exact Or.inr ⟨by omega, by rw [Int.toNat_natCast]; omega⟩, rfl, rfl⟩
      · show zH _ _ (52, [some (.inr (.inr (some 104))), some (.inl 0), some (.inl ri), none, none, none, none, none], [.inl 0], (zs (zup h 104 1 0) hl)) _
        refine zH_bt (x := 0) (y := 0) (k := .eq) (c1 := (78, [some (.inr (.inr (some 104))), some (.inl 0), some (.inl ri), none, none, none, none, none], [], (zs (zup h 104 1 0) hl))) (c2 := (55, [some (.inr (.inr (some 104))), some (.inl 0), some (.inl ri), none, none, none, none, none], [], (zs (zup h 104 1 0) hl))) rfl ⟨by decide, by decide⟩ ⟨by decide, by decide⟩ (by show 0 = 0; decide) ?_
        refine zH_go 1 (c' := (79, [some (.inr (.inr (some 104))), some (.inl 0), some (.inl ri), none, none, none, none, none], [.inl ri], (zs (zup h 104 1 0) hl))) rfl ?_
        refine zH_np (P := zr ri) (c' := (80, [some (.inr (.inr (some 104))), some (.inl 0), some (.inl ri), none, none, none, none, none], [.inr (.inl ri)], (zs (zup h 104 1 0) hl))) rfl (by first | assumption | (unfold zr; omega)) ?_
        refine zH_go 4 (c' := (86, [some (.inr (.inr (some 104))), some (.inl 0), some (.inl ri), none, none, none, none, none], [.inl 0, .inr (.inr (some 121)), .inr (.inl 0), .inr (.inl ri)], (zs (zup h 104 1 0) hl))) rfl ?_
        refine zH_np (P := 0 ≤ 0 ∧ 0 < ((3 : Nat) : Int)) (c' := (87, [some (.inr (.inr (some 104))), some (.inl 0), some (.inl ri), none, none, none, none, none], [.inl (h 121 0), .inr (.inl 0), .inr (.inl ri)], (zs (zup h 104 1 0) hl))) rfl ⟨by decide, by decide⟩ ?_
        refine zH_go 2 (c' := (89, [some (.inr (.inr (some 104))), some (.inl 0), some (.inl ri), none, none, none, none, none], [.inl ((h 121 0) - 1), .inr (.inl 0), .inr (.inl ri)], (zs (zup h 104 1 0) hl))) rfl ?_
        refine zH_np (P := zr ((h 121 0) - 1)) (c' := (90, [some (.inr (.inr (some 104))), some (.inl 0), some (.inl ri), none, none, none, none, none], [.inr (.inl ((h 121 0) - 1)), .inr (.inl 0), .inr (.inl ri)], (zs (zup h 104 1 0) hl))) rfl (by first | assumption | (unfold zr; omega)) ?_
        refine zH_call (M' := 103) (as := [.inr (.inl ri), .inr (.inl 0), .inr (.inl ((h 121 0) - 1))]) (T := []) rfl (p_in (by first | assumption | exact zr_l (by assumption) | (unfold zrl; omega)) ⟨by decide, by decide⟩ (by first | assumption | exact zr_l (by assumption) | (unfold zrl; omega))) (fun r σ' p_12 => ?_)
        rcases p_12 with ⟨rfl, b_13, rfl⟩ | ⟨rfl, b_13, rfl⟩
        · show zH _ _ (93, [some (.inr (.inr (some 104))), some (.inl 0), some (.inl ri), none, none, none, none, none], [.inl 1], (zs (zup h 104 1 0) hl)) _
          refine zH_bt (x := 1) (y := 0) (k := .ne) (c1 := (104, [some (.inr (.inr (some 104))), some (.inl 0), some (.inl ri), none, none, none, none, none], [], (zs (zup h 104 1 0) hl))) (c2 := (96, [some (.inr (.inr (some 104))), some (.inl 0), some (.inl ri), none, none, none, none, none], [], (zs (zup h 104 1 0) hl))) rfl ⟨by decide, by decide⟩ ⟨by decide, by decide⟩ (by show ¬ 1 = 0; decide) ?_
          exfalso; omega
        · show zH _ _ (93, [some (.inr (.inr (some 104))), some (.inl 0), some (.inl ri), none, none, none, none, none], [.inl 0], (zs (zup h 104 1 0) hl)) _
          refine zH_bf (x := 0) (y := 0) (k := .ne) (c1 := (104, [some (.inr (.inr (some 104))), some (.inl 0), some (.inl ri), none, none, none, none, none], [], (zs (zup h 104 1 0) hl))) (c2 := (96, [some (.inr (.inr (some 104))), some (.inl 0), some (.inl ri), none, none, none, none, none], [], (zs (zup h 104 1 0) hl))) rfl ⟨by decide, by decide⟩ ⟨by decide, by decide⟩ (by show ¬ (¬ 0 = 0); decide) ?_
          refine zH_go 4 (c' := (103, [some (.inr (.inr (some 104))), some (.inl 0), some (.inl ri), none, none, none, none, none], [.inl 0], (zs (zup (zup h 104 1 0) 104 1 (-12)) hl))) rfl ?_
          refine zH_ret (v := some (.inl 0)) rfl (fun q => absurd q (by decide)) ?_
          exact Or.inr (Or.inl ⟨by omega, by omega, rfl, rfl⟩)
  · exact absurd (by decide) b_2
set_option maxRecDepth 100000 in
set_option maxHeartbeats 4000000 in
theorem p_callsON0 {d : Nat} {h0 h hl : Nat → Nat → Int} (e0 : zup h0 104 0 0 = h) {ri : Int} (hr : zr ri) (hB : zMbk h hl 0) {p L B n : Nat} {s0 : zDS} (hH : zMH h p L B n s0) (hM : zDm h hl p L B n s0) (hb0 : ∀ i : Nat, i < 3 → s0.2.1 i ≤ 1500 * (n : Int)) {K : Int} (hK11 : h 104 11 = K) (hK : 0 ≤ K ∧ K ≤ 3) : zQ (d + 6) 149 [.inr (.inr (some 104)), .inl 0, .inl ri] (zs h0 hl) (fun r' σ' => ((h 119 0 = 0 ∨ ((0 ≤ ri ∧ ri < h 121 0) ∧ h 122 (0 + Int.toNat ri) = -9)) ∧ r' = some (.inl 0) ∧ σ' = zs (zup (zup h 104 1 0) 104 1 (-11)) hl) ∨ (¬ h 119 0 = 0 ∧ ¬ (0 ≤ ri ∧ ri < h 121 0) ∧ r' = some (.inl 0) ∧ σ' = zs (zup (zup h 104 1 0) 104 1 (-12)) hl) ∨ ∃ (R S J : Nat) (x : Int) (s : zDS) (g gl : Nat → Nat → Int), ri = (R : Int) ∧ ¬ h 119 0 = 0 ∧ (R : Int) < h 121 0 ∧ h 122 (0 + R) = (S : Int) ∧ r' = some (.inl (J : Int)) ∧ σ' = zs g gl ∧ zDm g gl p L B (n + J) s ∧ zCh h L B K (fun q => Int.toNat (hl 123 (0 + 8 * R + q))) n s0 J s ∧ (∀ q : Nat, q < J → zCDec (h 104 3) (h 104 9) ((n + q : Nat) : Int) (hl 123 (0 + 8 * R + q)) 0) ∧ ((J = S ∧ x = 0) ∨ (J < S ∧ ¬ x = 0 ∧ zCDec (h 104 3) (h 104 9) ((n + J : Nat) : Int) (hl 123 (0 + 8 * R + J)) x)) ∧ (∀ c : Nat, c < 104 → g c = h c) ∧ (∀ c : Nat, (105 ≤ c ∧ c < 109) ∨ 118 ≤ c → g c = h c) ∧ (∀ j : Nat, j ≠ 1 → j ≠ 14 → j ≠ 15 → g 104 j = h 104 j) ∧ g 104 1 = x ∧ ∀ c : Nat, c ≠ 104 → gl c = hl c) := by
  have hBc := hB
  obtain ⟨h119, h121, h120, h122, h123⟩ := hBc
  have hHc := hH
  obtain ⟨hL3, hp6, h3, hT, hF, hBs, hn12, hs6, hsp, hsu, htu, hpl, hdg, hpo⟩ := hHc
  have hMc := hM
  obtain ⟨m9, m10, m14, m15, mas, mrec, mfa, mrow, mtr⟩ := hMc
  refine zQ_of (Nat.le_of_ble_eq_true rfl) ?_
  show zH (d + 5) 149 (0, [some (.inr (.inr (some 104))), some (.inl 0), some (.inl ri), none, none, none, none, none], [], (zs h0 hl)) _
  refine zH_go 3 (c' := (5, [some (.inr (.inr (some 104))), some (.inl 0), some (.inl ri), none, none, none, none, none], [], (zs (zup h0 104 0 0) hl))) rfl ?_
  rw [e0]
  refine zH_go 4 (c' := (11, [some (.inr (.inr (some 104))), some (.inl 0), some (.inl ri), none, none, none, none, none], [.inl 0], (zs (zup h 104 1 0) hl))) rfl ?_
  refine zH_np (P := zr 0) (c' := (12, [some (.inr (.inr (some 104))), some (.inl 0), some (.inl ri), none, none, none, none, none], [.inr (.inl 0)], (zs (zup h 104 1 0) hl))) rfl ⟨by decide, by decide⟩ ?_
  refine zH_go 2 (c' := (16, [some (.inr (.inr (some 104))), some (.inl 0), some (.inl ri), none, none, none, none, none], [.inr (.inl 2), .inr (.inl 0), .inr (.inl 0)], (zs (zup h 104 1 0) hl))) rfl ?_
  refine zH_call (M' := 103) (as := [.inr (.inl 0), .inr (.inl 0), .inr (.inl 2)]) (T := []) rfl (p_in ⟨by decide, by decide⟩ ⟨by decide, by decide⟩ ⟨by decide, by decide⟩) (fun r σ' p_1 => ?_)
  rcases p_1 with ⟨rfl, b_2, rfl⟩ | ⟨rfl, b_2, rfl⟩
  · show zH _ _ (19, [some (.inr (.inr (some 104))), some (.inl 0), some (.inl ri), none, none, none, none, none], [.inl 1], (zs (zup h 104 1 0) hl)) _
    refine zH_bt (x := 1) (y := 0) (k := .ne) (c1 := (28, [some (.inr (.inr (some 104))), some (.inl 0), some (.inl ri), none, none, none, none, none], [], (zs (zup h 104 1 0) hl))) (c2 := (22, [some (.inr (.inr (some 104))), some (.inl 0), some (.inl ri), none, none, none, none, none], [], (zs (zup h 104 1 0) hl))) rfl ⟨by decide, by decide⟩ ⟨by decide, by decide⟩ (by show ¬ 1 = 0; decide) ?_
    refine zH_go 3 (c' := (33, [some (.inr (.inr (some 104))), some (.inl 0), some (.inl ri), none, none, none, none, none], [.inl 0, .inr (.inr (some 119))], (zs (zup h 104 1 0) hl))) rfl ?_
    refine zH_np (P := 0 ≤ 0 ∧ 0 < ((3 : Nat) : Int)) (c' := (34, [some (.inr (.inr (some 104))), some (.inl 0), some (.inl ri), none, none, none, none, none], [.inl (h 119 0)], (zs (zup h 104 1 0) hl))) rfl ⟨by decide, by decide⟩ ?_
    refine zH_br (x := (h 119 0)) (y := 0) (k := .eq) (c1 := (70, [some (.inr (.inr (some 104))), some (.inl 0), some (.inl ri), none, none, none, none, none], [], (zs (zup h 104 1 0) hl))) (c2 := (37, [some (.inr (.inr (some 104))), some (.inl 0), some (.inl ri), none, none, none, none, none], [], (zs (zup h 104 1 0) hl))) rfl (by first | assumption | (unfold zr; omega)) ⟨by decide, by decide⟩ (fun (b_3 : (h 119 0) = 0) => ?_) (fun (b_3 : ¬ ((h 119 0) = 0)) => ?_)
    · refine zH_go 4 (c' := (77, [some (.inr (.inr (some 104))), some (.inl 0), some (.inl ri), none, none, none, none, none], [.inl 0], (zs (zup (zup h 104 1 0) 104 1 (-11)) hl))) rfl ?_
      refine zH_ret (v := some (.inl 0)) rfl (fun q => absurd q (by decide)) ?_
      exact Or.inl ⟨by first | exact Or.inl (by omega) | exact Or.inr ⟨by omega, by rw [Int.toNat_natCast]; omega⟩, rfl, rfl⟩
    · refine zH_go 1 (c' := (38, [some (.inr (.inr (some 104))), some (.inl 0), some (.inl ri), none, none, none, none, none], [.inl ri], (zs (zup h 104 1 0) hl))) rfl ?_
      refine zH_np (P := zr ri) (c' := (39, [some (.inr (.inr (some 104))), some (.inl 0), some (.inl ri), none, none, none, none, none], [.inr (.inl ri)], (zs (zup h 104 1 0) hl))) rfl (by first | assumption | (unfold zr; omega)) ?_
      refine zH_go 4 (c' := (45, [some (.inr (.inr (some 104))), some (.inl 0), some (.inl ri), none, none, none, none, none], [.inl 0, .inr (.inr (some 121)), .inr (.inl 0), .inr (.inl ri)], (zs (zup h 104 1 0) hl))) rfl ?_
      refine zH_np (P := 0 ≤ 0 ∧ 0 < ((3 : Nat) : Int)) (c' := (46, [some (.inr (.inr (some 104))), some (.inl 0), some (.inl ri), none, none, none, none, none], [.inl (h 121 0), .inr (.inl 0), .inr (.inl ri)], (zs (zup h 104 1 0) hl))) rfl ⟨by decide, by decide⟩ ?_
      refine zH_go 2 (c' := (48, [some (.inr (.inr (some 104))), some (.inl 0), some (.inl ri), none, none, none, none, none], [.inl ((h 121 0) - 1), .inr (.inl 0), .inr (.inl ri)], (zs (zup h 104 1 0) hl))) rfl ?_
      refine zH_np (P := zr ((h 121 0) - 1)) (c' := (49, [some (.inr (.inr (some 104))), some (.inl 0), some (.inl ri), none, none, none, none, none], [.inr (.inl ((h 121 0) - 1)), .inr (.inl 0), .inr (.inl ri)], (zs (zup h 104 1 0) hl))) rfl (by first | assumption | (unfold zr; omega)) ?_
      refine zH_call (M' := 103) (as := [.inr (.inl ri), .inr (.inl 0), .inr (.inl ((h 121 0) - 1))]) (T := []) rfl (p_in (by first | assumption | exact zr_l (by assumption) | (unfold zrl; omega)) ⟨by decide, by decide⟩ (by first | assumption | exact zr_l (by assumption) | (unfold zrl; omega))) (fun r σ' p_4 => ?_)
      rcases p_4 with ⟨rfl, b_5, rfl⟩ | ⟨rfl, b_5, rfl⟩
      · show zH _ _ (52, [some (.inr (.inr (some 104))), some (.inl 0), some (.inl ri), none, none, none, none, none], [.inl 1], (zs (zup h 104 1 0) hl)) _
        refine zH_bf (x := 1) (y := 0) (k := .eq) (c1 := (78, [some (.inr (.inr (some 104))), some (.inl 0), some (.inl ri), none, none, none, none, none], [], (zs (zup h 104 1 0) hl))) (c2 := (55, [some (.inr (.inr (some 104))), some (.inl 0), some (.inl ri), none, none, none, none, none], [], (zs (zup h 104 1 0) hl))) rfl ⟨by decide, by decide⟩ ⟨by decide, by decide⟩ (by show ¬ (1 = 0); decide) ?_
        obtain ⟨R, rfl⟩ := Int.eq_ofNat_of_zero_le (show 0 ≤ ri by omega)
        show zH _ _ (55, [some (.inr (.inr (some 104))), some (.inl 0), some (.inl (R : Int)), none, none, none, none, none], [], (zs (zup h 104 1 0) hl)) _
        have h2R := h122 R (by omega)
        have h2R : h 122 (0 + R) = -9 ∨ (0 ≤ h 122 (0 + R) ∧ h 122 (0 + R) ≤ 8) := h2R
        refine zH_go 7 (c' := (64, [some (.inr (.inr (some 104))), some (.inl 0), some (.inl (R : Int)), none, none, none, none, none], [.inl (0 + (R : Int)), .inr (.inr (some 122))], (zs (zup h 104 1 0) hl))) rfl ?_
        refine zH_np (P := 0 ≤ (0 + (R : Int)) ∧ (0 + (R : Int)) < ((12 : Nat) : Int)) (c' := (65, [some (.inr (.inr (some 104))), some (.inl 0), some (.inl (R : Int)), none, none, none, none, none], [.inl (h 122 (0 + R))], (zs (zup h 104 1 0) hl))) rfl ⟨by omega, by omega⟩ ?_
        refine zH_go 1 (c' := (67, [some (.inr (.inr (some 104))), some (.inl 0), some (.inl (R : Int)), none, none, none, none, none], [.inl (-9), .inl (h 122 (0 + R))], (zs (zup h 104 1 0) hl))) rfl ?_
        refine zH_br (x := (h 122 (0 + R))) (y := (-9)) (k := .ne) (c1 := (78, [some (.inr (.inr (some 104))), some (.inl 0), some (.inl (R : Int)), none, none, none, none, none], [], (zs (zup h 104 1 0) hl))) (c2 := (70, [some (.inr (.inr (some 104))), some (.inl 0), some (.inl (R : Int)), none, none, none, none, none], [], (zs (zup h 104 1 0) hl))) rfl (by first | assumption | (unfold zr; omega)) ⟨by decide, by decide⟩ (fun (b_6 : ¬ (h 122 (0 + R)) = (-9)) => ?_) (fun (b_6 : ¬ (¬ (h 122 (0 + R)) = (-9))) => ?_)
        · refine zH_go 1 (c' := (79, [some (.inr (.inr (some 104))), some (.inl 0), some (.inl (R : Int)), none, none, none, none, none], [.inl (R : Int)], (zs (zup h 104 1 0) hl))) rfl ?_
          refine zH_np (P := zr (R : Int)) (c' := (80, [some (.inr (.inr (some 104))), some (.inl 0), some (.inl (R : Int)), none, none, none, none, none], [.inr (.inl (R : Int))], (zs (zup h 104 1 0) hl))) rfl (by first | assumption | (unfold zr; omega)) ?_
          refine zH_go 4 (c' := (86, [some (.inr (.inr (some 104))), some (.inl 0), some (.inl (R : Int)), none, none, none, none, none], [.inl 0, .inr (.inr (some 121)), .inr (.inl 0), .inr (.inl (R : Int))], (zs (zup h 104 1 0) hl))) rfl ?_
          refine zH_np (P := 0 ≤ 0 ∧ 0 < ((3 : Nat) : Int)) (c' := (87, [some (.inr (.inr (some 104))), some (.inl 0), some (.inl (R : Int)), none, none, none, none, none], [.inl (h 121 0), .inr (.inl 0), .inr (.inl (R : Int))], (zs (zup h 104 1 0) hl))) rfl ⟨by decide, by decide⟩ ?_
          refine zH_go 2 (c' := (89, [some (.inr (.inr (some 104))), some (.inl 0), some (.inl (R : Int)), none, none, none, none, none], [.inl ((h 121 0) - 1), .inr (.inl 0), .inr (.inl (R : Int))], (zs (zup h 104 1 0) hl))) rfl ?_
          refine zH_np (P := zr ((h 121 0) - 1)) (c' := (90, [some (.inr (.inr (some 104))), some (.inl 0), some (.inl (R : Int)), none, none, none, none, none], [.inr (.inl ((h 121 0) - 1)), .inr (.inl 0), .inr (.inl (R : Int))], (zs (zup h 104 1 0) hl))) rfl (by first | assumption | (unfold zr; omega)) ?_
          refine zH_call (M' := 103) (as := [.inr (.inl (R : Int)), .inr (.inl 0), .inr (.inl ((h 121 0) - 1))]) (T := []) rfl (p_in (by first | assumption | exact zr_l (by assumption) | (unfold zrl; omega)) ⟨by decide, by decide⟩ (by first | assumption | exact zr_l (by assumption) | (unfold zrl; omega))) (fun r σ' p_7 => ?_)
          rcases p_7 with ⟨rfl, b_8, rfl⟩ | ⟨rfl, b_8, rfl⟩
          · show zH _ _ (93, [some (.inr (.inr (some 104))), some (.inl 0), some (.inl (R : Int)), none, none, none, none, none], [.inl 1], (zs (zup h 104 1 0) hl)) _
            refine zH_bt (x := 1) (y := 0) (k := .ne) (c1 := (104, [some (.inr (.inr (some 104))), some (.inl 0), some (.inl (R : Int)), none, none, none, none, none], [], (zs (zup h 104 1 0) hl))) (c2 := (96, [some (.inr (.inr (some 104))), some (.inl 0), some (.inl (R : Int)), none, none, none, none, none], [], (zs (zup h 104 1 0) hl))) rfl ⟨by decide, by decide⟩ ⟨by decide, by decide⟩ (by show ¬ 1 = 0; decide) ?_
            obtain ⟨S, eS⟩ := Int.eq_ofNat_of_zero_le (show 0 ≤ h 122 (0 + R) by omega)
            have eS : h 122 (0 + R) = (S : Int) := eS
            refine zH_go 4 (c' := (109, [some (.inr (.inr (some 104))), some (.inl 0), some (.inl (R : Int)), some (.inl 0), some (.inl 0), none, none, none], [], (zs (zup h 104 1 0) hl))) rfl ?_
            refine zH_lp (X := (Nat → Nat → Int) × (Nat → Nat → Int) × zDS × (Option zV) × (Option zV)) (F := fun (kq : Nat) (x : (Nat → Nat → Int) × (Nat → Nat → Int) × zDS × (Option zV) × (Option zV)) => (109, [some (.inr (.inr (some 104))), some (.inl 0), some (.inl (R : Int)), some (.inl (kq : Int)), some (.inl (kq : Int)), x.2.2.2.1, none, x.2.2.2.2], [], (zs x.1 x.2.1))) (I := fun (kq : Nat) (x : (Nat → Nat → Int) × (Nat → Nat → Int) × zDS × (Option zV) × (Option zV)) => zDm x.1 x.2.1 p L B (n + kq) x.2.2.1 ∧ zCh h L B K (fun q => Int.toNat (hl 123 (0 + 8 * R + q))) n s0 kq x.2.2.1 ∧ (∀ q : Nat, q < kq → zCDec (h 104 3) (h 104 9) ((n + q : Nat) : Int) (hl 123 (0 + 8 * R + q)) 0) ∧ zMH x.1 p L B (n + kq) x.2.2.1 ∧ (∀ i : Nat, i < 3 → x.2.2.1.2.1 i ≤ 1500 * ((n + kq : Nat) : Int)) ∧ (∀ c : Nat, c < 104 → x.1 c = h c) ∧ (∀ c : Nat, (105 ≤ c ∧ c < 109) ∨ 118 ≤ c → x.1 c = h c) ∧ (∀ j : Nat, j ≠ 1 → j ≠ 14 → j ≠ 15 → x.1 104 j = h 104 j) ∧ x.1 104 1 = 0 ∧ ∀ c : Nat, c ≠ 104 → x.2.1 c = hl c) (N := S) (fun k x hk hI ih => ?_) (fun x hI => ?_) 0 ((zup h 104 1 0), hl, s0, none, none) (by omega) ?_
            · obtain ⟨g, gl, s, x5, x7⟩ := x
              replace hI : zDm g gl p L B (n + k) s ∧ zCh h L B K (fun q => Int.toNat (hl 123 (0 + 8 * R + q))) n s0 k s ∧ (∀ q : Nat, q < k → zCDec (h 104 3) (h 104 9) ((n + q : Nat) : Int) (hl 123 (0 + 8 * R + q)) 0) ∧ zMH g p L B (n + k) s ∧ (∀ i : Nat, i < 3 → s.2.1 i ≤ 1500 * ((n + k : Nat) : Int)) ∧ (∀ c : Nat, c < 104 → g c = h c) ∧ (∀ c : Nat, (105 ≤ c ∧ c < 109) ∨ 118 ≤ c → g c = h c) ∧ (∀ j : Nat, j ≠ 1 → j ≠ 14 → j ≠ 15 → g 104 j = h 104 j) ∧ g 104 1 = 0 ∧ ∀ c : Nat, c ≠ 104 → gl c = hl c := hI
              show zH _ _ (109, [some (.inr (.inr (some 104))), some (.inl 0), some (.inl (R : Int)), some (.inl (k : Int)), some (.inl (k : Int)), x5, none, x7], [], (zs g gl)) _
              obtain ⟨I1, I2, I3, I4, I5, I6, I7, I8, I9, I10⟩ := hI
              have e122 : g 122 (0 + R) = (S : Int) := by rw [I7 122 (Or.inr (by decide))]; exact eS
              have e3 : g 104 3 = (p : Int) := by rw [I8 3 (by decide) (by decide) (by decide)]; exact h3
              have e9 : g 104 9 = (L : Int) := by rw [I8 9 (by decide) (by decide) (by decide)]; exact m9
              have e15 : g 104 15 = ((n + k : Nat) : Int) := I1.2.2.2.1
              have hnk := I4.2.2.2.2.2.2.1
              refine zH_go 8 (c' := (120, [some (.inr (.inr (some 104))), some (.inl 0), some (.inl (R : Int)), some (.inl (k : Int)), some (.inl (k : Int)), x5, none, x7], [.inl (0 + (R : Int)), .inr (.inr (some 122)), .inl (k : Int)], (zs g gl))) rfl ?_
              refine zH_np (P := 0 ≤ (0 + (R : Int)) ∧ (0 + (R : Int)) < ((12 : Nat) : Int)) (c' := (121, [some (.inr (.inr (some 104))), some (.inl 0), some (.inl (R : Int)), some (.inl (k : Int)), some (.inl (k : Int)), x5, none, x7], [.inl (g 122 (0 + R)), .inl (k : Int)], (zs g gl))) rfl ⟨by omega, by omega⟩ ?_
              rw [e122]
              refine zH_bf (x := (k : Int)) (y := (S : Int)) (k := .ge) (c1 := (220, [some (.inr (.inr (some 104))), some (.inl 0), some (.inl (R : Int)), some (.inl (k : Int)), some (.inl (k : Int)), x5, none, x7], [], (zs g gl))) (c2 := (124, [some (.inr (.inr (some 104))), some (.inl 0), some (.inl (R : Int)), some (.inl (k : Int)), some (.inl (k : Int)), x5, none, x7], [], (zs g gl))) rfl (by first | assumption | (unfold zr; omega)) (by first | assumption | (unfold zr; omega)) (by show ¬ (¬ (k : Int) < (S : Int)); omega) ?_
              refine zH_go 11 (c' := (140, [some (.inr (.inr (some 104))), some (.inl 0), some (.inl (R : Int)), some (.inl (k : Int)), some (.inl (k : Int)), x5, none, x7], [.inl ((0 + (8 * (R : Int))) + (k : Int)), .inr (.inr (some 123))], (zs g gl))) rfl ?_
              refine zH_np (P := 0 ≤ ((0 + (8 * (R : Int))) + (k : Int)) ∧ ((0 + (8 * (R : Int))) + (k : Int)) < ((96 : Nat) : Int)) (c' := (141, [some (.inr (.inr (some 104))), some (.inl 0), some (.inl (R : Int)), some (.inl (k : Int)), some (.inl (k : Int)), x5, none, x7], [.inr (.inl (gl 123 ((0 + (8 * R)) + k)))], (zs g gl))) rfl ⟨by omega, by omega⟩ ?_
              obtain ⟨v, hv⟩ : ∃ v, v = hl 123 (0 + 8 * R + k) := ⟨_, rfl⟩
              have hzv : zrl v := by rw [hv]; exact h123 R k (by omega) (by omega)
              rw [show (gl 123 ((0 + (8 * R)) + k)) = v from by rw [I10 123 (by decide)]; exact hv.symm]
              show zH _ _ (141, [some (.inr (.inr (some 104))), some (.inl 0), some (.inl (R : Int)), some (.inl (k : Int)), some (.inl (k : Int)), x5, none, x7], [.inr (.inl v)], (zs g gl)) _
              refine zH_go 5 (c' := (150, [some (.inr (.inr (some 104))), some (.inl 0), some (.inl (R : Int)), some (.inl (k : Int)), some (.inl (k : Int)), some (.inr (.inl v)), none, x7], [.inl (g 104 3), .inr (.inl 0), .inr (.inl v)], (zs g gl))) rfl ?_
              rw [e3]
              refine zH_go 2 (c' := (152, [some (.inr (.inr (some 104))), some (.inl 0), some (.inl (R : Int)), some (.inl (k : Int)), some (.inl (k : Int)), some (.inr (.inl v)), none, x7], [.inl ((p : Int) - 1), .inr (.inl 0), .inr (.inl v)], (zs g gl))) rfl ?_
              refine zH_np (P := zr ((p : Int) - 1)) (c' := (153, [some (.inr (.inr (some 104))), some (.inl 0), some (.inl (R : Int)), some (.inl (k : Int)), some (.inl (k : Int)), some (.inr (.inl v)), none, x7], [.inr (.inl ((p : Int) - 1)), .inr (.inl 0), .inr (.inl v)], (zs g gl))) rfl (by first | assumption | (unfold zr; omega)) ?_
              refine zH_call (M' := 103) (as := [.inr (.inl v), .inr (.inl 0), .inr (.inl ((p : Int) - 1))]) (T := []) rfl (p_in (by first | assumption | exact zr_l (by assumption) | (unfold zrl; omega)) ⟨by decide, by decide⟩ (by first | assumption | exact zr_l (by assumption) | (unfold zrl; omega))) (fun r σ' p_9 => ?_)
              rcases p_9 with ⟨rfl, b_10, rfl⟩ | ⟨rfl, b_10, rfl⟩
              · show zH _ _ (156, [some (.inr (.inr (some 104))), some (.inl 0), some (.inl (R : Int)), some (.inl (k : Int)), some (.inl (k : Int)), some (.inr (.inl v)), none, x7], [.inl 1], (zs g gl)) _
                refine zH_bt (x := 1) (y := 0) (k := .ne) (c1 := (166, [some (.inr (.inr (some 104))), some (.inl 0), some (.inl (R : Int)), some (.inl (k : Int)), some (.inl (k : Int)), some (.inr (.inl v)), none, x7], [], (zs g gl))) (c2 := (159, [some (.inr (.inr (some 104))), some (.inl 0), some (.inl (R : Int)), some (.inl (k : Int)), some (.inl (k : Int)), some (.inr (.inl v)), none, x7], [], (zs g gl))) rfl ⟨by decide, by decide⟩ ⟨by decide, by decide⟩ (by show ¬ 1 = 0; decide) ?_
                obtain ⟨u, hu⟩ := Int.eq_ofNat_of_zero_le (show 0 ≤ v by omega)
                have hu : v = (u : Int) := hu
                refine zH_go 2 (c' := (170, [some (.inr (.inr (some 104))), some (.inl 0), some (.inl (R : Int)), some (.inl (k : Int)), some (.inl (k : Int)), some (.inr (.inl v)), none, x7], [.inl (g 104 9)], (zs g gl))) rfl ?_
                rw [e9]
                refine zH_bf (x := (L : Int)) (y := 0) (k := .eq) (c1 := (182, [some (.inr (.inr (some 104))), some (.inl 0), some (.inl (R : Int)), some (.inl (k : Int)), some (.inl (k : Int)), some (.inr (.inl v)), none, x7], [], (zs g gl))) (c2 := (173, [some (.inr (.inr (some 104))), some (.inl 0), some (.inl (R : Int)), some (.inl (k : Int)), some (.inl (k : Int)), some (.inr (.inl v)), none, x7], [], (zs g gl))) rfl (by first | assumption | (unfold zr; omega)) ⟨by decide, by decide⟩ (by show ¬ ((L : Int) = 0); omega) ?_
                refine zH_go 2 (c' := (177, [some (.inr (.inr (some 104))), some (.inl 0), some (.inl (R : Int)), some (.inl (k : Int)), some (.inl (k : Int)), some (.inr (.inl v)), none, x7], [.inl (g 104 15)], (zs g gl))) rfl ?_
                rw [e15]
                refine zH_go 1 (c' := (179, [some (.inr (.inr (some 104))), some (.inl 0), some (.inl (R : Int)), some (.inl (k : Int)), some (.inl (k : Int)), some (.inr (.inl v)), none, x7], [.inl 12, .inl ((n + k : Nat) : Int)], (zs g gl))) rfl ?_
                refine zH_br (x := ((n + k : Nat) : Int)) (y := 12) (k := .ne) (c1 := (202, [some (.inr (.inr (some 104))), some (.inl 0), some (.inl (R : Int)), some (.inl (k : Int)), some (.inl (k : Int)), some (.inr (.inl v)), none, x7], [], (zs g gl))) (c2 := (182, [some (.inr (.inr (some 104))), some (.inl 0), some (.inl (R : Int)), some (.inl (k : Int)), some (.inl (k : Int)), some (.inr (.inl v)), none, x7], [], (zs g gl))) rfl (by first | assumption | (unfold zr; omega)) ⟨by decide, by decide⟩ (fun (b_11 : ¬ ((n + k : Nat) : Int) = 12) => ?_) (fun (b_11 : ¬ (¬ ((n + k : Nat) : Int) = 12)) => ?_)
                · refine zH_go 3 (c' := (206, [some (.inr (.inr (some 104))), some (.inl 0), some (.inl (R : Int)), some (.inl (k : Int)), some (.inl (k : Int)), some (.inr (.inl v)), none, x7], [.inl (Int.bmod v 4294967296), .inr (.inr (some 104))], (zs g gl))) rfl ?_
                  rw [zbm_id (show zr v from ⟨by omega, by omega⟩), hu]
                  show zH _ _ (206, [some (.inr (.inr (some 104))), some (.inl 0), some (.inl (R : Int)), some (.inl (k : Int)), some (.inl (k : Int)), some (.inr (.inl (u : Int))), none, x7], [.inl (u : Int), .inr (.inr (some 104))], (zs g gl)) _
                  refine zH_call (M' := 127) (as := [.inr (.inr (some 104)), .inl (u : Int)]) (T := []) rfl (p_comes (pp := u) (K := K) I4 I1 (by omega) (by omega) (by rw [I8 11 (by decide) (by decide) (by decide)]; exact hK11) hK) (fun r' σ' pm => ?_)
                  obtain ⟨l, tr, g', gl', c1, rfl, rfl, c2, c3, c4, c5, c6⟩ := pm
                  have hcs : ∀ c : Nat, 12 ≤ c → c < 20 → g c = h c := fun c c1 c2 => I6 c (by omega)
                  have hs6k := I4.2.2.2.2.2.2.2.1
                  have hplk := I4.2.2.2.2.2.2.2.2.2.2.2.1
                  have c1h : zPkS h L B K (n + k) u s l tr := zPkS_same hcs hL3.2 hs6k (by omega) (fun j hj => by have := hplk j hj; omega) c1
                  have hst := zMH_step (K := K) (tr := tr) I4 (show n + k < 12 by omega) (show u < p by omega) I5 c1.1
                  have eUp : zUp g K (n + k) u l tr s = zUp h K (n + k) u l tr s := zUp_same hcs (hs6k l (by have := c1.1; omega))
                  rw [eUp] at c2 hst
                  have hPk : Int.toNat (hl 123 (0 + 8 * R + k)) = u := by rw [← hv, hu, Int.toNat_natCast]
                  have hI5 : zDm g' gl' p L B (n + (k + 1)) (zUp h K (n + k) u l tr s) ∧ zCh h L B K (fun q => Int.toNat (hl 123 (0 + 8 * R + q))) n s0 (k + 1) (zUp h K (n + k) u l tr s) ∧ (∀ q : Nat, q < (k + 1) → zCDec (h 104 3) (h 104 9) ((n + q : Nat) : Int) (hl 123 (0 + 8 * R + q)) 0) ∧ zMH g' p L B (n + (k + 1)) (zUp h K (n + k) u l tr s) ∧ (∀ i : Nat, i < 3 → (zUp h K (n + k) u l tr s).2.1 i ≤ 1500 * ((n + (k + 1) : Nat) : Int)) ∧ (∀ c : Nat, c < 104 → g' c = h c) ∧ (∀ c : Nat, (105 ≤ c ∧ c < 109) ∨ 118 ≤ c → g' c = h c) ∧ (∀ j : Nat, j ≠ 1 → j ≠ 14 → j ≠ 15 → g' 104 j = h 104 j) ∧ g' 104 1 = 0 ∧ ∀ c : Nat, c ≠ 104 → gl' c = hl c := ⟨c2, ⟨s, l, tr, I2, by dsimp only; rw [hPk]; exact c1h, by dsimp only; rw [hPk]⟩, fun q hq => (by
                      by_cases w : q = k
                      · rw [w, ← hv]
                        unfold zCDec
                        omega
                      · exact I3 q (by omega)), zMH_same hst.1 (fun c hc => by rw [c3 c (by omega)]) (fun i j hi hj => by rw [c4 108 (Or.inl (by decide))]) (c5 3 (by decide) (by decide)), hst.2, fun c hc => by rw [c3 c hc]; exact I6 c hc, fun c hc => by rw [c4 c (by omega)]; exact I7 c hc, fun j h1 h2 h3 => by rw [c5 j h2 h3]; exact I8 j h1 h2 h3, by rw [c5 1 (by decide) (by decide)]; exact I9, fun c hc => by rw [c6 c hc]; exact I10 c hc⟩
                  show zH _ _ (209, [some (.inr (.inr (some 104))), some (.inl 0), some (.inl (R : Int)), some (.inl (k : Int)), some (.inl (k : Int)), some (.inr (.inl (u : Int))), none, x7], [.inl (l : Int)], (zs g' gl')) _
                  refine zH_go 4 (c' := (109, [some (.inr (.inr (some 104))), some (.inl 0), some (.inl (R : Int)), some (.inl ((k : Int) + 1)), some (.inl ((k : Int) + 1)), some (.inr (.inl (u : Int))), none, some (.inl (l : Int))], [], (zs g' gl'))) rfl ?_
                  refine ih (g', gl', (zUp h K (n + k) u l tr s), (some (.inr (.inl (u : Int)))), (some (.inl (l : Int)))) ?_
                  show zDm g' gl' p L B (n + (k + 1)) (zUp h K (n + k) u l tr s) ∧ zCh h L B K (fun q => Int.toNat (hl 123 (0 + 8 * R + q))) n s0 (k + 1) (zUp h K (n + k) u l tr s) ∧ (∀ q : Nat, q < (k + 1) → zCDec (h 104 3) (h 104 9) ((n + q : Nat) : Int) (hl 123 (0 + 8 * R + q)) 0) ∧ zMH g' p L B (n + (k + 1)) (zUp h K (n + k) u l tr s) ∧ (∀ i : Nat, i < 3 → (zUp h K (n + k) u l tr s).2.1 i ≤ 1500 * ((n + (k + 1) : Nat) : Int)) ∧ (∀ c : Nat, c < 104 → g' c = h c) ∧ (∀ c : Nat, (105 ≤ c ∧ c < 109) ∨ 118 ≤ c → g' c = h c) ∧ (∀ j : Nat, j ≠ 1 → j ≠ 14 → j ≠ 15 → g' 104 j = h 104 j) ∧ g' 104 1 = 0 ∧ ∀ c : Nat, c ≠ 104 → gl' c = hl c
                  exact hI5
                · refine zH_go 3 (c' := (187, [some (.inr (.inr (some 104))), some (.inl 0), some (.inl (R : Int)), some (.inl (k : Int)), some (.inl (k : Int)), some (.inr (.inl v)), none, x7], [.inl (g 104 9), .inr (.inr (some 104))], (zs g gl))) rfl ?_
                  refine zH_br (x := (g 104 9)) (y := 0) (k := .ne) (c1 := (195, [some (.inr (.inr (some 104))), some (.inl 0), some (.inl (R : Int)), some (.inl (k : Int)), some (.inl (k : Int)), some (.inr (.inl v)), none, x7], [.inr (.inr (some 104))], (zs g gl))) (c2 := (190, [some (.inr (.inr (some 104))), some (.inl 0), some (.inl (R : Int)), some (.inl (k : Int)), some (.inl (k : Int)), some (.inr (.inl v)), none, x7], [.inr (.inr (some 104))], (zs g gl))) rfl (by first | assumption | (unfold zr; omega)) ⟨by decide, by decide⟩ (fun (b_12 : ¬ (g 104 9) = 0) => ?_) (fun (b_12 : ¬ (¬ (g 104 9) = 0)) => ?_)
                  · refine zH_go 3 (c' := (201, [some (.inr (.inr (some 104))), some (.inl 0), some (.inl (R : Int)), some (.inl (k : Int)), some (.inl (k : Int)), some (.inr (.inl v)), none, x7], [.inl (k : Int)], (zs (zup g 104 1 (-3)) gl))) rfl ?_
                    refine zH_ret (v := some (.inl (k : Int))) rfl (fun q => absurd q (by decide)) ?_
                    refine Or.inr (Or.inr ⟨R, S, k, (-3), s, _, gl, rfl, by omega, by omega, eS, rfl, rfl, zDm_same I1 (fun c hc => by funext q; exact zup_ne (by omega)) (fun i j hi hj => zup_ne (by decide)) ⟨zup_k (by decide), zup_k (by decide), zup_k (by decide), zup_k (by decide)⟩ rfl (fun j hj => by have := I4.2.2.2.2.2.2.2.2.2.2.2.1 j hj; omega), I2, I3, Or.inr ⟨by omega, by decide, ?_⟩, fun c hc => by rw [← I6 c hc]; funext q; exact zup_ne (by omega), fun c hc => by rw [← I7 c hc]; funext q; exact zup_ne (by omega), fun j h1 h2 h3 => by rw [zup_k h1]; exact I8 j h1 h2 h3, zup_eq, I10⟩)
                    rw [← hv]
                    unfold zCDec
                    omega
                  · refine zH_go 4 (c' := (201, [some (.inr (.inr (some 104))), some (.inl 0), some (.inl (R : Int)), some (.inl (k : Int)), some (.inl (k : Int)), some (.inr (.inl v)), none, x7], [.inl (k : Int)], (zs (zup g 104 1 (-2)) gl))) rfl ?_
                    refine zH_ret (v := some (.inl (k : Int))) rfl (fun q => absurd q (by decide)) ?_
                    refine Or.inr (Or.inr ⟨R, S, k, (-2), s, _, gl, rfl, by omega, by omega, eS, rfl, rfl, zDm_same I1 (fun c hc => by funext q; exact zup_ne (by omega)) (fun i j hi hj => zup_ne (by decide)) ⟨zup_k (by decide), zup_k (by decide), zup_k (by decide), zup_k (by decide)⟩ rfl (fun j hj => by have := I4.2.2.2.2.2.2.2.2.2.2.2.1 j hj; omega), I2, I3, Or.inr ⟨by omega, by decide, ?_⟩, fun c hc => by rw [← I6 c hc]; funext q; exact zup_ne (by omega), fun c hc => by rw [← I7 c hc]; funext q; exact zup_ne (by omega), fun j h1 h2 h3 => by rw [zup_k h1]; exact I8 j h1 h2 h3, zup_eq, I10⟩)
                    rw [← hv]
                    unfold zCDec
                    omega
              · show zH _ _ (156, [some (.inr (.inr (some 104))), some (.inl 0), some (.inl (R : Int)), some (.inl (k : Int)), some (.inl (k : Int)), some (.inr (.inl v)), none, x7], [.inl 0], (zs g gl)) _
                refine zH_bf (x := 0) (y := 0) (k := .ne) (c1 := (166, [some (.inr (.inr (some 104))), some (.inl 0), some (.inl (R : Int)), some (.inl (k : Int)), some (.inl (k : Int)), some (.inr (.inl v)), none, x7], [], (zs g gl))) (c2 := (159, [some (.inr (.inr (some 104))), some (.inl 0), some (.inl (R : Int)), some (.inl (k : Int)), some (.inl (k : Int)), some (.inr (.inl v)), none, x7], [], (zs g gl))) rfl ⟨by decide, by decide⟩ ⟨by decide, by decide⟩ (by show ¬ (¬ 0 = 0); decide) ?_
                refine zH_go 4 (c' := (165, [some (.inr (.inr (some 104))), some (.inl 0), some (.inl (R : Int)), some (.inl (k : Int)), some (.inl (k : Int)), some (.inr (.inl v)), none, x7], [.inl (k : Int)], (zs (zup g 104 1 (-1)) gl))) rfl ?_
                refine zH_ret (v := some (.inl (k : Int))) rfl (fun q => absurd q (by decide)) ?_
                refine Or.inr (Or.inr ⟨R, S, k, (-1), s, _, gl, rfl, by omega, by omega, eS, rfl, rfl, zDm_same I1 (fun c hc => by funext q; exact zup_ne (by omega)) (fun i j hi hj => zup_ne (by decide)) ⟨zup_k (by decide), zup_k (by decide), zup_k (by decide), zup_k (by decide)⟩ rfl (fun j hj => by have := I4.2.2.2.2.2.2.2.2.2.2.2.1 j hj; omega), I2, I3, Or.inr ⟨by omega, by decide, ?_⟩, fun c hc => by rw [← I6 c hc]; funext q; exact zup_ne (by omega), fun c hc => by rw [← I7 c hc]; funext q; exact zup_ne (by omega), fun j h1 h2 h3 => by rw [zup_k h1]; exact I8 j h1 h2 h3, zup_eq, I10⟩)
                rw [← hv]
                unfold zCDec
                omega
            · obtain ⟨g, gl, s, x5, x7⟩ := x
              replace hI : zDm g gl p L B (n + S) s ∧ zCh h L B K (fun q => Int.toNat (hl 123 (0 + 8 * R + q))) n s0 S s ∧ (∀ q : Nat, q < S → zCDec (h 104 3) (h 104 9) ((n + q : Nat) : Int) (hl 123 (0 + 8 * R + q)) 0) ∧ zMH g p L B (n + S) s ∧ (∀ i : Nat, i < 3 → s.2.1 i ≤ 1500 * ((n + S : Nat) : Int)) ∧ (∀ c : Nat, c < 104 → g c = h c) ∧ (∀ c : Nat, (105 ≤ c ∧ c < 109) ∨ 118 ≤ c → g c = h c) ∧ (∀ j : Nat, j ≠ 1 → j ≠ 14 → j ≠ 15 → g 104 j = h 104 j) ∧ g 104 1 = 0 ∧ ∀ c : Nat, c ≠ 104 → gl c = hl c := hI
              show zH _ _ (109, [some (.inr (.inr (some 104))), some (.inl 0), some (.inl (R : Int)), some (.inl (S : Int)), some (.inl (S : Int)), x5, none, x7], [], (zs g gl)) _
              obtain ⟨I1, I2, I3, I4, I5, I6, I7, I8, I9, I10⟩ := hI
              have e122 : g 122 (0 + R) = (S : Int) := by rw [I7 122 (Or.inr (by decide))]; exact eS
              refine zH_go 8 (c' := (120, [some (.inr (.inr (some 104))), some (.inl 0), some (.inl (R : Int)), some (.inl (S : Int)), some (.inl (S : Int)), x5, none, x7], [.inl (0 + (R : Int)), .inr (.inr (some 122)), .inl (S : Int)], (zs g gl))) rfl ?_
              refine zH_np (P := 0 ≤ (0 + (R : Int)) ∧ (0 + (R : Int)) < ((12 : Nat) : Int)) (c' := (121, [some (.inr (.inr (some 104))), some (.inl 0), some (.inl (R : Int)), some (.inl (S : Int)), some (.inl (S : Int)), x5, none, x7], [.inl (g 122 (0 + R)), .inl (S : Int)], (zs g gl))) rfl ⟨by omega, by omega⟩ ?_
              rw [e122]
              refine zH_bt (x := (S : Int)) (y := (S : Int)) (k := .ge) (c1 := (220, [some (.inr (.inr (some 104))), some (.inl 0), some (.inl (R : Int)), some (.inl (S : Int)), some (.inl (S : Int)), x5, none, x7], [], (zs g gl))) (c2 := (124, [some (.inr (.inr (some 104))), some (.inl 0), some (.inl (R : Int)), some (.inl (S : Int)), some (.inl (S : Int)), x5, none, x7], [], (zs g gl))) rfl (by first | assumption | (unfold zr; omega)) (by first | assumption | (unfold zr; omega)) (by show ¬ (S : Int) < (S : Int); omega) ?_
              refine zH_go 1 (c' := (221, [some (.inr (.inr (some 104))), some (.inl 0), some (.inl (R : Int)), some (.inl (S : Int)), some (.inl (S : Int)), x5, none, x7], [.inl (S : Int)], (zs g gl))) rfl ?_
              refine zH_ret (v := some (.inl (S : Int))) rfl (fun q => absurd q (by decide)) ?_
              exact Or.inr (Or.inr ⟨R, S, S, 0, s, g, gl, rfl, by omega, by omega, eS, rfl, rfl, I1, I2, I3, Or.inl ⟨rfl, rfl⟩, I6, I7, I8, I9, I10⟩)
            · show zDm (zup h 104 1 0) hl p L B (n + 0) s0 ∧ zCh h L B K (fun q => Int.toNat (hl 123 (0 + 8 * R + q))) n s0 0 s0 ∧ (∀ q : Nat, q < 0 → zCDec (h 104 3) (h 104 9) ((n + q : Nat) : Int) (hl 123 (0 + 8 * R + q)) 0) ∧ zMH (zup h 104 1 0) p L B (n + 0) s0 ∧ (∀ i : Nat, i < 3 → s0.2.1 i ≤ 1500 * ((n + 0 : Nat) : Int)) ∧ (∀ c : Nat, c < 104 → (zup h 104 1 0) c = h c) ∧ (∀ c : Nat, (105 ≤ c ∧ c < 109) ∨ 118 ≤ c → (zup h 104 1 0) c = h c) ∧ (∀ j : Nat, j ≠ 1 → j ≠ 14 → j ≠ 15 → (zup h 104 1 0) 104 j = h 104 j) ∧ (zup h 104 1 0) 104 1 = 0 ∧ ∀ c : Nat, c ≠ 104 → hl c = hl c
              refine ⟨zDm_same hM (fun c hc => by funext q; exact zup_ne (by omega)) (fun i j hi hj => zup_ne (by decide)) ⟨zup_k (by decide), zup_k (by decide), zup_k (by decide), zup_k (by decide)⟩ rfl (fun j hj => by have := hpl j hj; omega), rfl, fun q hq => absurd hq (Nat.not_lt_zero q), zMH_same hH (fun c hc => by funext q; exact zup_ne (by omega)) (fun i j hi hj => zup_ne (by decide)) (zup_k (by decide)), hb0, fun c hc => by funext q; exact zup_ne (by omega), fun c hc => by funext q; exact zup_ne (by omega), fun j h1 _ _ => zup_k h1, zup_eq, fun c _ => rfl⟩
          · show zH _ _ (93, [some (.inr (.inr (some 104))), some (.inl 0), some (.inl (R : Int)), none, none, none, none, none], [.inl 0], (zs (zup h 104 1 0) hl)) _
            refine zH_bf (x := 0) (y := 0) (k := .ne) (c1 := (104, [some (.inr (.inr (some 104))), some (.inl 0), some (.inl (R : Int)), none, none, none, none, none], [], (zs (zup h 104 1 0) hl))) (c2 := (96, [some (.inr (.inr (some 104))), some (.inl 0), some (.inl (R : Int)), none, none, none, none, none], [], (zs (zup h 104 1 0) hl))) rfl ⟨by decide, by decide⟩ ⟨by decide, by decide⟩ (by show ¬ (¬ 0 = 0); decide) ?_
            refine zH_go 4 (c' := (103, [some (.inr (.inr (some 104))), some (.inl 0), some (.inl (R : Int)), none, none, none, none, none], [.inl 0], (zs (zup (zup h 104 1 0) 104 1 (-12)) hl))) rfl ?_
            refine zH_ret (v := some (.inl 0)) rfl (fun q => absurd q (by decide)) ?_
            exact Or.inr (Or.inl ⟨by omega, by omega, rfl, rfl⟩)
        · refine zH_go 4 (c' := (77, [some (.inr (.inr (some 104))), some (.inl 0), some (.inl (R : Int)), none, none, none, none, none], [.inl 0], (zs (zup (zup h 104 1 0) 104 1 (-11)) hl))) rfl ?_
          refine zH_ret (v := some (.inl 0)) rfl (fun q => absurd q (by decide)) ?_
          exact Or.inl ⟨by first | exact Or.inl (by omega) | exact Or.inr ⟨by omega, by rw [Int.toNat_natCast]; omega⟩, rfl, rfl⟩
      · show zH _ _ (52, [some (.inr (.inr (some 104))), some (.inl 0), some (.inl ri), none, none, none, none, none], [.inl 0], (zs (zup h 104 1 0) hl)) _
        refine zH_bt (x := 0) (y := 0) (k := .eq) (c1 := (78, [some (.inr (.inr (some 104))), some (.inl 0), some (.inl ri), none, none, none, none, none], [], (zs (zup h 104 1 0) hl))) (c2 := (55, [some (.inr (.inr (some 104))), some (.inl 0), some (.inl ri), none, none, none, none, none], [], (zs (zup h 104 1 0) hl))) rfl ⟨by decide, by decide⟩ ⟨by decide, by decide⟩ (by show 0 = 0; decide) ?_
        refine zH_go 1 (c' := (79, [some (.inr (.inr (some 104))), some (.inl 0), some (.inl ri), none, none, none, none, none], [.inl ri], (zs (zup h 104 1 0) hl))) rfl ?_
        refine zH_np (P := zr ri) (c' := (80, [some (.inr (.inr (some 104))), some (.inl 0), some (.inl ri), none, none, none, none, none], [.inr (.inl ri)], (zs (zup h 104 1 0) hl))) rfl (by first | assumption | (unfold zr; omega)) ?_
        refine zH_go 4 (c' := (86, [some (.inr (.inr (some 104))), some (.inl 0), some (.inl ri), none, none, none, none, none], [.inl 0, .inr (.inr (some 121)), .inr (.inl 0), .inr (.inl ri)], (zs (zup h 104 1 0) hl))) rfl ?_
        refine zH_np (P := 0 ≤ 0 ∧ 0 < ((3 : Nat) : Int)) (c' := (87, [some (.inr (.inr (some 104))), some (.inl 0), some (.inl ri), none, none, none, none, none], [.inl (h 121 0), .inr (.inl 0), .inr (.inl ri)], (zs (zup h 104 1 0) hl))) rfl ⟨by decide, by decide⟩ ?_
        refine zH_go 2 (c' := (89, [some (.inr (.inr (some 104))), some (.inl 0), some (.inl ri), none, none, none, none, none], [.inl ((h 121 0) - 1), .inr (.inl 0), .inr (.inl ri)], (zs (zup h 104 1 0) hl))) rfl ?_
        refine zH_np (P := zr ((h 121 0) - 1)) (c' := (90, [some (.inr (.inr (some 104))), some (.inl 0), some (.inl ri), none, none, none, none, none], [.inr (.inl ((h 121 0) - 1)), .inr (.inl 0), .inr (.inl ri)], (zs (zup h 104 1 0) hl))) rfl (by first | assumption | (unfold zr; omega)) ?_
        refine zH_call (M' := 103) (as := [.inr (.inl ri), .inr (.inl 0), .inr (.inl ((h 121 0) - 1))]) (T := []) rfl (p_in (by first | assumption | exact zr_l (by assumption) | (unfold zrl; omega)) ⟨by decide, by decide⟩ (by first | assumption | exact zr_l (by assumption) | (unfold zrl; omega))) (fun r σ' p_13 => ?_)
        rcases p_13 with ⟨rfl, b_14, rfl⟩ | ⟨rfl, b_14, rfl⟩
        · show zH _ _ (93, [some (.inr (.inr (some 104))), some (.inl 0), some (.inl ri), none, none, none, none, none], [.inl 1], (zs (zup h 104 1 0) hl)) _
          refine zH_bt (x := 1) (y := 0) (k := .ne) (c1 := (104, [some (.inr (.inr (some 104))), some (.inl 0), some (.inl ri), none, none, none, none, none], [], (zs (zup h 104 1 0) hl))) (c2 := (96, [some (.inr (.inr (some 104))), some (.inl 0), some (.inl ri), none, none, none, none, none], [], (zs (zup h 104 1 0) hl))) rfl ⟨by decide, by decide⟩ ⟨by decide, by decide⟩ (by show ¬ 1 = 0; decide) ?_
          exfalso; omega
        · show zH _ _ (93, [some (.inr (.inr (some 104))), some (.inl 0), some (.inl ri), none, none, none, none, none], [.inl 0], (zs (zup h 104 1 0) hl)) _
          refine zH_bf (x := 0) (y := 0) (k := .ne) (c1 := (104, [some (.inr (.inr (some 104))), some (.inl 0), some (.inl ri), none, none, none, none, none], [], (zs (zup h 104 1 0) hl))) (c2 := (96, [some (.inr (.inr (some 104))), some (.inl 0), some (.inl ri), none, none, none, none, none], [], (zs (zup h 104 1 0) hl))) rfl ⟨by decide, by decide⟩ ⟨by decide, by decide⟩ (by show ¬ (¬ 0 = 0); decide) ?_
          refine zH_go 4 (c' := (103, [some (.inr (.inr (some 104))), some (.inl 0), some (.inl ri), none, none, none, none, none], [.inl 0], (zs (zup (zup h 104 1 0) 104 1 (-12)) hl))) rfl ?_
          refine zH_ret (v := some (.inl 0)) rfl (fun q => absurd q (by decide)) ?_
          exact Or.inr (Or.inl ⟨by omega, by omega, rfl, rfl⟩)
  · exact absurd (by decide) b_2
set_option maxRecDepth 100000 in
set_option maxHeartbeats 4000000 in
theorem p_roadsO1 {d : Nat} {h0 h hl : Nat → Nat → Int} (e0 : zup h0 104 0 0 = h) (hB : zMbk h hl 1) {r : Nat} (hr15 : r ≤ 15) (hr4 : h 104 4 = (r : Int)) (hP : 0 ≤ h 104 3 ∧ h 104 3 ≤ 6) (hon : zr (h 104 9)) : zQ (d + 3) 148 [.inr (.inr (some 104)), .inl 1] (zs h0 hl) (fun r' σ' => (h 119 1 = 0 ∧ r' = some (.inl 0) ∧ σ' = zs (zup (zup h 104 1 0) 104 1 (-11)) hl) ∨ (¬ h 119 1 = 0 ∧ ∃ (R J : Nat) (x : Int), h 121 1 = (R : Int) ∧ r' = some (.inl (J : Int)) ∧ J ≤ R ∧ (∀ q : Nat, q < J → zRDec (h 104 3) (h 104 9) ((r + q : Nat) : Int) (h 122 (4 + q)) (hl 123 (32 + 8 * q)) (hl 123 (32 + 8 * q + 1)) (hl 123 (32 + 8 * q + 2)) 0) ∧ ((J = R ∧ x = 0 ∧ σ' = zs (zAR (zup h 104 1 0) (fun q i => hl 123 (32 + 8 * q + i)) r J) hl) ∨ (J < R ∧ ¬ x = 0 ∧ zRDec (h 104 3) (h 104 9) ((r + J : Nat) : Int) (h 122 (4 + J)) (hl 123 (32 + 8 * J)) (hl 123 (32 + 8 * J + 1)) (hl 123 (32 + 8 * J + 2)) x ∧ σ' = zs (zup (zAR (zup h 104 1 0) (fun q i => hl 123 (32 + 8 * q + i)) r J) 104 1 x) hl)))) := by
  obtain ⟨h119, h121, h120, h122, h123⟩ := hB
  have hh1 : ∀ c j : Nat, (c ≠ 104 ∨ j ≠ 1) → (zup h 104 1 0) c j = h c j := fun c j q => by rw [zup_at, if_neg (by omega)]
  refine zQ_of (Nat.le_of_ble_eq_true rfl) ?_
  show zH (d + 2) 148 (0, [some (.inr (.inr (some 104))), some (.inl 1), none, none, none, none, none], [], (zs h0 hl)) _
  refine zH_go 3 (c' := (5, [some (.inr (.inr (some 104))), some (.inl 1), none, none, none, none, none], [], (zs (zup h0 104 0 0) hl))) rfl ?_
  rw [e0]
  refine zH_go 4 (c' := (11, [some (.inr (.inr (some 104))), some (.inl 1), none, none, none, none, none], [.inl 1], (zs (zup h 104 1 0) hl))) rfl ?_
  refine zH_np (P := zr 1) (c' := (12, [some (.inr (.inr (some 104))), some (.inl 1), none, none, none, none, none], [.inr (.inl 1)], (zs (zup h 104 1 0) hl))) rfl ⟨by decide, by decide⟩ ?_
  refine zH_go 2 (c' := (16, [some (.inr (.inr (some 104))), some (.inl 1), none, none, none, none, none], [.inr (.inl 2), .inr (.inl 0), .inr (.inl 1)], (zs (zup h 104 1 0) hl))) rfl ?_
  refine zH_call (M' := 103) (as := [.inr (.inl 1), .inr (.inl 0), .inr (.inl 2)]) (T := []) rfl (p_in ⟨by decide, by decide⟩ ⟨by decide, by decide⟩ ⟨by decide, by decide⟩) (fun r σ' p_1 => ?_)
  rcases p_1 with ⟨rfl, b_2, rfl⟩ | ⟨rfl, b_2, rfl⟩
  · show zH _ _ (19, [some (.inr (.inr (some 104))), some (.inl 1), none, none, none, none, none], [.inl 1], (zs (zup h 104 1 0) hl)) _
    refine zH_bt (x := 1) (y := 0) (k := .ne) (c1 := (28, [some (.inr (.inr (some 104))), some (.inl 1), none, none, none, none, none], [], (zs (zup h 104 1 0) hl))) (c2 := (22, [some (.inr (.inr (some 104))), some (.inl 1), none, none, none, none, none], [], (zs (zup h 104 1 0) hl))) rfl ⟨by decide, by decide⟩ ⟨by decide, by decide⟩ (by show ¬ 1 = 0; decide) ?_
    refine zH_go 3 (c' := (33, [some (.inr (.inr (some 104))), some (.inl 1), none, none, none, none, none], [.inl 1, .inr (.inr (some 119))], (zs (zup h 104 1 0) hl))) rfl ?_
    refine zH_np (P := 0 ≤ 1 ∧ 1 < ((3 : Nat) : Int)) (c' := (34, [some (.inr (.inr (some 104))), some (.inl 1), none, none, none, none, none], [.inl (h 119 1)], (zs (zup h 104 1 0) hl))) rfl ⟨by decide, by decide⟩ ?_
    refine zH_br (x := (h 119 1)) (y := 0) (k := .ne) (c1 := (45, [some (.inr (.inr (some 104))), some (.inl 1), none, none, none, none, none], [], (zs (zup h 104 1 0) hl))) (c2 := (37, [some (.inr (.inr (some 104))), some (.inl 1), none, none, none, none, none], [], (zs (zup h 104 1 0) hl))) rfl (by first | assumption | (unfold zr; omega)) ⟨by decide, by decide⟩ (fun (b_3 : ¬ (h 119 1) = 0) => ?_) (fun (b_3 : ¬ (¬ (h 119 1) = 0)) => ?_)
    · refine zH_go 4 (c' := (49, [some (.inr (.inr (some 104))), some (.inl 1), some (.inl 0), some (.inl 0), none, none, none], [], (zs (zup h 104 1 0) hl))) rfl ?_
      obtain ⟨R, eR⟩ := Int.eq_ofNat_of_zero_le h121.1
      have eR : h 121 1 = (R : Int) := eR
      obtain ⟨V, eV⟩ : ∃ V : Nat → Nat → Int, V = (fun q i => hl 123 (32 + 8 * q + i)) := ⟨_, rfl⟩
      refine zH_lp (X := (Nat → Nat → Int) × (Option zV) × (Option zV) × (Option zV)) (F := fun (kq : Nat) (x : (Nat → Nat → Int) × (Option zV) × (Option zV) × (Option zV)) => (49, [some (.inr (.inr (some 104))), some (.inl 1), some (.inl (kq : Int)), some (.inl (kq : Int)), x.2.1, x.2.2.1, x.2.2.2], [], (zs x.1 hl))) (I := fun (kq : Nat) (x : (Nat → Nat → Int) × (Option zV) × (Option zV) × (Option zV)) => x.1 = zAR (zup h 104 1 0) V r kq ∧ r + kq ≤ 15 ∧ ∀ q : Nat, q < kq → zRDec (h 104 3) (h 104 9) ((r + q : Nat) : Int) (h 122 (4 + q)) (hl 123 (32 + 8 * q)) (hl 123 (32 + 8 * q + 1)) (hl 123 (32 + 8 * q + 2)) 0) (N := R) (fun k x hk hI ih => ?_) (fun x hI => ?_) 0 ((zup h 104 1 0), none, none, none) (by omega) ?_
      · obtain ⟨g, x4, x5, x6⟩ := x
        replace hI : g = zAR (zup h 104 1 0) V r k ∧ r + k ≤ 15 ∧ ∀ q : Nat, q < k → zRDec (h 104 3) (h 104 9) ((r + q : Nat) : Int) (h 122 (4 + q)) (hl 123 (32 + 8 * q)) (hl 123 (32 + 8 * q + 1)) (hl 123 (32 + 8 * q + 2)) 0 := hI
        show zH _ _ (49, [some (.inr (.inr (some 104))), some (.inl 1), some (.inl (k : Int)), some (.inl (k : Int)), x4, x5, x6], [], (zs g hl)) _
        have g0 := (zAR_o (h := (zup h 104 1 0)) (V := V) (r := r) k)
        have e121 : g 121 1 = (R : Int) := by rw [hI.1, g0.1 121 (by decide) (by decide) (by decide) (by decide), hh1 121 _ (by omega)]; exact eR
        obtain ⟨sz, hsz⟩ : ∃ sz, sz = h 122 (4 + k) := ⟨_, rfl⟩
        have e122 : g 122 (4 + k) = sz := by rw [hI.1, g0.1 122 (by decide) (by decide) (by decide) (by decide), hh1 122 _ (by omega)]; exact hsz.symm
        have e104 : g 104 3 = h 104 3 ∧ g 104 9 = h 104 9 ∧ g 104 4 = ((r + k : Nat) : Int) := by
          refine ⟨?_, ?_, ?_⟩
          · rw [hI.1, g0.2 3 (by decide), hh1 104 3 (by decide)]
          · rw [hI.1, g0.2 9 (by decide), hh1 104 9 (by decide)]
          · rw [hI.1]; exact zAR_4 (by rw [hh1 104 4 (by decide)]; exact hr4) k
        have hszb := h122 k (by omega)
        have hszb : sz = -9 ∨ (0 ≤ sz ∧ sz ≤ 8) := by rw [hsz]; exact hszb
        have z0 := h123 k 0 (by omega) (by decide)
        have z1 := h123 k 1 (by omega) (by decide)
        have z2 := h123 k 2 (by omega) (by decide)
        refine zH_go 4 (c' := (55, [some (.inr (.inr (some 104))), some (.inl 1), some (.inl (k : Int)), some (.inl (k : Int)), x4, x5, x6], [.inl 1, .inr (.inr (some 121)), .inl (k : Int)], (zs g hl))) rfl ?_
        refine zH_np (P := 0 ≤ 1 ∧ 1 < ((3 : Nat) : Int)) (c' := (56, [some (.inr (.inr (some 104))), some (.inl 1), some (.inl (k : Int)), some (.inl (k : Int)), x4, x5, x6], [.inl (g 121 1), .inl (k : Int)], (zs g hl))) rfl ⟨by decide, by decide⟩ ?_
        rw [e121]
        refine zH_bf (x := (k : Int)) (y := (R : Int)) (k := .ge) (c1 := (158, [some (.inr (.inr (some 104))), some (.inl 1), some (.inl (k : Int)), some (.inl (k : Int)), x4, x5, x6], [], (zs g hl))) (c2 := (59, [some (.inr (.inr (some 104))), some (.inl 1), some (.inl (k : Int)), some (.inl (k : Int)), x4, x5, x6], [], (zs g hl))) rfl (by first | assumption | (unfold zr; omega)) (by first | assumption | (unfold zr; omega)) (by show ¬ (¬ (k : Int) < (R : Int)); omega) ?_
        refine zH_go 7 (c' := (68, [some (.inr (.inr (some 104))), some (.inl 1), some (.inl (k : Int)), some (.inl (k : Int)), x4, x5, x6], [.inl (4 + (k : Int)), .inr (.inr (some 122))], (zs g hl))) rfl ?_
        refine zH_np (P := 0 ≤ (4 + (k : Int)) ∧ (4 + (k : Int)) < ((12 : Nat) : Int)) (c' := (69, [some (.inr (.inr (some 104))), some (.inl 1), some (.inl (k : Int)), some (.inl (k : Int)), x4, x5, x6], [.inl (g 122 (4 + k))], (zs g hl))) rfl ⟨by omega, by omega⟩ ?_
        rw [e122]
        refine zH_go 11 (c' := (86, [some (.inr (.inr (some 104))), some (.inl 1), some (.inl (k : Int)), some (.inl (k : Int)), some (.inl sz), some (.inl (32 + (8 * (k : Int)))), x6], [.inl (-9), .inl sz], (zs g hl))) rfl ?_
        refine zH_br (x := sz) (y := (-9)) (k := .ne) (c1 := (94, [some (.inr (.inr (some 104))), some (.inl 1), some (.inl (k : Int)), some (.inl (k : Int)), some (.inl sz), some (.inl (32 + (8 * (k : Int)))), x6], [], (zs g hl))) (c2 := (89, [some (.inr (.inr (some 104))), some (.inl 1), some (.inl (k : Int)), some (.inl (k : Int)), some (.inl sz), some (.inl (32 + (8 * (k : Int)))), x6], [], (zs g hl))) rfl (by first | assumption | (unfold zr; omega)) ⟨by decide, by decide⟩ (fun (b_4 : ¬ sz = (-9)) => ?_) (fun (b_4 : ¬ (¬ sz = (-9))) => ?_)
        · refine zH_go 2 (c' := (97, [some (.inr (.inr (some 104))), some (.inl 1), some (.inl (k : Int)), some (.inl (k : Int)), some (.inl sz), some (.inl (32 + (8 * (k : Int)))), x6], [.inl 3, .inl sz], (zs g hl))) rfl ?_
          refine zH_br (x := sz) (y := 3) (k := .ge) (c1 := (105, [some (.inr (.inr (some 104))), some (.inl 1), some (.inl (k : Int)), some (.inl (k : Int)), some (.inl sz), some (.inl (32 + (8 * (k : Int)))), x6], [], (zs g hl))) (c2 := (100, [some (.inr (.inr (some 104))), some (.inl 1), some (.inl (k : Int)), some (.inl (k : Int)), some (.inl sz), some (.inl (32 + (8 * (k : Int)))), x6], [], (zs g hl))) rfl (by first | assumption | (unfold zr; omega)) ⟨by decide, by decide⟩ (fun (b_5 : ¬ sz < 3) => ?_) (fun (b_5 : ¬ (¬ sz < 3)) => ?_)
          · refine zH_go 4 (c' := (112, [some (.inr (.inr (some 104))), some (.inl 1), some (.inl (k : Int)), some (.inl (k : Int)), some (.inl sz), some (.inl (32 + (8 * (k : Int)))), x6], [.inl (32 + (8 * (k : Int))), .inr (.inr (some 123)), .inr (.inr (some 104))], (zs g hl))) rfl ?_
            refine zH_np (P := 0 ≤ (32 + (8 * (k : Int))) ∧ (32 + (8 * (k : Int))) < ((96 : Nat) : Int)) (c' := (113, [some (.inr (.inr (some 104))), some (.inl 1), some (.inl (k : Int)), some (.inl (k : Int)), some (.inl sz), some (.inl (32 + (8 * (k : Int)))), x6], [.inr (.inl (hl 123 (32 + (8 * k)))), .inr (.inr (some 104))], (zs g hl))) rfl ⟨by omega, by omega⟩ ?_
            refine zH_go 5 (c' := (121, [some (.inr (.inr (some 104))), some (.inl 1), some (.inl (k : Int)), some (.inl (k : Int)), some (.inl sz), some (.inl (32 + (8 * (k : Int)))), x6], [.inl ((32 + (8 * (k : Int))) + 1), .inr (.inr (some 123)), .inr (.inl (hl 123 (32 + (8 * k)))), .inr (.inr (some 104))], (zs g hl))) rfl ?_
            refine zH_np (P := 0 ≤ ((32 + (8 * (k : Int))) + 1) ∧ ((32 + (8 * (k : Int))) + 1) < ((96 : Nat) : Int)) (c' := (122, [some (.inr (.inr (some 104))), some (.inl 1), some (.inl (k : Int)), some (.inl (k : Int)), some (.inl sz), some (.inl (32 + (8 * (k : Int)))), x6], [.inr (.inl (hl 123 ((32 + (8 * k)) + 1))), .inr (.inl (hl 123 (32 + (8 * k)))), .inr (.inr (some 104))], (zs g hl))) rfl ⟨by omega, by omega⟩ ?_
            refine zH_go 5 (c' := (130, [some (.inr (.inr (some 104))), some (.inl 1), some (.inl (k : Int)), some (.inl (k : Int)), some (.inl sz), some (.inl (32 + (8 * (k : Int)))), x6], [.inl ((32 + (8 * (k : Int))) + 2), .inr (.inr (some 123)), .inr (.inl (hl 123 ((32 + (8 * k)) + 1))), .inr (.inl (hl 123 (32 + (8 * k)))), .inr (.inr (some 104))], (zs g hl))) rfl ?_
            refine zH_np (P := 0 ≤ ((32 + (8 * (k : Int))) + 2) ∧ ((32 + (8 * (k : Int))) + 2) < ((96 : Nat) : Int)) (c' := (131, [some (.inr (.inr (some 104))), some (.inl 1), some (.inl (k : Int)), some (.inl (k : Int)), some (.inl sz), some (.inl (32 + (8 * (k : Int)))), x6], [.inr (.inl (hl 123 ((32 + (8 * k)) + 2))), .inr (.inl (hl 123 ((32 + (8 * k)) + 1))), .inr (.inl (hl 123 (32 + (8 * k)))), .inr (.inr (some 104))], (zs g hl))) rfl ⟨by omega, by omega⟩ ?_
            refine zH_call (M' := 108) (as := [.inr (.inr (some 104)), .inr (.inl (hl 123 (32 + (8 * k)))), .inr (.inl (hl 123 ((32 + (8 * k)) + 1))), .inr (.inl (hl 123 ((32 + (8 * k)) + 2)))]) (T := []) rfl (p_addRoadO (h := g) (r := r + k) z0 z1 z2 hI.2.1 e104.2.2 (by rw [e104.1]; exact hP) (by rw [e104.2.1]; exact hon)) (fun r' σ' p_6 => ?_)
            rw [e104.1, e104.2.1] at p_6
            rcases p_6 with ⟨q1, rfl, rfl⟩ | ⟨q1, q2, rfl, rfl⟩ | ⟨q1, q2, q3, rfl, rfl⟩ | ⟨q1, q2, q3, rfl, rfl⟩
            · show zH _ _ (134, [some (.inr (.inr (some 104))), some (.inl 1), some (.inl (k : Int)), some (.inl (k : Int)), some (.inl sz), some (.inl (32 + (8 * (k : Int)))), x6], [.inl (-1)], (zs g hl)) _
              refine zH_go 2 (c' := (138, [some (.inr (.inr (some 104))), some (.inl 1), some (.inl (k : Int)), some (.inl (k : Int)), some (.inl sz), some (.inl (32 + (8 * (k : Int)))), some (.inl (-1))], [.inl (-1)], (zs g hl))) rfl ?_
              refine zH_bf (x := (-1)) (y := 0) (k := .ge) (c1 := (149, [some (.inr (.inr (some 104))), some (.inl 1), some (.inl (k : Int)), some (.inl (k : Int)), some (.inl sz), some (.inl (32 + (8 * (k : Int)))), some (.inl (-1))], [], (zs g hl))) (c2 := (141, [some (.inr (.inr (some 104))), some (.inl 1), some (.inl (k : Int)), some (.inl (k : Int)), some (.inl sz), some (.inl (32 + (8 * (k : Int)))), some (.inl (-1))], [], (zs g hl))) rfl ⟨by decide, by decide⟩ ⟨by decide, by decide⟩ (by show ¬ (¬ (-1) < 0); decide) ?_
              refine zH_go 4 (c' := (148, [some (.inr (.inr (some 104))), some (.inl 1), some (.inl (k : Int)), some (.inl (k : Int)), some (.inl sz), some (.inl (32 + (8 * (k : Int)))), some (.inl (-1))], [.inl (k : Int)], (zs (zup g 104 1 (-1)) hl))) rfl ?_
              refine zH_ret (v := some (.inl (k : Int))) rfl (fun q => absurd q (by decide)) ?_
              refine Or.inr ⟨by omega, R, k, (-1), eR, rfl, by omega, hI.2.2, Or.inr ⟨by omega, by decide, ?_, by rw [hI.1, eV]⟩⟩
              rw [← hsz]
              exact Or.inr (Or.inr (Or.inl ⟨by omega, q1, rfl⟩))
            · show zH _ _ (134, [some (.inr (.inr (some 104))), some (.inl 1), some (.inl (k : Int)), some (.inl (k : Int)), some (.inl sz), some (.inl (32 + (8 * (k : Int)))), x6], [.inl (-2)], (zs g hl)) _
              refine zH_go 2 (c' := (138, [some (.inr (.inr (some 104))), some (.inl 1), some (.inl (k : Int)), some (.inl (k : Int)), some (.inl sz), some (.inl (32 + (8 * (k : Int)))), some (.inl (-2))], [.inl (-2)], (zs g hl))) rfl ?_
              refine zH_bf (x := (-2)) (y := 0) (k := .ge) (c1 := (149, [some (.inr (.inr (some 104))), some (.inl 1), some (.inl (k : Int)), some (.inl (k : Int)), some (.inl sz), some (.inl (32 + (8 * (k : Int)))), some (.inl (-2))], [], (zs g hl))) (c2 := (141, [some (.inr (.inr (some 104))), some (.inl 1), some (.inl (k : Int)), some (.inl (k : Int)), some (.inl sz), some (.inl (32 + (8 * (k : Int)))), some (.inl (-2))], [], (zs g hl))) rfl ⟨by decide, by decide⟩ ⟨by decide, by decide⟩ (by show ¬ (¬ (-2) < 0); decide) ?_
              refine zH_go 4 (c' := (148, [some (.inr (.inr (some 104))), some (.inl 1), some (.inl (k : Int)), some (.inl (k : Int)), some (.inl sz), some (.inl (32 + (8 * (k : Int)))), some (.inl (-2))], [.inl (k : Int)], (zs (zup g 104 1 (-2)) hl))) rfl ?_
              refine zH_ret (v := some (.inl (k : Int))) rfl (fun q => absurd q (by decide)) ?_
              refine Or.inr ⟨by omega, R, k, (-2), eR, rfl, by omega, hI.2.2, Or.inr ⟨by omega, by decide, ?_, by rw [hI.1, eV]⟩⟩
              rw [← hsz]
              exact Or.inr (Or.inr (Or.inr (Or.inl ⟨by omega, q1, q2, rfl⟩)))
            · show zH _ _ (134, [some (.inr (.inr (some 104))), some (.inl 1), some (.inl (k : Int)), some (.inl (k : Int)), some (.inl sz), some (.inl (32 + (8 * (k : Int)))), x6], [.inl (-3)], (zs g hl)) _
              refine zH_go 2 (c' := (138, [some (.inr (.inr (some 104))), some (.inl 1), some (.inl (k : Int)), some (.inl (k : Int)), some (.inl sz), some (.inl (32 + (8 * (k : Int)))), some (.inl (-3))], [.inl (-3)], (zs g hl))) rfl ?_
              refine zH_bf (x := (-3)) (y := 0) (k := .ge) (c1 := (149, [some (.inr (.inr (some 104))), some (.inl 1), some (.inl (k : Int)), some (.inl (k : Int)), some (.inl sz), some (.inl (32 + (8 * (k : Int)))), some (.inl (-3))], [], (zs g hl))) (c2 := (141, [some (.inr (.inr (some 104))), some (.inl 1), some (.inl (k : Int)), some (.inl (k : Int)), some (.inl sz), some (.inl (32 + (8 * (k : Int)))), some (.inl (-3))], [], (zs g hl))) rfl ⟨by decide, by decide⟩ ⟨by decide, by decide⟩ (by show ¬ (¬ (-3) < 0); decide) ?_
              refine zH_go 4 (c' := (148, [some (.inr (.inr (some 104))), some (.inl 1), some (.inl (k : Int)), some (.inl (k : Int)), some (.inl sz), some (.inl (32 + (8 * (k : Int)))), some (.inl (-3))], [.inl (k : Int)], (zs (zup g 104 1 (-3)) hl))) rfl ?_
              refine zH_ret (v := some (.inl (k : Int))) rfl (fun q => absurd q (by decide)) ?_
              refine Or.inr ⟨by omega, R, k, (-3), eR, rfl, by omega, hI.2.2, Or.inr ⟨by omega, by decide, ?_, by rw [hI.1, eV]⟩⟩
              rw [← hsz]
              exact Or.inr (Or.inr (Or.inr (Or.inr (Or.inl ⟨by omega, q1, q2, by omega, rfl⟩))))
            · show zH _ _ (134, [some (.inr (.inr (some 104))), some (.inl 1), some (.inl (k : Int)), some (.inl (k : Int)), some (.inl sz), some (.inl (32 + (8 * (k : Int)))), x6], [.inl (((r + k : Nat) : Int) + 1)], (zs (zup (zup (zup (zup g 105 (r + k) (hl 123 (32 + (8 * k)))) 106 (r + k) (hl 123 ((32 + (8 * k)) + 1))) 107 (r + k) (hl 123 ((32 + (8 * k)) + 2))) 104 4 (((r + k : Nat) : Int) + 1)) hl)) _
              refine zH_go 2 (c' := (138, [some (.inr (.inr (some 104))), some (.inl 1), some (.inl (k : Int)), some (.inl (k : Int)), some (.inl sz), some (.inl (32 + (8 * (k : Int)))), some (.inl (((r + k : Nat) : Int) + 1))], [.inl (((r + k : Nat) : Int) + 1)], (zs (zup (zup (zup (zup g 105 (r + k) (hl 123 (32 + (8 * k)))) 106 (r + k) (hl 123 ((32 + (8 * k)) + 1))) 107 (r + k) (hl 123 ((32 + (8 * k)) + 2))) 104 4 (((r + k : Nat) : Int) + 1)) hl))) rfl ?_
              refine zH_br (x := (((r + k : Nat) : Int) + 1)) (y := 0) (k := .ge) (c1 := (149, [some (.inr (.inr (some 104))), some (.inl 1), some (.inl (k : Int)), some (.inl (k : Int)), some (.inl sz), some (.inl (32 + (8 * (k : Int)))), some (.inl (((r + k : Nat) : Int) + 1))], [], (zs (zup (zup (zup (zup g 105 (r + k) (hl 123 (32 + (8 * k)))) 106 (r + k) (hl 123 ((32 + (8 * k)) + 1))) 107 (r + k) (hl 123 ((32 + (8 * k)) + 2))) 104 4 (((r + k : Nat) : Int) + 1)) hl))) (c2 := (141, [some (.inr (.inr (some 104))), some (.inl 1), some (.inl (k : Int)), some (.inl (k : Int)), some (.inl sz), some (.inl (32 + (8 * (k : Int)))), some (.inl (((r + k : Nat) : Int) + 1))], [], (zs (zup (zup (zup (zup g 105 (r + k) (hl 123 (32 + (8 * k)))) 106 (r + k) (hl 123 ((32 + (8 * k)) + 1))) 107 (r + k) (hl 123 ((32 + (8 * k)) + 2))) 104 4 (((r + k : Nat) : Int) + 1)) hl))) rfl (by first | assumption | (unfold zr; omega)) ⟨by decide, by decide⟩ (fun (b_7 : ¬ (((r + k : Nat) : Int) + 1) < 0) => ?_) (fun (b_7 : ¬ (¬ (((r + k : Nat) : Int) + 1) < 0)) => ?_)
              · refine zH_go 3 (c' := (49, [some (.inr (.inr (some 104))), some (.inl 1), some (.inl ((k : Int) + 1)), some (.inl ((k : Int) + 1)), some (.inl sz), some (.inl (32 + (8 * (k : Int)))), some (.inl (((r + k : Nat) : Int) + 1))], [], (zs (zup (zup (zup (zup g 105 (r + k) (hl 123 (32 + (8 * k)))) 106 (r + k) (hl 123 ((32 + (8 * k)) + 1))) 107 (r + k) (hl 123 ((32 + (8 * k)) + 2))) 104 4 (((r + k : Nat) : Int) + 1)) hl))) rfl ?_
                refine ih ((zup (zup (zup (zup g 105 (r + k) (hl 123 (32 + (8 * k)))) 106 (r + k) (hl 123 ((32 + (8 * k)) + 1))) 107 (r + k) (hl 123 ((32 + (8 * k)) + 2))) 104 4 (((r + k : Nat) : Int) + 1)), (some (.inl sz)), (some (.inl (32 + (8 * (k : Int))))), (some (.inl (((r + k : Nat) : Int) + 1)))) ?_
                show (zup (zup (zup (zup g 105 (r + k) (hl 123 (32 + (8 * k)))) 106 (r + k) (hl 123 ((32 + (8 * k)) + 1))) 107 (r + k) (hl 123 ((32 + (8 * k)) + 2))) 104 4 (((r + k : Nat) : Int) + 1)) = zAR (zup h 104 1 0) V r (k + 1) ∧ r + (k + 1) ≤ 15 ∧ ∀ q : Nat, q < (k + 1) → zRDec (h 104 3) (h 104 9) ((r + q : Nat) : Int) (h 122 (4 + q)) (hl 123 (32 + 8 * q)) (hl 123 (32 + 8 * q + 1)) (hl 123 (32 + 8 * q + 2)) 0
                refine ⟨?_, by omega, fun q hq => ?_⟩
                · rw [hI.1, show (((r + k : Nat) : Int) + 1) = ((r + (k + 1) : Nat) : Int) by omega, eV]
                  rfl
                · by_cases w : q = k
                  · rw [w, ← hsz]
                    exact Or.inr (Or.inr (Or.inr (Or.inr (Or.inr ⟨by omega, q1, q2, by omega, rfl⟩))))
                  · exact hI.2.2 q (by omega)
              · refine zH_go 4 (c' := (148, [some (.inr (.inr (some 104))), some (.inl 1), some (.inl (k : Int)), some (.inl (k : Int)), some (.inl sz), some (.inl (32 + (8 * (k : Int)))), some (.inl (((r + k : Nat) : Int) + 1))], [.inl (k : Int)], (zs (zup (zup (zup (zup (zup g 105 (r + k) (hl 123 (32 + (8 * k)))) 106 (r + k) (hl 123 ((32 + (8 * k)) + 1))) 107 (r + k) (hl 123 ((32 + (8 * k)) + 2))) 104 4 (((r + k : Nat) : Int) + 1)) 104 1 (((r + k : Nat) : Int) + 1)) hl))) rfl ?_
                refine zH_ret (v := some (.inl (k : Int))) rfl (fun q => absurd q (by decide)) ?_
                exfalso; omega
          · refine zH_go 4 (c' := (138, [some (.inr (.inr (some 104))), some (.inl 1), some (.inl (k : Int)), some (.inl (k : Int)), some (.inl sz), some (.inl (32 + (8 * (k : Int)))), some (.inl (-12))], [.inl (-12)], (zs g hl))) rfl ?_
            refine zH_bf (x := (-12)) (y := 0) (k := .ge) (c1 := (149, [some (.inr (.inr (some 104))), some (.inl 1), some (.inl (k : Int)), some (.inl (k : Int)), some (.inl sz), some (.inl (32 + (8 * (k : Int)))), some (.inl (-12))], [], (zs g hl))) (c2 := (141, [some (.inr (.inr (some 104))), some (.inl 1), some (.inl (k : Int)), some (.inl (k : Int)), some (.inl sz), some (.inl (32 + (8 * (k : Int)))), some (.inl (-12))], [], (zs g hl))) rfl ⟨by decide, by decide⟩ ⟨by decide, by decide⟩ (by show ¬ (¬ (-12) < 0); decide) ?_
            refine zH_go 4 (c' := (148, [some (.inr (.inr (some 104))), some (.inl 1), some (.inl (k : Int)), some (.inl (k : Int)), some (.inl sz), some (.inl (32 + (8 * (k : Int)))), some (.inl (-12))], [.inl (k : Int)], (zs (zup g 104 1 (-12)) hl))) rfl ?_
            refine zH_ret (v := some (.inl (k : Int))) rfl (fun q => absurd q (by decide)) ?_
            refine Or.inr ⟨by omega, R, k, (-12), eR, rfl, by omega, hI.2.2, Or.inr ⟨by omega, by decide, ?_, by rw [hI.1, eV]⟩⟩
            rw [← hsz]
            exact Or.inr (Or.inl ⟨by omega, by omega, rfl⟩)
        · refine zH_go 4 (c' := (138, [some (.inr (.inr (some 104))), some (.inl 1), some (.inl (k : Int)), some (.inl (k : Int)), some (.inl sz), some (.inl (32 + (8 * (k : Int)))), some (.inl (-11))], [.inl (-11)], (zs g hl))) rfl ?_
          refine zH_bf (x := (-11)) (y := 0) (k := .ge) (c1 := (149, [some (.inr (.inr (some 104))), some (.inl 1), some (.inl (k : Int)), some (.inl (k : Int)), some (.inl sz), some (.inl (32 + (8 * (k : Int)))), some (.inl (-11))], [], (zs g hl))) (c2 := (141, [some (.inr (.inr (some 104))), some (.inl 1), some (.inl (k : Int)), some (.inl (k : Int)), some (.inl sz), some (.inl (32 + (8 * (k : Int)))), some (.inl (-11))], [], (zs g hl))) rfl ⟨by decide, by decide⟩ ⟨by decide, by decide⟩ (by show ¬ (¬ (-11) < 0); decide) ?_
          refine zH_go 4 (c' := (148, [some (.inr (.inr (some 104))), some (.inl 1), some (.inl (k : Int)), some (.inl (k : Int)), some (.inl sz), some (.inl (32 + (8 * (k : Int)))), some (.inl (-11))], [.inl (k : Int)], (zs (zup g 104 1 (-11)) hl))) rfl ?_
          refine zH_ret (v := some (.inl (k : Int))) rfl (fun q => absurd q (by decide)) ?_
          refine Or.inr ⟨by omega, R, k, (-11), eR, rfl, by omega, hI.2.2, Or.inr ⟨by omega, by decide, ?_, by rw [hI.1, eV]⟩⟩
          rw [← hsz]
          exact Or.inl ⟨by omega, rfl⟩
      · obtain ⟨g, x4, x5, x6⟩ := x
        replace hI : g = zAR (zup h 104 1 0) V r R ∧ r + R ≤ 15 ∧ ∀ q : Nat, q < R → zRDec (h 104 3) (h 104 9) ((r + q : Nat) : Int) (h 122 (4 + q)) (hl 123 (32 + 8 * q)) (hl 123 (32 + 8 * q + 1)) (hl 123 (32 + 8 * q + 2)) 0 := hI
        show zH _ _ (49, [some (.inr (.inr (some 104))), some (.inl 1), some (.inl (R : Int)), some (.inl (R : Int)), x4, x5, x6], [], (zs g hl)) _
        have g0 := (zAR_o (h := (zup h 104 1 0)) (V := V) (r := r) R)
        have e121 : g 121 1 = (R : Int) := by rw [hI.1, g0.1 121 (by decide) (by decide) (by decide) (by decide), hh1 121 _ (by omega)]; exact eR
        refine zH_go 4 (c' := (55, [some (.inr (.inr (some 104))), some (.inl 1), some (.inl (R : Int)), some (.inl (R : Int)), x4, x5, x6], [.inl 1, .inr (.inr (some 121)), .inl (R : Int)], (zs g hl))) rfl ?_
        refine zH_np (P := 0 ≤ 1 ∧ 1 < ((3 : Nat) : Int)) (c' := (56, [some (.inr (.inr (some 104))), some (.inl 1), some (.inl (R : Int)), some (.inl (R : Int)), x4, x5, x6], [.inl (g 121 1), .inl (R : Int)], (zs g hl))) rfl ⟨by decide, by decide⟩ ?_
        rw [e121]
        refine zH_bt (x := (R : Int)) (y := (R : Int)) (k := .ge) (c1 := (158, [some (.inr (.inr (some 104))), some (.inl 1), some (.inl (R : Int)), some (.inl (R : Int)), x4, x5, x6], [], (zs g hl))) (c2 := (59, [some (.inr (.inr (some 104))), some (.inl 1), some (.inl (R : Int)), some (.inl (R : Int)), x4, x5, x6], [], (zs g hl))) rfl (by first | assumption | (unfold zr; omega)) (by first | assumption | (unfold zr; omega)) (by show ¬ (R : Int) < (R : Int); omega) ?_
        refine zH_go 1 (c' := (159, [some (.inr (.inr (some 104))), some (.inl 1), some (.inl (R : Int)), some (.inl (R : Int)), x4, x5, x6], [.inl (R : Int)], (zs g hl))) rfl ?_
        refine zH_ret (v := some (.inl (R : Int))) rfl (fun q => absurd q (by decide)) ?_
        exact Or.inr ⟨by omega, R, R, 0, eR, rfl, Nat.le_refl R, hI.2.2, Or.inl ⟨rfl, rfl, by rw [hI.1, eV]⟩⟩
      · show (zup h 104 1 0) = zAR (zup h 104 1 0) V r 0 ∧ r + 0 ≤ 15 ∧ ∀ q : Nat, q < 0 → zRDec (h 104 3) (h 104 9) ((r + q : Nat) : Int) (h 122 (4 + q)) (hl 123 (32 + 8 * q)) (hl 123 (32 + 8 * q + 1)) (hl 123 (32 + 8 * q + 2)) 0
        exact ⟨rfl, by omega, fun q hq => absurd hq (Nat.not_lt_zero q)⟩
    · refine zH_go 4 (c' := (44, [some (.inr (.inr (some 104))), some (.inl 1), none, none, none, none, none], [.inl 0], (zs (zup (zup h 104 1 0) 104 1 (-11)) hl))) rfl ?_
      refine zH_ret (v := some (.inl 0)) rfl (fun q => absurd q (by decide)) ?_
      exact Or.inl ⟨by omega, rfl, rfl⟩
  · exact absurd (by decide) b_2
set_option maxRecDepth 100000 in
set_option maxHeartbeats 4000000 in
theorem p_callsOF1 {d : Nat} {h0 h hl : Nat → Nat → Int} (e0 : zup h0 104 0 0 = h) {ri : Int} (hr : zr ri) (hB : zMbk h hl 1) (hP : 0 ≤ h 104 3 ∧ h 104 3 ≤ 6) (e9 : h 104 9 = 0) : zQ (d + 2) 149 [.inr (.inr (some 104)), .inl 1, .inl ri] (zs h0 hl) (fun r' σ' => ((h 119 1 = 0 ∨ ((0 ≤ ri ∧ ri < h 121 1) ∧ h 122 (4 + Int.toNat ri) = -9)) ∧ r' = some (.inl 0) ∧ σ' = zs (zup (zup h 104 1 0) 104 1 (-11)) hl) ∨ (¬ h 119 1 = 0 ∧ ¬ (0 ≤ ri ∧ ri < h 121 1) ∧ r' = some (.inl 0) ∧ σ' = zs (zup (zup h 104 1 0) 104 1 (-12)) hl) ∨ ∃ (R S : Nat) (x : Int), ri = (R : Int) ∧ ¬ h 119 1 = 0 ∧ (R : Int) < h 121 1 ∧ h 122 (4 + R) = (S : Int) ∧ r' = some (.inl 0) ∧ ((S = 0 ∧ x = 0 ∧ σ' = zs (zup h 104 1 0) hl) ∨ (0 < S ∧ ¬ x = 0 ∧ zCDec (h 104 3) (h 104 9) (h 104 15) (hl 123 (32 + 8 * R + 0)) x ∧ σ' = zs (zup (zup h 104 1 0) 104 1 x) hl))) := by
  have hBc := hB
  obtain ⟨h119, h121, h120, h122, h123⟩ := hBc
  refine zQ_of (Nat.le_of_ble_eq_true rfl) ?_
  show zH (d + 1) 149 (0, [some (.inr (.inr (some 104))), some (.inl 1), some (.inl ri), none, none, none, none, none], [], (zs h0 hl)) _
  refine zH_go 3 (c' := (5, [some (.inr (.inr (some 104))), some (.inl 1), some (.inl ri), none, none, none, none, none], [], (zs (zup h0 104 0 0) hl))) rfl ?_
  rw [e0]
  refine zH_go 4 (c' := (11, [some (.inr (.inr (some 104))), some (.inl 1), some (.inl ri), none, none, none, none, none], [.inl 1], (zs (zup h 104 1 0) hl))) rfl ?_
  refine zH_np (P := zr 1) (c' := (12, [some (.inr (.inr (some 104))), some (.inl 1), some (.inl ri), none, none, none, none, none], [.inr (.inl 1)], (zs (zup h 104 1 0) hl))) rfl ⟨by decide, by decide⟩ ?_
  refine zH_go 2 (c' := (16, [some (.inr (.inr (some 104))), some (.inl 1), some (.inl ri), none, none, none, none, none], [.inr (.inl 2), .inr (.inl 0), .inr (.inl 1)], (zs (zup h 104 1 0) hl))) rfl ?_
  refine zH_call (M' := 103) (as := [.inr (.inl 1), .inr (.inl 0), .inr (.inl 2)]) (T := []) rfl (p_in ⟨by decide, by decide⟩ ⟨by decide, by decide⟩ ⟨by decide, by decide⟩) (fun r σ' p_1 => ?_)
  rcases p_1 with ⟨rfl, b_2, rfl⟩ | ⟨rfl, b_2, rfl⟩
  · show zH _ _ (19, [some (.inr (.inr (some 104))), some (.inl 1), some (.inl ri), none, none, none, none, none], [.inl 1], (zs (zup h 104 1 0) hl)) _
    refine zH_bt (x := 1) (y := 0) (k := .ne) (c1 := (28, [some (.inr (.inr (some 104))), some (.inl 1), some (.inl ri), none, none, none, none, none], [], (zs (zup h 104 1 0) hl))) (c2 := (22, [some (.inr (.inr (some 104))), some (.inl 1), some (.inl ri), none, none, none, none, none], [], (zs (zup h 104 1 0) hl))) rfl ⟨by decide, by decide⟩ ⟨by decide, by decide⟩ (by show ¬ 1 = 0; decide) ?_
    refine zH_go 3 (c' := (33, [some (.inr (.inr (some 104))), some (.inl 1), some (.inl ri), none, none, none, none, none], [.inl 1, .inr (.inr (some 119))], (zs (zup h 104 1 0) hl))) rfl ?_
    refine zH_np (P := 0 ≤ 1 ∧ 1 < ((3 : Nat) : Int)) (c' := (34, [some (.inr (.inr (some 104))), some (.inl 1), some (.inl ri), none, none, none, none, none], [.inl (h 119 1)], (zs (zup h 104 1 0) hl))) rfl ⟨by decide, by decide⟩ ?_
    refine zH_br (x := (h 119 1)) (y := 0) (k := .eq) (c1 := (70, [some (.inr (.inr (some 104))), some (.inl 1), some (.inl ri), none, none, none, none, none], [], (zs (zup h 104 1 0) hl))) (c2 := (37, [some (.inr (.inr (some 104))), some (.inl 1), some (.inl ri), none, none, none, none, none], [], (zs (zup h 104 1 0) hl))) rfl (by first | assumption | (unfold zr; omega)) ⟨by decide, by decide⟩ (fun (b_3 : (h 119 1) = 0) => ?_) (fun (b_3 : ¬ ((h 119 1) = 0)) => ?_)
    · refine zH_go 4 (c' := (77, [some (.inr (.inr (some 104))), some (.inl 1), some (.inl ri), none, none, none, none, none], [.inl 0], (zs (zup (zup h 104 1 0) 104 1 (-11)) hl))) rfl ?_
      refine zH_ret (v := some (.inl 0)) rfl (fun q => absurd q (by decide)) ?_
      exact Or.inl ⟨by first | exact Or.inl (by omega) | exact Or.inr ⟨by omega, by rw [Int.toNat_natCast]; omega⟩, rfl, rfl⟩
    · refine zH_go 1 (c' := (38, [some (.inr (.inr (some 104))), some (.inl 1), some (.inl ri), none, none, none, none, none], [.inl ri], (zs (zup h 104 1 0) hl))) rfl ?_
      refine zH_np (P := zr ri) (c' := (39, [some (.inr (.inr (some 104))), some (.inl 1), some (.inl ri), none, none, none, none, none], [.inr (.inl ri)], (zs (zup h 104 1 0) hl))) rfl (by first | assumption | (unfold zr; omega)) ?_
      refine zH_go 4 (c' := (45, [some (.inr (.inr (some 104))), some (.inl 1), some (.inl ri), none, none, none, none, none], [.inl 1, .inr (.inr (some 121)), .inr (.inl 0), .inr (.inl ri)], (zs (zup h 104 1 0) hl))) rfl ?_
      refine zH_np (P := 0 ≤ 1 ∧ 1 < ((3 : Nat) : Int)) (c' := (46, [some (.inr (.inr (some 104))), some (.inl 1), some (.inl ri), none, none, none, none, none], [.inl (h 121 1), .inr (.inl 0), .inr (.inl ri)], (zs (zup h 104 1 0) hl))) rfl ⟨by decide, by decide⟩ ?_
      refine zH_go 2 (c' := (48, [some (.inr (.inr (some 104))), some (.inl 1), some (.inl ri), none, none, none, none, none], [.inl ((h 121 1) - 1), .inr (.inl 0), .inr (.inl ri)], (zs (zup h 104 1 0) hl))) rfl ?_
      refine zH_np (P := zr ((h 121 1) - 1)) (c' := (49, [some (.inr (.inr (some 104))), some (.inl 1), some (.inl ri), none, none, none, none, none], [.inr (.inl ((h 121 1) - 1)), .inr (.inl 0), .inr (.inl ri)], (zs (zup h 104 1 0) hl))) rfl (by first | assumption | (unfold zr; omega)) ?_
      refine zH_call (M' := 103) (as := [.inr (.inl ri), .inr (.inl 0), .inr (.inl ((h 121 1) - 1))]) (T := []) rfl (p_in (by first | assumption | exact zr_l (by assumption) | (unfold zrl; omega)) ⟨by decide, by decide⟩ (by first | assumption | exact zr_l (by assumption) | (unfold zrl; omega))) (fun r σ' p_4 => ?_)
      rcases p_4 with ⟨rfl, b_5, rfl⟩ | ⟨rfl, b_5, rfl⟩
      · show zH _ _ (52, [some (.inr (.inr (some 104))), some (.inl 1), some (.inl ri), none, none, none, none, none], [.inl 1], (zs (zup h 104 1 0) hl)) _
        refine zH_bf (x := 1) (y := 0) (k := .eq) (c1 := (78, [some (.inr (.inr (some 104))), some (.inl 1), some (.inl ri), none, none, none, none, none], [], (zs (zup h 104 1 0) hl))) (c2 := (55, [some (.inr (.inr (some 104))), some (.inl 1), some (.inl ri), none, none, none, none, none], [], (zs (zup h 104 1 0) hl))) rfl ⟨by decide, by decide⟩ ⟨by decide, by decide⟩ (by show ¬ (1 = 0); decide) ?_
        obtain ⟨R, rfl⟩ := Int.eq_ofNat_of_zero_le (show 0 ≤ ri by omega)
        show zH _ _ (55, [some (.inr (.inr (some 104))), some (.inl 1), some (.inl (R : Int)), none, none, none, none, none], [], (zs (zup h 104 1 0) hl)) _
        have h2R := h122 R (by omega)
        have h2R : h 122 (4 + R) = -9 ∨ (0 ≤ h 122 (4 + R) ∧ h 122 (4 + R) ≤ 8) := h2R
        refine zH_go 7 (c' := (64, [some (.inr (.inr (some 104))), some (.inl 1), some (.inl (R : Int)), none, none, none, none, none], [.inl (4 + (R : Int)), .inr (.inr (some 122))], (zs (zup h 104 1 0) hl))) rfl ?_
        refine zH_np (P := 0 ≤ (4 + (R : Int)) ∧ (4 + (R : Int)) < ((12 : Nat) : Int)) (c' := (65, [some (.inr (.inr (some 104))), some (.inl 1), some (.inl (R : Int)), none, none, none, none, none], [.inl (h 122 (4 + R))], (zs (zup h 104 1 0) hl))) rfl ⟨by omega, by omega⟩ ?_
        refine zH_go 1 (c' := (67, [some (.inr (.inr (some 104))), some (.inl 1), some (.inl (R : Int)), none, none, none, none, none], [.inl (-9), .inl (h 122 (4 + R))], (zs (zup h 104 1 0) hl))) rfl ?_
        refine zH_br (x := (h 122 (4 + R))) (y := (-9)) (k := .ne) (c1 := (78, [some (.inr (.inr (some 104))), some (.inl 1), some (.inl (R : Int)), none, none, none, none, none], [], (zs (zup h 104 1 0) hl))) (c2 := (70, [some (.inr (.inr (some 104))), some (.inl 1), some (.inl (R : Int)), none, none, none, none, none], [], (zs (zup h 104 1 0) hl))) rfl (by first | assumption | (unfold zr; omega)) ⟨by decide, by decide⟩ (fun (b_6 : ¬ (h 122 (4 + R)) = (-9)) => ?_) (fun (b_6 : ¬ (¬ (h 122 (4 + R)) = (-9))) => ?_)
        · refine zH_go 1 (c' := (79, [some (.inr (.inr (some 104))), some (.inl 1), some (.inl (R : Int)), none, none, none, none, none], [.inl (R : Int)], (zs (zup h 104 1 0) hl))) rfl ?_
          refine zH_np (P := zr (R : Int)) (c' := (80, [some (.inr (.inr (some 104))), some (.inl 1), some (.inl (R : Int)), none, none, none, none, none], [.inr (.inl (R : Int))], (zs (zup h 104 1 0) hl))) rfl (by first | assumption | (unfold zr; omega)) ?_
          refine zH_go 4 (c' := (86, [some (.inr (.inr (some 104))), some (.inl 1), some (.inl (R : Int)), none, none, none, none, none], [.inl 1, .inr (.inr (some 121)), .inr (.inl 0), .inr (.inl (R : Int))], (zs (zup h 104 1 0) hl))) rfl ?_
          refine zH_np (P := 0 ≤ 1 ∧ 1 < ((3 : Nat) : Int)) (c' := (87, [some (.inr (.inr (some 104))), some (.inl 1), some (.inl (R : Int)), none, none, none, none, none], [.inl (h 121 1), .inr (.inl 0), .inr (.inl (R : Int))], (zs (zup h 104 1 0) hl))) rfl ⟨by decide, by decide⟩ ?_
          refine zH_go 2 (c' := (89, [some (.inr (.inr (some 104))), some (.inl 1), some (.inl (R : Int)), none, none, none, none, none], [.inl ((h 121 1) - 1), .inr (.inl 0), .inr (.inl (R : Int))], (zs (zup h 104 1 0) hl))) rfl ?_
          refine zH_np (P := zr ((h 121 1) - 1)) (c' := (90, [some (.inr (.inr (some 104))), some (.inl 1), some (.inl (R : Int)), none, none, none, none, none], [.inr (.inl ((h 121 1) - 1)), .inr (.inl 0), .inr (.inl (R : Int))], (zs (zup h 104 1 0) hl))) rfl (by first | assumption | (unfold zr; omega)) ?_
          refine zH_call (M' := 103) (as := [.inr (.inl (R : Int)), .inr (.inl 0), .inr (.inl ((h 121 1) - 1))]) (T := []) rfl (p_in (by first | assumption | exact zr_l (by assumption) | (unfold zrl; omega)) ⟨by decide, by decide⟩ (by first | assumption | exact zr_l (by assumption) | (unfold zrl; omega))) (fun r σ' p_7 => ?_)
          rcases p_7 with ⟨rfl, b_8, rfl⟩ | ⟨rfl, b_8, rfl⟩
          · show zH _ _ (93, [some (.inr (.inr (some 104))), some (.inl 1), some (.inl (R : Int)), none, none, none, none, none], [.inl 1], (zs (zup h 104 1 0) hl)) _
            refine zH_bt (x := 1) (y := 0) (k := .ne) (c1 := (104, [some (.inr (.inr (some 104))), some (.inl 1), some (.inl (R : Int)), none, none, none, none, none], [], (zs (zup h 104 1 0) hl))) (c2 := (96, [some (.inr (.inr (some 104))), some (.inl 1), some (.inl (R : Int)), none, none, none, none, none], [], (zs (zup h 104 1 0) hl))) rfl ⟨by decide, by decide⟩ ⟨by decide, by decide⟩ (by show ¬ 1 = 0; decide) ?_
            obtain ⟨S, eS⟩ := Int.eq_ofNat_of_zero_le (show 0 ≤ h 122 (4 + R) by omega)
            have eS : h 122 (4 + R) = (S : Int) := eS
            refine zH_go 4 (c' := (109, [some (.inr (.inr (some 104))), some (.inl 1), some (.inl (R : Int)), some (.inl 0), some (.inl 0), none, none, none], [], (zs (zup h 104 1 0) hl))) rfl ?_
            refine zH_go 8 (c' := (120, [some (.inr (.inr (some 104))), some (.inl 1), some (.inl (R : Int)), some (.inl 0), some (.inl 0), none, none, none], [.inl (4 + (R : Int)), .inr (.inr (some 122)), .inl 0], (zs (zup h 104 1 0) hl))) rfl ?_
            refine zH_np (P := 0 ≤ (4 + (R : Int)) ∧ (4 + (R : Int)) < ((12 : Nat) : Int)) (c' := (121, [some (.inr (.inr (some 104))), some (.inl 1), some (.inl (R : Int)), some (.inl 0), some (.inl 0), none, none, none], [.inl (h 122 (4 + R)), .inl 0], (zs (zup h 104 1 0) hl))) rfl ⟨by omega, by omega⟩ ?_
            refine zH_br (x := 0) (y := (h 122 (4 + R))) (k := .ge) (c1 := (220, [some (.inr (.inr (some 104))), some (.inl 1), some (.inl (R : Int)), some (.inl 0), some (.inl 0), none, none, none], [], (zs (zup h 104 1 0) hl))) (c2 := (124, [some (.inr (.inr (some 104))), some (.inl 1), some (.inl (R : Int)), some (.inl 0), some (.inl 0), none, none, none], [], (zs (zup h 104 1 0) hl))) rfl ⟨by decide, by decide⟩ (by first | assumption | (unfold zr; omega)) (fun (b_9 : ¬ 0 < (h 122 (4 + R))) => ?_) (fun (b_9 : ¬ (¬ 0 < (h 122 (4 + R)))) => ?_)
            · refine zH_go 1 (c' := (221, [some (.inr (.inr (some 104))), some (.inl 1), some (.inl (R : Int)), some (.inl 0), some (.inl 0), none, none, none], [.inl 0], (zs (zup h 104 1 0) hl))) rfl ?_
              refine zH_ret (v := some (.inl 0)) rfl (fun q => absurd q (by decide)) ?_
              exact Or.inr (Or.inr ⟨R, S, 0, rfl, by omega, by omega, eS, rfl, Or.inl ⟨by omega, rfl, rfl⟩⟩)
            · refine zH_go 11 (c' := (140, [some (.inr (.inr (some 104))), some (.inl 1), some (.inl (R : Int)), some (.inl 0), some (.inl 0), none, none, none], [.inl ((32 + (8 * (R : Int))) + 0), .inr (.inr (some 123))], (zs (zup h 104 1 0) hl))) rfl ?_
              refine zH_np (P := 0 ≤ ((32 + (8 * (R : Int))) + 0) ∧ ((32 + (8 * (R : Int))) + 0) < ((96 : Nat) : Int)) (c' := (141, [some (.inr (.inr (some 104))), some (.inl 1), some (.inl (R : Int)), some (.inl 0), some (.inl 0), none, none, none], [.inr (.inl (hl 123 ((32 + (8 * R)) + 0)))], (zs (zup h 104 1 0) hl))) rfl ⟨by omega, by omega⟩ ?_
              obtain ⟨v, hv⟩ : ∃ v, v = hl 123 (32 + 8 * R + 0) := ⟨_, rfl⟩
              have hzv : zrl v := by rw [hv]; exact h123 R 0 (by omega) (by decide)
              rw [show (hl 123 ((32 + (8 * R)) + 0)) = v from hv.symm]
              show zH _ _ (141, [some (.inr (.inr (some 104))), some (.inl 1), some (.inl (R : Int)), some (.inl 0), some (.inl 0), none, none, none], [.inr (.inl v)], (zs (zup h 104 1 0) hl)) _
              refine zH_go 7 (c' := (152, [some (.inr (.inr (some 104))), some (.inl 1), some (.inl (R : Int)), some (.inl 0), some (.inl 0), some (.inr (.inl v)), none, none], [.inl ((h 104 3) - 1), .inr (.inl 0), .inr (.inl v)], (zs (zup h 104 1 0) hl))) rfl ?_
              refine zH_np (P := zr ((h 104 3) - 1)) (c' := (153, [some (.inr (.inr (some 104))), some (.inl 1), some (.inl (R : Int)), some (.inl 0), some (.inl 0), some (.inr (.inl v)), none, none], [.inr (.inl ((h 104 3) - 1)), .inr (.inl 0), .inr (.inl v)], (zs (zup h 104 1 0) hl))) rfl (by first | assumption | (unfold zr; omega)) ?_
              refine zH_call (M' := 103) (as := [.inr (.inl v), .inr (.inl 0), .inr (.inl ((h 104 3) - 1))]) (T := []) rfl (p_in (by first | assumption | exact zr_l (by assumption) | (unfold zrl; omega)) ⟨by decide, by decide⟩ (by first | assumption | exact zr_l (by assumption) | (unfold zrl; omega))) (fun r σ' p_10 => ?_)
              rcases p_10 with ⟨rfl, b_11, rfl⟩ | ⟨rfl, b_11, rfl⟩
              · show zH _ _ (156, [some (.inr (.inr (some 104))), some (.inl 1), some (.inl (R : Int)), some (.inl 0), some (.inl 0), some (.inr (.inl v)), none, none], [.inl 1], (zs (zup h 104 1 0) hl)) _
                refine zH_bt (x := 1) (y := 0) (k := .ne) (c1 := (166, [some (.inr (.inr (some 104))), some (.inl 1), some (.inl (R : Int)), some (.inl 0), some (.inl 0), some (.inr (.inl v)), none, none], [], (zs (zup h 104 1 0) hl))) (c2 := (159, [some (.inr (.inr (some 104))), some (.inl 1), some (.inl (R : Int)), some (.inl 0), some (.inl 0), some (.inr (.inl v)), none, none], [], (zs (zup h 104 1 0) hl))) rfl ⟨by decide, by decide⟩ ⟨by decide, by decide⟩ (by show ¬ 1 = 0; decide) ?_
                refine zH_go 2 (c' := (170, [some (.inr (.inr (some 104))), some (.inl 1), some (.inl (R : Int)), some (.inl 0), some (.inl 0), some (.inr (.inl v)), none, none], [.inl (h 104 9)], (zs (zup h 104 1 0) hl))) rfl ?_
                rw [e9]
                refine zH_bt (x := 0) (y := 0) (k := .eq) (c1 := (182, [some (.inr (.inr (some 104))), some (.inl 1), some (.inl (R : Int)), some (.inl 0), some (.inl 0), some (.inr (.inl v)), none, none], [], (zs (zup h 104 1 0) hl))) (c2 := (173, [some (.inr (.inr (some 104))), some (.inl 1), some (.inl (R : Int)), some (.inl 0), some (.inl 0), some (.inr (.inl v)), none, none], [], (zs (zup h 104 1 0) hl))) rfl ⟨by decide, by decide⟩ ⟨by decide, by decide⟩ (by show 0 = 0; decide) ?_
                refine zH_go 3 (c' := (187, [some (.inr (.inr (some 104))), some (.inl 1), some (.inl (R : Int)), some (.inl 0), some (.inl 0), some (.inr (.inl v)), none, none], [.inl (h 104 9), .inr (.inr (some 104))], (zs (zup h 104 1 0) hl))) rfl ?_
                rw [e9]
                refine zH_bf (x := 0) (y := 0) (k := .ne) (c1 := (195, [some (.inr (.inr (some 104))), some (.inl 1), some (.inl (R : Int)), some (.inl 0), some (.inl 0), some (.inr (.inl v)), none, none], [.inr (.inr (some 104))], (zs (zup h 104 1 0) hl))) (c2 := (190, [some (.inr (.inr (some 104))), some (.inl 1), some (.inl (R : Int)), some (.inl 0), some (.inl 0), some (.inr (.inl v)), none, none], [.inr (.inr (some 104))], (zs (zup h 104 1 0) hl))) rfl ⟨by decide, by decide⟩ ⟨by decide, by decide⟩ (by show ¬ (¬ 0 = 0); decide) ?_
                refine zH_go 4 (c' := (201, [some (.inr (.inr (some 104))), some (.inl 1), some (.inl (R : Int)), some (.inl 0), some (.inl 0), some (.inr (.inl v)), none, none], [.inl 0], (zs (zup (zup h 104 1 0) 104 1 (-2)) hl))) rfl ?_
                refine zH_ret (v := some (.inl 0)) rfl (fun q => absurd q (by decide)) ?_
                refine Or.inr (Or.inr ⟨R, S, (-2), rfl, by omega, by omega, eS, rfl, Or.inr ⟨by omega, by decide, ?_, rfl⟩⟩)
                rw [← hv]
                unfold zCDec
                omega
              · show zH _ _ (156, [some (.inr (.inr (some 104))), some (.inl 1), some (.inl (R : Int)), some (.inl 0), some (.inl 0), some (.inr (.inl v)), none, none], [.inl 0], (zs (zup h 104 1 0) hl)) _
                refine zH_bf (x := 0) (y := 0) (k := .ne) (c1 := (166, [some (.inr (.inr (some 104))), some (.inl 1), some (.inl (R : Int)), some (.inl 0), some (.inl 0), some (.inr (.inl v)), none, none], [], (zs (zup h 104 1 0) hl))) (c2 := (159, [some (.inr (.inr (some 104))), some (.inl 1), some (.inl (R : Int)), some (.inl 0), some (.inl 0), some (.inr (.inl v)), none, none], [], (zs (zup h 104 1 0) hl))) rfl ⟨by decide, by decide⟩ ⟨by decide, by decide⟩ (by show ¬ (¬ 0 = 0); decide) ?_
                refine zH_go 4 (c' := (165, [some (.inr (.inr (some 104))), some (.inl 1), some (.inl (R : Int)), some (.inl 0), some (.inl 0), some (.inr (.inl v)), none, none], [.inl 0], (zs (zup (zup h 104 1 0) 104 1 (-1)) hl))) rfl ?_
                refine zH_ret (v := some (.inl 0)) rfl (fun q => absurd q (by decide)) ?_
                refine Or.inr (Or.inr ⟨R, S, (-1), rfl, by omega, by omega, eS, rfl, Or.inr ⟨by omega, by decide, ?_, rfl⟩⟩)
                rw [← hv]
                unfold zCDec
                omega
          · show zH _ _ (93, [some (.inr (.inr (some 104))), some (.inl 1), some (.inl (R : Int)), none, none, none, none, none], [.inl 0], (zs (zup h 104 1 0) hl)) _
            refine zH_bf (x := 0) (y := 0) (k := .ne) (c1 := (104, [some (.inr (.inr (some 104))), some (.inl 1), some (.inl (R : Int)), none, none, none, none, none], [], (zs (zup h 104 1 0) hl))) (c2 := (96, [some (.inr (.inr (some 104))), some (.inl 1), some (.inl (R : Int)), none, none, none, none, none], [], (zs (zup h 104 1 0) hl))) rfl ⟨by decide, by decide⟩ ⟨by decide, by decide⟩ (by show ¬ (¬ 0 = 0); decide) ?_
            refine zH_go 4 (c' := (103, [some (.inr (.inr (some 104))), some (.inl 1), some (.inl (R : Int)), none, none, none, none, none], [.inl 0], (zs (zup (zup h 104 1 0) 104 1 (-12)) hl))) rfl ?_
            refine zH_ret (v := some (.inl 0)) rfl (fun q => absurd q (by decide)) ?_
            exact Or.inr (Or.inl ⟨by omega, by omega, rfl, rfl⟩)
        · refine zH_go 4 (c' := (77, [some (.inr (.inr (some 104))), some (.inl 1), some (.inl (R : Int)), none, none, none, none, none], [.inl 0], (zs (zup (zup h 104 1 0) 104 1 (-11)) hl))) rfl ?_
          refine zH_ret (v := some (.inl 0)) rfl (fun q => absurd q (by decide)) ?_
          exact Or.inl ⟨by first | exact Or.inl (by omega) | exact Or.inr ⟨by omega, by rw [Int.toNat_natCast]; omega⟩, rfl, rfl⟩
      · show zH _ _ (52, [some (.inr (.inr (some 104))), some (.inl 1), some (.inl ri), none, none, none, none, none], [.inl 0], (zs (zup h 104 1 0) hl)) _
        refine zH_bt (x := 0) (y := 0) (k := .eq) (c1 := (78, [some (.inr (.inr (some 104))), some (.inl 1), some (.inl ri), none, none, none, none, none], [], (zs (zup h 104 1 0) hl))) (c2 := (55, [some (.inr (.inr (some 104))), some (.inl 1), some (.inl ri), none, none, none, none, none], [], (zs (zup h 104 1 0) hl))) rfl ⟨by decide, by decide⟩ ⟨by decide, by decide⟩ (by show 0 = 0; decide) ?_
        refine zH_go 1 (c' := (79, [some (.inr (.inr (some 104))), some (.inl 1), some (.inl ri), none, none, none, none, none], [.inl ri], (zs (zup h 104 1 0) hl))) rfl ?_
        refine zH_np (P := zr ri) (c' := (80, [some (.inr (.inr (some 104))), some (.inl 1), some (.inl ri), none, none, none, none, none], [.inr (.inl ri)], (zs (zup h 104 1 0) hl))) rfl (by first | assumption | (unfold zr; omega)) ?_
        refine zH_go 4 (c' := (86, [some (.inr (.inr (some 104))), some (.inl 1), some (.inl ri), none, none, none, none, none], [.inl 1, .inr (.inr (some 121)), .inr (.inl 0), .inr (.inl ri)], (zs (zup h 104 1 0) hl))) rfl ?_
        refine zH_np (P := 0 ≤ 1 ∧ 1 < ((3 : Nat) : Int)) (c' := (87, [some (.inr (.inr (some 104))), some (.inl 1), some (.inl ri), none, none, none, none, none], [.inl (h 121 1), .inr (.inl 0), .inr (.inl ri)], (zs (zup h 104 1 0) hl))) rfl ⟨by decide, by decide⟩ ?_
        refine zH_go 2 (c' := (89, [some (.inr (.inr (some 104))), some (.inl 1), some (.inl ri), none, none, none, none, none], [.inl ((h 121 1) - 1), .inr (.inl 0), .inr (.inl ri)], (zs (zup h 104 1 0) hl))) rfl ?_
        refine zH_np (P := zr ((h 121 1) - 1)) (c' := (90, [some (.inr (.inr (some 104))), some (.inl 1), some (.inl ri), none, none, none, none, none], [.inr (.inl ((h 121 1) - 1)), .inr (.inl 0), .inr (.inl ri)], (zs (zup h 104 1 0) hl))) rfl (by first | assumption | (unfold zr; omega)) ?_
        refine zH_call (M' := 103) (as := [.inr (.inl ri), .inr (.inl 0), .inr (.inl ((h 121 1) - 1))]) (T := []) rfl (p_in (by first | assumption | exact zr_l (by assumption) | (unfold zrl; omega)) ⟨by decide, by decide⟩ (by first | assumption | exact zr_l (by assumption) | (unfold zrl; omega))) (fun r σ' p_12 => ?_)
        rcases p_12 with ⟨rfl, b_13, rfl⟩ | ⟨rfl, b_13, rfl⟩
        · show zH _ _ (93, [some (.inr (.inr (some 104))), some (.inl 1), some (.inl ri), none, none, none, none, none], [.inl 1], (zs (zup h 104 1 0) hl)) _
          refine zH_bt (x := 1) (y := 0) (k := .ne) (c1 := (104, [some (.inr (.inr (some 104))), some (.inl 1), some (.inl ri), none, none, none, none, none], [], (zs (zup h 104 1 0) hl))) (c2 := (96, [some (.inr (.inr (some 104))), some (.inl 1), some (.inl ri), none, none, none, none, none], [], (zs (zup h 104 1 0) hl))) rfl ⟨by decide, by decide⟩ ⟨by decide, by decide⟩ (by show ¬ 1 = 0; decide) ?_
          exfalso; omega
        · show zH _ _ (93, [some (.inr (.inr (some 104))), some (.inl 1), some (.inl ri), none, none, none, none, none], [.inl 0], (zs (zup h 104 1 0) hl)) _
          refine zH_bf (x := 0) (y := 0) (k := .ne) (c1 := (104, [some (.inr (.inr (some 104))), some (.inl 1), some (.inl ri), none, none, none, none, none], [], (zs (zup h 104 1 0) hl))) (c2 := (96, [some (.inr (.inr (some 104))), some (.inl 1), some (.inl ri), none, none, none, none, none], [], (zs (zup h 104 1 0) hl))) rfl ⟨by decide, by decide⟩ ⟨by decide, by decide⟩ (by show ¬ (¬ 0 = 0); decide) ?_
          refine zH_go 4 (c' := (103, [some (.inr (.inr (some 104))), some (.inl 1), some (.inl ri), none, none, none, none, none], [.inl 0], (zs (zup (zup h 104 1 0) 104 1 (-12)) hl))) rfl ?_
          refine zH_ret (v := some (.inl 0)) rfl (fun q => absurd q (by decide)) ?_
          exact Or.inr (Or.inl ⟨by omega, by omega, rfl, rfl⟩)
  · exact absurd (by decide) b_2
set_option maxRecDepth 100000 in
set_option maxHeartbeats 4000000 in
theorem p_callsON1 {d : Nat} {h0 h hl : Nat → Nat → Int} (e0 : zup h0 104 0 0 = h) {ri : Int} (hr : zr ri) (hB : zMbk h hl 1) {p L B n : Nat} {s0 : zDS} (hH : zMH h p L B n s0) (hM : zDm h hl p L B n s0) (hb0 : ∀ i : Nat, i < 3 → s0.2.1 i ≤ 1500 * (n : Int)) {K : Int} (hK11 : h 104 11 = K) (hK : 0 ≤ K ∧ K ≤ 3) : zQ (d + 6) 149 [.inr (.inr (some 104)), .inl 1, .inl ri] (zs h0 hl) (fun r' σ' => ((h 119 1 = 0 ∨ ((0 ≤ ri ∧ ri < h 121 1) ∧ h 122 (4 + Int.toNat ri) = -9)) ∧ r' = some (.inl 0) ∧ σ' = zs (zup (zup h 104 1 0) 104 1 (-11)) hl) ∨ (¬ h 119 1 = 0 ∧ ¬ (0 ≤ ri ∧ ri < h 121 1) ∧ r' = some (.inl 0) ∧ σ' = zs (zup (zup h 104 1 0) 104 1 (-12)) hl) ∨ ∃ (R S J : Nat) (x : Int) (s : zDS) (g gl : Nat → Nat → Int), ri = (R : Int) ∧ ¬ h 119 1 = 0 ∧ (R : Int) < h 121 1 ∧ h 122 (4 + R) = (S : Int) ∧ r' = some (.inl (J : Int)) ∧ σ' = zs g gl ∧ zDm g gl p L B (n + J) s ∧ zCh h L B K (fun q => Int.toNat (hl 123 (32 + 8 * R + q))) n s0 J s ∧ (∀ q : Nat, q < J → zCDec (h 104 3) (h 104 9) ((n + q : Nat) : Int) (hl 123 (32 + 8 * R + q)) 0) ∧ ((J = S ∧ x = 0) ∨ (J < S ∧ ¬ x = 0 ∧ zCDec (h 104 3) (h 104 9) ((n + J : Nat) : Int) (hl 123 (32 + 8 * R + J)) x)) ∧ (∀ c : Nat, c < 104 → g c = h c) ∧ (∀ c : Nat, (105 ≤ c ∧ c < 109) ∨ 118 ≤ c → g c = h c) ∧ (∀ j : Nat, j ≠ 1 → j ≠ 14 → j ≠ 15 → g 104 j = h 104 j) ∧ g 104 1 = x ∧ ∀ c : Nat, c ≠ 104 → gl c = hl c) := by
  have hBc := hB
  obtain ⟨h119, h121, h120, h122, h123⟩ := hBc
  have hHc := hH
  obtain ⟨hL3, hp6, h3, hT, hF, hBs, hn12, hs6, hsp, hsu, htu, hpl, hdg, hpo⟩ := hHc
  have hMc := hM
  obtain ⟨m9, m10, m14, m15, mas, mrec, mfa, mrow, mtr⟩ := hMc
  refine zQ_of (Nat.le_of_ble_eq_true rfl) ?_
  show zH (d + 5) 149 (0, [some (.inr (.inr (some 104))), some (.inl 1), some (.inl ri), none, none, none, none, none], [], (zs h0 hl)) _
  refine zH_go 3 (c' := (5, [some (.inr (.inr (some 104))), some (.inl 1), some (.inl ri), none, none, none, none, none], [], (zs (zup h0 104 0 0) hl))) rfl ?_
  rw [e0]
  refine zH_go 4 (c' := (11, [some (.inr (.inr (some 104))), some (.inl 1), some (.inl ri), none, none, none, none, none], [.inl 1], (zs (zup h 104 1 0) hl))) rfl ?_
  refine zH_np (P := zr 1) (c' := (12, [some (.inr (.inr (some 104))), some (.inl 1), some (.inl ri), none, none, none, none, none], [.inr (.inl 1)], (zs (zup h 104 1 0) hl))) rfl ⟨by decide, by decide⟩ ?_
  refine zH_go 2 (c' := (16, [some (.inr (.inr (some 104))), some (.inl 1), some (.inl ri), none, none, none, none, none], [.inr (.inl 2), .inr (.inl 0), .inr (.inl 1)], (zs (zup h 104 1 0) hl))) rfl ?_
  refine zH_call (M' := 103) (as := [.inr (.inl 1), .inr (.inl 0), .inr (.inl 2)]) (T := []) rfl (p_in ⟨by decide, by decide⟩ ⟨by decide, by decide⟩ ⟨by decide, by decide⟩) (fun r σ' p_1 => ?_)
  rcases p_1 with ⟨rfl, b_2, rfl⟩ | ⟨rfl, b_2, rfl⟩
  · show zH _ _ (19, [some (.inr (.inr (some 104))), some (.inl 1), some (.inl ri), none, none, none, none, none], [.inl 1], (zs (zup h 104 1 0) hl)) _
    refine zH_bt (x := 1) (y := 0) (k := .ne) (c1 := (28, [some (.inr (.inr (some 104))), some (.inl 1), some (.inl ri), none, none, none, none, none], [], (zs (zup h 104 1 0) hl))) (c2 := (22, [some (.inr (.inr (some 104))), some (.inl 1), some (.inl ri), none, none, none, none, none], [], (zs (zup h 104 1 0) hl))) rfl ⟨by decide, by decide⟩ ⟨by decide, by decide⟩ (by show ¬ 1 = 0; decide) ?_
    refine zH_go 3 (c' := (33, [some (.inr (.inr (some 104))), some (.inl 1), some (.inl ri), none, none, none, none, none], [.inl 1, .inr (.inr (some 119))], (zs (zup h 104 1 0) hl))) rfl ?_
    refine zH_np (P := 0 ≤ 1 ∧ 1 < ((3 : Nat) : Int)) (c' := (34, [some (.inr (.inr (some 104))), some (.inl 1), some (.inl ri), none, none, none, none, none], [.inl (h 119 1)], (zs (zup h 104 1 0) hl))) rfl ⟨by decide, by decide⟩ ?_
    refine zH_br (x := (h 119 1)) (y := 0) (k := .eq) (c1 := (70, [some (.inr (.inr (some 104))), some (.inl 1), some (.inl ri), none, none, none, none, none], [], (zs (zup h 104 1 0) hl))) (c2 := (37, [some (.inr (.inr (some 104))), some (.inl 1), some (.inl ri), none, none, none, none, none], [], (zs (zup h 104 1 0) hl))) rfl (by first | assumption | (unfold zr; omega)) ⟨by decide, by decide⟩ (fun (b_3 : (h 119 1) = 0) => ?_) (fun (b_3 : ¬ ((h 119 1) = 0)) => ?_)
    · refine zH_go 4 (c' := (77, [some (.inr (.inr (some 104))), some (.inl 1), some (.inl ri), none, none, none, none, none], [.inl 0], (zs (zup (zup h 104 1 0) 104 1 (-11)) hl))) rfl ?_
      refine zH_ret (v := some (.inl 0)) rfl (fun q => absurd q (by decide)) ?_
      exact Or.inl ⟨by first | exact Or.inl (by omega) | exact Or.inr ⟨by omega, by rw [Int.toNat_natCast]; omega⟩, rfl, rfl⟩
    · refine zH_go 1 (c' := (38, [some (.inr (.inr (some 104))), some (.inl 1), some (.inl ri), none, none, none, none, none], [.inl ri], (zs (zup h 104 1 0) hl))) rfl ?_
      refine zH_np (P := zr ri) (c' := (39, [some (.inr (.inr (some 104))), some (.inl 1), some (.inl ri), none, none, none, none, none], [.inr (.inl ri)], (zs (zup h 104 1 0) hl))) rfl (by first | assumption | (unfold zr; omega)) ?_
      refine zH_go 4 (c' := (45, [some (.inr (.inr (some 104))), some (.inl 1), some (.inl ri), none, none, none, none, none], [.inl 1, .inr (.inr (some 121)), .inr (.inl 0), .inr (.inl ri)], (zs (zup h 104 1 0) hl))) rfl ?_
      refine zH_np (P := 0 ≤ 1 ∧ 1 < ((3 : Nat) : Int)) (c' := (46, [some (.inr (.inr (some 104))), some (.inl 1), some (.inl ri), none, none, none, none, none], [.inl (h 121 1), .inr (.inl 0), .inr (.inl ri)], (zs (zup h 104 1 0) hl))) rfl ⟨by decide, by decide⟩ ?_
      refine zH_go 2 (c' := (48, [some (.inr (.inr (some 104))), some (.inl 1), some (.inl ri), none, none, none, none, none], [.inl ((h 121 1) - 1), .inr (.inl 0), .inr (.inl ri)], (zs (zup h 104 1 0) hl))) rfl ?_
      refine zH_np (P := zr ((h 121 1) - 1)) (c' := (49, [some (.inr (.inr (some 104))), some (.inl 1), some (.inl ri), none, none, none, none, none], [.inr (.inl ((h 121 1) - 1)), .inr (.inl 0), .inr (.inl ri)], (zs (zup h 104 1 0) hl))) rfl (by first | assumption | (unfold zr; omega)) ?_
      refine zH_call (M' := 103) (as := [.inr (.inl ri), .inr (.inl 0), .inr (.inl ((h 121 1) - 1))]) (T := []) rfl (p_in (by first | assumption | exact zr_l (by assumption) | (unfold zrl; omega)) ⟨by decide, by decide⟩ (by first | assumption | exact zr_l (by assumption) | (unfold zrl; omega))) (fun r σ' p_4 => ?_)
      rcases p_4 with ⟨rfl, b_5, rfl⟩ | ⟨rfl, b_5, rfl⟩
      · show zH _ _ (52, [some (.inr (.inr (some 104))), some (.inl 1), some (.inl ri), none, none, none, none, none], [.inl 1], (zs (zup h 104 1 0) hl)) _
        refine zH_bf (x := 1) (y := 0) (k := .eq) (c1 := (78, [some (.inr (.inr (some 104))), some (.inl 1), some (.inl ri), none, none, none, none, none], [], (zs (zup h 104 1 0) hl))) (c2 := (55, [some (.inr (.inr (some 104))), some (.inl 1), some (.inl ri), none, none, none, none, none], [], (zs (zup h 104 1 0) hl))) rfl ⟨by decide, by decide⟩ ⟨by decide, by decide⟩ (by show ¬ (1 = 0); decide) ?_
        obtain ⟨R, rfl⟩ := Int.eq_ofNat_of_zero_le (show 0 ≤ ri by omega)
        show zH _ _ (55, [some (.inr (.inr (some 104))), some (.inl 1), some (.inl (R : Int)), none, none, none, none, none], [], (zs (zup h 104 1 0) hl)) _
        have h2R := h122 R (by omega)
        have h2R : h 122 (4 + R) = -9 ∨ (0 ≤ h 122 (4 + R) ∧ h 122 (4 + R) ≤ 8) := h2R
        refine zH_go 7 (c' := (64, [some (.inr (.inr (some 104))), some (.inl 1), some (.inl (R : Int)), none, none, none, none, none], [.inl (4 + (R : Int)), .inr (.inr (some 122))], (zs (zup h 104 1 0) hl))) rfl ?_
        refine zH_np (P := 0 ≤ (4 + (R : Int)) ∧ (4 + (R : Int)) < ((12 : Nat) : Int)) (c' := (65, [some (.inr (.inr (some 104))), some (.inl 1), some (.inl (R : Int)), none, none, none, none, none], [.inl (h 122 (4 + R))], (zs (zup h 104 1 0) hl))) rfl ⟨by omega, by omega⟩ ?_
        refine zH_go 1 (c' := (67, [some (.inr (.inr (some 104))), some (.inl 1), some (.inl (R : Int)), none, none, none, none, none], [.inl (-9), .inl (h 122 (4 + R))], (zs (zup h 104 1 0) hl))) rfl ?_
        refine zH_br (x := (h 122 (4 + R))) (y := (-9)) (k := .ne) (c1 := (78, [some (.inr (.inr (some 104))), some (.inl 1), some (.inl (R : Int)), none, none, none, none, none], [], (zs (zup h 104 1 0) hl))) (c2 := (70, [some (.inr (.inr (some 104))), some (.inl 1), some (.inl (R : Int)), none, none, none, none, none], [], (zs (zup h 104 1 0) hl))) rfl (by first | assumption | (unfold zr; omega)) ⟨by decide, by decide⟩ (fun (b_6 : ¬ (h 122 (4 + R)) = (-9)) => ?_) (fun (b_6 : ¬ (¬ (h 122 (4 + R)) = (-9))) => ?_)
        · refine zH_go 1 (c' := (79, [some (.inr (.inr (some 104))), some (.inl 1), some (.inl (R : Int)), none, none, none, none, none], [.inl (R : Int)], (zs (zup h 104 1 0) hl))) rfl ?_
          refine zH_np (P := zr (R : Int)) (c' := (80, [some (.inr (.inr (some 104))), some (.inl 1), some (.inl (R : Int)), none, none, none, none, none], [.inr (.inl (R : Int))], (zs (zup h 104 1 0) hl))) rfl (by first | assumption | (unfold zr; omega)) ?_
          refine zH_go 4 (c' := (86, [some (.inr (.inr (some 104))), some (.inl 1), some (.inl (R : Int)), none, none, none, none, none], [.inl 1, .inr (.inr (some 121)), .inr (.inl 0), .inr (.inl (R : Int))], (zs (zup h 104 1 0) hl))) rfl ?_
          refine zH_np (P := 0 ≤ 1 ∧ 1 < ((3 : Nat) : Int)) (c' := (87, [some (.inr (.inr (some 104))), some (.inl 1), some (.inl (R : Int)), none, none, none, none, none], [.inl (h 121 1), .inr (.inl 0), .inr (.inl (R : Int))], (zs (zup h 104 1 0) hl))) rfl ⟨by decide, by decide⟩ ?_
          refine zH_go 2 (c' := (89, [some (.inr (.inr (some 104))), some (.inl 1), some (.inl (R : Int)), none, none, none, none, none], [.inl ((h 121 1) - 1), .inr (.inl 0), .inr (.inl (R : Int))], (zs (zup h 104 1 0) hl))) rfl ?_
          refine zH_np (P := zr ((h 121 1) - 1)) (c' := (90, [some (.inr (.inr (some 104))), some (.inl 1), some (.inl (R : Int)), none, none, none, none, none], [.inr (.inl ((h 121 1) - 1)), .inr (.inl 0), .inr (.inl (R : Int))], (zs (zup h 104 1 0) hl))) rfl (by first | assumption | (unfold zr; omega)) ?_
          refine zH_call (M' := 103) (as := [.inr (.inl (R : Int)), .inr (.inl 0), .inr (.inl ((h 121 1) - 1))]) (T := []) rfl (p_in (by first | assumption | exact zr_l (by assumption) | (unfold zrl; omega)) ⟨by decide, by decide⟩ (by first | assumption | exact zr_l (by assumption) | (unfold zrl; omega))) (fun r σ' p_7 => ?_)
          rcases p_7 with ⟨rfl, b_8, rfl⟩ | ⟨rfl, b_8, rfl⟩
          · show zH _ _ (93, [some (.inr (.inr (some 104))), some (.inl 1), some (.inl (R : Int)), none, none, none, none, none], [.inl 1], (zs (zup h 104 1 0) hl)) _
            refine zH_bt (x := 1) (y := 0) (k := .ne) (c1 := (104, [some (.inr (.inr (some 104))), some (.inl 1), some (.inl (R : Int)), none, none, none, none, none], [], (zs (zup h 104 1 0) hl))) (c2 := (96, [some (.inr (.inr (some 104))), some (.inl 1), some (.inl (R : Int)), none, none, none, none, none], [], (zs (zup h 104 1 0) hl))) rfl ⟨by decide, by decide⟩ ⟨by decide, by decide⟩ (by show ¬ 1 = 0; decide) ?_
            obtain ⟨S, eS⟩ := Int.eq_ofNat_of_zero_le (show 0 ≤ h 122 (4 + R) by omega)
            have eS : h 122 (4 + R) = (S : Int) := eS
            refine zH_go 4 (c' := (109, [some (.inr (.inr (some 104))), some (.inl 1), some (.inl (R : Int)), some (.inl 0), some (.inl 0), none, none, none], [], (zs (zup h 104 1 0) hl))) rfl ?_
            refine zH_lp (X := (Nat → Nat → Int) × (Nat → Nat → Int) × zDS × (Option zV) × (Option zV)) (F := fun (kq : Nat) (x : (Nat → Nat → Int) × (Nat → Nat → Int) × zDS × (Option zV) × (Option zV)) => (109, [some (.inr (.inr (some 104))), some (.inl 1), some (.inl (R : Int)), some (.inl (kq : Int)), some (.inl (kq : Int)), x.2.2.2.1, none, x.2.2.2.2], [], (zs x.1 x.2.1))) (I := fun (kq : Nat) (x : (Nat → Nat → Int) × (Nat → Nat → Int) × zDS × (Option zV) × (Option zV)) => zDm x.1 x.2.1 p L B (n + kq) x.2.2.1 ∧ zCh h L B K (fun q => Int.toNat (hl 123 (32 + 8 * R + q))) n s0 kq x.2.2.1 ∧ (∀ q : Nat, q < kq → zCDec (h 104 3) (h 104 9) ((n + q : Nat) : Int) (hl 123 (32 + 8 * R + q)) 0) ∧ zMH x.1 p L B (n + kq) x.2.2.1 ∧ (∀ i : Nat, i < 3 → x.2.2.1.2.1 i ≤ 1500 * ((n + kq : Nat) : Int)) ∧ (∀ c : Nat, c < 104 → x.1 c = h c) ∧ (∀ c : Nat, (105 ≤ c ∧ c < 109) ∨ 118 ≤ c → x.1 c = h c) ∧ (∀ j : Nat, j ≠ 1 → j ≠ 14 → j ≠ 15 → x.1 104 j = h 104 j) ∧ x.1 104 1 = 0 ∧ ∀ c : Nat, c ≠ 104 → x.2.1 c = hl c) (N := S) (fun k x hk hI ih => ?_) (fun x hI => ?_) 0 ((zup h 104 1 0), hl, s0, none, none) (by omega) ?_
            · obtain ⟨g, gl, s, x5, x7⟩ := x
              replace hI : zDm g gl p L B (n + k) s ∧ zCh h L B K (fun q => Int.toNat (hl 123 (32 + 8 * R + q))) n s0 k s ∧ (∀ q : Nat, q < k → zCDec (h 104 3) (h 104 9) ((n + q : Nat) : Int) (hl 123 (32 + 8 * R + q)) 0) ∧ zMH g p L B (n + k) s ∧ (∀ i : Nat, i < 3 → s.2.1 i ≤ 1500 * ((n + k : Nat) : Int)) ∧ (∀ c : Nat, c < 104 → g c = h c) ∧ (∀ c : Nat, (105 ≤ c ∧ c < 109) ∨ 118 ≤ c → g c = h c) ∧ (∀ j : Nat, j ≠ 1 → j ≠ 14 → j ≠ 15 → g 104 j = h 104 j) ∧ g 104 1 = 0 ∧ ∀ c : Nat, c ≠ 104 → gl c = hl c := hI
              show zH _ _ (109, [some (.inr (.inr (some 104))), some (.inl 1), some (.inl (R : Int)), some (.inl (k : Int)), some (.inl (k : Int)), x5, none, x7], [], (zs g gl)) _
              obtain ⟨I1, I2, I3, I4, I5, I6, I7, I8, I9, I10⟩ := hI
              have e122 : g 122 (4 + R) = (S : Int) := by rw [I7 122 (Or.inr (by decide))]; exact eS
              have e3 : g 104 3 = (p : Int) := by rw [I8 3 (by decide) (by decide) (by decide)]; exact h3
              have e9 : g 104 9 = (L : Int) := by rw [I8 9 (by decide) (by decide) (by decide)]; exact m9
              have e15 : g 104 15 = ((n + k : Nat) : Int) := I1.2.2.2.1
              have hnk := I4.2.2.2.2.2.2.1
              refine zH_go 8 (c' := (120, [some (.inr (.inr (some 104))), some (.inl 1), some (.inl (R : Int)), some (.inl (k : Int)), some (.inl (k : Int)), x5, none, x7], [.inl (4 + (R : Int)), .inr (.inr (some 122)), .inl (k : Int)], (zs g gl))) rfl ?_
              refine zH_np (P := 0 ≤ (4 + (R : Int)) ∧ (4 + (R : Int)) < ((12 : Nat) : Int)) (c' := (121, [some (.inr (.inr (some 104))), some (.inl 1), some (.inl (R : Int)), some (.inl (k : Int)), some (.inl (k : Int)), x5, none, x7], [.inl (g 122 (4 + R)), .inl (k : Int)], (zs g gl))) rfl ⟨by omega, by omega⟩ ?_
              rw [e122]
              refine zH_bf (x := (k : Int)) (y := (S : Int)) (k := .ge) (c1 := (220, [some (.inr (.inr (some 104))), some (.inl 1), some (.inl (R : Int)), some (.inl (k : Int)), some (.inl (k : Int)), x5, none, x7], [], (zs g gl))) (c2 := (124, [some (.inr (.inr (some 104))), some (.inl 1), some (.inl (R : Int)), some (.inl (k : Int)), some (.inl (k : Int)), x5, none, x7], [], (zs g gl))) rfl (by first | assumption | (unfold zr; omega)) (by first | assumption | (unfold zr; omega)) (by show ¬ (¬ (k : Int) < (S : Int)); omega) ?_
              refine zH_go 11 (c' := (140, [some (.inr (.inr (some 104))), some (.inl 1), some (.inl (R : Int)), some (.inl (k : Int)), some (.inl (k : Int)), x5, none, x7], [.inl ((32 + (8 * (R : Int))) + (k : Int)), .inr (.inr (some 123))], (zs g gl))) rfl ?_
              refine zH_np (P := 0 ≤ ((32 + (8 * (R : Int))) + (k : Int)) ∧ ((32 + (8 * (R : Int))) + (k : Int)) < ((96 : Nat) : Int)) (c' := (141, [some (.inr (.inr (some 104))), some (.inl 1), some (.inl (R : Int)), some (.inl (k : Int)), some (.inl (k : Int)), x5, none, x7], [.inr (.inl (gl 123 ((32 + (8 * R)) + k)))], (zs g gl))) rfl ⟨by omega, by omega⟩ ?_
              obtain ⟨v, hv⟩ : ∃ v, v = hl 123 (32 + 8 * R + k) := ⟨_, rfl⟩
              have hzv : zrl v := by rw [hv]; exact h123 R k (by omega) (by omega)
              rw [show (gl 123 ((32 + (8 * R)) + k)) = v from by rw [I10 123 (by decide)]; exact hv.symm]
              show zH _ _ (141, [some (.inr (.inr (some 104))), some (.inl 1), some (.inl (R : Int)), some (.inl (k : Int)), some (.inl (k : Int)), x5, none, x7], [.inr (.inl v)], (zs g gl)) _
              refine zH_go 5 (c' := (150, [some (.inr (.inr (some 104))), some (.inl 1), some (.inl (R : Int)), some (.inl (k : Int)), some (.inl (k : Int)), some (.inr (.inl v)), none, x7], [.inl (g 104 3), .inr (.inl 0), .inr (.inl v)], (zs g gl))) rfl ?_
              rw [e3]
              refine zH_go 2 (c' := (152, [some (.inr (.inr (some 104))), some (.inl 1), some (.inl (R : Int)), some (.inl (k : Int)), some (.inl (k : Int)), some (.inr (.inl v)), none, x7], [.inl ((p : Int) - 1), .inr (.inl 0), .inr (.inl v)], (zs g gl))) rfl ?_
              refine zH_np (P := zr ((p : Int) - 1)) (c' := (153, [some (.inr (.inr (some 104))), some (.inl 1), some (.inl (R : Int)), some (.inl (k : Int)), some (.inl (k : Int)), some (.inr (.inl v)), none, x7], [.inr (.inl ((p : Int) - 1)), .inr (.inl 0), .inr (.inl v)], (zs g gl))) rfl (by first | assumption | (unfold zr; omega)) ?_
              refine zH_call (M' := 103) (as := [.inr (.inl v), .inr (.inl 0), .inr (.inl ((p : Int) - 1))]) (T := []) rfl (p_in (by first | assumption | exact zr_l (by assumption) | (unfold zrl; omega)) ⟨by decide, by decide⟩ (by first | assumption | exact zr_l (by assumption) | (unfold zrl; omega))) (fun r σ' p_9 => ?_)
              rcases p_9 with ⟨rfl, b_10, rfl⟩ | ⟨rfl, b_10, rfl⟩
              · show zH _ _ (156, [some (.inr (.inr (some 104))), some (.inl 1), some (.inl (R : Int)), some (.inl (k : Int)), some (.inl (k : Int)), some (.inr (.inl v)), none, x7], [.inl 1], (zs g gl)) _
                refine zH_bt (x := 1) (y := 0) (k := .ne) (c1 := (166, [some (.inr (.inr (some 104))), some (.inl 1), some (.inl (R : Int)), some (.inl (k : Int)), some (.inl (k : Int)), some (.inr (.inl v)), none, x7], [], (zs g gl))) (c2 := (159, [some (.inr (.inr (some 104))), some (.inl 1), some (.inl (R : Int)), some (.inl (k : Int)), some (.inl (k : Int)), some (.inr (.inl v)), none, x7], [], (zs g gl))) rfl ⟨by decide, by decide⟩ ⟨by decide, by decide⟩ (by show ¬ 1 = 0; decide) ?_
                obtain ⟨u, hu⟩ := Int.eq_ofNat_of_zero_le (show 0 ≤ v by omega)
                have hu : v = (u : Int) := hu
                refine zH_go 2 (c' := (170, [some (.inr (.inr (some 104))), some (.inl 1), some (.inl (R : Int)), some (.inl (k : Int)), some (.inl (k : Int)), some (.inr (.inl v)), none, x7], [.inl (g 104 9)], (zs g gl))) rfl ?_
                rw [e9]
                refine zH_bf (x := (L : Int)) (y := 0) (k := .eq) (c1 := (182, [some (.inr (.inr (some 104))), some (.inl 1), some (.inl (R : Int)), some (.inl (k : Int)), some (.inl (k : Int)), some (.inr (.inl v)), none, x7], [], (zs g gl))) (c2 := (173, [some (.inr (.inr (some 104))), some (.inl 1), some (.inl (R : Int)), some (.inl (k : Int)), some (.inl (k : Int)), some (.inr (.inl v)), none, x7], [], (zs g gl))) rfl (by first | assumption | (unfold zr; omega)) ⟨by decide, by decide⟩ (by show ¬ ((L : Int) = 0); omega) ?_
                refine zH_go 2 (c' := (177, [some (.inr (.inr (some 104))), some (.inl 1), some (.inl (R : Int)), some (.inl (k : Int)), some (.inl (k : Int)), some (.inr (.inl v)), none, x7], [.inl (g 104 15)], (zs g gl))) rfl ?_
                rw [e15]
                refine zH_go 1 (c' := (179, [some (.inr (.inr (some 104))), some (.inl 1), some (.inl (R : Int)), some (.inl (k : Int)), some (.inl (k : Int)), some (.inr (.inl v)), none, x7], [.inl 12, .inl ((n + k : Nat) : Int)], (zs g gl))) rfl ?_
                refine zH_br (x := ((n + k : Nat) : Int)) (y := 12) (k := .ne) (c1 := (202, [some (.inr (.inr (some 104))), some (.inl 1), some (.inl (R : Int)), some (.inl (k : Int)), some (.inl (k : Int)), some (.inr (.inl v)), none, x7], [], (zs g gl))) (c2 := (182, [some (.inr (.inr (some 104))), some (.inl 1), some (.inl (R : Int)), some (.inl (k : Int)), some (.inl (k : Int)), some (.inr (.inl v)), none, x7], [], (zs g gl))) rfl (by first | assumption | (unfold zr; omega)) ⟨by decide, by decide⟩ (fun (b_11 : ¬ ((n + k : Nat) : Int) = 12) => ?_) (fun (b_11 : ¬ (¬ ((n + k : Nat) : Int) = 12)) => ?_)
                · refine zH_go 3 (c' := (206, [some (.inr (.inr (some 104))), some (.inl 1), some (.inl (R : Int)), some (.inl (k : Int)), some (.inl (k : Int)), some (.inr (.inl v)), none, x7], [.inl (Int.bmod v 4294967296), .inr (.inr (some 104))], (zs g gl))) rfl ?_
                  rw [zbm_id (show zr v from ⟨by omega, by omega⟩), hu]
                  show zH _ _ (206, [some (.inr (.inr (some 104))), some (.inl 1), some (.inl (R : Int)), some (.inl (k : Int)), some (.inl (k : Int)), some (.inr (.inl (u : Int))), none, x7], [.inl (u : Int), .inr (.inr (some 104))], (zs g gl)) _
                  refine zH_call (M' := 127) (as := [.inr (.inr (some 104)), .inl (u : Int)]) (T := []) rfl (p_comes (pp := u) (K := K) I4 I1 (by omega) (by omega) (by rw [I8 11 (by decide) (by decide) (by decide)]; exact hK11) hK) (fun r' σ' pm => ?_)
                  obtain ⟨l, tr, g', gl', c1, rfl, rfl, c2, c3, c4, c5, c6⟩ := pm
                  have hcs : ∀ c : Nat, 12 ≤ c → c < 20 → g c = h c := fun c c1 c2 => I6 c (by omega)
                  have hs6k := I4.2.2.2.2.2.2.2.1
                  have hplk := I4.2.2.2.2.2.2.2.2.2.2.2.1
                  have c1h : zPkS h L B K (n + k) u s l tr := zPkS_same hcs hL3.2 hs6k (by omega) (fun j hj => by have := hplk j hj; omega) c1
                  have hst := zMH_step (K := K) (tr := tr) I4 (show n + k < 12 by omega) (show u < p by omega) I5 c1.1
                  have eUp : zUp g K (n + k) u l tr s = zUp h K (n + k) u l tr s := zUp_same hcs (hs6k l (by have := c1.1; omega))
                  rw [eUp] at c2 hst
                  have hPk : Int.toNat (hl 123 (32 + 8 * R + k)) = u := by rw [← hv, hu, Int.toNat_natCast]
                  have hI5 : zDm g' gl' p L B (n + (k + 1)) (zUp h K (n + k) u l tr s) ∧ zCh h L B K (fun q => Int.toNat (hl 123 (32 + 8 * R + q))) n s0 (k + 1) (zUp h K (n + k) u l tr s) ∧ (∀ q : Nat, q < (k + 1) → zCDec (h 104 3) (h 104 9) ((n + q : Nat) : Int) (hl 123 (32 + 8 * R + q)) 0) ∧ zMH g' p L B (n + (k + 1)) (zUp h K (n + k) u l tr s) ∧ (∀ i : Nat, i < 3 → (zUp h K (n + k) u l tr s).2.1 i ≤ 1500 * ((n + (k + 1) : Nat) : Int)) ∧ (∀ c : Nat, c < 104 → g' c = h c) ∧ (∀ c : Nat, (105 ≤ c ∧ c < 109) ∨ 118 ≤ c → g' c = h c) ∧ (∀ j : Nat, j ≠ 1 → j ≠ 14 → j ≠ 15 → g' 104 j = h 104 j) ∧ g' 104 1 = 0 ∧ ∀ c : Nat, c ≠ 104 → gl' c = hl c := ⟨c2, ⟨s, l, tr, I2, by dsimp only; rw [hPk]; exact c1h, by dsimp only; rw [hPk]⟩, fun q hq => (by
                      by_cases w : q = k
                      · rw [w, ← hv]
                        unfold zCDec
                        omega
                      · exact I3 q (by omega)), zMH_same hst.1 (fun c hc => by rw [c3 c (by omega)]) (fun i j hi hj => by rw [c4 108 (Or.inl (by decide))]) (c5 3 (by decide) (by decide)), hst.2, fun c hc => by rw [c3 c hc]; exact I6 c hc, fun c hc => by rw [c4 c (by omega)]; exact I7 c hc, fun j h1 h2 h3 => by rw [c5 j h2 h3]; exact I8 j h1 h2 h3, by rw [c5 1 (by decide) (by decide)]; exact I9, fun c hc => by rw [c6 c hc]; exact I10 c hc⟩
                  show zH _ _ (209, [some (.inr (.inr (some 104))), some (.inl 1), some (.inl (R : Int)), some (.inl (k : Int)), some (.inl (k : Int)), some (.inr (.inl (u : Int))), none, x7], [.inl (l : Int)], (zs g' gl')) _
                  refine zH_go 4 (c' := (109, [some (.inr (.inr (some 104))), some (.inl 1), some (.inl (R : Int)), some (.inl ((k : Int) + 1)), some (.inl ((k : Int) + 1)), some (.inr (.inl (u : Int))), none, some (.inl (l : Int))], [], (zs g' gl'))) rfl ?_
                  refine ih (g', gl', (zUp h K (n + k) u l tr s), (some (.inr (.inl (u : Int)))), (some (.inl (l : Int)))) ?_
                  show zDm g' gl' p L B (n + (k + 1)) (zUp h K (n + k) u l tr s) ∧ zCh h L B K (fun q => Int.toNat (hl 123 (32 + 8 * R + q))) n s0 (k + 1) (zUp h K (n + k) u l tr s) ∧ (∀ q : Nat, q < (k + 1) → zCDec (h 104 3) (h 104 9) ((n + q : Nat) : Int) (hl 123 (32 + 8 * R + q)) 0) ∧ zMH g' p L B (n + (k + 1)) (zUp h K (n + k) u l tr s) ∧ (∀ i : Nat, i < 3 → (zUp h K (n + k) u l tr s).2.1 i ≤ 1500 * ((n + (k + 1) : Nat) : Int)) ∧ (∀ c : Nat, c < 104 → g' c = h c) ∧ (∀ c : Nat, (105 ≤ c ∧ c < 109) ∨ 118 ≤ c → g' c = h c) ∧ (∀ j : Nat, j ≠ 1 → j ≠ 14 → j ≠ 15 → g' 104 j = h 104 j) ∧ g' 104 1 = 0 ∧ ∀ c : Nat, c ≠ 104 → gl' c = hl c
                  exact hI5
                · refine zH_go 3 (c' := (187, [some (.inr (.inr (some 104))), some (.inl 1), some (.inl (R : Int)), some (.inl (k : Int)), some (.inl (k : Int)), some (.inr (.inl v)), none, x7], [.inl (g 104 9), .inr (.inr (some 104))], (zs g gl))) rfl ?_
                  refine zH_br (x := (g 104 9)) (y := 0) (k := .ne) (c1 := (195, [some (.inr (.inr (some 104))), some (.inl 1), some (.inl (R : Int)), some (.inl (k : Int)), some (.inl (k : Int)), some (.inr (.inl v)), none, x7], [.inr (.inr (some 104))], (zs g gl))) (c2 := (190, [some (.inr (.inr (some 104))), some (.inl 1), some (.inl (R : Int)), some (.inl (k : Int)), some (.inl (k : Int)), some (.inr (.inl v)), none, x7], [.inr (.inr (some 104))], (zs g gl))) rfl (by first | assumption | (unfold zr; omega)) ⟨by decide, by decide⟩ (fun (b_12 : ¬ (g 104 9) = 0) => ?_) (fun (b_12 : ¬ (¬ (g 104 9) = 0)) => ?_)
                  · refine zH_go 3 (c' := (201, [some (.inr (.inr (some 104))), some (.inl 1), some (.inl (R : Int)), some (.inl (k : Int)), some (.inl (k : Int)), some (.inr (.inl v)), none, x7], [.inl (k : Int)], (zs (zup g 104 1 (-3)) gl))) rfl ?_
                    refine zH_ret (v := some (.inl (k : Int))) rfl (fun q => absurd q (by decide)) ?_
                    refine Or.inr (Or.inr ⟨R, S, k, (-3), s, _, gl, rfl, by omega, by omega, eS, rfl, rfl, zDm_same I1 (fun c hc => by funext q; exact zup_ne (by omega)) (fun i j hi hj => zup_ne (by decide)) ⟨zup_k (by decide), zup_k (by decide), zup_k (by decide), zup_k (by decide)⟩ rfl (fun j hj => by have := I4.2.2.2.2.2.2.2.2.2.2.2.1 j hj; omega), I2, I3, Or.inr ⟨by omega, by decide, ?_⟩, fun c hc => by rw [← I6 c hc]; funext q; exact zup_ne (by omega), fun c hc => by rw [← I7 c hc]; funext q; exact zup_ne (by omega), fun j h1 h2 h3 => by rw [zup_k h1]; exact I8 j h1 h2 h3, zup_eq, I10⟩)
                    rw [← hv]
                    unfold zCDec
                    omega
                  · refine zH_go 4 (c' := (201, [some (.inr (.inr (some 104))), some (.inl 1), some (.inl (R : Int)), some (.inl (k : Int)), some (.inl (k : Int)), some (.inr (.inl v)), none, x7], [.inl (k : Int)], (zs (zup g 104 1 (-2)) gl))) rfl ?_
                    refine zH_ret (v := some (.inl (k : Int))) rfl (fun q => absurd q (by decide)) ?_
                    refine Or.inr (Or.inr ⟨R, S, k, (-2), s, _, gl, rfl, by omega, by omega, eS, rfl, rfl, zDm_same I1 (fun c hc => by funext q; exact zup_ne (by omega)) (fun i j hi hj => zup_ne (by decide)) ⟨zup_k (by decide), zup_k (by decide), zup_k (by decide), zup_k (by decide)⟩ rfl (fun j hj => by have := I4.2.2.2.2.2.2.2.2.2.2.2.1 j hj; omega), I2, I3, Or.inr ⟨by omega, by decide, ?_⟩, fun c hc => by rw [← I6 c hc]; funext q; exact zup_ne (by omega), fun c hc => by rw [← I7 c hc]; funext q; exact zup_ne (by omega), fun j h1 h2 h3 => by rw [zup_k h1]; exact I8 j h1 h2 h3, zup_eq, I10⟩)
                    rw [← hv]
                    unfold zCDec
                    omega
              · show zH _ _ (156, [some (.inr (.inr (some 104))), some (.inl 1), some (.inl (R : Int)), some (.inl (k : Int)), some (.inl (k : Int)), some (.inr (.inl v)), none, x7], [.inl 0], (zs g gl)) _
                refine zH_bf (x := 0) (y := 0) (k := .ne) (c1 := (166, [some (.inr (.inr (some 104))), some (.inl 1), some (.inl (R : Int)), some (.inl (k : Int)), some (.inl (k : Int)), some (.inr (.inl v)), none, x7], [], (zs g gl))) (c2 := (159, [some (.inr (.inr (some 104))), some (.inl 1), some (.inl (R : Int)), some (.inl (k : Int)), some (.inl (k : Int)), some (.inr (.inl v)), none, x7], [], (zs g gl))) rfl ⟨by decide, by decide⟩ ⟨by decide, by decide⟩ (by show ¬ (¬ 0 = 0); decide) ?_
                refine zH_go 4 (c' := (165, [some (.inr (.inr (some 104))), some (.inl 1), some (.inl (R : Int)), some (.inl (k : Int)), some (.inl (k : Int)), some (.inr (.inl v)), none, x7], [.inl (k : Int)], (zs (zup g 104 1 (-1)) gl))) rfl ?_
                refine zH_ret (v := some (.inl (k : Int))) rfl (fun q => absurd q (by decide)) ?_
                refine Or.inr (Or.inr ⟨R, S, k, (-1), s, _, gl, rfl, by omega, by omega, eS, rfl, rfl, zDm_same I1 (fun c hc => by funext q; exact zup_ne (by omega)) (fun i j hi hj => zup_ne (by decide)) ⟨zup_k (by decide), zup_k (by decide), zup_k (by decide), zup_k (by decide)⟩ rfl (fun j hj => by have := I4.2.2.2.2.2.2.2.2.2.2.2.1 j hj; omega), I2, I3, Or.inr ⟨by omega, by decide, ?_⟩, fun c hc => by rw [← I6 c hc]; funext q; exact zup_ne (by omega), fun c hc => by rw [← I7 c hc]; funext q; exact zup_ne (by omega), fun j h1 h2 h3 => by rw [zup_k h1]; exact I8 j h1 h2 h3, zup_eq, I10⟩)
                rw [← hv]
                unfold zCDec
                omega
            · obtain ⟨g, gl, s, x5, x7⟩ := x
              replace hI : zDm g gl p L B (n + S) s ∧ zCh h L B K (fun q => Int.toNat (hl 123 (32 + 8 * R + q))) n s0 S s ∧ (∀ q : Nat, q < S → zCDec (h 104 3) (h 104 9) ((n + q : Nat) : Int) (hl 123 (32 + 8 * R + q)) 0) ∧ zMH g p L B (n + S) s ∧ (∀ i : Nat, i < 3 → s.2.1 i ≤ 1500 * ((n + S : Nat) : Int)) ∧ (∀ c : Nat, c < 104 → g c = h c) ∧ (∀ c : Nat, (105 ≤ c ∧ c < 109) ∨ 118 ≤ c → g c = h c) ∧ (∀ j : Nat, j ≠ 1 → j ≠ 14 → j ≠ 15 → g 104 j = h 104 j) ∧ g 104 1 = 0 ∧ ∀ c : Nat, c ≠ 104 → gl c = hl c := hI
              show zH _ _ (109, [some (.inr (.inr (some 104))), some (.inl 1), some (.inl (R : Int)), some (.inl (S : Int)), some (.inl (S : Int)), x5, none, x7], [], (zs g gl)) _
              obtain ⟨I1, I2, I3, I4, I5, I6, I7, I8, I9, I10⟩ := hI
              have e122 : g 122 (4 + R) = (S : Int) := by rw [I7 122 (Or.inr (by decide))]; exact eS
              refine zH_go 8 (c' := (120, [some (.inr (.inr (some 104))), some (.inl 1), some (.inl (R : Int)), some (.inl (S : Int)), some (.inl (S : Int)), x5, none, x7], [.inl (4 + (R : Int)), .inr (.inr (some 122)), .inl (S : Int)], (zs g gl))) rfl ?_
              refine zH_np (P := 0 ≤ (4 + (R : Int)) ∧ (4 + (R : Int)) < ((12 : Nat) : Int)) (c' := (121, [some (.inr (.inr (some 104))), some (.inl 1), some (.inl (R : Int)), some (.inl (S : Int)), some (.inl (S : Int)), x5, none, x7], [.inl (g 122 (4 + R)), .inl (S : Int)], (zs g gl))) rfl ⟨by omega, by omega⟩ ?_
              rw [e122]
              refine zH_bt (x := (S : Int)) (y := (S : Int)) (k := .ge) (c1 := (220, [some (.inr (.inr (some 104))), some (.inl 1), some (.inl (R : Int)), some (.inl (S : Int)), some (.inl (S : Int)), x5, none, x7], [], (zs g gl))) (c2 := (124, [some (.inr (.inr (some 104))), some (.inl 1), some (.inl (R : Int)), some (.inl (S : Int)), some (.inl (S : Int)), x5, none, x7], [], (zs g gl))) rfl (by first | assumption | (unfold zr; omega)) (by first | assumption | (unfold zr; omega)) (by show ¬ (S : Int) < (S : Int); omega) ?_
              refine zH_go 1 (c' := (221, [some (.inr (.inr (some 104))), some (.inl 1), some (.inl (R : Int)), some (.inl (S : Int)), some (.inl (S : Int)), x5, none, x7], [.inl (S : Int)], (zs g gl))) rfl ?_
              refine zH_ret (v := some (.inl (S : Int))) rfl (fun q => absurd q (by decide)) ?_
              exact Or.inr (Or.inr ⟨R, S, S, 0, s, g, gl, rfl, by omega, by omega, eS, rfl, rfl, I1, I2, I3, Or.inl ⟨rfl, rfl⟩, I6, I7, I8, I9, I10⟩)
            · show zDm (zup h 104 1 0) hl p L B (n + 0) s0 ∧ zCh h L B K (fun q => Int.toNat (hl 123 (32 + 8 * R + q))) n s0 0 s0 ∧ (∀ q : Nat, q < 0 → zCDec (h 104 3) (h 104 9) ((n + q : Nat) : Int) (hl 123 (32 + 8 * R + q)) 0) ∧ zMH (zup h 104 1 0) p L B (n + 0) s0 ∧ (∀ i : Nat, i < 3 → s0.2.1 i ≤ 1500 * ((n + 0 : Nat) : Int)) ∧ (∀ c : Nat, c < 104 → (zup h 104 1 0) c = h c) ∧ (∀ c : Nat, (105 ≤ c ∧ c < 109) ∨ 118 ≤ c → (zup h 104 1 0) c = h c) ∧ (∀ j : Nat, j ≠ 1 → j ≠ 14 → j ≠ 15 → (zup h 104 1 0) 104 j = h 104 j) ∧ (zup h 104 1 0) 104 1 = 0 ∧ ∀ c : Nat, c ≠ 104 → hl c = hl c
              refine ⟨zDm_same hM (fun c hc => by funext q; exact zup_ne (by omega)) (fun i j hi hj => zup_ne (by decide)) ⟨zup_k (by decide), zup_k (by decide), zup_k (by decide), zup_k (by decide)⟩ rfl (fun j hj => by have := hpl j hj; omega), rfl, fun q hq => absurd hq (Nat.not_lt_zero q), zMH_same hH (fun c hc => by funext q; exact zup_ne (by omega)) (fun i j hi hj => zup_ne (by decide)) (zup_k (by decide)), hb0, fun c hc => by funext q; exact zup_ne (by omega), fun c hc => by funext q; exact zup_ne (by omega), fun j h1 _ _ => zup_k h1, zup_eq, fun c _ => rfl⟩
          · show zH _ _ (93, [some (.inr (.inr (some 104))), some (.inl 1), some (.inl (R : Int)), none, none, none, none, none], [.inl 0], (zs (zup h 104 1 0) hl)) _
            refine zH_bf (x := 0) (y := 0) (k := .ne) (c1 := (104, [some (.inr (.inr (some 104))), some (.inl 1), some (.inl (R : Int)), none, none, none, none, none], [], (zs (zup h 104 1 0) hl))) (c2 := (96, [some (.inr (.inr (some 104))), some (.inl 1), some (.inl (R : Int)), none, none, none, none, none], [], (zs (zup h 104 1 0) hl))) rfl ⟨by decide, by decide⟩ ⟨by decide, by decide⟩ (by show ¬ (¬ 0 = 0); decide) ?_
            refine zH_go 4 (c' := (103, [some (.inr (.inr (some 104))), some (.inl 1), some (.inl (R : Int)), none, none, none, none, none], [.inl 0], (zs (zup (zup h 104 1 0) 104 1 (-12)) hl))) rfl ?_
            refine zH_ret (v := some (.inl 0)) rfl (fun q => absurd q (by decide)) ?_
            exact Or.inr (Or.inl ⟨by omega, by omega, rfl, rfl⟩)
        · refine zH_go 4 (c' := (77, [some (.inr (.inr (some 104))), some (.inl 1), some (.inl (R : Int)), none, none, none, none, none], [.inl 0], (zs (zup (zup h 104 1 0) 104 1 (-11)) hl))) rfl ?_
          refine zH_ret (v := some (.inl 0)) rfl (fun q => absurd q (by decide)) ?_
          exact Or.inl ⟨by first | exact Or.inl (by omega) | exact Or.inr ⟨by omega, by rw [Int.toNat_natCast]; omega⟩, rfl, rfl⟩
      · show zH _ _ (52, [some (.inr (.inr (some 104))), some (.inl 1), some (.inl ri), none, none, none, none, none], [.inl 0], (zs (zup h 104 1 0) hl)) _
        refine zH_bt (x := 0) (y := 0) (k := .eq) (c1 := (78, [some (.inr (.inr (some 104))), some (.inl 1), some (.inl ri), none, none, none, none, none], [], (zs (zup h 104 1 0) hl))) (c2 := (55, [some (.inr (.inr (some 104))), some (.inl 1), some (.inl ri), none, none, none, none, none], [], (zs (zup h 104 1 0) hl))) rfl ⟨by decide, by decide⟩ ⟨by decide, by decide⟩ (by show 0 = 0; decide) ?_
        refine zH_go 1 (c' := (79, [some (.inr (.inr (some 104))), some (.inl 1), some (.inl ri), none, none, none, none, none], [.inl ri], (zs (zup h 104 1 0) hl))) rfl ?_
        refine zH_np (P := zr ri) (c' := (80, [some (.inr (.inr (some 104))), some (.inl 1), some (.inl ri), none, none, none, none, none], [.inr (.inl ri)], (zs (zup h 104 1 0) hl))) rfl (by first | assumption | (unfold zr; omega)) ?_
        refine zH_go 4 (c' := (86, [some (.inr (.inr (some 104))), some (.inl 1), some (.inl ri), none, none, none, none, none], [.inl 1, .inr (.inr (some 121)), .inr (.inl 0), .inr (.inl ri)], (zs (zup h 104 1 0) hl))) rfl ?_
        refine zH_np (P := 0 ≤ 1 ∧ 1 < ((3 : Nat) : Int)) (c' := (87, [some (.inr (.inr (some 104))), some (.inl 1), some (.inl ri), none, none, none, none, none], [.inl (h 121 1), .inr (.inl 0), .inr (.inl ri)], (zs (zup h 104 1 0) hl))) rfl ⟨by decide, by decide⟩ ?_
        refine zH_go 2 (c' := (89, [some (.inr (.inr (some 104))), some (.inl 1), some (.inl ri), none, none, none, none, none], [.inl ((h 121 1) - 1), .inr (.inl 0), .inr (.inl ri)], (zs (zup h 104 1 0) hl))) rfl ?_
        refine zH_np (P := zr ((h 121 1) - 1)) (c' := (90, [some (.inr (.inr (some 104))), some (.inl 1), some (.inl ri), none, none, none, none, none], [.inr (.inl ((h 121 1) - 1)), .inr (.inl 0), .inr (.inl ri)], (zs (zup h 104 1 0) hl))) rfl (by first | assumption | (unfold zr; omega)) ?_
        refine zH_call (M' := 103) (as := [.inr (.inl ri), .inr (.inl 0), .inr (.inl ((h 121 1) - 1))]) (T := []) rfl (p_in (by first | assumption | exact zr_l (by assumption) | (unfold zrl; omega)) ⟨by decide, by decide⟩ (by first | assumption | exact zr_l (by assumption) | (unfold zrl; omega))) (fun r σ' p_13 => ?_)
        rcases p_13 with ⟨rfl, b_14, rfl⟩ | ⟨rfl, b_14, rfl⟩
        · show zH _ _ (93, [some (.inr (.inr (some 104))), some (.inl 1), some (.inl ri), none, none, none, none, none], [.inl 1], (zs (zup h 104 1 0) hl)) _
          refine zH_bt (x := 1) (y := 0) (k := .ne) (c1 := (104, [some (.inr (.inr (some 104))), some (.inl 1), some (.inl ri), none, none, none, none, none], [], (zs (zup h 104 1 0) hl))) (c2 := (96, [some (.inr (.inr (some 104))), some (.inl 1), some (.inl ri), none, none, none, none, none], [], (zs (zup h 104 1 0) hl))) rfl ⟨by decide, by decide⟩ ⟨by decide, by decide⟩ (by show ¬ 1 = 0; decide) ?_
          exfalso; omega
        · show zH _ _ (93, [some (.inr (.inr (some 104))), some (.inl 1), some (.inl ri), none, none, none, none, none], [.inl 0], (zs (zup h 104 1 0) hl)) _
          refine zH_bf (x := 0) (y := 0) (k := .ne) (c1 := (104, [some (.inr (.inr (some 104))), some (.inl 1), some (.inl ri), none, none, none, none, none], [], (zs (zup h 104 1 0) hl))) (c2 := (96, [some (.inr (.inr (some 104))), some (.inl 1), some (.inl ri), none, none, none, none, none], [], (zs (zup h 104 1 0) hl))) rfl ⟨by decide, by decide⟩ ⟨by decide, by decide⟩ (by show ¬ (¬ 0 = 0); decide) ?_
          refine zH_go 4 (c' := (103, [some (.inr (.inr (some 104))), some (.inl 1), some (.inl ri), none, none, none, none, none], [.inl 0], (zs (zup (zup h 104 1 0) 104 1 (-12)) hl))) rfl ?_
          refine zH_ret (v := some (.inl 0)) rfl (fun q => absurd q (by decide)) ?_
          exact Or.inr (Or.inl ⟨by omega, by omega, rfl, rfl⟩)
  · exact absurd (by decide) b_2
set_option maxRecDepth 100000 in
set_option maxHeartbeats 4000000 in
theorem p_roadsO2 {d : Nat} {h0 h hl : Nat → Nat → Int} (e0 : zup h0 104 0 0 = h) (hB : zMbk h hl 2) {r : Nat} (hr15 : r ≤ 15) (hr4 : h 104 4 = (r : Int)) (hP : 0 ≤ h 104 3 ∧ h 104 3 ≤ 6) (hon : zr (h 104 9)) : zQ (d + 3) 148 [.inr (.inr (some 104)), .inl 2] (zs h0 hl) (fun r' σ' => (h 119 2 = 0 ∧ r' = some (.inl 0) ∧ σ' = zs (zup (zup h 104 1 0) 104 1 (-11)) hl) ∨ (¬ h 119 2 = 0 ∧ ∃ (R J : Nat) (x : Int), h 121 2 = (R : Int) ∧ r' = some (.inl (J : Int)) ∧ J ≤ R ∧ (∀ q : Nat, q < J → zRDec (h 104 3) (h 104 9) ((r + q : Nat) : Int) (h 122 (8 + q)) (hl 123 (64 + 8 * q)) (hl 123 (64 + 8 * q + 1)) (hl 123 (64 + 8 * q + 2)) 0) ∧ ((J = R ∧ x = 0 ∧ σ' = zs (zAR (zup h 104 1 0) (fun q i => hl 123 (64 + 8 * q + i)) r J) hl) ∨ (J < R ∧ ¬ x = 0 ∧ zRDec (h 104 3) (h 104 9) ((r + J : Nat) : Int) (h 122 (8 + J)) (hl 123 (64 + 8 * J)) (hl 123 (64 + 8 * J + 1)) (hl 123 (64 + 8 * J + 2)) x ∧ σ' = zs (zup (zAR (zup h 104 1 0) (fun q i => hl 123 (64 + 8 * q + i)) r J) 104 1 x) hl)))) := by
  obtain ⟨h119, h121, h120, h122, h123⟩ := hB
  have hh1 : ∀ c j : Nat, (c ≠ 104 ∨ j ≠ 1) → (zup h 104 1 0) c j = h c j := fun c j q => by rw [zup_at, if_neg (by omega)]
  refine zQ_of (Nat.le_of_ble_eq_true rfl) ?_
  show zH (d + 2) 148 (0, [some (.inr (.inr (some 104))), some (.inl 2), none, none, none, none, none], [], (zs h0 hl)) _
  refine zH_go 3 (c' := (5, [some (.inr (.inr (some 104))), some (.inl 2), none, none, none, none, none], [], (zs (zup h0 104 0 0) hl))) rfl ?_
  rw [e0]
  refine zH_go 4 (c' := (11, [some (.inr (.inr (some 104))), some (.inl 2), none, none, none, none, none], [.inl 2], (zs (zup h 104 1 0) hl))) rfl ?_
  refine zH_np (P := zr 2) (c' := (12, [some (.inr (.inr (some 104))), some (.inl 2), none, none, none, none, none], [.inr (.inl 2)], (zs (zup h 104 1 0) hl))) rfl ⟨by decide, by decide⟩ ?_
  refine zH_go 2 (c' := (16, [some (.inr (.inr (some 104))), some (.inl 2), none, none, none, none, none], [.inr (.inl 2), .inr (.inl 0), .inr (.inl 2)], (zs (zup h 104 1 0) hl))) rfl ?_
  refine zH_call (M' := 103) (as := [.inr (.inl 2), .inr (.inl 0), .inr (.inl 2)]) (T := []) rfl (p_in ⟨by decide, by decide⟩ ⟨by decide, by decide⟩ ⟨by decide, by decide⟩) (fun r σ' p_1 => ?_)
  rcases p_1 with ⟨rfl, b_2, rfl⟩ | ⟨rfl, b_2, rfl⟩
  · show zH _ _ (19, [some (.inr (.inr (some 104))), some (.inl 2), none, none, none, none, none], [.inl 1], (zs (zup h 104 1 0) hl)) _
    refine zH_bt (x := 1) (y := 0) (k := .ne) (c1 := (28, [some (.inr (.inr (some 104))), some (.inl 2), none, none, none, none, none], [], (zs (zup h 104 1 0) hl))) (c2 := (22, [some (.inr (.inr (some 104))), some (.inl 2), none, none, none, none, none], [], (zs (zup h 104 1 0) hl))) rfl ⟨by decide, by decide⟩ ⟨by decide, by decide⟩ (by show ¬ 1 = 0; decide) ?_
    refine zH_go 3 (c' := (33, [some (.inr (.inr (some 104))), some (.inl 2), none, none, none, none, none], [.inl 2, .inr (.inr (some 119))], (zs (zup h 104 1 0) hl))) rfl ?_
    refine zH_np (P := 0 ≤ 2 ∧ 2 < ((3 : Nat) : Int)) (c' := (34, [some (.inr (.inr (some 104))), some (.inl 2), none, none, none, none, none], [.inl (h 119 2)], (zs (zup h 104 1 0) hl))) rfl ⟨by decide, by decide⟩ ?_
    refine zH_br (x := (h 119 2)) (y := 0) (k := .ne) (c1 := (45, [some (.inr (.inr (some 104))), some (.inl 2), none, none, none, none, none], [], (zs (zup h 104 1 0) hl))) (c2 := (37, [some (.inr (.inr (some 104))), some (.inl 2), none, none, none, none, none], [], (zs (zup h 104 1 0) hl))) rfl (by first | assumption | (unfold zr; omega)) ⟨by decide, by decide⟩ (fun (b_3 : ¬ (h 119 2) = 0) => ?_) (fun (b_3 : ¬ (¬ (h 119 2) = 0)) => ?_)
    · refine zH_go 4 (c' := (49, [some (.inr (.inr (some 104))), some (.inl 2), some (.inl 0), some (.inl 0), none, none, none], [], (zs (zup h 104 1 0) hl))) rfl ?_
      obtain ⟨R, eR⟩ := Int.eq_ofNat_of_zero_le h121.1
      have eR : h 121 2 = (R : Int) := eR
      obtain ⟨V, eV⟩ : ∃ V : Nat → Nat → Int, V = (fun q i => hl 123 (64 + 8 * q + i)) := ⟨_, rfl⟩
      refine zH_lp (X := (Nat → Nat → Int) × (Option zV) × (Option zV) × (Option zV)) (F := fun (kq : Nat) (x : (Nat → Nat → Int) × (Option zV) × (Option zV) × (Option zV)) => (49, [some (.inr (.inr (some 104))), some (.inl 2), some (.inl (kq : Int)), some (.inl (kq : Int)), x.2.1, x.2.2.1, x.2.2.2], [], (zs x.1 hl))) (I := fun (kq : Nat) (x : (Nat → Nat → Int) × (Option zV) × (Option zV) × (Option zV)) => x.1 = zAR (zup h 104 1 0) V r kq ∧ r + kq ≤ 15 ∧ ∀ q : Nat, q < kq → zRDec (h 104 3) (h 104 9) ((r + q : Nat) : Int) (h 122 (8 + q)) (hl 123 (64 + 8 * q)) (hl 123 (64 + 8 * q + 1)) (hl 123 (64 + 8 * q + 2)) 0) (N := R) (fun k x hk hI ih => ?_) (fun x hI => ?_) 0 ((zup h 104 1 0), none, none, none) (by omega) ?_
      · obtain ⟨g, x4, x5, x6⟩ := x
        replace hI : g = zAR (zup h 104 1 0) V r k ∧ r + k ≤ 15 ∧ ∀ q : Nat, q < k → zRDec (h 104 3) (h 104 9) ((r + q : Nat) : Int) (h 122 (8 + q)) (hl 123 (64 + 8 * q)) (hl 123 (64 + 8 * q + 1)) (hl 123 (64 + 8 * q + 2)) 0 := hI
        show zH _ _ (49, [some (.inr (.inr (some 104))), some (.inl 2), some (.inl (k : Int)), some (.inl (k : Int)), x4, x5, x6], [], (zs g hl)) _
        have g0 := (zAR_o (h := (zup h 104 1 0)) (V := V) (r := r) k)
        have e121 : g 121 2 = (R : Int) := by rw [hI.1, g0.1 121 (by decide) (by decide) (by decide) (by decide), hh1 121 _ (by omega)]; exact eR
        obtain ⟨sz, hsz⟩ : ∃ sz, sz = h 122 (8 + k) := ⟨_, rfl⟩
        have e122 : g 122 (8 + k) = sz := by rw [hI.1, g0.1 122 (by decide) (by decide) (by decide) (by decide), hh1 122 _ (by omega)]; exact hsz.symm
        have e104 : g 104 3 = h 104 3 ∧ g 104 9 = h 104 9 ∧ g 104 4 = ((r + k : Nat) : Int) := by
          refine ⟨?_, ?_, ?_⟩
          · rw [hI.1, g0.2 3 (by decide), hh1 104 3 (by decide)]
          · rw [hI.1, g0.2 9 (by decide), hh1 104 9 (by decide)]
          · rw [hI.1]; exact zAR_4 (by rw [hh1 104 4 (by decide)]; exact hr4) k
        have hszb := h122 k (by omega)
        have hszb : sz = -9 ∨ (0 ≤ sz ∧ sz ≤ 8) := by rw [hsz]; exact hszb
        have z0 := h123 k 0 (by omega) (by decide)
        have z1 := h123 k 1 (by omega) (by decide)
        have z2 := h123 k 2 (by omega) (by decide)
        refine zH_go 4 (c' := (55, [some (.inr (.inr (some 104))), some (.inl 2), some (.inl (k : Int)), some (.inl (k : Int)), x4, x5, x6], [.inl 2, .inr (.inr (some 121)), .inl (k : Int)], (zs g hl))) rfl ?_
        refine zH_np (P := 0 ≤ 2 ∧ 2 < ((3 : Nat) : Int)) (c' := (56, [some (.inr (.inr (some 104))), some (.inl 2), some (.inl (k : Int)), some (.inl (k : Int)), x4, x5, x6], [.inl (g 121 2), .inl (k : Int)], (zs g hl))) rfl ⟨by decide, by decide⟩ ?_
        rw [e121]
        refine zH_bf (x := (k : Int)) (y := (R : Int)) (k := .ge) (c1 := (158, [some (.inr (.inr (some 104))), some (.inl 2), some (.inl (k : Int)), some (.inl (k : Int)), x4, x5, x6], [], (zs g hl))) (c2 := (59, [some (.inr (.inr (some 104))), some (.inl 2), some (.inl (k : Int)), some (.inl (k : Int)), x4, x5, x6], [], (zs g hl))) rfl (by first | assumption | (unfold zr; omega)) (by first | assumption | (unfold zr; omega)) (by show ¬ (¬ (k : Int) < (R : Int)); omega) ?_
        refine zH_go 7 (c' := (68, [some (.inr (.inr (some 104))), some (.inl 2), some (.inl (k : Int)), some (.inl (k : Int)), x4, x5, x6], [.inl (8 + (k : Int)), .inr (.inr (some 122))], (zs g hl))) rfl ?_
        refine zH_np (P := 0 ≤ (8 + (k : Int)) ∧ (8 + (k : Int)) < ((12 : Nat) : Int)) (c' := (69, [some (.inr (.inr (some 104))), some (.inl 2), some (.inl (k : Int)), some (.inl (k : Int)), x4, x5, x6], [.inl (g 122 (8 + k))], (zs g hl))) rfl ⟨by omega, by omega⟩ ?_
        rw [e122]
        refine zH_go 11 (c' := (86, [some (.inr (.inr (some 104))), some (.inl 2), some (.inl (k : Int)), some (.inl (k : Int)), some (.inl sz), some (.inl (64 + (8 * (k : Int)))), x6], [.inl (-9), .inl sz], (zs g hl))) rfl ?_
        refine zH_br (x := sz) (y := (-9)) (k := .ne) (c1 := (94, [some (.inr (.inr (some 104))), some (.inl 2), some (.inl (k : Int)), some (.inl (k : Int)), some (.inl sz), some (.inl (64 + (8 * (k : Int)))), x6], [], (zs g hl))) (c2 := (89, [some (.inr (.inr (some 104))), some (.inl 2), some (.inl (k : Int)), some (.inl (k : Int)), some (.inl sz), some (.inl (64 + (8 * (k : Int)))), x6], [], (zs g hl))) rfl (by first | assumption | (unfold zr; omega)) ⟨by decide, by decide⟩ (fun (b_4 : ¬ sz = (-9)) => ?_) (fun (b_4 : ¬ (¬ sz = (-9))) => ?_)
        · refine zH_go 2 (c' := (97, [some (.inr (.inr (some 104))), some (.inl 2), some (.inl (k : Int)), some (.inl (k : Int)), some (.inl sz), some (.inl (64 + (8 * (k : Int)))), x6], [.inl 3, .inl sz], (zs g hl))) rfl ?_
          refine zH_br (x := sz) (y := 3) (k := .ge) (c1 := (105, [some (.inr (.inr (some 104))), some (.inl 2), some (.inl (k : Int)), some (.inl (k : Int)), some (.inl sz), some (.inl (64 + (8 * (k : Int)))), x6], [], (zs g hl))) (c2 := (100, [some (.inr (.inr (some 104))), some (.inl 2), some (.inl (k : Int)), some (.inl (k : Int)), some (.inl sz), some (.inl (64 + (8 * (k : Int)))), x6], [], (zs g hl))) rfl (by first | assumption | (unfold zr; omega)) ⟨by decide, by decide⟩ (fun (b_5 : ¬ sz < 3) => ?_) (fun (b_5 : ¬ (¬ sz < 3)) => ?_)
          · refine zH_go 4 (c' := (112, [some (.inr (.inr (some 104))), some (.inl 2), some (.inl (k : Int)), some (.inl (k : Int)), some (.inl sz), some (.inl (64 + (8 * (k : Int)))), x6], [.inl (64 + (8 * (k : Int))), .inr (.inr (some 123)), .inr (.inr (some 104))], (zs g hl))) rfl ?_
            refine zH_np (P := 0 ≤ (64 + (8 * (k : Int))) ∧ (64 + (8 * (k : Int))) < ((96 : Nat) : Int)) (c' := (113, [some (.inr (.inr (some 104))), some (.inl 2), some (.inl (k : Int)), some (.inl (k : Int)), some (.inl sz), some (.inl (64 + (8 * (k : Int)))), x6], [.inr (.inl (hl 123 (64 + (8 * k)))), .inr (.inr (some 104))], (zs g hl))) rfl ⟨by omega, by omega⟩ ?_
            refine zH_go 5 (c' := (121, [some (.inr (.inr (some 104))), some (.inl 2), some (.inl (k : Int)), some (.inl (k : Int)), some (.inl sz), some (.inl (64 + (8 * (k : Int)))), x6], [.inl ((64 + (8 * (k : Int))) + 1), .inr (.inr (some 123)), .inr (.inl (hl 123 (64 + (8 * k)))), .inr (.inr (some 104))], (zs g hl))) rfl ?_
            refine zH_np (P := 0 ≤ ((64 + (8 * (k : Int))) + 1) ∧ ((64 + (8 * (k : Int))) + 1) < ((96 : Nat) : Int)) (c' := (122, [some (.inr (.inr (some 104))), some (.inl 2), some (.inl (k : Int)), some (.inl (k : Int)), some (.inl sz), some (.inl (64 + (8 * (k : Int)))), x6], [.inr (.inl (hl 123 ((64 + (8 * k)) + 1))), .inr (.inl (hl 123 (64 + (8 * k)))), .inr (.inr (some 104))], (zs g hl))) rfl ⟨by omega, by omega⟩ ?_
            refine zH_go 5 (c' := (130, [some (.inr (.inr (some 104))), some (.inl 2), some (.inl (k : Int)), some (.inl (k : Int)), some (.inl sz), some (.inl (64 + (8 * (k : Int)))), x6], [.inl ((64 + (8 * (k : Int))) + 2), .inr (.inr (some 123)), .inr (.inl (hl 123 ((64 + (8 * k)) + 1))), .inr (.inl (hl 123 (64 + (8 * k)))), .inr (.inr (some 104))], (zs g hl))) rfl ?_
            refine zH_np (P := 0 ≤ ((64 + (8 * (k : Int))) + 2) ∧ ((64 + (8 * (k : Int))) + 2) < ((96 : Nat) : Int)) (c' := (131, [some (.inr (.inr (some 104))), some (.inl 2), some (.inl (k : Int)), some (.inl (k : Int)), some (.inl sz), some (.inl (64 + (8 * (k : Int)))), x6], [.inr (.inl (hl 123 ((64 + (8 * k)) + 2))), .inr (.inl (hl 123 ((64 + (8 * k)) + 1))), .inr (.inl (hl 123 (64 + (8 * k)))), .inr (.inr (some 104))], (zs g hl))) rfl ⟨by omega, by omega⟩ ?_
            refine zH_call (M' := 108) (as := [.inr (.inr (some 104)), .inr (.inl (hl 123 (64 + (8 * k)))), .inr (.inl (hl 123 ((64 + (8 * k)) + 1))), .inr (.inl (hl 123 ((64 + (8 * k)) + 2)))]) (T := []) rfl (p_addRoadO (h := g) (r := r + k) z0 z1 z2 hI.2.1 e104.2.2 (by rw [e104.1]; exact hP) (by rw [e104.2.1]; exact hon)) (fun r' σ' p_6 => ?_)
            rw [e104.1, e104.2.1] at p_6
            rcases p_6 with ⟨q1, rfl, rfl⟩ | ⟨q1, q2, rfl, rfl⟩ | ⟨q1, q2, q3, rfl, rfl⟩ | ⟨q1, q2, q3, rfl, rfl⟩
            · show zH _ _ (134, [some (.inr (.inr (some 104))), some (.inl 2), some (.inl (k : Int)), some (.inl (k : Int)), some (.inl sz), some (.inl (64 + (8 * (k : Int)))), x6], [.inl (-1)], (zs g hl)) _
              refine zH_go 2 (c' := (138, [some (.inr (.inr (some 104))), some (.inl 2), some (.inl (k : Int)), some (.inl (k : Int)), some (.inl sz), some (.inl (64 + (8 * (k : Int)))), some (.inl (-1))], [.inl (-1)], (zs g hl))) rfl ?_
              refine zH_bf (x := (-1)) (y := 0) (k := .ge) (c1 := (149, [some (.inr (.inr (some 104))), some (.inl 2), some (.inl (k : Int)), some (.inl (k : Int)), some (.inl sz), some (.inl (64 + (8 * (k : Int)))), some (.inl (-1))], [], (zs g hl))) (c2 := (141, [some (.inr (.inr (some 104))), some (.inl 2), some (.inl (k : Int)), some (.inl (k : Int)), some (.inl sz), some (.inl (64 + (8 * (k : Int)))), some (.inl (-1))], [], (zs g hl))) rfl ⟨by decide, by decide⟩ ⟨by decide, by decide⟩ (by show ¬ (¬ (-1) < 0); decide) ?_
              refine zH_go 4 (c' := (148, [some (.inr (.inr (some 104))), some (.inl 2), some (.inl (k : Int)), some (.inl (k : Int)), some (.inl sz), some (.inl (64 + (8 * (k : Int)))), some (.inl (-1))], [.inl (k : Int)], (zs (zup g 104 1 (-1)) hl))) rfl ?_
              refine zH_ret (v := some (.inl (k : Int))) rfl (fun q => absurd q (by decide)) ?_
              refine Or.inr ⟨by omega, R, k, (-1), eR, rfl, by omega, hI.2.2, Or.inr ⟨by omega, by decide, ?_, by rw [hI.1, eV]⟩⟩
              rw [← hsz]
              exact Or.inr (Or.inr (Or.inl ⟨by omega, q1, rfl⟩))
            · show zH _ _ (134, [some (.inr (.inr (some 104))), some (.inl 2), some (.inl (k : Int)), some (.inl (k : Int)), some (.inl sz), some (.inl (64 + (8 * (k : Int)))), x6], [.inl (-2)], (zs g hl)) _
              refine zH_go 2 (c' := (138, [some (.inr (.inr (some 104))), some (.inl 2), some (.inl (k : Int)), some (.inl (k : Int)), some (.inl sz), some (.inl (64 + (8 * (k : Int)))), some (.inl (-2))], [.inl (-2)], (zs g hl))) rfl ?_
              refine zH_bf (x := (-2)) (y := 0) (k := .ge) (c1 := (149, [some (.inr (.inr (some 104))), some (.inl 2), some (.inl (k : Int)), some (.inl (k : Int)), some (.inl sz), some (.inl (64 + (8 * (k : Int)))), some (.inl (-2))], [], (zs g hl))) (c2 := (141, [some (.inr (.inr (some 104))), some (.inl 2), some (.inl (k : Int)), some (.inl (k : Int)), some (.inl sz), some (.inl (64 + (8 * (k : Int)))), some (.inl (-2))], [], (zs g hl))) rfl ⟨by decide, by decide⟩ ⟨by decide, by decide⟩ (by show ¬ (¬ (-2) < 0); decide) ?_
              refine zH_go 4 (c' := (148, [some (.inr (.inr (some 104))), some (.inl 2), some (.inl (k : Int)), some (.inl (k : Int)), some (.inl sz), some (.inl (64 + (8 * (k : Int)))), some (.inl (-2))], [.inl (k : Int)], (zs (zup g 104 1 (-2)) hl))) rfl ?_
              refine zH_ret (v := some (.inl (k : Int))) rfl (fun q => absurd q (by decide)) ?_
              refine Or.inr ⟨by omega, R, k, (-2), eR, rfl, by omega, hI.2.2, Or.inr ⟨by omega, by decide, ?_, by rw [hI.1, eV]⟩⟩
              rw [← hsz]
              exact Or.inr (Or.inr (Or.inr (Or.inl ⟨by omega, q1, q2, rfl⟩)))
            · show zH _ _ (134, [some (.inr (.inr (some 104))), some (.inl 2), some (.inl (k : Int)), some (.inl (k : Int)), some (.inl sz), some (.inl (64 + (8 * (k : Int)))), x6], [.inl (-3)], (zs g hl)) _
              refine zH_go 2 (c' := (138, [some (.inr (.inr (some 104))), some (.inl 2), some (.inl (k : Int)), some (.inl (k : Int)), some (.inl sz), some (.inl (64 + (8 * (k : Int)))), some (.inl (-3))], [.inl (-3)], (zs g hl))) rfl ?_
              refine zH_bf (x := (-3)) (y := 0) (k := .ge) (c1 := (149, [some (.inr (.inr (some 104))), some (.inl 2), some (.inl (k : Int)), some (.inl (k : Int)), some (.inl sz), some (.inl (64 + (8 * (k : Int)))), some (.inl (-3))], [], (zs g hl))) (c2 := (141, [some (.inr (.inr (some 104))), some (.inl 2), some (.inl (k : Int)), some (.inl (k : Int)), some (.inl sz), some (.inl (64 + (8 * (k : Int)))), some (.inl (-3))], [], (zs g hl))) rfl ⟨by decide, by decide⟩ ⟨by decide, by decide⟩ (by show ¬ (¬ (-3) < 0); decide) ?_
              refine zH_go 4 (c' := (148, [some (.inr (.inr (some 104))), some (.inl 2), some (.inl (k : Int)), some (.inl (k : Int)), some (.inl sz), some (.inl (64 + (8 * (k : Int)))), some (.inl (-3))], [.inl (k : Int)], (zs (zup g 104 1 (-3)) hl))) rfl ?_
              refine zH_ret (v := some (.inl (k : Int))) rfl (fun q => absurd q (by decide)) ?_
              refine Or.inr ⟨by omega, R, k, (-3), eR, rfl, by omega, hI.2.2, Or.inr ⟨by omega, by decide, ?_, by rw [hI.1, eV]⟩⟩
              rw [← hsz]
              exact Or.inr (Or.inr (Or.inr (Or.inr (Or.inl ⟨by omega, q1, q2, by omega, rfl⟩))))
            · show zH _ _ (134, [some (.inr (.inr (some 104))), some (.inl 2), some (.inl (k : Int)), some (.inl (k : Int)), some (.inl sz), some (.inl (64 + (8 * (k : Int)))), x6], [.inl (((r + k : Nat) : Int) + 1)], (zs (zup (zup (zup (zup g 105 (r + k) (hl 123 (64 + (8 * k)))) 106 (r + k) (hl 123 ((64 + (8 * k)) + 1))) 107 (r + k) (hl 123 ((64 + (8 * k)) + 2))) 104 4 (((r + k : Nat) : Int) + 1)) hl)) _
              refine zH_go 2 (c' := (138, [some (.inr (.inr (some 104))), some (.inl 2), some (.inl (k : Int)), some (.inl (k : Int)), some (.inl sz), some (.inl (64 + (8 * (k : Int)))), some (.inl (((r + k : Nat) : Int) + 1))], [.inl (((r + k : Nat) : Int) + 1)], (zs (zup (zup (zup (zup g 105 (r + k) (hl 123 (64 + (8 * k)))) 106 (r + k) (hl 123 ((64 + (8 * k)) + 1))) 107 (r + k) (hl 123 ((64 + (8 * k)) + 2))) 104 4 (((r + k : Nat) : Int) + 1)) hl))) rfl ?_
              refine zH_br (x := (((r + k : Nat) : Int) + 1)) (y := 0) (k := .ge) (c1 := (149, [some (.inr (.inr (some 104))), some (.inl 2), some (.inl (k : Int)), some (.inl (k : Int)), some (.inl sz), some (.inl (64 + (8 * (k : Int)))), some (.inl (((r + k : Nat) : Int) + 1))], [], (zs (zup (zup (zup (zup g 105 (r + k) (hl 123 (64 + (8 * k)))) 106 (r + k) (hl 123 ((64 + (8 * k)) + 1))) 107 (r + k) (hl 123 ((64 + (8 * k)) + 2))) 104 4 (((r + k : Nat) : Int) + 1)) hl))) (c2 := (141, [some (.inr (.inr (some 104))), some (.inl 2), some (.inl (k : Int)), some (.inl (k : Int)), some (.inl sz), some (.inl (64 + (8 * (k : Int)))), some (.inl (((r + k : Nat) : Int) + 1))], [], (zs (zup (zup (zup (zup g 105 (r + k) (hl 123 (64 + (8 * k)))) 106 (r + k) (hl 123 ((64 + (8 * k)) + 1))) 107 (r + k) (hl 123 ((64 + (8 * k)) + 2))) 104 4 (((r + k : Nat) : Int) + 1)) hl))) rfl (by first | assumption | (unfold zr; omega)) ⟨by decide, by decide⟩ (fun (b_7 : ¬ (((r + k : Nat) : Int) + 1) < 0) => ?_) (fun (b_7 : ¬ (¬ (((r + k : Nat) : Int) + 1) < 0)) => ?_)
              · refine zH_go 3 (c' := (49, [some (.inr (.inr (some 104))), some (.inl 2), some (.inl ((k : Int) + 1)), some (.inl ((k : Int) + 1)), some (.inl sz), some (.inl (64 + (8 * (k : Int)))), some (.inl (((r + k : Nat) : Int) + 1))], [], (zs (zup (zup (zup (zup g 105 (r + k) (hl 123 (64 + (8 * k)))) 106 (r + k) (hl 123 ((64 + (8 * k)) + 1))) 107 (r + k) (hl 123 ((64 + (8 * k)) + 2))) 104 4 (((r + k : Nat) : Int) + 1)) hl))) rfl ?_
                refine ih ((zup (zup (zup (zup g 105 (r + k) (hl 123 (64 + (8 * k)))) 106 (r + k) (hl 123 ((64 + (8 * k)) + 1))) 107 (r + k) (hl 123 ((64 + (8 * k)) + 2))) 104 4 (((r + k : Nat) : Int) + 1)), (some (.inl sz)), (some (.inl (64 + (8 * (k : Int))))), (some (.inl (((r + k : Nat) : Int) + 1)))) ?_
                show (zup (zup (zup (zup g 105 (r + k) (hl 123 (64 + (8 * k)))) 106 (r + k) (hl 123 ((64 + (8 * k)) + 1))) 107 (r + k) (hl 123 ((64 + (8 * k)) + 2))) 104 4 (((r + k : Nat) : Int) + 1)) = zAR (zup h 104 1 0) V r (k + 1) ∧ r + (k + 1) ≤ 15 ∧ ∀ q : Nat, q < (k + 1) → zRDec (h 104 3) (h 104 9) ((r + q : Nat) : Int) (h 122 (8 + q)) (hl 123 (64 + 8 * q)) (hl 123 (64 + 8 * q + 1)) (hl 123 (64 + 8 * q + 2)) 0
                refine ⟨?_, by omega, fun q hq => ?_⟩
                · rw [hI.1, show (((r + k : Nat) : Int) + 1) = ((r + (k + 1) : Nat) : Int) by omega, eV]
                  rfl
                · by_cases w : q = k
                  · rw [w, ← hsz]
                    exact Or.inr (Or.inr (Or.inr (Or.inr (Or.inr ⟨by omega, q1, q2, by omega, rfl⟩))))
                  · exact hI.2.2 q (by omega)
              · refine zH_go 4 (c' := (148, [some (.inr (.inr (some 104))), some (.inl 2), some (.inl (k : Int)), some (.inl (k : Int)), some (.inl sz), some (.inl (64 + (8 * (k : Int)))), some (.inl (((r + k : Nat) : Int) + 1))], [.inl (k : Int)], (zs (zup (zup (zup (zup (zup g 105 (r + k) (hl 123 (64 + (8 * k)))) 106 (r + k) (hl 123 ((64 + (8 * k)) + 1))) 107 (r + k) (hl 123 ((64 + (8 * k)) + 2))) 104 4 (((r + k : Nat) : Int) + 1)) 104 1 (((r + k : Nat) : Int) + 1)) hl))) rfl ?_
                refine zH_ret (v := some (.inl (k : Int))) rfl (fun q => absurd q (by decide)) ?_
                exfalso; omega
          · refine zH_go 4 (c' := (138, [some (.inr (.inr (some 104))), some (.inl 2), some (.inl (k : Int)), some (.inl (k : Int)), some (.inl sz), some (.inl (64 + (8 * (k : Int)))), some (.inl (-12))], [.inl (-12)], (zs g hl))) rfl ?_
            refine zH_bf (x := (-12)) (y := 0) (k := .ge) (c1 := (149, [some (.inr (.inr (some 104))), some (.inl 2), some (.inl (k : Int)), some (.inl (k : Int)), some (.inl sz), some (.inl (64 + (8 * (k : Int)))), some (.inl (-12))], [], (zs g hl))) (c2 := (141, [some (.inr (.inr (some 104))), some (.inl 2), some (.inl (k : Int)), some (.inl (k : Int)), some (.inl sz), some (.inl (64 + (8 * (k : Int)))), some (.inl (-12))], [], (zs g hl))) rfl ⟨by decide, by decide⟩ ⟨by decide, by decide⟩ (by show ¬ (¬ (-12) < 0); decide) ?_
            refine zH_go 4 (c' := (148, [some (.inr (.inr (some 104))), some (.inl 2), some (.inl (k : Int)), some (.inl (k : Int)), some (.inl sz), some (.inl (64 + (8 * (k : Int)))), some (.inl (-12))], [.inl (k : Int)], (zs (zup g 104 1 (-12)) hl))) rfl ?_
            refine zH_ret (v := some (.inl (k : Int))) rfl (fun q => absurd q (by decide)) ?_
            refine Or.inr ⟨by omega, R, k, (-12), eR, rfl, by omega, hI.2.2, Or.inr ⟨by omega, by decide, ?_, by rw [hI.1, eV]⟩⟩
            rw [← hsz]
            exact Or.inr (Or.inl ⟨by omega, by omega, rfl⟩)
        · refine zH_go 4 (c' := (138, [some (.inr (.inr (some 104))), some (.inl 2), some (.inl (k : Int)), some (.inl (k : Int)), some (.inl sz), some (.inl (64 + (8 * (k : Int)))), some (.inl (-11))], [.inl (-11)], (zs g hl))) rfl ?_
          refine zH_bf (x := (-11)) (y := 0) (k := .ge) (c1 := (149, [some (.inr (.inr (some 104))), some (.inl 2), some (.inl (k : Int)), some (.inl (k : Int)), some (.inl sz), some (.inl (64 + (8 * (k : Int)))), some (.inl (-11))], [], (zs g hl))) (c2 := (141, [some (.inr (.inr (some 104))), some (.inl 2), some (.inl (k : Int)), some (.inl (k : Int)), some (.inl sz), some (.inl (64 + (8 * (k : Int)))), some (.inl (-11))], [], (zs g hl))) rfl ⟨by decide, by decide⟩ ⟨by decide, by decide⟩ (by show ¬ (¬ (-11) < 0); decide) ?_
          refine zH_go 4 (c' := (148, [some (.inr (.inr (some 104))), some (.inl 2), some (.inl (k : Int)), some (.inl (k : Int)), some (.inl sz), some (.inl (64 + (8 * (k : Int)))), some (.inl (-11))], [.inl (k : Int)], (zs (zup g 104 1 (-11)) hl))) rfl ?_
          refine zH_ret (v := some (.inl (k : Int))) rfl (fun q => absurd q (by decide)) ?_
          refine Or.inr ⟨by omega, R, k, (-11), eR, rfl, by omega, hI.2.2, Or.inr ⟨by omega, by decide, ?_, by rw [hI.1, eV]⟩⟩
          rw [← hsz]
          exact Or.inl ⟨by omega, rfl⟩
      · obtain ⟨g, x4, x5, x6⟩ := x
        replace hI : g = zAR (zup h 104 1 0) V r R ∧ r + R ≤ 15 ∧ ∀ q : Nat, q < R → zRDec (h 104 3) (h 104 9) ((r + q : Nat) : Int) (h 122 (8 + q)) (hl 123 (64 + 8 * q)) (hl 123 (64 + 8 * q + 1)) (hl 123 (64 + 8 * q + 2)) 0 := hI
        show zH _ _ (49, [some (.inr (.inr (some 104))), some (.inl 2), some (.inl (R : Int)), some (.inl (R : Int)), x4, x5, x6], [], (zs g hl)) _
        have g0 := (zAR_o (h := (zup h 104 1 0)) (V := V) (r := r) R)
        have e121 : g 121 2 = (R : Int) := by rw [hI.1, g0.1 121 (by decide) (by decide) (by decide) (by decide), hh1 121 _ (by omega)]; exact eR
        refine zH_go 4 (c' := (55, [some (.inr (.inr (some 104))), some (.inl 2), some (.inl (R : Int)), some (.inl (R : Int)), x4, x5, x6], [.inl 2, .inr (.inr (some 121)), .inl (R : Int)], (zs g hl))) rfl ?_
        refine zH_np (P := 0 ≤ 2 ∧ 2 < ((3 : Nat) : Int)) (c' := (56, [some (.inr (.inr (some 104))), some (.inl 2), some (.inl (R : Int)), some (.inl (R : Int)), x4, x5, x6], [.inl (g 121 2), .inl (R : Int)], (zs g hl))) rfl ⟨by decide, by decide⟩ ?_
        rw [e121]
        refine zH_bt (x := (R : Int)) (y := (R : Int)) (k := .ge) (c1 := (158, [some (.inr (.inr (some 104))), some (.inl 2), some (.inl (R : Int)), some (.inl (R : Int)), x4, x5, x6], [], (zs g hl))) (c2 := (59, [some (.inr (.inr (some 104))), some (.inl 2), some (.inl (R : Int)), some (.inl (R : Int)), x4, x5, x6], [], (zs g hl))) rfl (by first | assumption | (unfold zr; omega)) (by first | assumption | (unfold zr; omega)) (by show ¬ (R : Int) < (R : Int); omega) ?_
        refine zH_go 1 (c' := (159, [some (.inr (.inr (some 104))), some (.inl 2), some (.inl (R : Int)), some (.inl (R : Int)), x4, x5, x6], [.inl (R : Int)], (zs g hl))) rfl ?_
        refine zH_ret (v := some (.inl (R : Int))) rfl (fun q => absurd q (by decide)) ?_
        exact Or.inr ⟨by omega, R, R, 0, eR, rfl, Nat.le_refl R, hI.2.2, Or.inl ⟨rfl, rfl, by rw [hI.1, eV]⟩⟩
      · show (zup h 104 1 0) = zAR (zup h 104 1 0) V r 0 ∧ r + 0 ≤ 15 ∧ ∀ q : Nat, q < 0 → zRDec (h 104 3) (h 104 9) ((r + q : Nat) : Int) (h 122 (8 + q)) (hl 123 (64 + 8 * q)) (hl 123 (64 + 8 * q + 1)) (hl 123 (64 + 8 * q + 2)) 0
        exact ⟨rfl, by omega, fun q hq => absurd hq (Nat.not_lt_zero q)⟩
    · refine zH_go 4 (c' := (44, [some (.inr (.inr (some 104))), some (.inl 2), none, none, none, none, none], [.inl 0], (zs (zup (zup h 104 1 0) 104 1 (-11)) hl))) rfl ?_
      refine zH_ret (v := some (.inl 0)) rfl (fun q => absurd q (by decide)) ?_
      exact Or.inl ⟨by omega, rfl, rfl⟩
  · exact absurd (by decide) b_2
set_option maxRecDepth 100000 in
set_option maxHeartbeats 4000000 in
theorem p_callsOF2 {d : Nat} {h0 h hl : Nat → Nat → Int} (e0 : zup h0 104 0 0 = h) {ri : Int} (hr : zr ri) (hB : zMbk h hl 2) (hP : 0 ≤ h 104 3 ∧ h 104 3 ≤ 6) (e9 : h 104 9 = 0) : zQ (d + 2) 149 [.inr (.inr (some 104)), .inl 2, .inl ri] (zs h0 hl) (fun r' σ' => ((h 119 2 = 0 ∨ ((0 ≤ ri ∧ ri < h 121 2) ∧ h 122 (8 + Int.toNat ri) = -9)) ∧ r' = some (.inl 0) ∧ σ' = zs (zup (zup h 104 1 0) 104 1 (-11)) hl) ∨ (¬ h 119 2 = 0 ∧ ¬ (0 ≤ ri ∧ ri < h 121 2) ∧ r' = some (.inl 0) ∧ σ' = zs (zup (zup h 104 1 0) 104 1 (-12)) hl) ∨ ∃ (R S : Nat) (x : Int), ri = (R : Int) ∧ ¬ h 119 2 = 0 ∧ (R : Int) < h 121 2 ∧ h 122 (8 + R) = (S : Int) ∧ r' = some (.inl 0) ∧ ((S = 0 ∧ x = 0 ∧ σ' = zs (zup h 104 1 0) hl) ∨ (0 < S ∧ ¬ x = 0 ∧ zCDec (h 104 3) (h 104 9) (h 104 15) (hl 123 (64 + 8 * R + 0)) x ∧ σ' = zs (zup (zup h 104 1 0) 104 1 x) hl))) := by
  have hBc := hB
  obtain ⟨h119, h121, h120, h122, h123⟩ := hBc
  refine zQ_of (Nat.le_of_ble_eq_true rfl) ?_
  show zH (d + 1) 149 (0, [some (.inr (.inr (some 104))), some (.inl 2), some (.inl ri), none, none, none, none, none], [], (zs h0 hl)) _
  refine zH_go 3 (c' := (5, [some (.inr (.inr (some 104))), some (.inl 2), some (.inl ri), none, none, none, none, none], [], (zs (zup h0 104 0 0) hl))) rfl ?_
  rw [e0]
  refine zH_go 4 (c' := (11, [some (.inr (.inr (some 104))), some (.inl 2), some (.inl ri), none, none, none, none, none], [.inl 2], (zs (zup h 104 1 0) hl))) rfl ?_
  refine zH_np (P := zr 2) (c' := (12, [some (.inr (.inr (some 104))), some (.inl 2), some (.inl ri), none, none, none, none, none], [.inr (.inl 2)], (zs (zup h 104 1 0) hl))) rfl ⟨by decide, by decide⟩ ?_
  refine zH_go 2 (c' := (16, [some (.inr (.inr (some 104))), some (.inl 2), some (.inl ri), none, none, none, none, none], [.inr (.inl 2), .inr (.inl 0), .inr (.inl 2)], (zs (zup h 104 1 0) hl))) rfl ?_
  refine zH_call (M' := 103) (as := [.inr (.inl 2), .inr (.inl 0), .inr (.inl 2)]) (T := []) rfl (p_in ⟨by decide, by decide⟩ ⟨by decide, by decide⟩ ⟨by decide, by decide⟩) (fun r σ' p_1 => ?_)
  rcases p_1 with ⟨rfl, b_2, rfl⟩ | ⟨rfl, b_2, rfl⟩
  · show zH _ _ (19, [some (.inr (.inr (some 104))), some (.inl 2), some (.inl ri), none, none, none, none, none], [.inl 1], (zs (zup h 104 1 0) hl)) _
    refine zH_bt (x := 1) (y := 0) (k := .ne) (c1 := (28, [some (.inr (.inr (some 104))), some (.inl 2), some (.inl ri), none, none, none, none, none], [], (zs (zup h 104 1 0) hl))) (c2 := (22, [some (.inr (.inr (some 104))), some (.inl 2), some (.inl ri), none, none, none, none, none], [], (zs (zup h 104 1 0) hl))) rfl ⟨by decide, by decide⟩ ⟨by decide, by decide⟩ (by show ¬ 1 = 0; decide) ?_
    refine zH_go 3 (c' := (33, [some (.inr (.inr (some 104))), some (.inl 2), some (.inl ri), none, none, none, none, none], [.inl 2, .inr (.inr (some 119))], (zs (zup h 104 1 0) hl))) rfl ?_
    refine zH_np (P := 0 ≤ 2 ∧ 2 < ((3 : Nat) : Int)) (c' := (34, [some (.inr (.inr (some 104))), some (.inl 2), some (.inl ri), none, none, none, none, none], [.inl (h 119 2)], (zs (zup h 104 1 0) hl))) rfl ⟨by decide, by decide⟩ ?_
    refine zH_br (x := (h 119 2)) (y := 0) (k := .eq) (c1 := (70, [some (.inr (.inr (some 104))), some (.inl 2), some (.inl ri), none, none, none, none, none], [], (zs (zup h 104 1 0) hl))) (c2 := (37, [some (.inr (.inr (some 104))), some (.inl 2), some (.inl ri), none, none, none, none, none], [], (zs (zup h 104 1 0) hl))) rfl (by first | assumption | (unfold zr; omega)) ⟨by decide, by decide⟩ (fun (b_3 : (h 119 2) = 0) => ?_) (fun (b_3 : ¬ ((h 119 2) = 0)) => ?_)
    · refine zH_go 4 (c' := (77, [some (.inr (.inr (some 104))), some (.inl 2), some (.inl ri), none, none, none, none, none], [.inl 0], (zs (zup (zup h 104 1 0) 104 1 (-11)) hl))) rfl ?_
      refine zH_ret (v := some (.inl 0)) rfl (fun q => absurd q (by decide)) ?_
      exact Or.inl ⟨by first | exact Or.inl (by omega) | exact Or.inr ⟨by omega, by rw [Int.toNat_natCast]; omega⟩, rfl, rfl⟩
    · refine zH_go 1 (c' := (38, [some (.inr (.inr (some 104))), some (.inl 2), some (.inl ri), none, none, none, none, none], [.inl ri], (zs (zup h 104 1 0) hl))) rfl ?_
      refine zH_np (P := zr ri) (c' := (39, [some (.inr (.inr (some 104))), some (.inl 2), some (.inl ri), none, none, none, none, none], [.inr (.inl ri)], (zs (zup h 104 1 0) hl))) rfl (by first | assumption | (unfold zr; omega)) ?_
      refine zH_go 4 (c' := (45, [some (.inr (.inr (some 104))), some (.inl 2), some (.inl ri), none, none, none, none, none], [.inl 2, .inr (.inr (some 121)), .inr (.inl 0), .inr (.inl ri)], (zs (zup h 104 1 0) hl))) rfl ?_
      refine zH_np (P := 0 ≤ 2 ∧ 2 < ((3 : Nat) : Int)) (c' := (46, [some (.inr (.inr (some 104))), some (.inl 2), some (.inl ri), none, none, none, none, none], [.inl (h 121 2), .inr (.inl 0), .inr (.inl ri)], (zs (zup h 104 1 0) hl))) rfl ⟨by decide, by decide⟩ ?_
      refine zH_go 2 (c' := (48, [some (.inr (.inr (some 104))), some (.inl 2), some (.inl ri), none, none, none, none, none], [.inl ((h 121 2) - 1), .inr (.inl 0), .inr (.inl ri)], (zs (zup h 104 1 0) hl))) rfl ?_
      refine zH_np (P := zr ((h 121 2) - 1)) (c' := (49, [some (.inr (.inr (some 104))), some (.inl 2), some (.inl ri), none, none, none, none, none], [.inr (.inl ((h 121 2) - 1)), .inr (.inl 0), .inr (.inl ri)], (zs (zup h 104 1 0) hl))) rfl (by first | assumption | (unfold zr; omega)) ?_
      refine zH_call (M' := 103) (as := [.inr (.inl ri), .inr (.inl 0), .inr (.inl ((h 121 2) - 1))]) (T := []) rfl (p_in (by first | assumption | exact zr_l (by assumption) | (unfold zrl; omega)) ⟨by decide, by decide⟩ (by first | assumption | exact zr_l (by assumption) | (unfold zrl; omega))) (fun r σ' p_4 => ?_)
      rcases p_4 with ⟨rfl, b_5, rfl⟩ | ⟨rfl, b_5, rfl⟩
      · show zH _ _ (52, [some (.inr (.inr (some 104))), some (.inl 2), some (.inl ri), none, none, none, none, none], [.inl 1], (zs (zup h 104 1 0) hl)) _
        refine zH_bf (x := 1) (y := 0) (k := .eq) (c1 := (78, [some (.inr (.inr (some 104))), some (.inl 2), some (.inl ri), none, none, none, none, none], [], (zs (zup h 104 1 0) hl))) (c2 := (55, [some (.inr (.inr (some 104))), some (.inl 2), some (.inl ri), none, none, none, none, none], [], (zs (zup h 104 1 0) hl))) rfl ⟨by decide, by decide⟩ ⟨by decide, by decide⟩ (by show ¬ (1 = 0); decide) ?_
        obtain ⟨R, rfl⟩ := Int.eq_ofNat_of_zero_le (show 0 ≤ ri by omega)
        show zH _ _ (55, [some (.inr (.inr (some 104))), some (.inl 2), some (.inl (R : Int)), none, none, none, none, none], [], (zs (zup h 104 1 0) hl)) _
        have h2R := h122 R (by omega)
        have h2R : h 122 (8 + R) = -9 ∨ (0 ≤ h 122 (8 + R) ∧ h 122 (8 + R) ≤ 8) := h2R
        refine zH_go 7 (c' := (64, [some (.inr (.inr (some 104))), some (.inl 2), some (.inl (R : Int)), none, none, none, none, none], [.inl (8 + (R : Int)), .inr (.inr (some 122))], (zs (zup h 104 1 0) hl))) rfl ?_
        refine zH_np (P := 0 ≤ (8 + (R : Int)) ∧ (8 + (R : Int)) < ((12 : Nat) : Int)) (c' := (65, [some (.inr (.inr (some 104))), some (.inl 2), some (.inl (R : Int)), none, none, none, none, none], [.inl (h 122 (8 + R))], (zs (zup h 104 1 0) hl))) rfl ⟨by omega, by omega⟩ ?_
        refine zH_go 1 (c' := (67, [some (.inr (.inr (some 104))), some (.inl 2), some (.inl (R : Int)), none, none, none, none, none], [.inl (-9), .inl (h 122 (8 + R))], (zs (zup h 104 1 0) hl))) rfl ?_
        refine zH_br (x := (h 122 (8 + R))) (y := (-9)) (k := .ne) (c1 := (78, [some (.inr (.inr (some 104))), some (.inl 2), some (.inl (R : Int)), none, none, none, none, none], [], (zs (zup h 104 1 0) hl))) (c2 := (70, [some (.inr (.inr (some 104))), some (.inl 2), some (.inl (R : Int)), none, none, none, none, none], [], (zs (zup h 104 1 0) hl))) rfl (by first | assumption | (unfold zr; omega)) ⟨by decide, by decide⟩ (fun (b_6 : ¬ (h 122 (8 + R)) = (-9)) => ?_) (fun (b_6 : ¬ (¬ (h 122 (8 + R)) = (-9))) => ?_)
        · refine zH_go 1 (c' := (79, [some (.inr (.inr (some 104))), some (.inl 2), some (.inl (R : Int)), none, none, none, none, none], [.inl (R : Int)], (zs (zup h 104 1 0) hl))) rfl ?_
          refine zH_np (P := zr (R : Int)) (c' := (80, [some (.inr (.inr (some 104))), some (.inl 2), some (.inl (R : Int)), none, none, none, none, none], [.inr (.inl (R : Int))], (zs (zup h 104 1 0) hl))) rfl (by first | assumption | (unfold zr; omega)) ?_
          refine zH_go 4 (c' := (86, [some (.inr (.inr (some 104))), some (.inl 2), some (.inl (R : Int)), none, none, none, none, none], [.inl 2, .inr (.inr (some 121)), .inr (.inl 0), .inr (.inl (R : Int))], (zs (zup h 104 1 0) hl))) rfl ?_
          refine zH_np (P := 0 ≤ 2 ∧ 2 < ((3 : Nat) : Int)) (c' := (87, [some (.inr (.inr (some 104))), some (.inl 2), some (.inl (R : Int)), none, none, none, none, none], [.inl (h 121 2), .inr (.inl 0), .inr (.inl (R : Int))], (zs (zup h 104 1 0) hl))) rfl ⟨by decide, by decide⟩ ?_
          refine zH_go 2 (c' := (89, [some (.inr (.inr (some 104))), some (.inl 2), some (.inl (R : Int)), none, none, none, none, none], [.inl ((h 121 2) - 1), .inr (.inl 0), .inr (.inl (R : Int))], (zs (zup h 104 1 0) hl))) rfl ?_
          refine zH_np (P := zr ((h 121 2) - 1)) (c' := (90, [some (.inr (.inr (some 104))), some (.inl 2), some (.inl (R : Int)), none, none, none, none, none], [.inr (.inl ((h 121 2) - 1)), .inr (.inl 0), .inr (.inl (R : Int))], (zs (zup h 104 1 0) hl))) rfl (by first | assumption | (unfold zr; omega)) ?_
          refine zH_call (M' := 103) (as := [.inr (.inl (R : Int)), .inr (.inl 0), .inr (.inl ((h 121 2) - 1))]) (T := []) rfl (p_in (by first | assumption | exact zr_l (by assumption) | (unfold zrl; omega)) ⟨by decide, by decide⟩ (by first | assumption | exact zr_l (by assumption) | (unfold zrl; omega))) (fun r σ' p_7 => ?_)
          rcases p_7 with ⟨rfl, b_8, rfl⟩ | ⟨rfl, b_8, rfl⟩
          · show zH _ _ (93, [some (.inr (.inr (some 104))), some (.inl 2), some (.inl (R : Int)), none, none, none, none, none], [.inl 1], (zs (zup h 104 1 0) hl)) _
            refine zH_bt (x := 1) (y := 0) (k := .ne) (c1 := (104, [some (.inr (.inr (some 104))), some (.inl 2), some (.inl (R : Int)), none, none, none, none, none], [], (zs (zup h 104 1 0) hl))) (c2 := (96, [some (.inr (.inr (some 104))), some (.inl 2), some (.inl (R : Int)), none, none, none, none, none], [], (zs (zup h 104 1 0) hl))) rfl ⟨by decide, by decide⟩ ⟨by decide, by decide⟩ (by show ¬ 1 = 0; decide) ?_
            obtain ⟨S, eS⟩ := Int.eq_ofNat_of_zero_le (show 0 ≤ h 122 (8 + R) by omega)
            have eS : h 122 (8 + R) = (S : Int) := eS
            refine zH_go 4 (c' := (109, [some (.inr (.inr (some 104))), some (.inl 2), some (.inl (R : Int)), some (.inl 0), some (.inl 0), none, none, none], [], (zs (zup h 104 1 0) hl))) rfl ?_
            refine zH_go 8 (c' := (120, [some (.inr (.inr (some 104))), some (.inl 2), some (.inl (R : Int)), some (.inl 0), some (.inl 0), none, none, none], [.inl (8 + (R : Int)), .inr (.inr (some 122)), .inl 0], (zs (zup h 104 1 0) hl))) rfl ?_
            refine zH_np (P := 0 ≤ (8 + (R : Int)) ∧ (8 + (R : Int)) < ((12 : Nat) : Int)) (c' := (121, [some (.inr (.inr (some 104))), some (.inl 2), some (.inl (R : Int)), some (.inl 0), some (.inl 0), none, none, none], [.inl (h 122 (8 + R)), .inl 0], (zs (zup h 104 1 0) hl))) rfl ⟨by omega, by omega⟩ ?_
            refine zH_br (x := 0) (y := (h 122 (8 + R))) (k := .ge) (c1 := (220, [some (.inr (.inr (some 104))), some (.inl 2), some (.inl (R : Int)), some (.inl 0), some (.inl 0), none, none, none], [], (zs (zup h 104 1 0) hl))) (c2 := (124, [some (.inr (.inr (some 104))), some (.inl 2), some (.inl (R : Int)), some (.inl 0), some (.inl 0), none, none, none], [], (zs (zup h 104 1 0) hl))) rfl ⟨by decide, by decide⟩ (by first | assumption | (unfold zr; omega)) (fun (b_9 : ¬ 0 < (h 122 (8 + R))) => ?_) (fun (b_9 : ¬ (¬ 0 < (h 122 (8 + R)))) => ?_)
            · refine zH_go 1 (c' := (221, [some (.inr (.inr (some 104))), some (.inl 2), some (.inl (R : Int)), some (.inl 0), some (.inl 0), none, none, none], [.inl 0], (zs (zup h 104 1 0) hl))) rfl ?_
              refine zH_ret (v := some (.inl 0)) rfl (fun q => absurd q (by decide)) ?_
              exact Or.inr (Or.inr ⟨R, S, 0, rfl, by omega, by omega, eS, rfl, Or.inl ⟨by omega, rfl, rfl⟩⟩)
            · refine zH_go 11 (c' := (140, [some (.inr (.inr (some 104))), some (.inl 2), some (.inl (R : Int)), some (.inl 0), some (.inl 0), none, none, none], [.inl ((64 + (8 * (R : Int))) + 0), .inr (.inr (some 123))], (zs (zup h 104 1 0) hl))) rfl ?_
              refine zH_np (P := 0 ≤ ((64 + (8 * (R : Int))) + 0) ∧ ((64 + (8 * (R : Int))) + 0) < ((96 : Nat) : Int)) (c' := (141, [some (.inr (.inr (some 104))), some (.inl 2), some (.inl (R : Int)), some (.inl 0), some (.inl 0), none, none, none], [.inr (.inl (hl 123 ((64 + (8 * R)) + 0)))], (zs (zup h 104 1 0) hl))) rfl ⟨by omega, by omega⟩ ?_
              obtain ⟨v, hv⟩ : ∃ v, v = hl 123 (64 + 8 * R + 0) := ⟨_, rfl⟩
              have hzv : zrl v := by rw [hv]; exact h123 R 0 (by omega) (by decide)
              rw [show (hl 123 ((64 + (8 * R)) + 0)) = v from hv.symm]
              show zH _ _ (141, [some (.inr (.inr (some 104))), some (.inl 2), some (.inl (R : Int)), some (.inl 0), some (.inl 0), none, none, none], [.inr (.inl v)], (zs (zup h 104 1 0) hl)) _
              refine zH_go 7 (c' := (152, [some (.inr (.inr (some 104))), some (.inl 2), some (.inl (R : Int)), some (.inl 0), some (.inl 0), some (.inr (.inl v)), none, none], [.inl ((h 104 3) - 1), .inr (.inl 0), .inr (.inl v)], (zs (zup h 104 1 0) hl))) rfl ?_
              refine zH_np (P := zr ((h 104 3) - 1)) (c' := (153, [some (.inr (.inr (some 104))), some (.inl 2), some (.inl (R : Int)), some (.inl 0), some (.inl 0), some (.inr (.inl v)), none, none], [.inr (.inl ((h 104 3) - 1)), .inr (.inl 0), .inr (.inl v)], (zs (zup h 104 1 0) hl))) rfl (by first | assumption | (unfold zr; omega)) ?_
              refine zH_call (M' := 103) (as := [.inr (.inl v), .inr (.inl 0), .inr (.inl ((h 104 3) - 1))]) (T := []) rfl (p_in (by first | assumption | exact zr_l (by assumption) | (unfold zrl; omega)) ⟨by decide, by decide⟩ (by first | assumption | exact zr_l (by assumption) | (unfold zrl; omega))) (fun r σ' p_10 => ?_)
              rcases p_10 with ⟨rfl, b_11, rfl⟩ | ⟨rfl, b_11, rfl⟩
              · show zH _ _ (156, [some (.inr (.inr (some 104))), some (.inl 2), some (.inl (R : Int)), some (.inl 0), some (.inl 0), some (.inr (.inl v)), none, none], [.inl 1], (zs (zup h 104 1 0) hl)) _
                refine zH_bt (x := 1) (y := 0) (k := .ne) (c1 := (166, [some (.inr (.inr (some 104))), some (.inl 2), some (.inl (R : Int)), some (.inl 0), some (.inl 0), some (.inr (.inl v)), none, none], [], (zs (zup h 104 1 0) hl))) (c2 := (159, [some (.inr (.inr (some 104))), some (.inl 2), some (.inl (R : Int)), some (.inl 0), some (.inl 0), some (.inr (.inl v)), none, none], [], (zs (zup h 104 1 0) hl))) rfl ⟨by decide, by decide⟩ ⟨by decide, by decide⟩ (by show ¬ 1 = 0; decide) ?_
                refine zH_go 2 (c' := (170, [some (.inr (.inr (some 104))), some (.inl 2), some (.inl (R : Int)), some (.inl 0), some (.inl 0), some (.inr (.inl v)), none, none], [.inl (h 104 9)], (zs (zup h 104 1 0) hl))) rfl ?_
                rw [e9]
                refine zH_bt (x := 0) (y := 0) (k := .eq) (c1 := (182, [some (.inr (.inr (some 104))), some (.inl 2), some (.inl (R : Int)), some (.inl 0), some (.inl 0), some (.inr (.inl v)), none, none], [], (zs (zup h 104 1 0) hl))) (c2 := (173, [some (.inr (.inr (some 104))), some (.inl 2), some (.inl (R : Int)), some (.inl 0), some (.inl 0), some (.inr (.inl v)), none, none], [], (zs (zup h 104 1 0) hl))) rfl ⟨by decide, by decide⟩ ⟨by decide, by decide⟩ (by show 0 = 0; decide) ?_
                refine zH_go 3 (c' := (187, [some (.inr (.inr (some 104))), some (.inl 2), some (.inl (R : Int)), some (.inl 0), some (.inl 0), some (.inr (.inl v)), none, none], [.inl (h 104 9), .inr (.inr (some 104))], (zs (zup h 104 1 0) hl))) rfl ?_
                rw [e9]
                refine zH_bf (x := 0) (y := 0) (k := .ne) (c1 := (195, [some (.inr (.inr (some 104))), some (.inl 2), some (.inl (R : Int)), some (.inl 0), some (.inl 0), some (.inr (.inl v)), none, none], [.inr (.inr (some 104))], (zs (zup h 104 1 0) hl))) (c2 := (190, [some (.inr (.inr (some 104))), some (.inl 2), some (.inl (R : Int)), some (.inl 0), some (.inl 0), some (.inr (.inl v)), none, none], [.inr (.inr (some 104))], (zs (zup h 104 1 0) hl))) rfl ⟨by decide, by decide⟩ ⟨by decide, by decide⟩ (by show ¬ (¬ 0 = 0); decide) ?_
                refine zH_go 4 (c' := (201, [some (.inr (.inr (some 104))), some (.inl 2), some (.inl (R : Int)), some (.inl 0), some (.inl 0), some (.inr (.inl v)), none, none], [.inl 0], (zs (zup (zup h 104 1 0) 104 1 (-2)) hl))) rfl ?_
                refine zH_ret (v := some (.inl 0)) rfl (fun q => absurd q (by decide)) ?_
                refine Or.inr (Or.inr ⟨R, S, (-2), rfl, by omega, by omega, eS, rfl, Or.inr ⟨by omega, by decide, ?_, rfl⟩⟩)
                rw [← hv]
                unfold zCDec
                omega
              · show zH _ _ (156, [some (.inr (.inr (some 104))), some (.inl 2), some (.inl (R : Int)), some (.inl 0), some (.inl 0), some (.inr (.inl v)), none, none], [.inl 0], (zs (zup h 104 1 0) hl)) _
                refine zH_bf (x := 0) (y := 0) (k := .ne) (c1 := (166, [some (.inr (.inr (some 104))), some (.inl 2), some (.inl (R : Int)), some (.inl 0), some (.inl 0), some (.inr (.inl v)), none, none], [], (zs (zup h 104 1 0) hl))) (c2 := (159, [some (.inr (.inr (some 104))), some (.inl 2), some (.inl (R : Int)), some (.inl 0), some (.inl 0), some (.inr (.inl v)), none, none], [], (zs (zup h 104 1 0) hl))) rfl ⟨by decide, by decide⟩ ⟨by decide, by decide⟩ (by show ¬ (¬ 0 = 0); decide) ?_
                refine zH_go 4 (c' := (165, [some (.inr (.inr (some 104))), some (.inl 2), some (.inl (R : Int)), some (.inl 0), some (.inl 0), some (.inr (.inl v)), none, none], [.inl 0], (zs (zup (zup h 104 1 0) 104 1 (-1)) hl))) rfl ?_
                refine zH_ret (v := some (.inl 0)) rfl (fun q => absurd q (by decide)) ?_
                refine Or.inr (Or.inr ⟨R, S, (-1), rfl, by omega, by omega, eS, rfl, Or.inr ⟨by omega, by decide, ?_, rfl⟩⟩)
                rw [← hv]
                unfold zCDec
                omega
          · show zH _ _ (93, [some (.inr (.inr (some 104))), some (.inl 2), some (.inl (R : Int)), none, none, none, none, none], [.inl 0], (zs (zup h 104 1 0) hl)) _
            refine zH_bf (x := 0) (y := 0) (k := .ne) (c1 := (104, [some (.inr (.inr (some 104))), some (.inl 2), some (.inl (R : Int)), none, none, none, none, none], [], (zs (zup h 104 1 0) hl))) (c2 := (96, [some (.inr (.inr (some 104))), some (.inl 2), some (.inl (R : Int)), none, none, none, none, none], [], (zs (zup h 104 1 0) hl))) rfl ⟨by decide, by decide⟩ ⟨by decide, by decide⟩ (by show ¬ (¬ 0 = 0); decide) ?_
            refine zH_go 4 (c' := (103, [some (.inr (.inr (some 104))), some (.inl 2), some (.inl (R : Int)), none, none, none, none, none], [.inl 0], (zs (zup (zup h 104 1 0) 104 1 (-12)) hl))) rfl ?_
            refine zH_ret (v := some (.inl 0)) rfl (fun q => absurd q (by decide)) ?_
            exact Or.inr (Or.inl ⟨by omega, by omega, rfl, rfl⟩)
        · refine zH_go 4 (c' := (77, [some (.inr (.inr (some 104))), some (.inl 2), some (.inl (R : Int)), none, none, none, none, none], [.inl 0], (zs (zup (zup h 104 1 0) 104 1 (-11)) hl))) rfl ?_
          refine zH_ret (v := some (.inl 0)) rfl (fun q => absurd q (by decide)) ?_
          exact Or.inl ⟨by first | exact Or.inl (by omega) | exact Or.inr ⟨by omega, by rw [Int.toNat_natCast]; omega⟩, rfl, rfl⟩
      · show zH _ _ (52, [some (.inr (.inr (some 104))), some (.inl 2), some (.inl ri), none, none, none, none, none], [.inl 0], (zs (zup h 104 1 0) hl)) _
        refine zH_bt (x := 0) (y := 0) (k := .eq) (c1 := (78, [some (.inr (.inr (some 104))), some (.inl 2), some (.inl ri), none, none, none, none, none], [], (zs (zup h 104 1 0) hl))) (c2 := (55, [some (.inr (.inr (some 104))), some (.inl 2), some (.inl ri), none, none, none, none, none], [], (zs (zup h 104 1 0) hl))) rfl ⟨by decide, by decide⟩ ⟨by decide, by decide⟩ (by show 0 = 0; decide) ?_
        refine zH_go 1 (c' := (79, [some (.inr (.inr (some 104))), some (.inl 2), some (.inl ri), none, none, none, none, none], [.inl ri], (zs (zup h 104 1 0) hl))) rfl ?_
        refine zH_np (P := zr ri) (c' := (80, [some (.inr (.inr (some 104))), some (.inl 2), some (.inl ri), none, none, none, none, none], [.inr (.inl ri)], (zs (zup h 104 1 0) hl))) rfl (by first | assumption | (unfold zr; omega)) ?_
        refine zH_go 4 (c' := (86, [some (.inr (.inr (some 104))), some (.inl 2), some (.inl ri), none, none, none, none, none], [.inl 2, .inr (.inr (some 121)), .inr (.inl 0), .inr (.inl ri)], (zs (zup h 104 1 0) hl))) rfl ?_
        refine zH_np (P := 0 ≤ 2 ∧ 2 < ((3 : Nat) : Int)) (c' := (87, [some (.inr (.inr (some 104))), some (.inl 2), some (.inl ri), none, none, none, none, none], [.inl (h 121 2), .inr (.inl 0), .inr (.inl ri)], (zs (zup h 104 1 0) hl))) rfl ⟨by decide, by decide⟩ ?_
        refine zH_go 2 (c' := (89, [some (.inr (.inr (some 104))), some (.inl 2), some (.inl ri), none, none, none, none, none], [.inl ((h 121 2) - 1), .inr (.inl 0), .inr (.inl ri)], (zs (zup h 104 1 0) hl))) rfl ?_
        refine zH_np (P := zr ((h 121 2) - 1)) (c' := (90, [some (.inr (.inr (some 104))), some (.inl 2), some (.inl ri), none, none, none, none, none], [.inr (.inl ((h 121 2) - 1)), .inr (.inl 0), .inr (.inl ri)], (zs (zup h 104 1 0) hl))) rfl (by first | assumption | (unfold zr; omega)) ?_
        refine zH_call (M' := 103) (as := [.inr (.inl ri), .inr (.inl 0), .inr (.inl ((h 121 2) - 1))]) (T := []) rfl (p_in (by first | assumption | exact zr_l (by assumption) | (unfold zrl; omega)) ⟨by decide, by decide⟩ (by first | assumption | exact zr_l (by assumption) | (unfold zrl; omega))) (fun r σ' p_12 => ?_)
        rcases p_12 with ⟨rfl, b_13, rfl⟩ | ⟨rfl, b_13, rfl⟩
        · show zH _ _ (93, [some (.inr (.inr (some 104))), some (.inl 2), some (.inl ri), none, none, none, none, none], [.inl 1], (zs (zup h 104 1 0) hl)) _
          refine zH_bt (x := 1) (y := 0) (k := .ne) (c1 := (104, [some (.inr (.inr (some 104))), some (.inl 2), some (.inl ri), none, none, none, none, none], [], (zs (zup h 104 1 0) hl))) (c2 := (96, [some (.inr (.inr (some 104))), some (.inl 2), some (.inl ri), none, none, none, none, none], [], (zs (zup h 104 1 0) hl))) rfl ⟨by decide, by decide⟩ ⟨by decide, by decide⟩ (by show ¬ 1 = 0; decide) ?_
          exfalso; omega
        · show zH _ _ (93, [some (.inr (.inr (some 104))), some (.inl 2), some (.inl ri), none, none, none, none, none], [.inl 0], (zs (zup h 104 1 0) hl)) _
          refine zH_bf (x := 0) (y := 0) (k := .ne) (c1 := (104, [some (.inr (.inr (some 104))), some (.inl 2), some (.inl ri), none, none, none, none, none], [], (zs (zup h 104 1 0) hl))) (c2 := (96, [some (.inr (.inr (some 104))), some (.inl 2), some (.inl ri), none, none, none, none, none], [], (zs (zup h 104 1 0) hl))) rfl ⟨by decide, by decide⟩ ⟨by decide, by decide⟩ (by show ¬ (¬ 0 = 0); decide) ?_
          refine zH_go 4 (c' := (103, [some (.inr (.inr (some 104))), some (.inl 2), some (.inl ri), none, none, none, none, none], [.inl 0], (zs (zup (zup h 104 1 0) 104 1 (-12)) hl))) rfl ?_
          refine zH_ret (v := some (.inl 0)) rfl (fun q => absurd q (by decide)) ?_
          exact Or.inr (Or.inl ⟨by omega, by omega, rfl, rfl⟩)
  · exact absurd (by decide) b_2
set_option maxRecDepth 100000 in
set_option maxHeartbeats 4000000 in
theorem p_callsON2 {d : Nat} {h0 h hl : Nat → Nat → Int} (e0 : zup h0 104 0 0 = h) {ri : Int} (hr : zr ri) (hB : zMbk h hl 2) {p L B n : Nat} {s0 : zDS} (hH : zMH h p L B n s0) (hM : zDm h hl p L B n s0) (hb0 : ∀ i : Nat, i < 3 → s0.2.1 i ≤ 1500 * (n : Int)) {K : Int} (hK11 : h 104 11 = K) (hK : 0 ≤ K ∧ K ≤ 3) : zQ (d + 6) 149 [.inr (.inr (some 104)), .inl 2, .inl ri] (zs h0 hl) (fun r' σ' => ((h 119 2 = 0 ∨ ((0 ≤ ri ∧ ri < h 121 2) ∧ h 122 (8 + Int.toNat ri) = -9)) ∧ r' = some (.inl 0) ∧ σ' = zs (zup (zup h 104 1 0) 104 1 (-11)) hl) ∨ (¬ h 119 2 = 0 ∧ ¬ (0 ≤ ri ∧ ri < h 121 2) ∧ r' = some (.inl 0) ∧ σ' = zs (zup (zup h 104 1 0) 104 1 (-12)) hl) ∨ ∃ (R S J : Nat) (x : Int) (s : zDS) (g gl : Nat → Nat → Int), ri = (R : Int) ∧ ¬ h 119 2 = 0 ∧ (R : Int) < h 121 2 ∧ h 122 (8 + R) = (S : Int) ∧ r' = some (.inl (J : Int)) ∧ σ' = zs g gl ∧ zDm g gl p L B (n + J) s ∧ zCh h L B K (fun q => Int.toNat (hl 123 (64 + 8 * R + q))) n s0 J s ∧ (∀ q : Nat, q < J → zCDec (h 104 3) (h 104 9) ((n + q : Nat) : Int) (hl 123 (64 + 8 * R + q)) 0) ∧ ((J = S ∧ x = 0) ∨ (J < S ∧ ¬ x = 0 ∧ zCDec (h 104 3) (h 104 9) ((n + J : Nat) : Int) (hl 123 (64 + 8 * R + J)) x)) ∧ (∀ c : Nat, c < 104 → g c = h c) ∧ (∀ c : Nat, (105 ≤ c ∧ c < 109) ∨ 118 ≤ c → g c = h c) ∧ (∀ j : Nat, j ≠ 1 → j ≠ 14 → j ≠ 15 → g 104 j = h 104 j) ∧ g 104 1 = x ∧ ∀ c : Nat, c ≠ 104 → gl c = hl c) := by
  have hBc := hB
  obtain ⟨h119, h121, h120, h122, h123⟩ := hBc
  have hHc := hH
  obtain ⟨hL3, hp6, h3, hT, hF, hBs, hn12, hs6, hsp, hsu, htu, hpl, hdg, hpo⟩ := hHc
  have hMc := hM
  obtain ⟨m9, m10, m14, m15, mas, mrec, mfa, mrow, mtr⟩ := hMc
  refine zQ_of (Nat.le_of_ble_eq_true rfl) ?_
  show zH (d + 5) 149 (0, [some (.inr (.inr (some 104))), some (.inl 2), some (.inl ri), none, none, none, none, none], [], (zs h0 hl)) _
  refine zH_go 3 (c' := (5, [some (.inr (.inr (some 104))), some (.inl 2), some (.inl ri), none, none, none, none, none], [], (zs (zup h0 104 0 0) hl))) rfl ?_
  rw [e0]
  refine zH_go 4 (c' := (11, [some (.inr (.inr (some 104))), some (.inl 2), some (.inl ri), none, none, none, none, none], [.inl 2], (zs (zup h 104 1 0) hl))) rfl ?_
  refine zH_np (P := zr 2) (c' := (12, [some (.inr (.inr (some 104))), some (.inl 2), some (.inl ri), none, none, none, none, none], [.inr (.inl 2)], (zs (zup h 104 1 0) hl))) rfl ⟨by decide, by decide⟩ ?_
  refine zH_go 2 (c' := (16, [some (.inr (.inr (some 104))), some (.inl 2), some (.inl ri), none, none, none, none, none], [.inr (.inl 2), .inr (.inl 0), .inr (.inl 2)], (zs (zup h 104 1 0) hl))) rfl ?_
  refine zH_call (M' := 103) (as := [.inr (.inl 2), .inr (.inl 0), .inr (.inl 2)]) (T := []) rfl (p_in ⟨by decide, by decide⟩ ⟨by decide, by decide⟩ ⟨by decide, by decide⟩) (fun r σ' p_1 => ?_)
  rcases p_1 with ⟨rfl, b_2, rfl⟩ | ⟨rfl, b_2, rfl⟩
  · show zH _ _ (19, [some (.inr (.inr (some 104))), some (.inl 2), some (.inl ri), none, none, none, none, none], [.inl 1], (zs (zup h 104 1 0) hl)) _
    refine zH_bt (x := 1) (y := 0) (k := .ne) (c1 := (28, [some (.inr (.inr (some 104))), some (.inl 2), some (.inl ri), none, none, none, none, none], [], (zs (zup h 104 1 0) hl))) (c2 := (22, [some (.inr (.inr (some 104))), some (.inl 2), some (.inl ri), none, none, none, none, none], [], (zs (zup h 104 1 0) hl))) rfl ⟨by decide, by decide⟩ ⟨by decide, by decide⟩ (by show ¬ 1 = 0; decide) ?_
    refine zH_go 3 (c' := (33, [some (.inr (.inr (some 104))), some (.inl 2), some (.inl ri), none, none, none, none, none], [.inl 2, .inr (.inr (some 119))], (zs (zup h 104 1 0) hl))) rfl ?_
    refine zH_np (P := 0 ≤ 2 ∧ 2 < ((3 : Nat) : Int)) (c' := (34, [some (.inr (.inr (some 104))), some (.inl 2), some (.inl ri), none, none, none, none, none], [.inl (h 119 2)], (zs (zup h 104 1 0) hl))) rfl ⟨by decide, by decide⟩ ?_
    refine zH_br (x := (h 119 2)) (y := 0) (k := .eq) (c1 := (70, [some (.inr (.inr (some 104))), some (.inl 2), some (.inl ri), none, none, none, none, none], [], (zs (zup h 104 1 0) hl))) (c2 := (37, [some (.inr (.inr (some 104))), some (.inl 2), some (.inl ri), none, none, none, none, none], [], (zs (zup h 104 1 0) hl))) rfl (by first | assumption | (unfold zr; omega)) ⟨by decide, by decide⟩ (fun (b_3 : (h 119 2) = 0) => ?_) (fun (b_3 : ¬ ((h 119 2) = 0)) => ?_)
    · refine zH_go 4 (c' := (77, [some (.inr (.inr (some 104))), some (.inl 2), some (.inl ri), none, none, none, none, none], [.inl 0], (zs (zup (zup h 104 1 0) 104 1 (-11)) hl))) rfl ?_
      refine zH_ret (v := some (.inl 0)) rfl (fun q => absurd q (by decide)) ?_
      exact Or.inl ⟨by first | exact Or.inl (by omega) | exact Or.inr ⟨by omega, by rw [Int.toNat_natCast]; omega⟩, rfl, rfl⟩
    · refine zH_go 1 (c' := (38, [some (.inr (.inr (some 104))), some (.inl 2), some (.inl ri), none, none, none, none, none], [.inl ri], (zs (zup h 104 1 0) hl))) rfl ?_
      refine zH_np (P := zr ri) (c' := (39, [some (.inr (.inr (some 104))), some (.inl 2), some (.inl ri), none, none, none, none, none], [.inr (.inl ri)], (zs (zup h 104 1 0) hl))) rfl (by first | assumption | (unfold zr; omega)) ?_
      refine zH_go 4 (c' := (45, [some (.inr (.inr (some 104))), some (.inl 2), some (.inl ri), none, none, none, none, none], [.inl 2, .inr (.inr (some 121)), .inr (.inl 0), .inr (.inl ri)], (zs (zup h 104 1 0) hl))) rfl ?_
      refine zH_np (P := 0 ≤ 2 ∧ 2 < ((3 : Nat) : Int)) (c' := (46, [some (.inr (.inr (some 104))), some (.inl 2), some (.inl ri), none, none, none, none, none], [.inl (h 121 2), .inr (.inl 0), .inr (.inl ri)], (zs (zup h 104 1 0) hl))) rfl ⟨by decide, by decide⟩ ?_
      refine zH_go 2 (c' := (48, [some (.inr (.inr (some 104))), some (.inl 2), some (.inl ri), none, none, none, none, none], [.inl ((h 121 2) - 1), .inr (.inl 0), .inr (.inl ri)], (zs (zup h 104 1 0) hl))) rfl ?_
      refine zH_np (P := zr ((h 121 2) - 1)) (c' := (49, [some (.inr (.inr (some 104))), some (.inl 2), some (.inl ri), none, none, none, none, none], [.inr (.inl ((h 121 2) - 1)), .inr (.inl 0), .inr (.inl ri)], (zs (zup h 104 1 0) hl))) rfl (by first | assumption | (unfold zr; omega)) ?_
      refine zH_call (M' := 103) (as := [.inr (.inl ri), .inr (.inl 0), .inr (.inl ((h 121 2) - 1))]) (T := []) rfl (p_in (by first | assumption | exact zr_l (by assumption) | (unfold zrl; omega)) ⟨by decide, by decide⟩ (by first | assumption | exact zr_l (by assumption) | (unfold zrl; omega))) (fun r σ' p_4 => ?_)
      rcases p_4 with ⟨rfl, b_5, rfl⟩ | ⟨rfl, b_5, rfl⟩
      · show zH _ _ (52, [some (.inr (.inr (some 104))), some (.inl 2), some (.inl ri), none, none, none, none, none], [.inl 1], (zs (zup h 104 1 0) hl)) _
        refine zH_bf (x := 1) (y := 0) (k := .eq) (c1 := (78, [some (.inr (.inr (some 104))), some (.inl 2), some (.inl ri), none, none, none, none, none], [], (zs (zup h 104 1 0) hl))) (c2 := (55, [some (.inr (.inr (some 104))), some (.inl 2), some (.inl ri), none, none, none, none, none], [], (zs (zup h 104 1 0) hl))) rfl ⟨by decide, by decide⟩ ⟨by decide, by decide⟩ (by show ¬ (1 = 0); decide) ?_
        obtain ⟨R, rfl⟩ := Int.eq_ofNat_of_zero_le (show 0 ≤ ri by omega)
        show zH _ _ (55, [some (.inr (.inr (some 104))), some (.inl 2), some (.inl (R : Int)), none, none, none, none, none], [], (zs (zup h 104 1 0) hl)) _
        have h2R := h122 R (by omega)
        have h2R : h 122 (8 + R) = -9 ∨ (0 ≤ h 122 (8 + R) ∧ h 122 (8 + R) ≤ 8) := h2R
        refine zH_go 7 (c' := (64, [some (.inr (.inr (some 104))), some (.inl 2), some (.inl (R : Int)), none, none, none, none, none], [.inl (8 + (R : Int)), .inr (.inr (some 122))], (zs (zup h 104 1 0) hl))) rfl ?_
        refine zH_np (P := 0 ≤ (8 + (R : Int)) ∧ (8 + (R : Int)) < ((12 : Nat) : Int)) (c' := (65, [some (.inr (.inr (some 104))), some (.inl 2), some (.inl (R : Int)), none, none, none, none, none], [.inl (h 122 (8 + R))], (zs (zup h 104 1 0) hl))) rfl ⟨by omega, by omega⟩ ?_
        refine zH_go 1 (c' := (67, [some (.inr (.inr (some 104))), some (.inl 2), some (.inl (R : Int)), none, none, none, none, none], [.inl (-9), .inl (h 122 (8 + R))], (zs (zup h 104 1 0) hl))) rfl ?_
        refine zH_br (x := (h 122 (8 + R))) (y := (-9)) (k := .ne) (c1 := (78, [some (.inr (.inr (some 104))), some (.inl 2), some (.inl (R : Int)), none, none, none, none, none], [], (zs (zup h 104 1 0) hl))) (c2 := (70, [some (.inr (.inr (some 104))), some (.inl 2), some (.inl (R : Int)), none, none, none, none, none], [], (zs (zup h 104 1 0) hl))) rfl (by first | assumption | (unfold zr; omega)) ⟨by decide, by decide⟩ (fun (b_6 : ¬ (h 122 (8 + R)) = (-9)) => ?_) (fun (b_6 : ¬ (¬ (h 122 (8 + R)) = (-9))) => ?_)
        · refine zH_go 1 (c' := (79, [some (.inr (.inr (some 104))), some (.inl 2), some (.inl (R : Int)), none, none, none, none, none], [.inl (R : Int)], (zs (zup h 104 1 0) hl))) rfl ?_
          refine zH_np (P := zr (R : Int)) (c' := (80, [some (.inr (.inr (some 104))), some (.inl 2), some (.inl (R : Int)), none, none, none, none, none], [.inr (.inl (R : Int))], (zs (zup h 104 1 0) hl))) rfl (by first | assumption | (unfold zr; omega)) ?_
          refine zH_go 4 (c' := (86, [some (.inr (.inr (some 104))), some (.inl 2), some (.inl (R : Int)), none, none, none, none, none], [.inl 2, .inr (.inr (some 121)), .inr (.inl 0), .inr (.inl (R : Int))], (zs (zup h 104 1 0) hl))) rfl ?_
          refine zH_np (P := 0 ≤ 2 ∧ 2 < ((3 : Nat) : Int)) (c' := (87, [some (.inr (.inr (some 104))), some (.inl 2), some (.inl (R : Int)), none, none, none, none, none], [.inl (h 121 2), .inr (.inl 0), .inr (.inl (R : Int))], (zs (zup h 104 1 0) hl))) rfl ⟨by decide, by decide⟩ ?_
          refine zH_go 2 (c' := (89, [some (.inr (.inr (some 104))), some (.inl 2), some (.inl (R : Int)), none, none, none, none, none], [.inl ((h 121 2) - 1), .inr (.inl 0), .inr (.inl (R : Int))], (zs (zup h 104 1 0) hl))) rfl ?_
          refine zH_np (P := zr ((h 121 2) - 1)) (c' := (90, [some (.inr (.inr (some 104))), some (.inl 2), some (.inl (R : Int)), none, none, none, none, none], [.inr (.inl ((h 121 2) - 1)), .inr (.inl 0), .inr (.inl (R : Int))], (zs (zup h 104 1 0) hl))) rfl (by first | assumption | (unfold zr; omega)) ?_
          refine zH_call (M' := 103) (as := [.inr (.inl (R : Int)), .inr (.inl 0), .inr (.inl ((h 121 2) - 1))]) (T := []) rfl (p_in (by first | assumption | exact zr_l (by assumption) | (unfold zrl; omega)) ⟨by decide, by decide⟩ (by first | assumption | exact zr_l (by assumption) | (unfold zrl; omega))) (fun r σ' p_7 => ?_)
          rcases p_7 with ⟨rfl, b_8, rfl⟩ | ⟨rfl, b_8, rfl⟩
          · show zH _ _ (93, [some (.inr (.inr (some 104))), some (.inl 2), some (.inl (R : Int)), none, none, none, none, none], [.inl 1], (zs (zup h 104 1 0) hl)) _
            refine zH_bt (x := 1) (y := 0) (k := .ne) (c1 := (104, [some (.inr (.inr (some 104))), some (.inl 2), some (.inl (R : Int)), none, none, none, none, none], [], (zs (zup h 104 1 0) hl))) (c2 := (96, [some (.inr (.inr (some 104))), some (.inl 2), some (.inl (R : Int)), none, none, none, none, none], [], (zs (zup h 104 1 0) hl))) rfl ⟨by decide, by decide⟩ ⟨by decide, by decide⟩ (by show ¬ 1 = 0; decide) ?_
            obtain ⟨S, eS⟩ := Int.eq_ofNat_of_zero_le (show 0 ≤ h 122 (8 + R) by omega)
            have eS : h 122 (8 + R) = (S : Int) := eS
            refine zH_go 4 (c' := (109, [some (.inr (.inr (some 104))), some (.inl 2), some (.inl (R : Int)), some (.inl 0), some (.inl 0), none, none, none], [], (zs (zup h 104 1 0) hl))) rfl ?_
            refine zH_lp (X := (Nat → Nat → Int) × (Nat → Nat → Int) × zDS × (Option zV) × (Option zV)) (F := fun (kq : Nat) (x : (Nat → Nat → Int) × (Nat → Nat → Int) × zDS × (Option zV) × (Option zV)) => (109, [some (.inr (.inr (some 104))), some (.inl 2), some (.inl (R : Int)), some (.inl (kq : Int)), some (.inl (kq : Int)), x.2.2.2.1, none, x.2.2.2.2], [], (zs x.1 x.2.1))) (I := fun (kq : Nat) (x : (Nat → Nat → Int) × (Nat → Nat → Int) × zDS × (Option zV) × (Option zV)) => zDm x.1 x.2.1 p L B (n + kq) x.2.2.1 ∧ zCh h L B K (fun q => Int.toNat (hl 123 (64 + 8 * R + q))) n s0 kq x.2.2.1 ∧ (∀ q : Nat, q < kq → zCDec (h 104 3) (h 104 9) ((n + q : Nat) : Int) (hl 123 (64 + 8 * R + q)) 0) ∧ zMH x.1 p L B (n + kq) x.2.2.1 ∧ (∀ i : Nat, i < 3 → x.2.2.1.2.1 i ≤ 1500 * ((n + kq : Nat) : Int)) ∧ (∀ c : Nat, c < 104 → x.1 c = h c) ∧ (∀ c : Nat, (105 ≤ c ∧ c < 109) ∨ 118 ≤ c → x.1 c = h c) ∧ (∀ j : Nat, j ≠ 1 → j ≠ 14 → j ≠ 15 → x.1 104 j = h 104 j) ∧ x.1 104 1 = 0 ∧ ∀ c : Nat, c ≠ 104 → x.2.1 c = hl c) (N := S) (fun k x hk hI ih => ?_) (fun x hI => ?_) 0 ((zup h 104 1 0), hl, s0, none, none) (by omega) ?_
            · obtain ⟨g, gl, s, x5, x7⟩ := x
              replace hI : zDm g gl p L B (n + k) s ∧ zCh h L B K (fun q => Int.toNat (hl 123 (64 + 8 * R + q))) n s0 k s ∧ (∀ q : Nat, q < k → zCDec (h 104 3) (h 104 9) ((n + q : Nat) : Int) (hl 123 (64 + 8 * R + q)) 0) ∧ zMH g p L B (n + k) s ∧ (∀ i : Nat, i < 3 → s.2.1 i ≤ 1500 * ((n + k : Nat) : Int)) ∧ (∀ c : Nat, c < 104 → g c = h c) ∧ (∀ c : Nat, (105 ≤ c ∧ c < 109) ∨ 118 ≤ c → g c = h c) ∧ (∀ j : Nat, j ≠ 1 → j ≠ 14 → j ≠ 15 → g 104 j = h 104 j) ∧ g 104 1 = 0 ∧ ∀ c : Nat, c ≠ 104 → gl c = hl c := hI
              show zH _ _ (109, [some (.inr (.inr (some 104))), some (.inl 2), some (.inl (R : Int)), some (.inl (k : Int)), some (.inl (k : Int)), x5, none, x7], [], (zs g gl)) _
              obtain ⟨I1, I2, I3, I4, I5, I6, I7, I8, I9, I10⟩ := hI
              have e122 : g 122 (8 + R) = (S : Int) := by rw [I7 122 (Or.inr (by decide))]; exact eS
              have e3 : g 104 3 = (p : Int) := by rw [I8 3 (by decide) (by decide) (by decide)]; exact h3
              have e9 : g 104 9 = (L : Int) := by rw [I8 9 (by decide) (by decide) (by decide)]; exact m9
              have e15 : g 104 15 = ((n + k : Nat) : Int) := I1.2.2.2.1
              have hnk := I4.2.2.2.2.2.2.1
              refine zH_go 8 (c' := (120, [some (.inr (.inr (some 104))), some (.inl 2), some (.inl (R : Int)), some (.inl (k : Int)), some (.inl (k : Int)), x5, none, x7], [.inl (8 + (R : Int)), .inr (.inr (some 122)), .inl (k : Int)], (zs g gl))) rfl ?_
              refine zH_np (P := 0 ≤ (8 + (R : Int)) ∧ (8 + (R : Int)) < ((12 : Nat) : Int)) (c' := (121, [some (.inr (.inr (some 104))), some (.inl 2), some (.inl (R : Int)), some (.inl (k : Int)), some (.inl (k : Int)), x5, none, x7], [.inl (g 122 (8 + R)), .inl (k : Int)], (zs g gl))) rfl ⟨by omega, by omega⟩ ?_
              rw [e122]
              refine zH_bf (x := (k : Int)) (y := (S : Int)) (k := .ge) (c1 := (220, [some (.inr (.inr (some 104))), some (.inl 2), some (.inl (R : Int)), some (.inl (k : Int)), some (.inl (k : Int)), x5, none, x7], [], (zs g gl))) (c2 := (124, [some (.inr (.inr (some 104))), some (.inl 2), some (.inl (R : Int)), some (.inl (k : Int)), some (.inl (k : Int)), x5, none, x7], [], (zs g gl))) rfl (by first | assumption | (unfold zr; omega)) (by first | assumption | (unfold zr; omega)) (by show ¬ (¬ (k : Int) < (S : Int)); omega) ?_
              refine zH_go 11 (c' := (140, [some (.inr (.inr (some 104))), some (.inl 2), some (.inl (R : Int)), some (.inl (k : Int)), some (.inl (k : Int)), x5, none, x7], [.inl ((64 + (8 * (R : Int))) + (k : Int)), .inr (.inr (some 123))], (zs g gl))) rfl ?_
              refine zH_np (P := 0 ≤ ((64 + (8 * (R : Int))) + (k : Int)) ∧ ((64 + (8 * (R : Int))) + (k : Int)) < ((96 : Nat) : Int)) (c' := (141, [some (.inr (.inr (some 104))), some (.inl 2), some (.inl (R : Int)), some (.inl (k : Int)), some (.inl (k : Int)), x5, none, x7], [.inr (.inl (gl 123 ((64 + (8 * R)) + k)))], (zs g gl))) rfl ⟨by omega, by omega⟩ ?_
              obtain ⟨v, hv⟩ : ∃ v, v = hl 123 (64 + 8 * R + k) := ⟨_, rfl⟩
              have hzv : zrl v := by rw [hv]; exact h123 R k (by omega) (by omega)
              rw [show (gl 123 ((64 + (8 * R)) + k)) = v from by rw [I10 123 (by decide)]; exact hv.symm]
              show zH _ _ (141, [some (.inr (.inr (some 104))), some (.inl 2), some (.inl (R : Int)), some (.inl (k : Int)), some (.inl (k : Int)), x5, none, x7], [.inr (.inl v)], (zs g gl)) _
              refine zH_go 5 (c' := (150, [some (.inr (.inr (some 104))), some (.inl 2), some (.inl (R : Int)), some (.inl (k : Int)), some (.inl (k : Int)), some (.inr (.inl v)), none, x7], [.inl (g 104 3), .inr (.inl 0), .inr (.inl v)], (zs g gl))) rfl ?_
              rw [e3]
              refine zH_go 2 (c' := (152, [some (.inr (.inr (some 104))), some (.inl 2), some (.inl (R : Int)), some (.inl (k : Int)), some (.inl (k : Int)), some (.inr (.inl v)), none, x7], [.inl ((p : Int) - 1), .inr (.inl 0), .inr (.inl v)], (zs g gl))) rfl ?_
              refine zH_np (P := zr ((p : Int) - 1)) (c' := (153, [some (.inr (.inr (some 104))), some (.inl 2), some (.inl (R : Int)), some (.inl (k : Int)), some (.inl (k : Int)), some (.inr (.inl v)), none, x7], [.inr (.inl ((p : Int) - 1)), .inr (.inl 0), .inr (.inl v)], (zs g gl))) rfl (by first | assumption | (unfold zr; omega)) ?_
              refine zH_call (M' := 103) (as := [.inr (.inl v), .inr (.inl 0), .inr (.inl ((p : Int) - 1))]) (T := []) rfl (p_in (by first | assumption | exact zr_l (by assumption) | (unfold zrl; omega)) ⟨by decide, by decide⟩ (by first | assumption | exact zr_l (by assumption) | (unfold zrl; omega))) (fun r σ' p_9 => ?_)
              rcases p_9 with ⟨rfl, b_10, rfl⟩ | ⟨rfl, b_10, rfl⟩
              · show zH _ _ (156, [some (.inr (.inr (some 104))), some (.inl 2), some (.inl (R : Int)), some (.inl (k : Int)), some (.inl (k : Int)), some (.inr (.inl v)), none, x7], [.inl 1], (zs g gl)) _
                refine zH_bt (x := 1) (y := 0) (k := .ne) (c1 := (166, [some (.inr (.inr (some 104))), some (.inl 2), some (.inl (R : Int)), some (.inl (k : Int)), some (.inl (k : Int)), some (.inr (.inl v)), none, x7], [], (zs g gl))) (c2 := (159, [some (.inr (.inr (some 104))), some (.inl 2), some (.inl (R : Int)), some (.inl (k : Int)), some (.inl (k : Int)), some (.inr (.inl v)), none, x7], [], (zs g gl))) rfl ⟨by decide, by decide⟩ ⟨by decide, by decide⟩ (by show ¬ 1 = 0; decide) ?_
                obtain ⟨u, hu⟩ := Int.eq_ofNat_of_zero_le (show 0 ≤ v by omega)
                have hu : v = (u : Int) := hu
                refine zH_go 2 (c' := (170, [some (.inr (.inr (some 104))), some (.inl 2), some (.inl (R : Int)), some (.inl (k : Int)), some (.inl (k : Int)), some (.inr (.inl v)), none, x7], [.inl (g 104 9)], (zs g gl))) rfl ?_
                rw [e9]
                refine zH_bf (x := (L : Int)) (y := 0) (k := .eq) (c1 := (182, [some (.inr (.inr (some 104))), some (.inl 2), some (.inl (R : Int)), some (.inl (k : Int)), some (.inl (k : Int)), some (.inr (.inl v)), none, x7], [], (zs g gl))) (c2 := (173, [some (.inr (.inr (some 104))), some (.inl 2), some (.inl (R : Int)), some (.inl (k : Int)), some (.inl (k : Int)), some (.inr (.inl v)), none, x7], [], (zs g gl))) rfl (by first | assumption | (unfold zr; omega)) ⟨by decide, by decide⟩ (by show ¬ ((L : Int) = 0); omega) ?_
                refine zH_go 2 (c' := (177, [some (.inr (.inr (some 104))), some (.inl 2), some (.inl (R : Int)), some (.inl (k : Int)), some (.inl (k : Int)), some (.inr (.inl v)), none, x7], [.inl (g 104 15)], (zs g gl))) rfl ?_
                rw [e15]
                refine zH_go 1 (c' := (179, [some (.inr (.inr (some 104))), some (.inl 2), some (.inl (R : Int)), some (.inl (k : Int)), some (.inl (k : Int)), some (.inr (.inl v)), none, x7], [.inl 12, .inl ((n + k : Nat) : Int)], (zs g gl))) rfl ?_
                refine zH_br (x := ((n + k : Nat) : Int)) (y := 12) (k := .ne) (c1 := (202, [some (.inr (.inr (some 104))), some (.inl 2), some (.inl (R : Int)), some (.inl (k : Int)), some (.inl (k : Int)), some (.inr (.inl v)), none, x7], [], (zs g gl))) (c2 := (182, [some (.inr (.inr (some 104))), some (.inl 2), some (.inl (R : Int)), some (.inl (k : Int)), some (.inl (k : Int)), some (.inr (.inl v)), none, x7], [], (zs g gl))) rfl (by first | assumption | (unfold zr; omega)) ⟨by decide, by decide⟩ (fun (b_11 : ¬ ((n + k : Nat) : Int) = 12) => ?_) (fun (b_11 : ¬ (¬ ((n + k : Nat) : Int) = 12)) => ?_)
                · refine zH_go 3 (c' := (206, [some (.inr (.inr (some 104))), some (.inl 2), some (.inl (R : Int)), some (.inl (k : Int)), some (.inl (k : Int)), some (.inr (.inl v)), none, x7], [.inl (Int.bmod v 4294967296), .inr (.inr (some 104))], (zs g gl))) rfl ?_
                  rw [zbm_id (show zr v from ⟨by omega, by omega⟩), hu]
                  show zH _ _ (206, [some (.inr (.inr (some 104))), some (.inl 2), some (.inl (R : Int)), some (.inl (k : Int)), some (.inl (k : Int)), some (.inr (.inl (u : Int))), none, x7], [.inl (u : Int), .inr (.inr (some 104))], (zs g gl)) _
                  refine zH_call (M' := 127) (as := [.inr (.inr (some 104)), .inl (u : Int)]) (T := []) rfl (p_comes (pp := u) (K := K) I4 I1 (by omega) (by omega) (by rw [I8 11 (by decide) (by decide) (by decide)]; exact hK11) hK) (fun r' σ' pm => ?_)
                  obtain ⟨l, tr, g', gl', c1, rfl, rfl, c2, c3, c4, c5, c6⟩ := pm
                  have hcs : ∀ c : Nat, 12 ≤ c → c < 20 → g c = h c := fun c c1 c2 => I6 c (by omega)
                  have hs6k := I4.2.2.2.2.2.2.2.1
                  have hplk := I4.2.2.2.2.2.2.2.2.2.2.2.1
                  have c1h : zPkS h L B K (n + k) u s l tr := zPkS_same hcs hL3.2 hs6k (by omega) (fun j hj => by have := hplk j hj; omega) c1
                  have hst := zMH_step (K := K) (tr := tr) I4 (show n + k < 12 by omega) (show u < p by omega) I5 c1.1
                  have eUp : zUp g K (n + k) u l tr s = zUp h K (n + k) u l tr s := zUp_same hcs (hs6k l (by have := c1.1; omega))
                  rw [eUp] at c2 hst
                  have hPk : Int.toNat (hl 123 (64 + 8 * R + k)) = u := by rw [← hv, hu, Int.toNat_natCast]
                  have hI5 : zDm g' gl' p L B (n + (k + 1)) (zUp h K (n + k) u l tr s) ∧ zCh h L B K (fun q => Int.toNat (hl 123 (64 + 8 * R + q))) n s0 (k + 1) (zUp h K (n + k) u l tr s) ∧ (∀ q : Nat, q < (k + 1) → zCDec (h 104 3) (h 104 9) ((n + q : Nat) : Int) (hl 123 (64 + 8 * R + q)) 0) ∧ zMH g' p L B (n + (k + 1)) (zUp h K (n + k) u l tr s) ∧ (∀ i : Nat, i < 3 → (zUp h K (n + k) u l tr s).2.1 i ≤ 1500 * ((n + (k + 1) : Nat) : Int)) ∧ (∀ c : Nat, c < 104 → g' c = h c) ∧ (∀ c : Nat, (105 ≤ c ∧ c < 109) ∨ 118 ≤ c → g' c = h c) ∧ (∀ j : Nat, j ≠ 1 → j ≠ 14 → j ≠ 15 → g' 104 j = h 104 j) ∧ g' 104 1 = 0 ∧ ∀ c : Nat, c ≠ 104 → gl' c = hl c := ⟨c2, ⟨s, l, tr, I2, by dsimp only; rw [hPk]; exact c1h, by dsimp only; rw [hPk]⟩, fun q hq => (by
                      by_cases w : q = k
                      · rw [w, ← hv]
                        unfold zCDec
                        omega
                      · exact I3 q (by omega)), zMH_same hst.1 (fun c hc => by rw [c3 c (by omega)]) (fun i j hi hj => by rw [c4 108 (Or.inl (by decide))]) (c5 3 (by decide) (by decide)), hst.2, fun c hc => by rw [c3 c hc]; exact I6 c hc, fun c hc => by rw [c4 c (by omega)]; exact I7 c hc, fun j h1 h2 h3 => by rw [c5 j h2 h3]; exact I8 j h1 h2 h3, by rw [c5 1 (by decide) (by decide)]; exact I9, fun c hc => by rw [c6 c hc]; exact I10 c hc⟩
                  show zH _ _ (209, [some (.inr (.inr (some 104))), some (.inl 2), some (.inl (R : Int)), some (.inl (k : Int)), some (.inl (k : Int)), some (.inr (.inl (u : Int))), none, x7], [.inl (l : Int)], (zs g' gl')) _
                  refine zH_go 4 (c' := (109, [some (.inr (.inr (some 104))), some (.inl 2), some (.inl (R : Int)), some (.inl ((k : Int) + 1)), some (.inl ((k : Int) + 1)), some (.inr (.inl (u : Int))), none, some (.inl (l : Int))], [], (zs g' gl'))) rfl ?_
                  refine ih (g', gl', (zUp h K (n + k) u l tr s), (some (.inr (.inl (u : Int)))), (some (.inl (l : Int)))) ?_
                  show zDm g' gl' p L B (n + (k + 1)) (zUp h K (n + k) u l tr s) ∧ zCh h L B K (fun q => Int.toNat (hl 123 (64 + 8 * R + q))) n s0 (k + 1) (zUp h K (n + k) u l tr s) ∧ (∀ q : Nat, q < (k + 1) → zCDec (h 104 3) (h 104 9) ((n + q : Nat) : Int) (hl 123 (64 + 8 * R + q)) 0) ∧ zMH g' p L B (n + (k + 1)) (zUp h K (n + k) u l tr s) ∧ (∀ i : Nat, i < 3 → (zUp h K (n + k) u l tr s).2.1 i ≤ 1500 * ((n + (k + 1) : Nat) : Int)) ∧ (∀ c : Nat, c < 104 → g' c = h c) ∧ (∀ c : Nat, (105 ≤ c ∧ c < 109) ∨ 118 ≤ c → g' c = h c) ∧ (∀ j : Nat, j ≠ 1 → j ≠ 14 → j ≠ 15 → g' 104 j = h 104 j) ∧ g' 104 1 = 0 ∧ ∀ c : Nat, c ≠ 104 → gl' c = hl c
                  exact hI5
                · refine zH_go 3 (c' := (187, [some (.inr (.inr (some 104))), some (.inl 2), some (.inl (R : Int)), some (.inl (k : Int)), some (.inl (k : Int)), some (.inr (.inl v)), none, x7], [.inl (g 104 9), .inr (.inr (some 104))], (zs g gl))) rfl ?_
                  refine zH_br (x := (g 104 9)) (y := 0) (k := .ne) (c1 := (195, [some (.inr (.inr (some 104))), some (.inl 2), some (.inl (R : Int)), some (.inl (k : Int)), some (.inl (k : Int)), some (.inr (.inl v)), none, x7], [.inr (.inr (some 104))], (zs g gl))) (c2 := (190, [some (.inr (.inr (some 104))), some (.inl 2), some (.inl (R : Int)), some (.inl (k : Int)), some (.inl (k : Int)), some (.inr (.inl v)), none, x7], [.inr (.inr (some 104))], (zs g gl))) rfl (by first | assumption | (unfold zr; omega)) ⟨by decide, by decide⟩ (fun (b_12 : ¬ (g 104 9) = 0) => ?_) (fun (b_12 : ¬ (¬ (g 104 9) = 0)) => ?_)
                  · refine zH_go 3 (c' := (201, [some (.inr (.inr (some 104))), some (.inl 2), some (.inl (R : Int)), some (.inl (k : Int)), some (.inl (k : Int)), some (.inr (.inl v)), none, x7], [.inl (k : Int)], (zs (zup g 104 1 (-3)) gl))) rfl ?_
                    refine zH_ret (v := some (.inl (k : Int))) rfl (fun q => absurd q (by decide)) ?_
                    refine Or.inr (Or.inr ⟨R, S, k, (-3), s, _, gl, rfl, by omega, by omega, eS, rfl, rfl, zDm_same I1 (fun c hc => by funext q; exact zup_ne (by omega)) (fun i j hi hj => zup_ne (by decide)) ⟨zup_k (by decide), zup_k (by decide), zup_k (by decide), zup_k (by decide)⟩ rfl (fun j hj => by have := I4.2.2.2.2.2.2.2.2.2.2.2.1 j hj; omega), I2, I3, Or.inr ⟨by omega, by decide, ?_⟩, fun c hc => by rw [← I6 c hc]; funext q; exact zup_ne (by omega), fun c hc => by rw [← I7 c hc]; funext q; exact zup_ne (by omega), fun j h1 h2 h3 => by rw [zup_k h1]; exact I8 j h1 h2 h3, zup_eq, I10⟩)
                    rw [← hv]
                    unfold zCDec
                    omega
                  · refine zH_go 4 (c' := (201, [some (.inr (.inr (some 104))), some (.inl 2), some (.inl (R : Int)), some (.inl (k : Int)), some (.inl (k : Int)), some (.inr (.inl v)), none, x7], [.inl (k : Int)], (zs (zup g 104 1 (-2)) gl))) rfl ?_
                    refine zH_ret (v := some (.inl (k : Int))) rfl (fun q => absurd q (by decide)) ?_
                    refine Or.inr (Or.inr ⟨R, S, k, (-2), s, _, gl, rfl, by omega, by omega, eS, rfl, rfl, zDm_same I1 (fun c hc => by funext q; exact zup_ne (by omega)) (fun i j hi hj => zup_ne (by decide)) ⟨zup_k (by decide), zup_k (by decide), zup_k (by decide), zup_k (by decide)⟩ rfl (fun j hj => by have := I4.2.2.2.2.2.2.2.2.2.2.2.1 j hj; omega), I2, I3, Or.inr ⟨by omega, by decide, ?_⟩, fun c hc => by rw [← I6 c hc]; funext q; exact zup_ne (by omega), fun c hc => by rw [← I7 c hc]; funext q; exact zup_ne (by omega), fun j h1 h2 h3 => by rw [zup_k h1]; exact I8 j h1 h2 h3, zup_eq, I10⟩)
                    rw [← hv]
                    unfold zCDec
                    omega
              · show zH _ _ (156, [some (.inr (.inr (some 104))), some (.inl 2), some (.inl (R : Int)), some (.inl (k : Int)), some (.inl (k : Int)), some (.inr (.inl v)), none, x7], [.inl 0], (zs g gl)) _
                refine zH_bf (x := 0) (y := 0) (k := .ne) (c1 := (166, [some (.inr (.inr (some 104))), some (.inl 2), some (.inl (R : Int)), some (.inl (k : Int)), some (.inl (k : Int)), some (.inr (.inl v)), none, x7], [], (zs g gl))) (c2 := (159, [some (.inr (.inr (some 104))), some (.inl 2), some (.inl (R : Int)), some (.inl (k : Int)), some (.inl (k : Int)), some (.inr (.inl v)), none, x7], [], (zs g gl))) rfl ⟨by decide, by decide⟩ ⟨by decide, by decide⟩ (by show ¬ (¬ 0 = 0); decide) ?_
                refine zH_go 4 (c' := (165, [some (.inr (.inr (some 104))), some (.inl 2), some (.inl (R : Int)), some (.inl (k : Int)), some (.inl (k : Int)), some (.inr (.inl v)), none, x7], [.inl (k : Int)], (zs (zup g 104 1 (-1)) gl))) rfl ?_
                refine zH_ret (v := some (.inl (k : Int))) rfl (fun q => absurd q (by decide)) ?_
                refine Or.inr (Or.inr ⟨R, S, k, (-1), s, _, gl, rfl, by omega, by omega, eS, rfl, rfl, zDm_same I1 (fun c hc => by funext q; exact zup_ne (by omega)) (fun i j hi hj => zup_ne (by decide)) ⟨zup_k (by decide), zup_k (by decide), zup_k (by decide), zup_k (by decide)⟩ rfl (fun j hj => by have := I4.2.2.2.2.2.2.2.2.2.2.2.1 j hj; omega), I2, I3, Or.inr ⟨by omega, by decide, ?_⟩, fun c hc => by rw [← I6 c hc]; funext q; exact zup_ne (by omega), fun c hc => by rw [← I7 c hc]; funext q; exact zup_ne (by omega), fun j h1 h2 h3 => by rw [zup_k h1]; exact I8 j h1 h2 h3, zup_eq, I10⟩)
                rw [← hv]
                unfold zCDec
                omega
            · obtain ⟨g, gl, s, x5, x7⟩ := x
              replace hI : zDm g gl p L B (n + S) s ∧ zCh h L B K (fun q => Int.toNat (hl 123 (64 + 8 * R + q))) n s0 S s ∧ (∀ q : Nat, q < S → zCDec (h 104 3) (h 104 9) ((n + q : Nat) : Int) (hl 123 (64 + 8 * R + q)) 0) ∧ zMH g p L B (n + S) s ∧ (∀ i : Nat, i < 3 → s.2.1 i ≤ 1500 * ((n + S : Nat) : Int)) ∧ (∀ c : Nat, c < 104 → g c = h c) ∧ (∀ c : Nat, (105 ≤ c ∧ c < 109) ∨ 118 ≤ c → g c = h c) ∧ (∀ j : Nat, j ≠ 1 → j ≠ 14 → j ≠ 15 → g 104 j = h 104 j) ∧ g 104 1 = 0 ∧ ∀ c : Nat, c ≠ 104 → gl c = hl c := hI
              show zH _ _ (109, [some (.inr (.inr (some 104))), some (.inl 2), some (.inl (R : Int)), some (.inl (S : Int)), some (.inl (S : Int)), x5, none, x7], [], (zs g gl)) _
              obtain ⟨I1, I2, I3, I4, I5, I6, I7, I8, I9, I10⟩ := hI
              have e122 : g 122 (8 + R) = (S : Int) := by rw [I7 122 (Or.inr (by decide))]; exact eS
              refine zH_go 8 (c' := (120, [some (.inr (.inr (some 104))), some (.inl 2), some (.inl (R : Int)), some (.inl (S : Int)), some (.inl (S : Int)), x5, none, x7], [.inl (8 + (R : Int)), .inr (.inr (some 122)), .inl (S : Int)], (zs g gl))) rfl ?_
              refine zH_np (P := 0 ≤ (8 + (R : Int)) ∧ (8 + (R : Int)) < ((12 : Nat) : Int)) (c' := (121, [some (.inr (.inr (some 104))), some (.inl 2), some (.inl (R : Int)), some (.inl (S : Int)), some (.inl (S : Int)), x5, none, x7], [.inl (g 122 (8 + R)), .inl (S : Int)], (zs g gl))) rfl ⟨by omega, by omega⟩ ?_
              rw [e122]
              refine zH_bt (x := (S : Int)) (y := (S : Int)) (k := .ge) (c1 := (220, [some (.inr (.inr (some 104))), some (.inl 2), some (.inl (R : Int)), some (.inl (S : Int)), some (.inl (S : Int)), x5, none, x7], [], (zs g gl))) (c2 := (124, [some (.inr (.inr (some 104))), some (.inl 2), some (.inl (R : Int)), some (.inl (S : Int)), some (.inl (S : Int)), x5, none, x7], [], (zs g gl))) rfl (by first | assumption | (unfold zr; omega)) (by first | assumption | (unfold zr; omega)) (by show ¬ (S : Int) < (S : Int); omega) ?_
              refine zH_go 1 (c' := (221, [some (.inr (.inr (some 104))), some (.inl 2), some (.inl (R : Int)), some (.inl (S : Int)), some (.inl (S : Int)), x5, none, x7], [.inl (S : Int)], (zs g gl))) rfl ?_
              refine zH_ret (v := some (.inl (S : Int))) rfl (fun q => absurd q (by decide)) ?_
              exact Or.inr (Or.inr ⟨R, S, S, 0, s, g, gl, rfl, by omega, by omega, eS, rfl, rfl, I1, I2, I3, Or.inl ⟨rfl, rfl⟩, I6, I7, I8, I9, I10⟩)
            · show zDm (zup h 104 1 0) hl p L B (n + 0) s0 ∧ zCh h L B K (fun q => Int.toNat (hl 123 (64 + 8 * R + q))) n s0 0 s0 ∧ (∀ q : Nat, q < 0 → zCDec (h 104 3) (h 104 9) ((n + q : Nat) : Int) (hl 123 (64 + 8 * R + q)) 0) ∧ zMH (zup h 104 1 0) p L B (n + 0) s0 ∧ (∀ i : Nat, i < 3 → s0.2.1 i ≤ 1500 * ((n + 0 : Nat) : Int)) ∧ (∀ c : Nat, c < 104 → (zup h 104 1 0) c = h c) ∧ (∀ c : Nat, (105 ≤ c ∧ c < 109) ∨ 118 ≤ c → (zup h 104 1 0) c = h c) ∧ (∀ j : Nat, j ≠ 1 → j ≠ 14 → j ≠ 15 → (zup h 104 1 0) 104 j = h 104 j) ∧ (zup h 104 1 0) 104 1 = 0 ∧ ∀ c : Nat, c ≠ 104 → hl c = hl c
              refine ⟨zDm_same hM (fun c hc => by funext q; exact zup_ne (by omega)) (fun i j hi hj => zup_ne (by decide)) ⟨zup_k (by decide), zup_k (by decide), zup_k (by decide), zup_k (by decide)⟩ rfl (fun j hj => by have := hpl j hj; omega), rfl, fun q hq => absurd hq (Nat.not_lt_zero q), zMH_same hH (fun c hc => by funext q; exact zup_ne (by omega)) (fun i j hi hj => zup_ne (by decide)) (zup_k (by decide)), hb0, fun c hc => by funext q; exact zup_ne (by omega), fun c hc => by funext q; exact zup_ne (by omega), fun j h1 _ _ => zup_k h1, zup_eq, fun c _ => rfl⟩
          · show zH _ _ (93, [some (.inr (.inr (some 104))), some (.inl 2), some (.inl (R : Int)), none, none, none, none, none], [.inl 0], (zs (zup h 104 1 0) hl)) _
            refine zH_bf (x := 0) (y := 0) (k := .ne) (c1 := (104, [some (.inr (.inr (some 104))), some (.inl 2), some (.inl (R : Int)), none, none, none, none, none], [], (zs (zup h 104 1 0) hl))) (c2 := (96, [some (.inr (.inr (some 104))), some (.inl 2), some (.inl (R : Int)), none, none, none, none, none], [], (zs (zup h 104 1 0) hl))) rfl ⟨by decide, by decide⟩ ⟨by decide, by decide⟩ (by show ¬ (¬ 0 = 0); decide) ?_
            refine zH_go 4 (c' := (103, [some (.inr (.inr (some 104))), some (.inl 2), some (.inl (R : Int)), none, none, none, none, none], [.inl 0], (zs (zup (zup h 104 1 0) 104 1 (-12)) hl))) rfl ?_
            refine zH_ret (v := some (.inl 0)) rfl (fun q => absurd q (by decide)) ?_
            exact Or.inr (Or.inl ⟨by omega, by omega, rfl, rfl⟩)
        · refine zH_go 4 (c' := (77, [some (.inr (.inr (some 104))), some (.inl 2), some (.inl (R : Int)), none, none, none, none, none], [.inl 0], (zs (zup (zup h 104 1 0) 104 1 (-11)) hl))) rfl ?_
          refine zH_ret (v := some (.inl 0)) rfl (fun q => absurd q (by decide)) ?_
          exact Or.inl ⟨by first | exact Or.inl (by omega) | exact Or.inr ⟨by omega, by rw [Int.toNat_natCast]; omega⟩, rfl, rfl⟩
      · show zH _ _ (52, [some (.inr (.inr (some 104))), some (.inl 2), some (.inl ri), none, none, none, none, none], [.inl 0], (zs (zup h 104 1 0) hl)) _
        refine zH_bt (x := 0) (y := 0) (k := .eq) (c1 := (78, [some (.inr (.inr (some 104))), some (.inl 2), some (.inl ri), none, none, none, none, none], [], (zs (zup h 104 1 0) hl))) (c2 := (55, [some (.inr (.inr (some 104))), some (.inl 2), some (.inl ri), none, none, none, none, none], [], (zs (zup h 104 1 0) hl))) rfl ⟨by decide, by decide⟩ ⟨by decide, by decide⟩ (by show 0 = 0; decide) ?_
        refine zH_go 1 (c' := (79, [some (.inr (.inr (some 104))), some (.inl 2), some (.inl ri), none, none, none, none, none], [.inl ri], (zs (zup h 104 1 0) hl))) rfl ?_
        refine zH_np (P := zr ri) (c' := (80, [some (.inr (.inr (some 104))), some (.inl 2), some (.inl ri), none, none, none, none, none], [.inr (.inl ri)], (zs (zup h 104 1 0) hl))) rfl (by first | assumption | (unfold zr; omega)) ?_
        refine zH_go 4 (c' := (86, [some (.inr (.inr (some 104))), some (.inl 2), some (.inl ri), none, none, none, none, none], [.inl 2, .inr (.inr (some 121)), .inr (.inl 0), .inr (.inl ri)], (zs (zup h 104 1 0) hl))) rfl ?_
        refine zH_np (P := 0 ≤ 2 ∧ 2 < ((3 : Nat) : Int)) (c' := (87, [some (.inr (.inr (some 104))), some (.inl 2), some (.inl ri), none, none, none, none, none], [.inl (h 121 2), .inr (.inl 0), .inr (.inl ri)], (zs (zup h 104 1 0) hl))) rfl ⟨by decide, by decide⟩ ?_
        refine zH_go 2 (c' := (89, [some (.inr (.inr (some 104))), some (.inl 2), some (.inl ri), none, none, none, none, none], [.inl ((h 121 2) - 1), .inr (.inl 0), .inr (.inl ri)], (zs (zup h 104 1 0) hl))) rfl ?_
        refine zH_np (P := zr ((h 121 2) - 1)) (c' := (90, [some (.inr (.inr (some 104))), some (.inl 2), some (.inl ri), none, none, none, none, none], [.inr (.inl ((h 121 2) - 1)), .inr (.inl 0), .inr (.inl ri)], (zs (zup h 104 1 0) hl))) rfl (by first | assumption | (unfold zr; omega)) ?_
        refine zH_call (M' := 103) (as := [.inr (.inl ri), .inr (.inl 0), .inr (.inl ((h 121 2) - 1))]) (T := []) rfl (p_in (by first | assumption | exact zr_l (by assumption) | (unfold zrl; omega)) ⟨by decide, by decide⟩ (by first | assumption | exact zr_l (by assumption) | (unfold zrl; omega))) (fun r σ' p_13 => ?_)
        rcases p_13 with ⟨rfl, b_14, rfl⟩ | ⟨rfl, b_14, rfl⟩
        · show zH _ _ (93, [some (.inr (.inr (some 104))), some (.inl 2), some (.inl ri), none, none, none, none, none], [.inl 1], (zs (zup h 104 1 0) hl)) _
          refine zH_bt (x := 1) (y := 0) (k := .ne) (c1 := (104, [some (.inr (.inr (some 104))), some (.inl 2), some (.inl ri), none, none, none, none, none], [], (zs (zup h 104 1 0) hl))) (c2 := (96, [some (.inr (.inr (some 104))), some (.inl 2), some (.inl ri), none, none, none, none, none], [], (zs (zup h 104 1 0) hl))) rfl ⟨by decide, by decide⟩ ⟨by decide, by decide⟩ (by show ¬ 1 = 0; decide) ?_
          exfalso; omega
        · show zH _ _ (93, [some (.inr (.inr (some 104))), some (.inl 2), some (.inl ri), none, none, none, none, none], [.inl 0], (zs (zup h 104 1 0) hl)) _
          refine zH_bf (x := 0) (y := 0) (k := .ne) (c1 := (104, [some (.inr (.inr (some 104))), some (.inl 2), some (.inl ri), none, none, none, none, none], [], (zs (zup h 104 1 0) hl))) (c2 := (96, [some (.inr (.inr (some 104))), some (.inl 2), some (.inl ri), none, none, none, none, none], [], (zs (zup h 104 1 0) hl))) rfl ⟨by decide, by decide⟩ ⟨by decide, by decide⟩ (by show ¬ (¬ 0 = 0); decide) ?_
          refine zH_go 4 (c' := (103, [some (.inr (.inr (some 104))), some (.inl 2), some (.inl ri), none, none, none, none, none], [.inl 0], (zs (zup (zup h 104 1 0) 104 1 (-12)) hl))) rfl ?_
          refine zH_ret (v := some (.inl 0)) rfl (fun q => absurd q (by decide)) ?_
          exact Or.inr (Or.inl ⟨by omega, by omega, rfl, rfl⟩)
  · exact absurd (by decide) b_2
