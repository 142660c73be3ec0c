/-! Call by call: both objects answer alike (4): books. -/
set_option maxRecDepth 100000 in
set_option maxHeartbeats 4000000 in
theorem p_roadsB0 {d : Nat} {h hl : Nat → Nat → Int} {p r : Nat} (hW : zTown h p r) (hon : zr (h 21 3)) (hR : -1 ≤ h 83 1 ∧ h 83 1 ≤ 4) (hZ : ∀ q : Nat, q < 4 → -1 ≤ h 84 q ∧ h 84 q ≤ 8) (hV : ∀ q i : Nat, q < 4 → i < 8 → zrl (hl (86 + q) i)) : zQ (d + 6) 90 [.inr (.inr (some 2)), .inl 0] (zs h hl) (fun r' σ' => (h 83 1 < 0 ∧ r' = some (.inl 0) ∧ σ' = zs (zup h 2 8 (-11)) hl) ∨ ∃ (R J : Nat) (x : Int) (g : Nat → Nat → Int), h 83 1 = (R : Int) ∧ r' = some (.inl (J : Int)) ∧ σ' = zs (zup g 2 8 x) hl ∧ zTown (zov g (zAR h (fun q i => hl (86 + q) i) r J)) p (r + J) ∧ (∀ c : Nat, c < 3 ∨ 18 ≤ c → g c = h c) ∧ (J = 0 → g = h) ∧ (∀ q : Nat, q < J → zRDec (h 3 0) (h 21 3) ((r + q : Nat) : Int) (h 84 q) (hl (86 + q) 0) (hl (86 + q) 1) (hl (86 + q) 2) 0) ∧ ((J = R ∧ x = 0) ∨ (J < R ∧ ¬ x = 0 ∧ zRDec (h 3 0) (h 21 3) ((r + J : Nat) : Int) (h 84 J) (hl (86 + J) 0) (hl (86 + J) 1) (hl (86 + J) 2) x))) := by
  have hWc := hW
  obtain ⟨hp6, hr15, h30, h31, hp3, hr4, hMe, hTB, hCn, hPo, hRd, hLk, hGr⟩ := hWc
  have hP : 0 ≤ h 3 0 ∧ h 3 0 ≤ 6 := by omega
  refine zQ_of (Nat.le_of_ble_eq_true rfl) ?_
  show zH (d + 5) 90 (0, [some (.inr (.inr (some 2))), some (.inl 0), none, none, none, none], [], (zs h hl)) _
  refine zH_go 1 (c' := (1, [some (.inr (.inr (some 2))), some (.inl 0), none, none, none, none], [.inl 0], (zs h hl))) rfl ?_
  refine zH_call (M' := 92) (as := [.inl 0]) (T := []) rfl (p_isBook ⟨by decide, by decide⟩) (fun r' σ' pm => ?_)
  obtain ⟨rfl, rfl⟩ : r' = some (.inl 1) ∧ σ' = _ := by rcases pm with ⟨a, -, b⟩ | ⟨-, b, -⟩ <;> first | exact ⟨a, b⟩ | (exfalso; omega)
  show zH _ _ (4, [some (.inr (.inr (some 2))), some (.inl 0), none, none, none, none], [.inl 1], (zs h hl)) _
  refine zH_bt (x := 1) (y := 0) (k := .ne) (c1 := (13, [some (.inr (.inr (some 2))), some (.inl 0), none, none, none, none], [], (zs h hl))) (c2 := (7, [some (.inr (.inr (some 2))), some (.inl 0), none, none, none, none], [], (zs h hl))) rfl ⟨by decide, by decide⟩ ⟨by decide, by decide⟩ (by show ¬ 1 = 0; decide) ?_
  refine zH_go 3 (c' := (18, [some (.inr (.inr (some 2))), some (.inl 0), none, none, none, none], [.inl 0, .inr (.inr (some 82))], (zs h hl))) rfl ?_
  refine zH_np (P := 0 ≤ 0 ∧ 0 < ((3 : Nat) : Int)) (c' := (19, [some (.inr (.inr (some 2))), some (.inl 0), none, none, none, none], [.inr (.inr (some 83))], (zs h hl))) rfl ⟨by decide, by decide⟩ ?_
  refine zH_go 2 (c' := (21, [some (.inr (.inr (some 2))), some (.inl 0), some (.inr (.inr (some 83))), none, none, none], [.inr (.inr (some 83))], (zs h hl))) rfl ?_
  refine zH_call (M' := 1) (as := [.inr (.inr (some 83))]) (T := []) rfl (p_bThere0 hR) (fun r σ' p_1 => ?_)
  rcases p_1 with ⟨rfl, b_2, rfl⟩ | ⟨rfl, b_2, rfl⟩
  · show zH _ _ (24, [some (.inr (.inr (some 2))), some (.inl 0), some (.inr (.inr (some 83))), none, none, none], [.inl 1], (zs h hl)) _
    refine zH_bf (x := 1) (y := 0) (k := .eq) (c1 := (31, [some (.inr (.inr (some 2))), some (.inl 0), some (.inr (.inr (some 83))), none, none, none], [], (zs h hl))) (c2 := (27, [some (.inr (.inr (some 2))), some (.inl 0), some (.inr (.inr (some 83))), none, none, none], [], (zs h hl))) rfl ⟨by decide, by decide⟩ ⟨by decide, by decide⟩ (by show ¬ (1 = 0); decide) ?_
    refine zH_go 7 (c' := (40, [some (.inr (.inr (some 2))), some (.inl 0), some (.inr (.inr (some 83))), some (.inl 0), some (.inl 0), some (.inl 0)], [], (zs h hl))) rfl ?_
    obtain ⟨R, hRR⟩ := Int.eq_ofNat_of_zero_le (show 0 ≤ h 83 1 by assumption)
    refine zH_lp (X := (Nat → Nat → Int)) (F := fun (kq : Nat) (x : (Nat → Nat → Int)) => (40, [some (.inr (.inr (some 2))), some (.inl 0), some (.inr (.inr (some 83))), some (.inl 0), some (.inl (kq : Int)), some (.inl (kq : Int))], [], (zs x hl))) (I := fun (kq : Nat) (x : (Nat → Nat → Int)) => zTown (zov x (zAR h (fun q i => hl (86 + q) i) r kq)) p (r + kq) ∧ (∀ c : Nat, c < 3 ∨ 18 ≤ c → x c = h c) ∧ (∀ q : Nat, q < kq → zRDec (h 3 0) (h 21 3) ((r + q : Nat) : Int) (h 84 q) (hl (86 + q) 0) (hl (86 + q) 1) (hl (86 + q) 2) 0) ∧ (kq = 0 → x = h)) (N := R) (fun k g hk hI ih => ?_) (fun g hI => ?_) 0 h (by omega) ?_
    · skip
      replace hI : zTown (zov g (zAR h (fun q i => hl (86 + q) i) r k)) p (r + k) ∧ (∀ c : Nat, c < 3 ∨ 18 ≤ c → g c = h c) ∧ (∀ q : Nat, q < k → zRDec (h 3 0) (h 21 3) ((r + q : Nat) : Int) (h 84 q) (hl (86 + q) 0) (hl (86 + q) 1) (hl (86 + q) 2) 0) ∧ (k = 0 → g = h) := hI
      show zH _ _ (40, [some (.inr (.inr (some 2))), some (.inl 0), some (.inr (.inr (some 83))), some (.inl 0), some (.inl (k : Int)), some (.inl (k : Int))], [], (zs g hl)) _
      have gR : g 83 1 = (R : Int) := by rw [hI.2.1 83 (by decide)]; exact hRR
      have hWg := hI.1
      obtain ⟨gp6, gr15, g30, g31, gp3, gr4, gMe, gTB, gCn, gPo, gRd, gLk, gGr⟩ := hWg
      rw [zov_l (show 3 < 104 by decide)] at g30 g31
      have gMe2 := zMe_ov gMe
      have gTB2 := zTB_ov gTB
      have gZ : g 84 = h 84 := hI.2.1 84 (by decide)
      have g21 : g 21 = h 21 := hI.2.1 21 (by decide)
      refine zH_go 1 (c' := (41, [some (.inr (.inr (some 2))), some (.inl 0), some (.inr (.inr (some 83))), some (.inl 0), some (.inl (k : Int)), some (.inl (k : Int))], [.inl 0], (zs g hl))) rfl ?_
      refine zH_bf (x := 0) (y := 0) (k := .ne) (c1 := (74, [some (.inr (.inr (some 2))), some (.inl 0), some (.inr (.inr (some 83))), some (.inl 0), some (.inl (k : Int)), some (.inl (k : Int))], [], (zs g hl))) (c2 := (44, [some (.inr (.inr (some 2))), some (.inl 0), some (.inr (.inr (some 83))), some (.inl 0), some (.inl (k : Int)), some (.inl (k : Int))], [], (zs g hl))) rfl ⟨by decide, by decide⟩ ⟨by decide, by decide⟩ (by show ¬ (¬ 0 = 0); decide) ?_
      refine zH_go 3 (c' := (50, [some (.inr (.inr (some 2))), some (.inl 0), some (.inr (.inr (some 83))), some (.inl 0), some (.inl (k : Int)), some (.inl (k : Int))], [.inl (g 83 1), .inl (k : Int)], (zs g hl))) rfl ?_
      rw [gR]
      refine zH_bf (x := (k : Int)) (y := (R : Int)) (k := .ge) (c1 := (74, [some (.inr (.inr (some 2))), some (.inl 0), some (.inr (.inr (some 83))), some (.inl 0), some (.inl (k : Int)), some (.inl (k : Int))], [], (zs g hl))) (c2 := (53, [some (.inr (.inr (some 2))), some (.inl 0), some (.inr (.inr (some 83))), some (.inl 0), some (.inl (k : Int)), some (.inl (k : Int))], [], (zs g hl))) rfl (by first | assumption | (unfold zr; omega)) (by first | assumption | (unfold zr; omega)) (by show ¬ (¬ (k : Int) < (R : Int)); omega) ?_
      refine zH_go 3 (c' := (57, [some (.inr (.inr (some 2))), some (.inl 0), some (.inr (.inr (some 83))), some (.inl 0), some (.inl (k : Int)), some (.inl (k : Int))], [.inl (k : Int), .inr (.inr (some 83)), .inr (.inr (some 2))], (zs g hl))) rfl ?_
      refine zH_call (M' := 95) (as := [.inr (.inr (some 2)), .inr (.inr (some 83)), .inl (k : Int)]) (T := []) rfl (p_rf0 (j := k) (by rw [gR]; omega) (by rw [gR]; omega) (by rw [gZ]; exact hZ) hV (by omega) gMe2 gTB2 (by omega) (by rw [g21]; exact hon)) (fun r' σ' pm => ?_)
      obtain ⟨x, hx, rfl, hcase⟩ := pm
      rw [g30, g31, gZ, g21, ← h30] at hx
      have hxr := zRDec_b hx
      rcases hcase with ⟨hx0, rfl⟩ | ⟨hx0, u, v, eu, ev, g', rfl, pm2⟩
      · show zH _ _ (60, [some (.inr (.inr (some 2))), some (.inl 0), some (.inr (.inr (some 83))), some (.inl 0), some (.inl (k : Int)), some (.inl (k : Int))], [.inl x], (zs g hl)) _
        refine zH_go 2 (c' := (62, [some (.inr (.inr (some 2))), some (.inl 0), some (.inr (.inr (some 83))), some (.inl x), some (.inl (k : Int)), some (.inl (k : Int))], [.inl x], (zs g hl))) rfl ?_
        refine zH_bt (x := x) (y := 0) (k := .ne) (c1 := (68, [some (.inr (.inr (some 2))), some (.inl 0), some (.inr (.inr (some 83))), some (.inl x), some (.inl (k : Int)), some (.inl (k : Int))], [], (zs g hl))) (c2 := (65, [some (.inr (.inr (some 2))), some (.inl 0), some (.inr (.inr (some 83))), some (.inl x), some (.inl (k : Int)), some (.inl (k : Int))], [], (zs g hl))) rfl (by first | assumption | (unfold zr; omega)) ⟨by decide, by decide⟩ (by show ¬ x = 0; omega) ?_
        refine zH_go 2 (c' := (40, [some (.inr (.inr (some 2))), some (.inl 0), some (.inr (.inr (some 83))), some (.inl x), some (.inl (k : Int)), some (.inl ((k : Int) + 1))], [], (zs g hl))) rfl ?_
        refine zH_go 1 (c' := (41, [some (.inr (.inr (some 2))), some (.inl 0), some (.inr (.inr (some 83))), some (.inl x), some (.inl (k : Int)), some (.inl ((k : Int) + 1))], [.inl x], (zs g hl))) rfl ?_
        refine zH_bt (x := x) (y := 0) (k := .ne) (c1 := (74, [some (.inr (.inr (some 2))), some (.inl 0), some (.inr (.inr (some 83))), some (.inl x), some (.inl (k : Int)), some (.inl ((k : Int) + 1))], [], (zs g hl))) (c2 := (44, [some (.inr (.inr (some 2))), some (.inl 0), some (.inr (.inr (some 83))), some (.inl x), some (.inl (k : Int)), some (.inl ((k : Int) + 1))], [], (zs g hl))) rfl (by first | assumption | (unfold zr; omega)) ⟨by decide, by decide⟩ (by show ¬ x = 0; omega) ?_
        refine zH_go 4 (c' := (81, [some (.inr (.inr (some 2))), some (.inl 0), some (.inr (.inr (some 83))), some (.inl x), some (.inl (k : Int)), some (.inl ((k : Int) + 1))], [.inl (k : Int)], (zs (zup g 2 8 x) hl))) rfl ?_
        refine zH_ret (v := some (.inl (k : Int))) rfl (fun q => absurd q (by decide)) ?_
        exact Or.inr ⟨R, k, x, g, hRR, rfl, rfl, hI.1, hI.2.1, hI.2.2.2, hI.2.2.1, Or.inr ⟨hk, hx0, hx⟩⟩
      · obtain rfl : x = 0 := hx0
        show zH _ _ (60, [some (.inr (.inr (some 2))), some (.inl 0), some (.inr (.inr (some 83))), some (.inl 0), some (.inl (k : Int)), some (.inl (k : Int))], [.inl 0], (zs g' hl)) _
        refine zH_go 2 (c' := (62, [some (.inr (.inr (some 2))), some (.inl 0), some (.inr (.inr (some 83))), some (.inl 0), some (.inl (k : Int)), some (.inl (k : Int))], [.inl 0], (zs g' hl))) rfl ?_
        refine zH_bf (x := 0) (y := 0) (k := .ne) (c1 := (68, [some (.inr (.inr (some 2))), some (.inl 0), some (.inr (.inr (some 83))), some (.inl 0), some (.inl (k : Int)), some (.inl (k : Int))], [], (zs g' hl))) (c2 := (65, [some (.inr (.inr (some 2))), some (.inl 0), some (.inr (.inr (some 83))), some (.inl 0), some (.inl (k : Int)), some (.inl (k : Int))], [], (zs g' hl))) rfl ⟨by decide, by decide⟩ ⟨by decide, by decide⟩ (by show ¬ (¬ 0 = 0); decide) ?_
        refine zH_go 3 (c' := (40, [some (.inr (.inr (some 2))), some (.inl 0), some (.inr (.inr (some 83))), some (.inl 0), some (.inl ((k : Int) + 1)), some (.inl ((k : Int) + 1))], [], (zs g' hl))) rfl ?_
        refine ih g' ?_
        show zTown (zov g' (zAR h (fun q i => hl (86 + q) i) r (k + 1))) p (r + (k + 1)) ∧ (∀ c : Nat, c < 3 ∨ 18 ≤ c → g' c = h c) ∧ (∀ q : Nat, q < (k + 1) → zRDec (h 3 0) (h 21 3) ((r + q : Nat) : Int) (h 84 q) (hl (86 + q) 0) (hl (86 + q) 1) (hl (86 + q) 2) 0) ∧ ((k + 1) = 0 → g' = h)
        have hok := zRDec_0 hx
        rw [eu, ev] at hok
        refine ⟨zTown_AR (g := g) (a := u) (b := v) hI.1 hr4 (by omega) (by omega) (by omega) (by omega) (len := hl (86 + k) 2) hok.2.1.2.2 eu ev rfl ⟨pm2.1, pm2.2.1, pm2.2.2.1, pm2.2.2.2.1⟩, fun c hc => by rw [pm2.2.2.2.2 c hc]; exact hI.2.1 c hc, fun q hq => ?_, fun e => absurd e (by omega)⟩
        by_cases w : q = k
        · rw [w]; exact hx
        · exact hI.2.2.1 q (by omega)
    · skip
      replace hI : zTown (zov g (zAR h (fun q i => hl (86 + q) i) r R)) p (r + R) ∧ (∀ c : Nat, c < 3 ∨ 18 ≤ c → g c = h c) ∧ (∀ q : Nat, q < R → zRDec (h 3 0) (h 21 3) ((r + q : Nat) : Int) (h 84 q) (hl (86 + q) 0) (hl (86 + q) 1) (hl (86 + q) 2) 0) ∧ (R = 0 → g = h) := hI
      show zH _ _ (40, [some (.inr (.inr (some 2))), some (.inl 0), some (.inr (.inr (some 83))), some (.inl 0), some (.inl (R : Int)), some (.inl (R : Int))], [], (zs g hl)) _
      have gR : g 83 1 = (R : Int) := by rw [hI.2.1 83 (by decide)]; exact hRR
      refine zH_go 1 (c' := (41, [some (.inr (.inr (some 2))), some (.inl 0), some (.inr (.inr (some 83))), some (.inl 0), some (.inl (R : Int)), some (.inl (R : Int))], [.inl 0], (zs g hl))) rfl ?_
      refine zH_bf (x := 0) (y := 0) (k := .ne) (c1 := (74, [some (.inr (.inr (some 2))), some (.inl 0), some (.inr (.inr (some 83))), some (.inl 0), some (.inl (R : Int)), some (.inl (R : Int))], [], (zs g hl))) (c2 := (44, [some (.inr (.inr (some 2))), some (.inl 0), some (.inr (.inr (some 83))), some (.inl 0), some (.inl (R : Int)), some (.inl (R : Int))], [], (zs g hl))) rfl ⟨by decide, by decide⟩ ⟨by decide, by decide⟩ (by show ¬ (¬ 0 = 0); decide) ?_
      refine zH_go 3 (c' := (50, [some (.inr (.inr (some 2))), some (.inl 0), some (.inr (.inr (some 83))), some (.inl 0), some (.inl (R : Int)), some (.inl (R : Int))], [.inl (g 83 1), .inl (R : Int)], (zs g hl))) rfl ?_
      rw [gR]
      refine zH_bt (x := (R : Int)) (y := (R : Int)) (k := .ge) (c1 := (74, [some (.inr (.inr (some 2))), some (.inl 0), some (.inr (.inr (some 83))), some (.inl 0), some (.inl (R : Int)), some (.inl (R : Int))], [], (zs g hl))) (c2 := (53, [some (.inr (.inr (some 2))), some (.inl 0), some (.inr (.inr (some 83))), some (.inl 0), some (.inl (R : Int)), some (.inl (R : Int))], [], (zs g hl))) rfl (by first | assumption | (unfold zr; omega)) (by first | assumption | (unfold zr; omega)) (by show ¬ (R : Int) < (R : Int); omega) ?_
      refine zH_go 4 (c' := (81, [some (.inr (.inr (some 2))), some (.inl 0), some (.inr (.inr (some 83))), some (.inl 0), some (.inl (R : Int)), some (.inl (R : Int))], [.inl (R : Int)], (zs (zup g 2 8 0) hl))) rfl ?_
      refine zH_ret (v := some (.inl (R : Int))) rfl (fun q => absurd q (by decide)) ?_
      exact Or.inr ⟨R, R, 0, g, hRR, rfl, rfl, hI.1, hI.2.1, hI.2.2.2, hI.2.2.1, Or.inl ⟨rfl, rfl⟩⟩
    · show zTown (zov h (zAR h (fun q i => hl (86 + q) i) r 0)) p (r + 0) ∧ (∀ c : Nat, c < 3 ∨ 18 ≤ c → h c = h c) ∧ (∀ q : Nat, q < 0 → zRDec (h 3 0) (h 21 3) ((r + q : Nat) : Int) (h 84 q) (hl (86 + q) 0) (hl (86 + q) 1) (hl (86 + q) 2) 0) ∧ (0 = 0 → h = h)
      exact ⟨zTown_same hW (fun c hc => zov_l (by omega)) ⟨congrFun (zov_r (Nat.le_refl 104)) 3, congrFun (zov_r (Nat.le_refl 104)) 4⟩ ⟨zov_r (by decide), zov_r (by decide), zov_r (by decide)⟩, fun c hc => rfl, fun q hq => absurd hq (Nat.not_lt_zero q), fun _ => rfl⟩
  · show zH _ _ (24, [some (.inr (.inr (some 2))), some (.inl 0), some (.inr (.inr (some 83))), none, none, none], [.inl 0], (zs h hl)) _
    refine zH_bt (x := 0) (y := 0) (k := .eq) (c1 := (31, [some (.inr (.inr (some 2))), some (.inl 0), some (.inr (.inr (some 83))), none, none, none], [], (zs h hl))) (c2 := (27, [some (.inr (.inr (some 2))), some (.inl 0), some (.inr (.inr (some 83))), none, none, none], [], (zs h hl))) rfl ⟨by decide, by decide⟩ ⟨by decide, by decide⟩ (by show 0 = 0; decide) ?_
    refine zH_go 6 (c' := (40, [some (.inr (.inr (some 2))), some (.inl 0), some (.inr (.inr (some 83))), some (.inl (-11)), some (.inl 0), some (.inl 0)], [], (zs h hl))) rfl ?_
    refine zH_go 1 (c' := (41, [some (.inr (.inr (some 2))), some (.inl 0), some (.inr (.inr (some 83))), some (.inl (-11)), some (.inl 0), some (.inl 0)], [.inl (-11)], (zs h hl))) rfl ?_
    refine zH_bt (x := (-11)) (y := 0) (k := .ne) (c1 := (74, [some (.inr (.inr (some 2))), some (.inl 0), some (.inr (.inr (some 83))), some (.inl (-11)), some (.inl 0), some (.inl 0)], [], (zs h hl))) (c2 := (44, [some (.inr (.inr (some 2))), some (.inl 0), some (.inr (.inr (some 83))), some (.inl (-11)), some (.inl 0), some (.inl 0)], [], (zs h hl))) rfl ⟨by decide, by decide⟩ ⟨by decide, by decide⟩ (by show ¬ (-11) = 0; decide) ?_
    refine zH_go 4 (c' := (81, [some (.inr (.inr (some 2))), some (.inl 0), some (.inr (.inr (some 83))), some (.inl (-11)), some (.inl 0), some (.inl 0)], [.inl 0], (zs (zup h 2 8 (-11)) hl))) rfl ?_
    refine zH_ret (v := some (.inl 0)) rfl (fun q => absurd q (by decide)) ?_
    exact Or.inl ⟨by omega, rfl, rfl⟩
set_option maxRecDepth 100000 in
set_option maxHeartbeats 4000000 in
theorem p_roadsB1 {d : Nat} {h hl : Nat → Nat → Int} {p r : Nat} (hW : zTown h p r) (hon : zr (h 21 3)) (hR : -1 ≤ h 90 1 ∧ h 90 1 ≤ 4) (hZ : ∀ q : Nat, q < 4 → -1 ≤ h 91 q ∧ h 91 q ≤ 8) (hV : ∀ q i : Nat, q < 4 → i < 8 → zrl (hl (93 + q) i)) : zQ (d + 6) 90 [.inr (.inr (some 2)), .inl 1] (zs h hl) (fun r' σ' => (h 90 1 < 0 ∧ r' = some (.inl 0) ∧ σ' = zs (zup h 2 8 (-11)) hl) ∨ ∃ (R J : Nat) (x : Int) (g : Nat → Nat → Int), h 90 1 = (R : Int) ∧ r' = some (.inl (J : Int)) ∧ σ' = zs (zup g 2 8 x) hl ∧ zTown (zov g (zAR h (fun q i => hl (93 + q) i) r J)) p (r + J) ∧ (∀ c : Nat, c < 3 ∨ 18 ≤ c → g c = h c) ∧ (J = 0 → g = h) ∧ (∀ q : Nat, q < J → zRDec (h 3 0) (h 21 3) ((r + q : Nat) : Int) (h 91 q) (hl (93 + q) 0) (hl (93 + q) 1) (hl (93 + q) 2) 0) ∧ ((J = R ∧ x = 0) ∨ (J < R ∧ ¬ x = 0 ∧ zRDec (h 3 0) (h 21 3) ((r + J : Nat) : Int) (h 91 J) (hl (93 + J) 0) (hl (93 + J) 1) (hl (93 + J) 2) x))) := by
  have hWc := hW
  obtain ⟨hp6, hr15, h30, h31, hp3, hr4, hMe, hTB, hCn, hPo, hRd, hLk, hGr⟩ := hWc
  have hP : 0 ≤ h 3 0 ∧ h 3 0 ≤ 6 := by omega
  refine zQ_of (Nat.le_of_ble_eq_true rfl) ?_
  show zH (d + 5) 90 (0, [some (.inr (.inr (some 2))), some (.inl 1), none, none, none, none], [], (zs h hl)) _
  refine zH_go 1 (c' := (1, [some (.inr (.inr (some 2))), some (.inl 1), none, none, none, none], [.inl 1], (zs h hl))) rfl ?_
  refine zH_call (M' := 92) (as := [.inl 1]) (T := []) rfl (p_isBook ⟨by decide, by decide⟩) (fun r' σ' pm => ?_)
  obtain ⟨rfl, rfl⟩ : r' = some (.inl 1) ∧ σ' = _ := by rcases pm with ⟨a, -, b⟩ | ⟨-, b, -⟩ <;> first | exact ⟨a, b⟩ | (exfalso; omega)
  show zH _ _ (4, [some (.inr (.inr (some 2))), some (.inl 1), none, none, none, none], [.inl 1], (zs h hl)) _
  refine zH_bt (x := 1) (y := 0) (k := .ne) (c1 := (13, [some (.inr (.inr (some 2))), some (.inl 1), none, none, none, none], [], (zs h hl))) (c2 := (7, [some (.inr (.inr (some 2))), some (.inl 1), none, none, none, none], [], (zs h hl))) rfl ⟨by decide, by decide⟩ ⟨by decide, by decide⟩ (by show ¬ 1 = 0; decide) ?_
  refine zH_go 3 (c' := (18, [some (.inr (.inr (some 2))), some (.inl 1), none, none, none, none], [.inl 1, .inr (.inr (some 82))], (zs h hl))) rfl ?_
  refine zH_np (P := 0 ≤ 1 ∧ 1 < ((3 : Nat) : Int)) (c' := (19, [some (.inr (.inr (some 2))), some (.inl 1), none, none, none, none], [.inr (.inr (some 90))], (zs h hl))) rfl ⟨by decide, by decide⟩ ?_
  refine zH_go 2 (c' := (21, [some (.inr (.inr (some 2))), some (.inl 1), some (.inr (.inr (some 90))), none, none, none], [.inr (.inr (some 90))], (zs h hl))) rfl ?_
  refine zH_call (M' := 1) (as := [.inr (.inr (some 90))]) (T := []) rfl (p_bThere1 hR) (fun r σ' p_1 => ?_)
  rcases p_1 with ⟨rfl, b_2, rfl⟩ | ⟨rfl, b_2, rfl⟩
  · show zH _ _ (24, [some (.inr (.inr (some 2))), some (.inl 1), some (.inr (.inr (some 90))), none, none, none], [.inl 1], (zs h hl)) _
    refine zH_bf (x := 1) (y := 0) (k := .eq) (c1 := (31, [some (.inr (.inr (some 2))), some (.inl 1), some (.inr (.inr (some 90))), none, none, none], [], (zs h hl))) (c2 := (27, [some (.inr (.inr (some 2))), some (.inl 1), some (.inr (.inr (some 90))), none, none, none], [], (zs h hl))) rfl ⟨by decide, by decide⟩ ⟨by decide, by decide⟩ (by show ¬ (1 = 0); decide) ?_
    refine zH_go 7 (c' := (40, [some (.inr (.inr (some 2))), some (.inl 1), some (.inr (.inr (some 90))), some (.inl 0), some (.inl 0), some (.inl 0)], [], (zs h hl))) rfl ?_
    obtain ⟨R, hRR⟩ := Int.eq_ofNat_of_zero_le (show 0 ≤ h 90 1 by assumption)
    refine zH_lp (X := (Nat → Nat → Int)) (F := fun (kq : Nat) (x : (Nat → Nat → Int)) => (40, [some (.inr (.inr (some 2))), some (.inl 1), some (.inr (.inr (some 90))), some (.inl 0), some (.inl (kq : Int)), some (.inl (kq : Int))], [], (zs x hl))) (I := fun (kq : Nat) (x : (Nat → Nat → Int)) => zTown (zov x (zAR h (fun q i => hl (93 + q) i) r kq)) p (r + kq) ∧ (∀ c : Nat, c < 3 ∨ 18 ≤ c → x c = h c) ∧ (∀ q : Nat, q < kq → zRDec (h 3 0) (h 21 3) ((r + q : Nat) : Int) (h 91 q) (hl (93 + q) 0) (hl (93 + q) 1) (hl (93 + q) 2) 0) ∧ (kq = 0 → x = h)) (N := R) (fun k g hk hI ih => ?_) (fun g hI => ?_) 0 h (by omega) ?_
    · skip
      replace hI : zTown (zov g (zAR h (fun q i => hl (93 + q) i) r k)) p (r + k) ∧ (∀ c : Nat, c < 3 ∨ 18 ≤ c → g c = h c) ∧ (∀ q : Nat, q < k → zRDec (h 3 0) (h 21 3) ((r + q : Nat) : Int) (h 91 q) (hl (93 + q) 0) (hl (93 + q) 1) (hl (93 + q) 2) 0) ∧ (k = 0 → g = h) := hI
      show zH _ _ (40, [some (.inr (.inr (some 2))), some (.inl 1), some (.inr (.inr (some 90))), some (.inl 0), some (.inl (k : Int)), some (.inl (k : Int))], [], (zs g hl)) _
      have gR : g 90 1 = (R : Int) := by rw [hI.2.1 90 (by decide)]; exact hRR
      have hWg := hI.1
      obtain ⟨gp6, gr15, g30, g31, gp3, gr4, gMe, gTB, gCn, gPo, gRd, gLk, gGr⟩ := hWg
      rw [zov_l (show 3 < 104 by decide)] at g30 g31
      have gMe2 := zMe_ov gMe
      have gTB2 := zTB_ov gTB
      have gZ : g 91 = h 91 := hI.2.1 91 (by decide)
      have g21 : g 21 = h 21 := hI.2.1 21 (by decide)
      refine zH_go 1 (c' := (41, [some (.inr (.inr (some 2))), some (.inl 1), some (.inr (.inr (some 90))), some (.inl 0), some (.inl (k : Int)), some (.inl (k : Int))], [.inl 0], (zs g hl))) rfl ?_
      refine zH_bf (x := 0) (y := 0) (k := .ne) (c1 := (74, [some (.inr (.inr (some 2))), some (.inl 1), some (.inr (.inr (some 90))), some (.inl 0), some (.inl (k : Int)), some (.inl (k : Int))], [], (zs g hl))) (c2 := (44, [some (.inr (.inr (some 2))), some (.inl 1), some (.inr (.inr (some 90))), some (.inl 0), some (.inl (k : Int)), some (.inl (k : Int))], [], (zs g hl))) rfl ⟨by decide, by decide⟩ ⟨by decide, by decide⟩ (by show ¬ (¬ 0 = 0); decide) ?_
      refine zH_go 3 (c' := (50, [some (.inr (.inr (some 2))), some (.inl 1), some (.inr (.inr (some 90))), some (.inl 0), some (.inl (k : Int)), some (.inl (k : Int))], [.inl (g 90 1), .inl (k : Int)], (zs g hl))) rfl ?_
      rw [gR]
      refine zH_bf (x := (k : Int)) (y := (R : Int)) (k := .ge) (c1 := (74, [some (.inr (.inr (some 2))), some (.inl 1), some (.inr (.inr (some 90))), some (.inl 0), some (.inl (k : Int)), some (.inl (k : Int))], [], (zs g hl))) (c2 := (53, [some (.inr (.inr (some 2))), some (.inl 1), some (.inr (.inr (some 90))), some (.inl 0), some (.inl (k : Int)), some (.inl (k : Int))], [], (zs g hl))) rfl (by first | assumption | (unfold zr; omega)) (by first | assumption | (unfold zr; omega)) (by show ¬ (¬ (k : Int) < (R : Int)); omega) ?_
      refine zH_go 3 (c' := (57, [some (.inr (.inr (some 2))), some (.inl 1), some (.inr (.inr (some 90))), some (.inl 0), some (.inl (k : Int)), some (.inl (k : Int))], [.inl (k : Int), .inr (.inr (some 90)), .inr (.inr (some 2))], (zs g hl))) rfl ?_
      refine zH_call (M' := 95) (as := [.inr (.inr (some 2)), .inr (.inr (some 90)), .inl (k : Int)]) (T := []) rfl (p_rf1 (j := k) (by rw [gR]; omega) (by rw [gR]; omega) (by rw [gZ]; exact hZ) hV (by omega) gMe2 gTB2 (by omega) (by rw [g21]; exact hon)) (fun r' σ' pm => ?_)
      obtain ⟨x, hx, rfl, hcase⟩ := pm
      rw [g30, g31, gZ, g21, ← h30] at hx
      have hxr := zRDec_b hx
      rcases hcase with ⟨hx0, rfl⟩ | ⟨hx0, u, v, eu, ev, g', rfl, pm2⟩
      · show zH _ _ (60, [some (.inr (.inr (some 2))), some (.inl 1), some (.inr (.inr (some 90))), some (.inl 0), some (.inl (k : Int)), some (.inl (k : Int))], [.inl x], (zs g hl)) _
        refine zH_go 2 (c' := (62, [some (.inr (.inr (some 2))), some (.inl 1), some (.inr (.inr (some 90))), some (.inl x), some (.inl (k : Int)), some (.inl (k : Int))], [.inl x], (zs g hl))) rfl ?_
        refine zH_bt (x := x) (y := 0) (k := .ne) (c1 := (68, [some (.inr (.inr (some 2))), some (.inl 1), some (.inr (.inr (some 90))), some (.inl x), some (.inl (k : Int)), some (.inl (k : Int))], [], (zs g hl))) (c2 := (65, [some (.inr (.inr (some 2))), some (.inl 1), some (.inr (.inr (some 90))), some (.inl x), some (.inl (k : Int)), some (.inl (k : Int))], [], (zs g hl))) rfl (by first | assumption | (unfold zr; omega)) ⟨by decide, by decide⟩ (by show ¬ x = 0; omega) ?_
        refine zH_go 2 (c' := (40, [some (.inr (.inr (some 2))), some (.inl 1), some (.inr (.inr (some 90))), some (.inl x), some (.inl (k : Int)), some (.inl ((k : Int) + 1))], [], (zs g hl))) rfl ?_
        refine zH_go 1 (c' := (41, [some (.inr (.inr (some 2))), some (.inl 1), some (.inr (.inr (some 90))), some (.inl x), some (.inl (k : Int)), some (.inl ((k : Int) + 1))], [.inl x], (zs g hl))) rfl ?_
        refine zH_bt (x := x) (y := 0) (k := .ne) (c1 := (74, [some (.inr (.inr (some 2))), some (.inl 1), some (.inr (.inr (some 90))), some (.inl x), some (.inl (k : Int)), some (.inl ((k : Int) + 1))], [], (zs g hl))) (c2 := (44, [some (.inr (.inr (some 2))), some (.inl 1), some (.inr (.inr (some 90))), some (.inl x), some (.inl (k : Int)), some (.inl ((k : Int) + 1))], [], (zs g hl))) rfl (by first | assumption | (unfold zr; omega)) ⟨by decide, by decide⟩ (by show ¬ x = 0; omega) ?_
        refine zH_go 4 (c' := (81, [some (.inr (.inr (some 2))), some (.inl 1), some (.inr (.inr (some 90))), some (.inl x), some (.inl (k : Int)), some (.inl ((k : Int) + 1))], [.inl (k : Int)], (zs (zup g 2 8 x) hl))) rfl ?_
        refine zH_ret (v := some (.inl (k : Int))) rfl (fun q => absurd q (by decide)) ?_
        exact Or.inr ⟨R, k, x, g, hRR, rfl, rfl, hI.1, hI.2.1, hI.2.2.2, hI.2.2.1, Or.inr ⟨hk, hx0, hx⟩⟩
      · obtain rfl : x = 0 := hx0
        show zH _ _ (60, [some (.inr (.inr (some 2))), some (.inl 1), some (.inr (.inr (some 90))), some (.inl 0), some (.inl (k : Int)), some (.inl (k : Int))], [.inl 0], (zs g' hl)) _
        refine zH_go 2 (c' := (62, [some (.inr (.inr (some 2))), some (.inl 1), some (.inr (.inr (some 90))), some (.inl 0), some (.inl (k : Int)), some (.inl (k : Int))], [.inl 0], (zs g' hl))) rfl ?_
        refine zH_bf (x := 0) (y := 0) (k := .ne) (c1 := (68, [some (.inr (.inr (some 2))), some (.inl 1), some (.inr (.inr (some 90))), some (.inl 0), some (.inl (k : Int)), some (.inl (k : Int))], [], (zs g' hl))) (c2 := (65, [some (.inr (.inr (some 2))), some (.inl 1), some (.inr (.inr (some 90))), some (.inl 0), some (.inl (k : Int)), some (.inl (k : Int))], [], (zs g' hl))) rfl ⟨by decide, by decide⟩ ⟨by decide, by decide⟩ (by show ¬ (¬ 0 = 0); decide) ?_
        refine zH_go 3 (c' := (40, [some (.inr (.inr (some 2))), some (.inl 1), some (.inr (.inr (some 90))), some (.inl 0), some (.inl ((k : Int) + 1)), some (.inl ((k : Int) + 1))], [], (zs g' hl))) rfl ?_
        refine ih g' ?_
        show zTown (zov g' (zAR h (fun q i => hl (93 + q) i) r (k + 1))) p (r + (k + 1)) ∧ (∀ c : Nat, c < 3 ∨ 18 ≤ c → g' c = h c) ∧ (∀ q : Nat, q < (k + 1) → zRDec (h 3 0) (h 21 3) ((r + q : Nat) : Int) (h 91 q) (hl (93 + q) 0) (hl (93 + q) 1) (hl (93 + q) 2) 0) ∧ ((k + 1) = 0 → g' = h)
        have hok := zRDec_0 hx
        rw [eu, ev] at hok
        refine ⟨zTown_AR (g := g) (a := u) (b := v) hI.1 hr4 (by omega) (by omega) (by omega) (by omega) (len := hl (93 + k) 2) hok.2.1.2.2 eu ev rfl ⟨pm2.1, pm2.2.1, pm2.2.2.1, pm2.2.2.2.1⟩, fun c hc => by rw [pm2.2.2.2.2 c hc]; exact hI.2.1 c hc, fun q hq => ?_, fun e => absurd e (by omega)⟩
        by_cases w : q = k
        · rw [w]; exact hx
        · exact hI.2.2.1 q (by omega)
    · skip
      replace hI : zTown (zov g (zAR h (fun q i => hl (93 + q) i) r R)) p (r + R) ∧ (∀ c : Nat, c < 3 ∨ 18 ≤ c → g c = h c) ∧ (∀ q : Nat, q < R → zRDec (h 3 0) (h 21 3) ((r + q : Nat) : Int) (h 91 q) (hl (93 + q) 0) (hl (93 + q) 1) (hl (93 + q) 2) 0) ∧ (R = 0 → g = h) := hI
      show zH _ _ (40, [some (.inr (.inr (some 2))), some (.inl 1), some (.inr (.inr (some 90))), some (.inl 0), some (.inl (R : Int)), some (.inl (R : Int))], [], (zs g hl)) _
      have gR : g 90 1 = (R : Int) := by rw [hI.2.1 90 (by decide)]; exact hRR
      refine zH_go 1 (c' := (41, [some (.inr (.inr (some 2))), some (.inl 1), some (.inr (.inr (some 90))), some (.inl 0), some (.inl (R : Int)), some (.inl (R : Int))], [.inl 0], (zs g hl))) rfl ?_
      refine zH_bf (x := 0) (y := 0) (k := .ne) (c1 := (74, [some (.inr (.inr (some 2))), some (.inl 1), some (.inr (.inr (some 90))), some (.inl 0), some (.inl (R : Int)), some (.inl (R : Int))], [], (zs g hl))) (c2 := (44, [some (.inr (.inr (some 2))), some (.inl 1), some (.inr (.inr (some 90))), some (.inl 0), some (.inl (R : Int)), some (.inl (R : Int))], [], (zs g hl))) rfl ⟨by decide, by decide⟩ ⟨by decide, by decide⟩ (by show ¬ (¬ 0 = 0); decide) ?_
      refine zH_go 3 (c' := (50, [some (.inr (.inr (some 2))), some (.inl 1), some (.inr (.inr (some 90))), some (.inl 0), some (.inl (R : Int)), some (.inl (R : Int))], [.inl (g 90 1), .inl (R : Int)], (zs g hl))) rfl ?_
      rw [gR]
      refine zH_bt (x := (R : Int)) (y := (R : Int)) (k := .ge) (c1 := (74, [some (.inr (.inr (some 2))), some (.inl 1), some (.inr (.inr (some 90))), some (.inl 0), some (.inl (R : Int)), some (.inl (R : Int))], [], (zs g hl))) (c2 := (53, [some (.inr (.inr (some 2))), some (.inl 1), some (.inr (.inr (some 90))), some (.inl 0), some (.inl (R : Int)), some (.inl (R : Int))], [], (zs g hl))) rfl (by first | assumption | (unfold zr; omega)) (by first | assumption | (unfold zr; omega)) (by show ¬ (R : Int) < (R : Int); omega) ?_
      refine zH_go 4 (c' := (81, [some (.inr (.inr (some 2))), some (.inl 1), some (.inr (.inr (some 90))), some (.inl 0), some (.inl (R : Int)), some (.inl (R : Int))], [.inl (R : Int)], (zs (zup g 2 8 0) hl))) rfl ?_
      refine zH_ret (v := some (.inl (R : Int))) rfl (fun q => absurd q (by decide)) ?_
      exact Or.inr ⟨R, R, 0, g, hRR, rfl, rfl, hI.1, hI.2.1, hI.2.2.2, hI.2.2.1, Or.inl ⟨rfl, rfl⟩⟩
    · show zTown (zov h (zAR h (fun q i => hl (93 + q) i) r 0)) p (r + 0) ∧ (∀ c : Nat, c < 3 ∨ 18 ≤ c → h c = h c) ∧ (∀ q : Nat, q < 0 → zRDec (h 3 0) (h 21 3) ((r + q : Nat) : Int) (h 91 q) (hl (93 + q) 0) (hl (93 + q) 1) (hl (93 + q) 2) 0) ∧ (0 = 0 → h = h)
      exact ⟨zTown_same hW (fun c hc => zov_l (by omega)) ⟨congrFun (zov_r (Nat.le_refl 104)) 3, congrFun (zov_r (Nat.le_refl 104)) 4⟩ ⟨zov_r (by decide), zov_r (by decide), zov_r (by decide)⟩, fun c hc => rfl, fun q hq => absurd hq (Nat.not_lt_zero q), fun _ => rfl⟩
  · show zH _ _ (24, [some (.inr (.inr (some 2))), some (.inl 1), some (.inr (.inr (some 90))), none, none, none], [.inl 0], (zs h hl)) _
    refine zH_bt (x := 0) (y := 0) (k := .eq) (c1 := (31, [some (.inr (.inr (some 2))), some (.inl 1), some (.inr (.inr (some 90))), none, none, none], [], (zs h hl))) (c2 := (27, [some (.inr (.inr (some 2))), some (.inl 1), some (.inr (.inr (some 90))), none, none, none], [], (zs h hl))) rfl ⟨by decide, by decide⟩ ⟨by decide, by decide⟩ (by show 0 = 0; decide) ?_
    refine zH_go 6 (c' := (40, [some (.inr (.inr (some 2))), some (.inl 1), some (.inr (.inr (some 90))), some (.inl (-11)), some (.inl 0), some (.inl 0)], [], (zs h hl))) rfl ?_
    refine zH_go 1 (c' := (41, [some (.inr (.inr (some 2))), some (.inl 1), some (.inr (.inr (some 90))), some (.inl (-11)), some (.inl 0), some (.inl 0)], [.inl (-11)], (zs h hl))) rfl ?_
    refine zH_bt (x := (-11)) (y := 0) (k := .ne) (c1 := (74, [some (.inr (.inr (some 2))), some (.inl 1), some (.inr (.inr (some 90))), some (.inl (-11)), some (.inl 0), some (.inl 0)], [], (zs h hl))) (c2 := (44, [some (.inr (.inr (some 2))), some (.inl 1), some (.inr (.inr (some 90))), some (.inl (-11)), some (.inl 0), some (.inl 0)], [], (zs h hl))) rfl ⟨by decide, by decide⟩ ⟨by decide, by decide⟩ (by show ¬ (-11) = 0; decide) ?_
    refine zH_go 4 (c' := (81, [some (.inr (.inr (some 2))), some (.inl 1), some (.inr (.inr (some 90))), some (.inl (-11)), some (.inl 0), some (.inl 0)], [.inl 0], (zs (zup h 2 8 (-11)) hl))) rfl ?_
    refine zH_ret (v := some (.inl 0)) rfl (fun q => absurd q (by decide)) ?_
    exact Or.inl ⟨by omega, rfl, rfl⟩
set_option maxRecDepth 100000 in
set_option maxHeartbeats 4000000 in
theorem p_roadsB2 {d : Nat} {h hl : Nat → Nat → Int} {p r : Nat} (hW : zTown h p r) (hon : zr (h 21 3)) (hR : -1 ≤ h 97 1 ∧ h 97 1 ≤ 4) (hZ : ∀ q : Nat, q < 4 → -1 ≤ h 98 q ∧ h 98 q ≤ 8) (hV : ∀ q i : Nat, q < 4 → i < 8 → zrl (hl (100 + q) i)) : zQ (d + 6) 90 [.inr (.inr (some 2)), .inl 2] (zs h hl) (fun r' σ' => (h 97 1 < 0 ∧ r' = some (.inl 0) ∧ σ' = zs (zup h 2 8 (-11)) hl) ∨ ∃ (R J : Nat) (x : Int) (g : Nat → Nat → Int), h 97 1 = (R : Int) ∧ r' = some (.inl (J : Int)) ∧ σ' = zs (zup g 2 8 x) hl ∧ zTown (zov g (zAR h (fun q i => hl (100 + q) i) r J)) p (r + J) ∧ (∀ c : Nat, c < 3 ∨ 18 ≤ c → g c = h c) ∧ (J = 0 → g = h) ∧ (∀ q : Nat, q < J → zRDec (h 3 0) (h 21 3) ((r + q : Nat) : Int) (h 98 q) (hl (100 + q) 0) (hl (100 + q) 1) (hl (100 + q) 2) 0) ∧ ((J = R ∧ x = 0) ∨ (J < R ∧ ¬ x = 0 ∧ zRDec (h 3 0) (h 21 3) ((r + J : Nat) : Int) (h 98 J) (hl (100 + J) 0) (hl (100 + J) 1) (hl (100 + J) 2) x))) := by
  have hWc := hW
  obtain ⟨hp6, hr15, h30, h31, hp3, hr4, hMe, hTB, hCn, hPo, hRd, hLk, hGr⟩ := hWc
  have hP : 0 ≤ h 3 0 ∧ h 3 0 ≤ 6 := by omega
  refine zQ_of (Nat.le_of_ble_eq_true rfl) ?_
  show zH (d + 5) 90 (0, [some (.inr (.inr (some 2))), some (.inl 2), none, none, none, none], [], (zs h hl)) _
  refine zH_go 1 (c' := (1, [some (.inr (.inr (some 2))), some (.inl 2), none, none, none, none], [.inl 2], (zs h hl))) rfl ?_
  refine zH_call (M' := 92) (as := [.inl 2]) (T := []) rfl (p_isBook ⟨by decide, by decide⟩) (fun r' σ' pm => ?_)
  obtain ⟨rfl, rfl⟩ : r' = some (.inl 1) ∧ σ' = _ := by rcases pm with ⟨a, -, b⟩ | ⟨-, b, -⟩ <;> first | exact ⟨a, b⟩ | (exfalso; omega)
  show zH _ _ (4, [some (.inr (.inr (some 2))), some (.inl 2), none, none, none, none], [.inl 1], (zs h hl)) _
  refine zH_bt (x := 1) (y := 0) (k := .ne) (c1 := (13, [some (.inr (.inr (some 2))), some (.inl 2), none, none, none, none], [], (zs h hl))) (c2 := (7, [some (.inr (.inr (some 2))), some (.inl 2), none, none, none, none], [], (zs h hl))) rfl ⟨by decide, by decide⟩ ⟨by decide, by decide⟩ (by show ¬ 1 = 0; decide) ?_
  refine zH_go 3 (c' := (18, [some (.inr (.inr (some 2))), some (.inl 2), none, none, none, none], [.inl 2, .inr (.inr (some 82))], (zs h hl))) rfl ?_
  refine zH_np (P := 0 ≤ 2 ∧ 2 < ((3 : Nat) : Int)) (c' := (19, [some (.inr (.inr (some 2))), some (.inl 2), none, none, none, none], [.inr (.inr (some 97))], (zs h hl))) rfl ⟨by decide, by decide⟩ ?_
  refine zH_go 2 (c' := (21, [some (.inr (.inr (some 2))), some (.inl 2), some (.inr (.inr (some 97))), none, none, none], [.inr (.inr (some 97))], (zs h hl))) rfl ?_
  refine zH_call (M' := 1) (as := [.inr (.inr (some 97))]) (T := []) rfl (p_bThere2 hR) (fun r σ' p_1 => ?_)
  rcases p_1 with ⟨rfl, b_2, rfl⟩ | ⟨rfl, b_2, rfl⟩
  · show zH _ _ (24, [some (.inr (.inr (some 2))), some (.inl 2), some (.inr (.inr (some 97))), none, none, none], [.inl 1], (zs h hl)) _
    refine zH_bf (x := 1) (y := 0) (k := .eq) (c1 := (31, [some (.inr (.inr (some 2))), some (.inl 2), some (.inr (.inr (some 97))), none, none, none], [], (zs h hl))) (c2 := (27, [some (.inr (.inr (some 2))), some (.inl 2), some (.inr (.inr (some 97))), none, none, none], [], (zs h hl))) rfl ⟨by decide, by decide⟩ ⟨by decide, by decide⟩ (by show ¬ (1 = 0); decide) ?_
    refine zH_go 7 (c' := (40, [some (.inr (.inr (some 2))), some (.inl 2), some (.inr (.inr (some 97))), some (.inl 0), some (.inl 0), some (.inl 0)], [], (zs h hl))) rfl ?_
    obtain ⟨R, hRR⟩ := Int.eq_ofNat_of_zero_le (show 0 ≤ h 97 1 by assumption)
    refine zH_lp (X := (Nat → Nat → Int)) (F := fun (kq : Nat) (x : (Nat → Nat → Int)) => (40, [some (.inr (.inr (some 2))), some (.inl 2), some (.inr (.inr (some 97))), some (.inl 0), some (.inl (kq : Int)), some (.inl (kq : Int))], [], (zs x hl))) (I := fun (kq : Nat) (x : (Nat → Nat → Int)) => zTown (zov x (zAR h (fun q i => hl (100 + q) i) r kq)) p (r + kq) ∧ (∀ c : Nat, c < 3 ∨ 18 ≤ c → x c = h c) ∧ (∀ q : Nat, q < kq → zRDec (h 3 0) (h 21 3) ((r + q : Nat) : Int) (h 98 q) (hl (100 + q) 0) (hl (100 + q) 1) (hl (100 + q) 2) 0) ∧ (kq = 0 → x = h)) (N := R) (fun k g hk hI ih => ?_) (fun g hI => ?_) 0 h (by omega) ?_
    · skip
      replace hI : zTown (zov g (zAR h (fun q i => hl (100 + q) i) r k)) p (r + k) ∧ (∀ c : Nat, c < 3 ∨ 18 ≤ c → g c = h c) ∧ (∀ q : Nat, q < k → zRDec (h 3 0) (h 21 3) ((r + q : Nat) : Int) (h 98 q) (hl (100 + q) 0) (hl (100 + q) 1) (hl (100 + q) 2) 0) ∧ (k = 0 → g = h) := hI
      show zH _ _ (40, [some (.inr (.inr (some 2))), some (.inl 2), some (.inr (.inr (some 97))), some (.inl 0), some (.inl (k : Int)), some (.inl (k : Int))], [], (zs g hl)) _
      have gR : g 97 1 = (R : Int) := by rw [hI.2.1 97 (by decide)]; exact hRR
      have hWg := hI.1
      obtain ⟨gp6, gr15, g30, g31, gp3, gr4, gMe, gTB, gCn, gPo, gRd, gLk, gGr⟩ := hWg
      rw [zov_l (show 3 < 104 by decide)] at g30 g31
      have gMe2 := zMe_ov gMe
      have gTB2 := zTB_ov gTB
      have gZ : g 98 = h 98 := hI.2.1 98 (by decide)
      have g21 : g 21 = h 21 := hI.2.1 21 (by decide)
      refine zH_go 1 (c' := (41, [some (.inr (.inr (some 2))), some (.inl 2), some (.inr (.inr (some 97))), some (.inl 0), some (.inl (k : Int)), some (.inl (k : Int))], [.inl 0], (zs g hl))) rfl ?_
      refine zH_bf (x := 0) (y := 0) (k := .ne) (c1 := (74, [some (.inr (.inr (some 2))), some (.inl 2), some (.inr (.inr (some 97))), some (.inl 0), some (.inl (k : Int)), some (.inl (k : Int))], [], (zs g hl))) (c2 := (44, [some (.inr (.inr (some 2))), some (.inl 2), some (.inr (.inr (some 97))), some (.inl 0), some (.inl (k : Int)), some (.inl (k : Int))], [], (zs g hl))) rfl ⟨by decide, by decide⟩ ⟨by decide, by decide⟩ (by show ¬ (¬ 0 = 0); decide) ?_
      refine zH_go 3 (c' := (50, [some (.inr (.inr (some 2))), some (.inl 2), some (.inr (.inr (some 97))), some (.inl 0), some (.inl (k : Int)), some (.inl (k : Int))], [.inl (g 97 1), .inl (k : Int)], (zs g hl))) rfl ?_
      rw [gR]
      refine zH_bf (x := (k : Int)) (y := (R : Int)) (k := .ge) (c1 := (74, [some (.inr (.inr (some 2))), some (.inl 2), some (.inr (.inr (some 97))), some (.inl 0), some (.inl (k : Int)), some (.inl (k : Int))], [], (zs g hl))) (c2 := (53, [some (.inr (.inr (some 2))), some (.inl 2), some (.inr (.inr (some 97))), some (.inl 0), some (.inl (k : Int)), some (.inl (k : Int))], [], (zs g hl))) rfl (by first | assumption | (unfold zr; omega)) (by first | assumption | (unfold zr; omega)) (by show ¬ (¬ (k : Int) < (R : Int)); omega) ?_
      refine zH_go 3 (c' := (57, [some (.inr (.inr (some 2))), some (.inl 2), some (.inr (.inr (some 97))), some (.inl 0), some (.inl (k : Int)), some (.inl (k : Int))], [.inl (k : Int), .inr (.inr (some 97)), .inr (.inr (some 2))], (zs g hl))) rfl ?_
      refine zH_call (M' := 95) (as := [.inr (.inr (some 2)), .inr (.inr (some 97)), .inl (k : Int)]) (T := []) rfl (p_rf2 (j := k) (by rw [gR]; omega) (by rw [gR]; omega) (by rw [gZ]; exact hZ) hV (by omega) gMe2 gTB2 (by omega) (by rw [g21]; exact hon)) (fun r' σ' pm => ?_)
      obtain ⟨x, hx, rfl, hcase⟩ := pm
      rw [g30, g31, gZ, g21, ← h30] at hx
      have hxr := zRDec_b hx
      rcases hcase with ⟨hx0, rfl⟩ | ⟨hx0, u, v, eu, ev, g', rfl, pm2⟩
      · show zH _ _ (60, [some (.inr (.inr (some 2))), some (.inl 2), some (.inr (.inr (some 97))), some (.inl 0), some (.inl (k : Int)), some (.inl (k : Int))], [.inl x], (zs g hl)) _
        refine zH_go 2 (c' := (62, [some (.inr (.inr (some 2))), some (.inl 2), some (.inr (.inr (some 97))), some (.inl x), some (.inl (k : Int)), some (.inl (k : Int))], [.inl x], (zs g hl))) rfl ?_
        refine zH_bt (x := x) (y := 0) (k := .ne) (c1 := (68, [some (.inr (.inr (some 2))), some (.inl 2), some (.inr (.inr (some 97))), some (.inl x), some (.inl (k : Int)), some (.inl (k : Int))], [], (zs g hl))) (c2 := (65, [some (.inr (.inr (some 2))), some (.inl 2), some (.inr (.inr (some 97))), some (.inl x), some (.inl (k : Int)), some (.inl (k : Int))], [], (zs g hl))) rfl (by first | assumption | (unfold zr; omega)) ⟨by decide, by decide⟩ (by show ¬ x = 0; omega) ?_
        refine zH_go 2 (c' := (40, [some (.inr (.inr (some 2))), some (.inl 2), some (.inr (.inr (some 97))), some (.inl x), some (.inl (k : Int)), some (.inl ((k : Int) + 1))], [], (zs g hl))) rfl ?_
        refine zH_go 1 (c' := (41, [some (.inr (.inr (some 2))), some (.inl 2), some (.inr (.inr (some 97))), some (.inl x), some (.inl (k : Int)), some (.inl ((k : Int) + 1))], [.inl x], (zs g hl))) rfl ?_
        refine zH_bt (x := x) (y := 0) (k := .ne) (c1 := (74, [some (.inr (.inr (some 2))), some (.inl 2), some (.inr (.inr (some 97))), some (.inl x), some (.inl (k : Int)), some (.inl ((k : Int) + 1))], [], (zs g hl))) (c2 := (44, [some (.inr (.inr (some 2))), some (.inl 2), some (.inr (.inr (some 97))), some (.inl x), some (.inl (k : Int)), some (.inl ((k : Int) + 1))], [], (zs g hl))) rfl (by first | assumption | (unfold zr; omega)) ⟨by decide, by decide⟩ (by show ¬ x = 0; omega) ?_
        refine zH_go 4 (c' := (81, [some (.inr (.inr (some 2))), some (.inl 2), some (.inr (.inr (some 97))), some (.inl x), some (.inl (k : Int)), some (.inl ((k : Int) + 1))], [.inl (k : Int)], (zs (zup g 2 8 x) hl))) rfl ?_
        refine zH_ret (v := some (.inl (k : Int))) rfl (fun q => absurd q (by decide)) ?_
        exact Or.inr ⟨R, k, x, g, hRR, rfl, rfl, hI.1, hI.2.1, hI.2.2.2, hI.2.2.1, Or.inr ⟨hk, hx0, hx⟩⟩
      · obtain rfl : x = 0 := hx0
        show zH _ _ (60, [some (.inr (.inr (some 2))), some (.inl 2), some (.inr (.inr (some 97))), some (.inl 0), some (.inl (k : Int)), some (.inl (k : Int))], [.inl 0], (zs g' hl)) _
        refine zH_go 2 (c' := (62, [some (.inr (.inr (some 2))), some (.inl 2), some (.inr (.inr (some 97))), some (.inl 0), some (.inl (k : Int)), some (.inl (k : Int))], [.inl 0], (zs g' hl))) rfl ?_
        refine zH_bf (x := 0) (y := 0) (k := .ne) (c1 := (68, [some (.inr (.inr (some 2))), some (.inl 2), some (.inr (.inr (some 97))), some (.inl 0), some (.inl (k : Int)), some (.inl (k : Int))], [], (zs g' hl))) (c2 := (65, [some (.inr (.inr (some 2))), some (.inl 2), some (.inr (.inr (some 97))), some (.inl 0), some (.inl (k : Int)), some (.inl (k : Int))], [], (zs g' hl))) rfl ⟨by decide, by decide⟩ ⟨by decide, by decide⟩ (by show ¬ (¬ 0 = 0); decide) ?_
        refine zH_go 3 (c' := (40, [some (.inr (.inr (some 2))), some (.inl 2), some (.inr (.inr (some 97))), some (.inl 0), some (.inl ((k : Int) + 1)), some (.inl ((k : Int) + 1))], [], (zs g' hl))) rfl ?_
        refine ih g' ?_
        show zTown (zov g' (zAR h (fun q i => hl (100 + q) i) r (k + 1))) p (r + (k + 1)) ∧ (∀ c : Nat, c < 3 ∨ 18 ≤ c → g' c = h c) ∧ (∀ q : Nat, q < (k + 1) → zRDec (h 3 0) (h 21 3) ((r + q : Nat) : Int) (h 98 q) (hl (100 + q) 0) (hl (100 + q) 1) (hl (100 + q) 2) 0) ∧ ((k + 1) = 0 → g' = h)
        have hok := zRDec_0 hx
        rw [eu, ev] at hok
        refine ⟨zTown_AR (g := g) (a := u) (b := v) hI.1 hr4 (by omega) (by omega) (by omega) (by omega) (len := hl (100 + k) 2) hok.2.1.2.2 eu ev rfl ⟨pm2.1, pm2.2.1, pm2.2.2.1, pm2.2.2.2.1⟩, fun c hc => by rw [pm2.2.2.2.2 c hc]; exact hI.2.1 c hc, fun q hq => ?_, fun e => absurd e (by omega)⟩
        by_cases w : q = k
        · rw [w]; exact hx
        · exact hI.2.2.1 q (by omega)
    · skip
      replace hI : zTown (zov g (zAR h (fun q i => hl (100 + q) i) r R)) p (r + R) ∧ (∀ c : Nat, c < 3 ∨ 18 ≤ c → g c = h c) ∧ (∀ q : Nat, q < R → zRDec (h 3 0) (h 21 3) ((r + q : Nat) : Int) (h 98 q) (hl (100 + q) 0) (hl (100 + q) 1) (hl (100 + q) 2) 0) ∧ (R = 0 → g = h) := hI
      show zH _ _ (40, [some (.inr (.inr (some 2))), some (.inl 2), some (.inr (.inr (some 97))), some (.inl 0), some (.inl (R : Int)), some (.inl (R : Int))], [], (zs g hl)) _
      have gR : g 97 1 = (R : Int) := by rw [hI.2.1 97 (by decide)]; exact hRR
      refine zH_go 1 (c' := (41, [some (.inr (.inr (some 2))), some (.inl 2), some (.inr (.inr (some 97))), some (.inl 0), some (.inl (R : Int)), some (.inl (R : Int))], [.inl 0], (zs g hl))) rfl ?_
      refine zH_bf (x := 0) (y := 0) (k := .ne) (c1 := (74, [some (.inr (.inr (some 2))), some (.inl 2), some (.inr (.inr (some 97))), some (.inl 0), some (.inl (R : Int)), some (.inl (R : Int))], [], (zs g hl))) (c2 := (44, [some (.inr (.inr (some 2))), some (.inl 2), some (.inr (.inr (some 97))), some (.inl 0), some (.inl (R : Int)), some (.inl (R : Int))], [], (zs g hl))) rfl ⟨by decide, by decide⟩ ⟨by decide, by decide⟩ (by show ¬ (¬ 0 = 0); decide) ?_
      refine zH_go 3 (c' := (50, [some (.inr (.inr (some 2))), some (.inl 2), some (.inr (.inr (some 97))), some (.inl 0), some (.inl (R : Int)), some (.inl (R : Int))], [.inl (g 97 1), .inl (R : Int)], (zs g hl))) rfl ?_
      rw [gR]
      refine zH_bt (x := (R : Int)) (y := (R : Int)) (k := .ge) (c1 := (74, [some (.inr (.inr (some 2))), some (.inl 2), some (.inr (.inr (some 97))), some (.inl 0), some (.inl (R : Int)), some (.inl (R : Int))], [], (zs g hl))) (c2 := (53, [some (.inr (.inr (some 2))), some (.inl 2), some (.inr (.inr (some 97))), some (.inl 0), some (.inl (R : Int)), some (.inl (R : Int))], [], (zs g hl))) rfl (by first | assumption | (unfold zr; omega)) (by first | assumption | (unfold zr; omega)) (by show ¬ (R : Int) < (R : Int); omega) ?_
      refine zH_go 4 (c' := (81, [some (.inr (.inr (some 2))), some (.inl 2), some (.inr (.inr (some 97))), some (.inl 0), some (.inl (R : Int)), some (.inl (R : Int))], [.inl (R : Int)], (zs (zup g 2 8 0) hl))) rfl ?_
      refine zH_ret (v := some (.inl (R : Int))) rfl (fun q => absurd q (by decide)) ?_
      exact Or.inr ⟨R, R, 0, g, hRR, rfl, rfl, hI.1, hI.2.1, hI.2.2.2, hI.2.2.1, Or.inl ⟨rfl, rfl⟩⟩
    · show zTown (zov h (zAR h (fun q i => hl (100 + q) i) r 0)) p (r + 0) ∧ (∀ c : Nat, c < 3 ∨ 18 ≤ c → h c = h c) ∧ (∀ q : Nat, q < 0 → zRDec (h 3 0) (h 21 3) ((r + q : Nat) : Int) (h 98 q) (hl (100 + q) 0) (hl (100 + q) 1) (hl (100 + q) 2) 0) ∧ (0 = 0 → h = h)
      exact ⟨zTown_same hW (fun c hc => zov_l (by omega)) ⟨congrFun (zov_r (Nat.le_refl 104)) 3, congrFun (zov_r (Nat.le_refl 104)) 4⟩ ⟨zov_r (by decide), zov_r (by decide), zov_r (by decide)⟩, fun c hc => rfl, fun q hq => absurd hq (Nat.not_lt_zero q), fun _ => rfl⟩
  · show zH _ _ (24, [some (.inr (.inr (some 2))), some (.inl 2), some (.inr (.inr (some 97))), none, none, none], [.inl 0], (zs h hl)) _
    refine zH_bt (x := 0) (y := 0) (k := .eq) (c1 := (31, [some (.inr (.inr (some 2))), some (.inl 2), some (.inr (.inr (some 97))), none, none, none], [], (zs h hl))) (c2 := (27, [some (.inr (.inr (some 2))), some (.inl 2), some (.inr (.inr (some 97))), none, none, none], [], (zs h hl))) rfl ⟨by decide, by decide⟩ ⟨by decide, by decide⟩ (by show 0 = 0; decide) ?_
    refine zH_go 6 (c' := (40, [some (.inr (.inr (some 2))), some (.inl 2), some (.inr (.inr (some 97))), some (.inl (-11)), some (.inl 0), some (.inl 0)], [], (zs h hl))) rfl ?_
    refine zH_go 1 (c' := (41, [some (.inr (.inr (some 2))), some (.inl 2), some (.inr (.inr (some 97))), some (.inl (-11)), some (.inl 0), some (.inl 0)], [.inl (-11)], (zs h hl))) rfl ?_
    refine zH_bt (x := (-11)) (y := 0) (k := .ne) (c1 := (74, [some (.inr (.inr (some 2))), some (.inl 2), some (.inr (.inr (some 97))), some (.inl (-11)), some (.inl 0), some (.inl 0)], [], (zs h hl))) (c2 := (44, [some (.inr (.inr (some 2))), some (.inl 2), some (.inr (.inr (some 97))), some (.inl (-11)), some (.inl 0), some (.inl 0)], [], (zs h hl))) rfl ⟨by decide, by decide⟩ ⟨by decide, by decide⟩ (by show ¬ (-11) = 0; decide) ?_
    refine zH_go 4 (c' := (81, [some (.inr (.inr (some 2))), some (.inl 2), some (.inr (.inr (some 97))), some (.inl (-11)), some (.inl 0), some (.inl 0)], [.inl 0], (zs (zup h 2 8 (-11)) hl))) rfl ?_
    refine zH_ret (v := some (.inl 0)) rfl (fun q => absurd q (by decide)) ?_
    exact Or.inl ⟨by omega, rfl, rfl⟩
section ZTW4
variable {X XL : Nat → Int} {t p r : Nat} {h hl g gl : Nat → Nat → Int}
theorem zBkR_pt {b B Z N : Nat} (h1 : g B = h B) (h2 : g Z = h Z) (h3 : g 119 b = h 119 b ∧ g 120 b = h 120 b ∧ g 121 b = h 121 b) (h3' : ∀ q : Nat, q < 4 → g 122 (4 * b + q) = h 122 (4 * b + q)) (h4 : ∀ q i : Nat, q < 4 → i < 8 → gl 123 (32 * b + 8 * q + i) = hl 123 (32 * b + 8 * q + i)) (h5 : ∀ q : Nat, q < 4 → gl (N + q) = hl (N + q)) (hb : zBkR h hl b B Z N) : zBkR g gl b B Z N := by
  unfold zBkR at hb ⊢
  rw [h1, h2, h3.1, h3.2.1, h3.2.2]
  obtain ⟨b1, b2, b3, b4, b5, b6, b7, b8, b9⟩ := hb
  exact ⟨b1, b2, b3, b4, b5, b6, b7, fun q hq => by rw [h3' q hq]; exact b8 q hq, fun q i hq hi => by rw [h4 q i hq hi, h5 q hq]; exact b9 q i hq hi⟩
/-- books apart -/
theorem zLi_bk (hI : zLi X XL t p r h hl) (h1 : ∀ c : Nat, (c < 48 ∧ c ≠ 2) ∨ (105 ≤ c ∧ c < 118) → g c = h c) (h27 : g 2 7 = h 2 7) (hst : zr (g 2 8) ∧ g 104 1 = g 2 8) (h56 : g 56 = h 56) (h104 : ∀ j : Nat, j ≠ 0 → j ≠ 1 → g 104 j = h 104 j) (e1 : gl 1 = hl 1) (e81 : gl 81 = hl 81) (e104 : gl 104 = hl 104) (b0' : zBkR g gl 0 83 84 86) (b1' : zBkR g gl 1 90 91 93) (b2' : zBkR g gl 2 97 98 100) : zLi X XL (t + 1) p r g gl := by
  obtain ⟨x1, x2, tw, od, z38, z56, kd, kd2, st, st2, tr, tr2, b0, b1, b2, dy⟩ := hI
  refine ⟨by rw [h1 1 (by decide)]; exact x1, by rw [e1]; exact x2, zTown_same2 tw (fun c hc => h1 c (by omega)) ⟨h104 3 (by decide) (by decide), h104 4 (by decide) (by decide)⟩ ⟨h1 105 (by decide), h1 106 (by decide), h1 107 (by decide)⟩, fun k hk => by rw [h1 0 (by decide)]; exact od k hk, fun j hj => by rw [h1 38 (by decide)]; exact z38 j hj, fun j hj => by rw [h56]; exact z56 j hj, by rw [h27]; exact kd, by rw [h104 11 (by decide) (by decide), h27]; exact kd2, hst.1, hst.2, by rw [e81]; omega, by rw [e81, e104]; exact tr2, b0', b1', b2', ?_⟩
  rcases dy with ⟨q1, q2, q3, q4⟩ | ⟨L, B, n, s, n12, dc, dm⟩
  · exact Or.inl ⟨by rw [h1 21 (by decide)]; exact q1, by rw [h1 21 (by decide)]; exact q2, by rw [h104 9 (by decide) (by decide)]; exact q3, by rw [h104 15 (by decide) (by decide)]; exact q4⟩
  · have hb := zDc_b dc
    have hp6 := tw.1
    exact Or.inr ⟨L, B, n, _, n12, zDc_up (fun c hc => h1 c (by omega)) (h1 0 (by decide)) (by rw [e81]) dc, zDm_same dm (fun c hc => h1 c (by omega)) (fun i j _ _ => by rw [h1 108 (by decide)]) ⟨h104 9 (by decide) (by decide), h104 10 (by decide) (by decide), h104 14 (by decide) (by decide), h104 15 (by decide) (by decide)⟩ (by rw [e104]) (fun j hj => by have := hb.2 j hj; omega)⟩
/-- STATUS alone -/
theorem zLi_st (hI : zLi X XL t p r h hl) {x : Int} (hx : zr x) (h1 : ∀ c : Nat, c ≠ 2 → c ≠ 104 → g c = h c) (h2 : g 2 7 = h 2 7 ∧ g 2 8 = x) (h3 : g 104 1 = x) (h4 : ∀ j : Nat, j ≠ 0 → j ≠ 1 → g 104 j = h 104 j) : zLi X XL (t + 1) p r g hl := by
  have hIc := hI
  obtain ⟨x1, x2, tw, od, z38, z56, kd, kd2, st, st2, tr, tr2, b0, b1, b2, dy⟩ := hIc
  exact zLi_same hI (δ := 0) (by decide) (by omega) (fun c hc => h1 c (by omega) (by omega)) h2.1 ⟨by rw [h2.2]; exact hx, by rw [h2.2, h3]⟩ (fun j hj => by rw [h1 56 (by decide) (by decide)]; exact z56 j hj) h4 (Or.inl (h1 108 (by decide) (by decide))) (fun c _ _ => rfl) (Int.add_zero _).symm (Int.add_zero _).symm
theorem zLi_F (hI : zLi X XL t p r h hl) {x : Int} (hx : zr x) : zLi X XL (t + 1) p r (zup (zup (zup (zup h 2 8 x) 104 0 0) 104 1 0) 104 1 x) hl :=
  zLi_st hI hx (fun c h1 h2 => by funext q; rw [zup_ne h2, zup_ne h2, zup_ne h2, zup_ne h1]) ⟨by rw [zup_ne (by decide), zup_ne (by decide), zup_ne (by decide), zup_k (by decide)], by rw [zup_ne (by decide), zup_ne (by decide), zup_ne (by decide), zup_eq]⟩ zup_eq (fun j h0 h1 => by rw [zup_k h1, zup_k h1, zup_k h0, zup_ne (by decide)])
theorem zLi_F1 (hI : zLi X XL t p r h hl) {x : Int} (hx : zr x) : zLi X XL (t + 1) p r (zup (zup (zup h 2 8 x) 104 0 0) 104 1 x) hl :=
  zLi_st hI hx (fun c h1 h2 => by funext q; rw [zup_ne h2, zup_ne h2, zup_ne h1]) ⟨by rw [zup_ne (by decide), zup_ne (by decide), zup_k (by decide)], by rw [zup_ne (by decide), zup_ne (by decide), zup_eq]⟩ zup_eq (fun j h0 h1 => by rw [zup_k h1, zup_k h0, zup_ne (by decide)])
theorem zWN_eq {b B Z N : Nat} {m : Nat → Nat → Int} {tt r' i x y : Int} (hb : zBkR h hl b B Z N) (hm : ∀ c : Nat, 119 ≤ c → c ≤ 122 → m c = h c) (hx : zWN h B Z tt r' i x) (hy : zWO m b tt r' i y) : x = y := by
  obtain ⟨b1, b2, b3, b4, b5, b6, b7, b8, b9⟩ := hb
  unfold zWN zHasRow at hx
  unfold zWO at hy
  rw [hm 119 (by decide) (by decide), hm 120 (by decide) (by decide), hm 121 (by decide) (by decide), hm 122 (by decide) (by decide)] at hy
  by_cases hq : 0 ≤ r' ∧ r' < 4
  · have b8r := b8 r'.toNat (by omega)
    omega
  · omega
theorem zWN_0 {B Z : Nat} {tt r' i : Int} (hx : zWN h B Z tt r' i 0) : (0 ≤ r' ∧ r' < 4) ∧ (0 ≤ i ∧ i < h Z r'.toNat) ∧ h B 0 = tt := by
  unfold zWN zHasRow at hx
  omega
theorem zWN_b {B Z : Nat} {tt r' i x : Int} (hx : zWN h B Z tt r' i x) : -13 ≤ x ∧ x ≤ 0 := by
  unfold zWN at hx
  omega
theorem zNar_z {tt v : Int} (hv : zrl v) : zrl (zNar tt v) := by
  unfold zNar
  by_cases q0 : tt = 0
  · rw [if_pos q0]; exact zr_l (zbm_zr2 _).1
  · rw [if_neg q0]
    by_cases q1 : tt = 1
    · rw [if_pos q1]; exact zr_l (zbm_zr2 _).2
    · rw [if_neg q1]
      by_cases q2 : tt = 2
      · rw [if_pos q2]; exact zr_l (zbm_zr _)
      · rw [if_neg q2]; exact hv
theorem zRDec_sz {pp on rr sz sz' a b c x : Int} (hs : (sz < 0 ∧ sz' < 0) ∨ sz = sz') (hx : zRDec pp on rr sz a b c x) : zRDec pp on rr sz' a b c x := by
  rcases hs with ⟨s1, s2⟩ | rfl
  · rcases hx with ⟨q, e⟩ | ⟨q, -⟩ | ⟨q, -⟩ | ⟨q, -⟩ | ⟨q, -⟩ | ⟨q, -⟩
    · exact Or.inl ⟨s2, e⟩
    · exfalso; omega
    · exfalso; omega
    · exfalso; omega
    · exfalso; omega
    · exfalso; omega
  · exact hx
theorem zAR_eq {m : Nat → Nat → Int} {V W : Nat → Nat → Int} {rr : Nat} (hm : ∀ c : Nat, 105 ≤ c → c ≤ 107 → m c = h c) : ∀ j : Nat, (∀ q : Nat, q < j → V q 0 = W q 0 ∧ V q 1 = W q 1 ∧ V q 2 = W q 2) → ∀ c : Nat, 105 ≤ c → c ≤ 107 → zAR m V rr j c = zAR h W rr j c := by
  intro j
  induction j with
  | zero => intro _ c c1 c2; exact hm c c1 c2
  | succ j ih =>
    intro hv c c1 c2
    have i := ih (fun q hq => hv q (by omega)) c c1 c2
    obtain ⟨v0, v1, v2⟩ := hv j (by omega)
    funext q
    show zup (zup (zup (zup (zAR m V rr j) 105 (rr + j) (V j 0)) 106 (rr + j) (V j 1)) 107 (rr + j) (V j 2)) 104 4 _ c q = zup (zup (zup (zup (zAR h W rr j) 105 (rr + j) (W j 0)) 106 (rr + j) (W j 1)) 107 (rr + j) (W j 2)) 104 4 _ c q
    rw [v0, v1, v2]
    simp only [zup_at]
    rw [i]
/-- chains, of two heaps and two tellings of PLACES -/
theorem zCh_same {L B n : Nat} {K : Int} {P Q : Nat → Nat} {m : Nat → Nat → Int} {s0 : zDS} (hL : L ≤ 3) (hs : ∀ c : Nat, 12 ≤ c → c < 20 → m c = h c) (h6 : ∀ i : Nat, i < 3 → s0.1 i < 6) (h8 : ∀ j : Nat, j < n → Int.toNat (s0.2.2.2.2 0 j) < 8) : ∀ k : Nat, (∀ q : Nat, q < k → P q = Q q ∧ P q < 6) → ∀ s : zDS, zCh m L B K P n s0 k s → zCh h L B K Q n s0 k s ∧ (∀ i : Nat, i < 3 → s.1 i < 6) ∧ ∀ j : Nat, j < n + k → Int.toNat (s.2.2.2.2 0 j) < 8 := by
  intro k
  induction k with
  | zero => intro _ s e; rw [show s = s0 from e]; exact ⟨rfl, h6, h8⟩
  | succ k ih =>
    intro hq s e
    obtain ⟨s1, l, tt, e1, e2, e3⟩ := e
    obtain ⟨i1, i2, i3⟩ := ih (fun q hq' => hq q (by omega)) s1 e1
    obtain ⟨q1, q2⟩ := hq k (by omega)
    have e2h := zPkS_same hs hL i2 (by omega) i3 e2
    have eU := zUp_same (h := h) (K := K) (n := n + k) (pp := P k) (t := tt) hs (i2 l (by have := e2.1; omega))
    refine ⟨⟨s1, l, tt, i1, by rw [← q1]; exact e2h, by rw [e3, eU, q1]⟩, fun i hi => ?_, fun j hj => ?_⟩
    · rw [e3]
      unfold zUp
      dsimp only
      by_cases w : i = l
      · rw [if_pos w]; exact q2
      · rw [if_neg w]; exact i2 i hi
    · rw [e3]
      unfold zUp
      dsimp only
      by_cases w : j = n + k
      · rw [if_pos w, if_pos rfl, Int.toNat_natCast]; omega
      · rw [if_neg w]; exact i3 j (by omega)
theorem zT_book0 (hI : zLi X XL t p r h hl) {w n : Int} (hw : zr w) (hn : zr n) : zTw 86 [.inr (.inr (some 2)), .inl 0, .inl w, .inl n] 143 [.inr (.inr (some 104)), .inl 0, .inl w, .inl n] X XL t h hl := by
  have hIc := hI
  obtain ⟨x1, x2, tw, od, z38, z56, kd, kd2, st, st2, tr, tr2, b0, b1, b2, dy⟩ := hIc
  refine zQ_imp (p_book0 (d := 7) hw hn) (fun ρ σ' pc => ?_)
  rcases pc with ⟨q, rfl, rfl⟩ | ⟨q, q2, rfl, rfl⟩ | ⟨q, q2, rfl, f, rfl, fo, f0, f1, fz⟩
  · refine ⟨_, _, hl, rfl, ⟨by decide, by decide⟩, rfl, by rw [← x1]; funext q; exact zup_ne (by decide), x2, zQ_imp (p_bookO0 (hl := hl) (d := 7) rfl hw hn) (fun r2 σ2 pm => ?_)⟩
    rcases pm with ⟨w1, rfl, rfl⟩ | ⟨w1, w2, rfl, rfl⟩ | ⟨w1, w2, rfl, rfl⟩
    · exact ⟨p, r, _, hl, rfl, rfl, zLi_F hI ⟨by decide, by decide⟩⟩
    · exfalso; omega
    · exfalso; omega
  · refine ⟨_, _, hl, rfl, ⟨by decide, by decide⟩, rfl, by rw [← x1]; funext q; exact zup_ne (by decide), x2, zQ_imp (p_bookO0 (hl := hl) (d := 7) rfl hw hn) (fun r2 σ2 pm => ?_)⟩
    rcases pm with ⟨w1, rfl, rfl⟩ | ⟨w1, w2, rfl, rfl⟩ | ⟨w1, w2, rfl, rfl⟩
    · exfalso; omega
    · exact ⟨p, r, _, hl, rfl, rfl, zLi_F hI ⟨by decide, by decide⟩⟩
    · exfalso; omega
  · refine ⟨_, _, hl, rfl, ⟨by decide, by decide⟩, rfl, by rw [← x1, ← fo 1 (by decide) (by decide)]; funext q; exact zup_ne (by decide), x2, zQ_imp (p_bookO0 (hl := hl) (d := 7) rfl hw hn) (fun r2 σ2 pm => ?_)⟩
    rcases pm with ⟨w1, rfl, rfl⟩ | ⟨w1, w2, rfl, rfl⟩ | ⟨w1, w2, rfl, rfl⟩
    · exfalso; omega
    · exfalso; omega
    · obtain ⟨e, ee⟩ : ∃ e, e = (zup (zup (zup (zup (zup (zup (zup (zup (zup (zup f 2 8 0) 104 0 0) 104 1 0) 119 0 1) 120 0 w) 121 0 n) 122 0 (-9)) 122 1 (-9)) 122 2 (-9)) 122 3 (-9)) := ⟨_, rfl⟩
      rw [← ee]
      have ec : ∀ c : Nat, c ≠ 2 → ((c ≠ 104 ∧ c < 119) ∨ 122 < c) → c ≠ 83 → c ≠ 84 → e c = h c := fun c h1 h2 h3 h4 => by rw [ee, ← fo c h3 h4]; funext q; rw [zup_ne (by omega), zup_ne (by omega), zup_ne (by omega), zup_ne (by omega), zup_ne (by omega), zup_ne (by omega), zup_ne (by omega), zup_ne (by omega), zup_ne (by omega), zup_ne (by omega)]
      have ec : ∀ c : Nat, c ≠ 2 → ((c ≠ 104 ∧ c < 119) ∨ 122 < c) ∧ c ≠ 83 ∧ c ≠ 84 → e c = h c := fun c h1 h2 => ec c h1 h2.1 h2.2.1 h2.2.2
      have bo1 : zBkR e hl 1 90 91 93 := zBkR_pt (ec 90 (by decide) (by omega)) (ec 91 (by decide) (by omega)) ⟨by rw [ee]; simp only [zup_at]; simp [fo 119 (by decide) (by decide)], by rw [ee]; simp only [zup_at]; simp [fo 120 (by decide) (by decide)], by rw [ee]; simp only [zup_at]; simp [fo 121 (by decide) (by decide)]⟩ (fun q hq => by rw [ee, zup_k (by omega), zup_k (by omega), zup_k (by omega), zup_k (by omega), zup_ne (by decide), zup_ne (by decide), zup_ne (by decide), zup_ne (by decide), zup_ne (by decide), zup_ne (by decide), fo 122 (by decide) (by decide)]) (fun _ _ _ _ => rfl) (fun _ _ => rfl) b1
      have bo2 : zBkR e hl 2 97 98 100 := zBkR_pt (ec 97 (by decide) (by omega)) (ec 98 (by decide) (by omega)) ⟨by rw [ee]; simp only [zup_at]; simp [fo 119 (by decide) (by decide)], by rw [ee]; simp only [zup_at]; simp [fo 120 (by decide) (by decide)], by rw [ee]; simp only [zup_at]; simp [fo 121 (by decide) (by decide)]⟩ (fun q hq => by rw [ee, zup_k (by omega), zup_k (by omega), zup_k (by omega), zup_k (by omega), zup_ne (by decide), zup_ne (by decide), zup_ne (by decide), zup_ne (by decide), zup_ne (by decide), zup_ne (by decide), fo 122 (by decide) (by decide)]) (fun _ _ _ _ => rfl) (fun _ _ => rfl) b2
      have eB : e 83 = f 83 ∧ e 84 = f 84 := by constructor <;> (rw [ee]; funext q; rw [zup_ne (by decide), zup_ne (by decide), zup_ne (by decide), zup_ne (by decide), zup_ne (by decide), zup_ne (by decide), zup_ne (by decide), zup_ne (by decide), zup_ne (by decide), zup_ne (by decide)])
      have e119 : e 119 0 = 1 ∧ e 120 0 = w ∧ e 121 0 = n := by rw [ee]; simp [zup_at]
      have e122 : ∀ q : Nat, q < 4 → e 122 (4 * 0 + q) = -9 := fun q hq => by rw [ee]; rcases (show q = 0 ∨ q = 1 ∨ q = 2 ∨ q = 3 by omega) with rfl | rfl | rfl | rfl <;> simp [zup_at]
      have ejs : ∀ j : Nat, j ≠ 0 → j ≠ 1 → e 104 j = h 104 j := fun j h1 h2 => by rw [ee, zup_ne (by decide), zup_ne (by decide), zup_ne (by decide), zup_ne (by decide), zup_ne (by decide), zup_ne (by decide), zup_ne (by decide), zup_k h2, zup_k h1, zup_ne (by decide), fo 104 (by decide) (by decide)]
      have e2s : e 2 7 = h 2 7 ∧ e 2 8 = 0 ∧ e 104 1 = 0 := by rw [ee, ← fo 2 (by decide) (by decide)]; simp [zup_at]
      have bb : zBkR e hl 0 83 84 86 := by
        unfold zBkR
        rw [eB.1, eB.2, e119.1, e119.2.1, e119.2.2, f0, f1]
        exact ⟨Or.inr rfl, by omega, by omega, by omega, by omega, by omega, fun _ => ⟨rfl, rfl⟩, fun q hq => Or.inl ⟨fz q hq, e122 q hq⟩, b0.2.2.2.2.2.2.2.2⟩
      exact ⟨p, r, e, hl, rfl, rfl, zLi_bk hI (fun c hc => ec c (by omega) (by omega)) e2s.1 ⟨by rw [e2s.2.1]; exact ⟨by decide, by decide⟩, by rw [e2s.2.2, e2s.2.1]⟩ (ec 56 (by decide) (by omega)) ejs rfl rfl rfl bb bo1 bo2⟩
theorem zT_row0 (hI : zLi X XL t p r h hl) {a n : Int} (ha : zr a) (hn : zr n) : zTw 87 [.inr (.inr (some 2)), .inl 0, .inl a, .inl n] 144 [.inr (.inr (some 104)), .inl 0, .inl a, .inl n] X XL t h hl := by
  have hIc := hI
  obtain ⟨x1, x2, tw, od, z38, z56, kd, kd2, st, st2, tr, tr2, b0, b1, b2, dy⟩ := hIc
  have bc := b0
  obtain ⟨k1, k2, k3, k4, k5, k6, k7, k8, k9⟩ := bc
  refine zQ_imp (p_row0 (d := 6) ha hn k3) (fun ρ σ' pc => ?_)
  unfold zHasRow at pc
  rcases pc with ⟨q, rfl, rfl⟩ | ⟨q, q2, rfl, rfl⟩ | ⟨q, q2, q3, rfl, rfl⟩ | ⟨q, q2, q3, rfl, rfl⟩ | ⟨q, q2, q3, q4, rfl, g, gl, rfl, rfl, f1, f2⟩
  · refine ⟨_, _, hl, rfl, ⟨by decide, by decide⟩, rfl, by rw [← x1]; funext q; exact zup_ne (by decide), x2, zQ_imp (p_rowO0 (hl := hl) (d := 7) rfl ha hn (zMbk_same (fun c c1 c2 => by funext q; rw [zup_ne (by omega), zup_ne (by omega)]) rfl (zBkR_M b0))) (fun r2 σ2 pm => ?_)⟩
    have k119 : (zup (zup h 2 8 (-1)) 104 0 0) 119 0 = h 119 0 ∧ (zup (zup h 2 8 (-1)) 104 0 0) 121 0 = h 121 0 := ⟨by rw [zup_ne (by decide), zup_ne (by decide)], by rw [zup_ne (by decide), zup_ne (by decide)]⟩
    rw [k119.1, k119.2] at pm
    rcases pm with ⟨w1, rfl, rfl⟩ | ⟨w1, w2, rfl, rfl⟩ | ⟨w1, w2, w3, rfl, rfl⟩ | ⟨w1, w2, w3, rfl, rfl⟩ | ⟨w1, w2, w3, w4, rfl, rfl⟩
    · exact ⟨p, r, _, hl, rfl, rfl, zLi_F hI ⟨by decide, by decide⟩⟩
    · exfalso; omega
    · exfalso; omega
    · exfalso; omega
    · exfalso; omega
  · refine ⟨_, _, hl, rfl, ⟨by decide, by decide⟩, rfl, by rw [← x1]; funext q; exact zup_ne (by decide), x2, zQ_imp (p_rowO0 (hl := hl) (d := 7) rfl ha hn (zMbk_same (fun c c1 c2 => by funext q; rw [zup_ne (by omega), zup_ne (by omega)]) rfl (zBkR_M b0))) (fun r2 σ2 pm => ?_)⟩
    have k119 : (zup (zup h 2 8 (-11)) 104 0 0) 119 0 = h 119 0 ∧ (zup (zup h 2 8 (-11)) 104 0 0) 121 0 = h 121 0 := ⟨by rw [zup_ne (by decide), zup_ne (by decide)], by rw [zup_ne (by decide), zup_ne (by decide)]⟩
    rw [k119.1, k119.2] at pm
    rcases pm with ⟨w1, rfl, rfl⟩ | ⟨w1, w2, rfl, rfl⟩ | ⟨w1, w2, w3, rfl, rfl⟩ | ⟨w1, w2, w3, rfl, rfl⟩ | ⟨w1, w2, w3, w4, rfl, rfl⟩
    · exfalso; omega
    · exact ⟨p, r, _, hl, rfl, rfl, zLi_F hI ⟨by decide, by decide⟩⟩
    · exfalso; omega
    · exfalso; omega
    · exfalso; omega
  · refine ⟨_, _, hl, rfl, ⟨by decide, by decide⟩, rfl, by rw [← x1]; funext q; exact zup_ne (by decide), x2, zQ_imp (p_rowO0 (hl := hl) (d := 7) rfl ha hn (zMbk_same (fun c c1 c2 => by funext q; rw [zup_ne (by omega), zup_ne (by omega)]) rfl (zBkR_M b0))) (fun r2 σ2 pm => ?_)⟩
    have k119 : (zup (zup h 2 8 (-12)) 104 0 0) 119 0 = h 119 0 ∧ (zup (zup h 2 8 (-12)) 104 0 0) 121 0 = h 121 0 := ⟨by rw [zup_ne (by decide), zup_ne (by decide)], by rw [zup_ne (by decide), zup_ne (by decide)]⟩
    rw [k119.1, k119.2] at pm
    rcases pm with ⟨w1, rfl, rfl⟩ | ⟨w1, w2, rfl, rfl⟩ | ⟨w1, w2, w3, rfl, rfl⟩ | ⟨w1, w2, w3, rfl, rfl⟩ | ⟨w1, w2, w3, w4, rfl, rfl⟩
    · exfalso; omega
    · exfalso; omega
    · exact ⟨p, r, _, hl, rfl, rfl, zLi_F hI ⟨by decide, by decide⟩⟩
    · exfalso; omega
    · exfalso; omega
  · refine ⟨_, _, hl, rfl, ⟨by decide, by decide⟩, rfl, by rw [← x1]; funext q; exact zup_ne (by decide), x2, zQ_imp (p_rowO0 (hl := hl) (d := 7) rfl ha hn (zMbk_same (fun c c1 c2 => by funext q; rw [zup_ne (by omega), zup_ne (by omega)]) rfl (zBkR_M b0))) (fun r2 σ2 pm => ?_)⟩
    have k119 : (zup (zup h 2 8 (-15)) 104 0 0) 119 0 = h 119 0 ∧ (zup (zup h 2 8 (-15)) 104 0 0) 121 0 = h 121 0 := ⟨by rw [zup_ne (by decide), zup_ne (by decide)], by rw [zup_ne (by decide), zup_ne (by decide)]⟩
    rw [k119.1, k119.2] at pm
    rcases pm with ⟨w1, rfl, rfl⟩ | ⟨w1, w2, rfl, rfl⟩ | ⟨w1, w2, w3, rfl, rfl⟩ | ⟨w1, w2, w3, rfl, rfl⟩ | ⟨w1, w2, w3, w4, rfl, rfl⟩
    · exfalso; omega
    · exfalso; omega
    · exfalso; omega
    · exact ⟨p, r, _, hl, rfl, rfl, zLi_F hI ⟨by decide, by decide⟩⟩
    · exfalso; omega
  · obtain ⟨R, rfl⟩ := Int.eq_ofNat_of_zero_le q2.1
    rw [Int.toNat_natCast] at f1 f2 ⊢
    refine ⟨_, _, gl, rfl, ⟨by decide, by decide⟩, rfl, by rw [← x1]; funext q; rw [zup_ne (by decide), zup_ne (by decide)], by rw [f1 1 (by omega)]; exact x2, zQ_imp (p_rowO0 (hl := gl) (d := 7) rfl ha hn (zMbk_same (fun c c1 c2 => by funext q; rw [zup_ne (by omega), zup_ne (by omega), zup_ne (by omega)]) (f1 123 (by omega)) (zBkR_M b0))) (fun r2 σ2 pm => ?_)⟩
    have k119 : (zup (zup (zup h 84 R n) 2 8 0) 104 0 0) 119 0 = h 119 0 ∧ (zup (zup (zup h 84 R n) 2 8 0) 104 0 0) 121 0 = h 121 0 := ⟨by rw [zup_ne (by decide), zup_ne (by decide), zup_ne (by decide)], by rw [zup_ne (by decide), zup_ne (by decide), zup_ne (by decide)]⟩
    rw [k119.1, k119.2, Int.toNat_natCast] at pm
    rcases pm with ⟨w1, rfl, rfl⟩ | ⟨w1, w2, rfl, rfl⟩ | ⟨w1, w2, w3, rfl, rfl⟩ | ⟨w1, w2, w3, rfl, rfl⟩ | ⟨w1, w2, w3, w4, rfl, rfl⟩
    · exfalso; omega
    · exfalso; omega
    · exfalso; omega
    · exfalso; omega
    · obtain ⟨e, ee⟩ : ∃ e, e = (zup (zup (zup (zup (zup h 84 R n) 2 8 0) 104 0 0) 104 1 0) 122 (0 + R) n) := ⟨_, rfl⟩
      rw [← ee]
      obtain ⟨e2, ee2⟩ : ∃ e2, e2 = (zup (zup (zup (zup (zup (zup (zup (zup gl 123 (0 + 8 * R + 0) 0) 123 (0 + 8 * R + 1) 0) 123 (0 + 8 * R + 2) 0) 123 (0 + 8 * R + 3) 0) 123 (0 + 8 * R + 4) 0) 123 (0 + 8 * R + 5) 0) 123 (0 + 8 * R + 6) 0) 123 (0 + 8 * R + 7) 0) := ⟨_, rfl⟩
      rw [← ee2]
      have ec : ∀ c : Nat, c ≠ 2 → c ≠ 104 → c ≠ 122 → c ≠ 84 → e c = h c := fun c h1 h2 h3 h4 => by rw [ee]; funext q; rw [zup_ne h3, zup_ne h2, zup_ne h2, zup_ne h1, zup_ne h4]
      have eZ : ∀ q : Nat, e 84 q = if q = R then n else h 84 q := fun q => by
        rw [ee, zup_ne (by decide), zup_ne (by decide), zup_ne (by decide), zup_ne (by decide)]
        by_cases w : q = R
        · rw [if_pos w, w, zup_eq]
        · rw [if_neg w, zup_k w]
      have e122R : e 122 (0 + R) = n := by rw [ee]; exact zup_eq
      have e122 : ∀ j : Nat, j ≠ 0 + R → e 122 j = h 122 j := fun j hj => by rw [ee, zup_k hj, zup_ne (by decide), zup_ne (by decide), zup_ne (by decide), zup_ne (by decide)]
      have e2c : ∀ c : Nat, c ≠ 123 → c ≠ 86 + R → e2 c = hl c := fun c h1 h2 => by rw [ee2, ← f1 c h2]; funext q; rw [zup_ne h1, zup_ne h1, zup_ne h1, zup_ne h1, zup_ne h1, zup_ne h1, zup_ne h1, zup_ne h1]
      have e2N : e2 (86 + R) = gl (86 + R) := by rw [ee2]; funext q; rw [zup_ne (by omega), zup_ne (by omega), zup_ne (by omega), zup_ne (by omega), zup_ne (by omega), zup_ne (by omega), zup_ne (by omega), zup_ne (by omega)]
      have e123R : ∀ i : Nat, i < 8 → e2 123 (0 + 8 * R + i) = 0 := fun i hi => by
        rw [ee2]
        rcases (show i = 0 ∨ i = 1 ∨ i = 2 ∨ i = 3 ∨ i = 4 ∨ i = 5 ∨ i = 6 ∨ i = 7 by omega) with rfl | rfl | rfl | rfl | rfl | rfl | rfl | rfl <;> simp [zup_at]
      have e123 : ∀ j : Nat, (j < 0 + 8 * R ∨ 0 + 8 * R + 8 ≤ j) → e2 123 j = hl 123 j := fun j hj => by rw [ee2, zup_k (by omega), zup_k (by omega), zup_k (by omega), zup_k (by omega), zup_k (by omega), zup_k (by omega), zup_k (by omega), zup_k (by omega), f1 123 (by omega)]
      have ejs : ∀ j : Nat, j ≠ 0 → j ≠ 1 → e 104 j = h 104 j := fun j h1 h2 => by rw [ee, zup_ne (by decide), zup_k h2, zup_k h1, zup_ne (by decide), zup_ne (by decide)]
      have e2s : e 2 7 = h 2 7 ∧ e 2 8 = 0 ∧ e 104 1 = 0 := by rw [ee]; simp [zup_at]
      have bo1 : zBkR e e2 1 90 91 93 := zBkR_pt (ec 90 (by decide) (by decide) (by decide) (by decide)) (ec 91 (by decide) (by decide) (by decide) (by decide)) ⟨by rw [ec 119 (by decide) (by decide) (by decide) (by decide)], by rw [ec 120 (by decide) (by decide) (by decide) (by decide)], by rw [ec 121 (by decide) (by decide) (by decide) (by decide)]⟩ (fun q hq => by rw [e122 _ (by omega)]) (fun q i hq hi => by rw [e123 _ (by omega)]) (fun q hq => e2c _ (by omega) (by omega)) b1
      have bo2 : zBkR e e2 2 97 98 100 := zBkR_pt (ec 97 (by decide) (by decide) (by decide) (by decide)) (ec 98 (by decide) (by decide) (by decide) (by decide)) ⟨by rw [ec 119 (by decide) (by decide) (by decide) (by decide)], by rw [ec 120 (by decide) (by decide) (by decide) (by decide)], by rw [ec 121 (by decide) (by decide) (by decide) (by decide)]⟩ (fun q hq => by rw [e122 _ (by omega)]) (fun q i hq hi => by rw [e123 _ (by omega)]) (fun q hq => e2c _ (by omega) (by omega)) b2
      have bb : zBkR e e2 0 83 84 86 := by
        unfold zBkR
        rw [ec 119 (by decide) (by decide) (by decide) (by decide), ec 120 (by decide) (by decide) (by decide) (by decide), ec 121 (by decide) (by decide) (by decide) (by decide), ec 83 (by decide) (by decide) (by decide) (by decide)]
        refine ⟨k1, k2, k3, k4, k5, k6, k7, fun q hq => ?_, fun q i hq hi => ?_⟩
        · rw [eZ q]
          by_cases w : q = R
          · rw [if_pos w, w]
            exact Or.inr ⟨q3, q4, e122R⟩
          · rw [if_neg w, e122 _ (by omega)]; exact k8 q hq
        · by_cases w : q = R
          · rw [w, show 32 * 0 + 8 * R + i = 0 + 8 * R + i by omega, e123R i hi, e2N, f2 i hi]
            exact ⟨rfl, by decide, by decide⟩
          · rw [e123 _ (by omega), e2c _ (by omega) (by omega)]; exact k9 q i hq hi
      exact ⟨p, r, e, e2, rfl, rfl, zLi_bk hI (fun c hc => ec c (by omega) (by omega) (by omega) (by omega)) e2s.1 ⟨by rw [e2s.2.1]; exact ⟨by decide, by decide⟩, by rw [e2s.2.2, e2s.2.1]⟩ (ec 56 (by decide) (by decide) (by decide) (by decide)) ejs (e2c 1 (by decide) (by omega)) (e2c 81 (by decide) (by omega)) (e2c 104 (by decide) (by omega)) bb bo1 bo2⟩
theorem zT_put0 (hI : zLi X XL t p r h hl) {w a i v : Int} (hw : zr w) (ha : zr a) (hi : zr i) (hv : zrl v) : zTw 88 [.inr (.inr (some 2)), .inl 0, .inl w, .inl a, .inl i, .inr (.inl v)] 146 [.inr (.inr (some 104)), .inl 0, .inl w, .inl a, .inl i, .inr (.inl v)] X XL t h hl := by
  have hIc := hI
  obtain ⟨x1, x2, tw, od, z38, z56, kd, kd2, st, st2, tr, tr2, b0, b1, b2, dy⟩ := hIc
  have bc := b0
  obtain ⟨k1, k2, k3, k4, k5, k6, k7, k8, k9⟩ := bc
  have hZq : ∀ q : Nat, q < 4 → -1 ≤ h 84 q ∧ h 84 q ≤ 8 := fun q hq => by have := k8 q hq; omega
  refine zQ_imp (p_put0 (d := 4) hw ha hi k4 k3 hZq) (fun ρ σ' pc => ?_)
  obtain ⟨x, hx, pc⟩ := pc
  have hxb := zWN_b hx
  rcases pc with ⟨q0, rfl, rfl⟩ | ⟨rfl, rfl, rfl⟩
  · refine ⟨x, _, hl, rfl, ⟨by omega, by omega⟩, rfl, by rw [← x1]; funext q; exact zup_ne (by decide), x2, zQ_imp (p_putO0 (hl := hl) (d := 6) rfl hw ha hi (zMbk_same (fun c c1 c2 => by funext q; rw [zup_ne (by omega), zup_ne (by omega)]) rfl (zBkR_M b0))) (fun r2 σ2 pm => ?_)⟩
    obtain ⟨y, hy, pm⟩ := pm
    obtain rfl := zWN_eq b0 (fun c c1 c2 => by funext q; rw [zup_ne (by omega), zup_ne (by omega)]) hx hy
    rcases pm with ⟨w0, rfl, rfl⟩ | ⟨w0, rfl, rfl⟩
    · exact ⟨p, r, _, hl, rfl, rfl, zLi_F1 hI ⟨by omega, by omega⟩⟩
    · exact absurd w0 q0
  · have ok := zWN_0 hx
    obtain ⟨R, rfl⟩ := Int.eq_ofNat_of_zero_le ok.1.1
    obtain ⟨U, rfl⟩ := Int.eq_ofNat_of_zero_le ok.2.1.1
    rw [Int.toNat_natCast] at ok
    have k8R := k8 R (by omega)
    rw [Int.toNat_natCast, Int.toNat_natCast, ok.2.2]
    obtain ⟨gl, egl⟩ : ∃ gl, gl = zup hl (86 + R) U (zNar w v) := ⟨_, rfl⟩
    rw [← egl]
    have glo : ∀ c : Nat, c ≠ 86 + R → gl c = hl c := fun c hc => by rw [egl]; funext q; exact zup_ne hc
    refine ⟨1, _, gl, rfl, ⟨by decide, by decide⟩, rfl, by rw [← x1]; funext q; exact zup_ne (by decide), by rw [glo 1 (by omega)]; exact x2, zQ_imp (p_putO0 (hl := gl) (d := 6) rfl hw ha hi (zMbk_same (fun c c1 c2 => by funext q; rw [zup_ne (by omega), zup_ne (by omega)]) (glo 123 (by omega)) (zBkR_M b0))) (fun r2 σ2 pm => ?_)⟩
    obtain ⟨y, hy, pm⟩ := pm
    obtain rfl := zWN_eq b0 (fun c c1 c2 => by funext q; rw [zup_ne (by omega), zup_ne (by omega)]) hx hy
    rcases pm with ⟨w0, rfl, rfl⟩ | ⟨w0, rfl, rfl⟩
    · exact absurd rfl w0
    · rw [Int.toNat_natCast, Int.toNat_natCast]
      obtain ⟨e, ee⟩ : ∃ e, e = zup (zup (zup h 2 8 0) 104 0 0) 104 1 0 := ⟨_, rfl⟩
      rw [← ee]
      obtain ⟨e2, ee2⟩ : ∃ e2, e2 = zup gl 123 (0 + 8 * R + U) (zNar w v) := ⟨_, rfl⟩
      rw [← ee2]
      have ec : ∀ c : Nat, c ≠ 2 → c ≠ 104 → e c = h c := fun c h1 h2 => by rw [ee]; funext q; rw [zup_ne h2, zup_ne h2, zup_ne h1]
      have e2c : ∀ c : Nat, c ≠ 123 → c ≠ 86 + R → e2 c = hl c := fun c h1 h2 => by rw [ee2, ← glo c h2]; funext q; exact zup_ne h1
      have e2N : ∀ j : Nat, e2 (86 + R) j = if j = U then zNar w v else hl (86 + R) j := fun j => by
        rw [ee2, zup_ne (by omega), egl]
        by_cases z : j = U
        · rw [if_pos z, z, zup_eq]
        · rw [if_neg z, zup_k z]
      have e123 : ∀ j : Nat, e2 123 j = if j = 0 + 8 * R + U then zNar w v else hl 123 j := fun j => by
        rw [ee2]
        by_cases z : j = 0 + 8 * R + U
        · rw [if_pos z, z, zup_eq]
        · rw [if_neg z, zup_k z, glo 123 (by omega)]
      have ejs : ∀ j : Nat, j ≠ 0 → j ≠ 1 → e 104 j = h 104 j := fun j h1 h2 => by rw [ee, zup_k h2, zup_k h1, zup_ne (by decide)]
      have e2s : e 2 7 = h 2 7 ∧ e 2 8 = 0 ∧ e 104 1 = 0 := by rw [ee]; simp [zup_at]
      have bo1 : zBkR e e2 1 90 91 93 := zBkR_pt (ec 90 (by decide) (by decide)) (ec 91 (by decide) (by decide)) ⟨by rw [ec 119 (by decide) (by decide)], by rw [ec 120 (by decide) (by decide)], by rw [ec 121 (by decide) (by decide)]⟩ (fun q hq => by rw [ec 122 (by decide) (by decide)]) (fun q i hq hi => by rw [e123, if_neg (by omega)]) (fun q hq => e2c _ (by omega) (by omega)) b1
      have bo2 : zBkR e e2 2 97 98 100 := zBkR_pt (ec 97 (by decide) (by decide)) (ec 98 (by decide) (by decide)) ⟨by rw [ec 119 (by decide) (by decide)], by rw [ec 120 (by decide) (by decide)], by rw [ec 121 (by decide) (by decide)]⟩ (fun q hq => by rw [ec 122 (by decide) (by decide)]) (fun q i hq hi => by rw [e123, if_neg (by omega)]) (fun q hq => e2c _ (by omega) (by omega)) b2
      have bb : zBkR e e2 0 83 84 86 := by
        unfold zBkR
        rw [ec 119 (by decide) (by decide), ec 120 (by decide) (by decide), ec 121 (by decide) (by decide), ec 122 (by decide) (by decide), ec 83 (by decide) (by decide), ec 84 (by decide) (by decide)]
        refine ⟨k1, k2, k3, k4, k5, k6, k7, k8, fun q i hq hi => ?_⟩
        rw [e123]
        by_cases z : q = R
        · rw [z, e2N]
          by_cases z2 : i = U
          · rw [if_pos (by omega), if_pos z2]; exact ⟨rfl, zNar_z hv⟩
          · rw [if_neg (by omega), if_neg z2]; exact k9 R i (by omega) hi
        · rw [if_neg (by omega), e2c _ (by omega) (by omega)]; exact k9 q i hq hi
      exact ⟨p, r, e, e2, rfl, rfl, zLi_bk hI (fun c hc => ec c (by omega) (by omega)) e2s.1 ⟨by rw [e2s.2.1]; exact ⟨by decide, by decide⟩, by rw [e2s.2.2, e2s.2.1]⟩ (ec 56 (by decide) (by decide)) ejs (e2c 1 (by decide) (by omega)) (e2c 81 (by decide) (by omega)) (e2c 104 (by decide) (by omega)) bb bo1 bo2⟩
theorem zT_item0 (hI : zLi X XL t p r h hl) {w a i : Int} (hw : zr w) (ha : zr a) (hi : zr i) : zTwl 89 [.inr (.inr (some 2)), .inl 0, .inl w, .inl a, .inl i] 147 [.inr (.inr (some 104)), .inl 0, .inl w, .inl a, .inl i] X XL t h hl := by
  have hIc := hI
  obtain ⟨x1, x2, tw, od, z38, z56, kd, kd2, st, st2, tr, tr2, b0, b1, b2, dy⟩ := hIc
  have bc := b0
  obtain ⟨k1, k2, k3, k4, k5, k6, k7, k8, k9⟩ := bc
  have hZq : ∀ q : Nat, q < 4 → -1 ≤ h 84 q ∧ h 84 q ≤ 8 := fun q hq => by have := k8 q hq; omega
  refine zQ_imp (p_item0 (d := 4) hw ha hi k4 k3 hZq) (fun ρ σ' pc => ?_)
  obtain ⟨x, hx, pc⟩ := pc
  have hxb := zWN_b hx
  rcases pc with ⟨q0, rfl, rfl⟩ | ⟨rfl, rfl, rfl⟩
  · refine ⟨0, _, hl, rfl, ⟨by decide, by decide⟩, rfl, by rw [← x1]; funext q; exact zup_ne (by decide), x2, zQ_imp (p_itemO0 (hl := hl) (d := 6) rfl hw ha hi (zMbk_same (fun c c1 c2 => by funext q; rw [zup_ne (by omega), zup_ne (by omega)]) rfl (zBkR_M b0))) (fun r2 σ2 pm => ?_)⟩
    obtain ⟨y, hy, pm⟩ := pm
    obtain rfl := zWN_eq b0 (fun c c1 c2 => by funext q; rw [zup_ne (by omega), zup_ne (by omega)]) hx hy
    rcases pm with ⟨w0, rfl, rfl⟩ | ⟨w0, rfl, rfl⟩
    · exact ⟨p, r, _, hl, rfl, rfl, zLi_F1 hI ⟨by omega, by omega⟩⟩
    · exact absurd w0 q0
  · have ok := zWN_0 hx
    obtain ⟨R, rfl⟩ := Int.eq_ofNat_of_zero_le ok.1.1
    obtain ⟨U, rfl⟩ := Int.eq_ofNat_of_zero_le ok.2.1.1
    rw [Int.toNat_natCast] at ok
    have k8R := k8 R (by omega)
    have k9R := k9 R U (by omega) (by omega)
    rw [Int.toNat_natCast, Int.toNat_natCast]
    refine ⟨_, _, hl, rfl, k9R.2, rfl, by rw [← x1]; funext q; exact zup_ne (by decide), x2, zQ_imp (p_itemO0 (hl := hl) (d := 6) rfl hw ha hi (zMbk_same (fun c c1 c2 => by funext q; rw [zup_ne (by omega), zup_ne (by omega)]) rfl (zBkR_M b0))) (fun r2 σ2 pm => ?_)⟩
    obtain ⟨y, hy, pm⟩ := pm
    obtain rfl := zWN_eq b0 (fun c c1 c2 => by funext q; rw [zup_ne (by omega), zup_ne (by omega)]) hx hy
    rcases pm with ⟨w0, rfl, rfl⟩ | ⟨w0, rfl, rfl⟩
    · exact absurd rfl w0
    · rw [Int.toNat_natCast, Int.toNat_natCast]
      exact ⟨p, r, _, hl, by rw [show hl 123 (0 + 8 * R + U) = hl (86 + R) U from k9R.1], rfl, zLi_F1 hI ⟨by decide, by decide⟩⟩
theorem zT_book1 (hI : zLi X XL t p r h hl) {w n : Int} (hw : zr w) (hn : zr n) : zTw 86 [.inr (.inr (some 2)), .inl 1, .inl w, .inl n] 143 [.inr (.inr (some 104)), .inl 1, .inl w, .inl n] X XL t h hl := by
  have hIc := hI
  obtain ⟨x1, x2, tw, od, z38, z56, kd, kd2, st, st2, tr, tr2, b0, b1, b2, dy⟩ := hIc
  refine zQ_imp (p_book1 (d := 7) hw hn) (fun ρ σ' pc => ?_)
  rcases pc with ⟨q, rfl, rfl⟩ | ⟨q, q2, rfl, rfl⟩ | ⟨q, q2, rfl, f, rfl, fo, f0, f1, fz⟩
  · refine ⟨_, _, hl, rfl, ⟨by decide, by decide⟩, rfl, by rw [← x1]; funext q; exact zup_ne (by decide), x2, zQ_imp (p_bookO1 (hl := hl) (d := 7) rfl hw hn) (fun r2 σ2 pm => ?_)⟩
    rcases pm with ⟨w1, rfl, rfl⟩ | ⟨w1, w2, rfl, rfl⟩ | ⟨w1, w2, rfl, rfl⟩
    · exact ⟨p, r, _, hl, rfl, rfl, zLi_F hI ⟨by decide, by decide⟩⟩
    · exfalso; omega
    · exfalso; omega
  · refine ⟨_, _, hl, rfl, ⟨by decide, by decide⟩, rfl, by rw [← x1]; funext q; exact zup_ne (by decide), x2, zQ_imp (p_bookO1 (hl := hl) (d := 7) rfl hw hn) (fun r2 σ2 pm => ?_)⟩
    rcases pm with ⟨w1, rfl, rfl⟩ | ⟨w1, w2, rfl, rfl⟩ | ⟨w1, w2, rfl, rfl⟩
    · exfalso; omega
    · exact ⟨p, r, _, hl, rfl, rfl, zLi_F hI ⟨by decide, by decide⟩⟩
    · exfalso; omega
  · refine ⟨_, _, hl, rfl, ⟨by decide, by decide⟩, rfl, by rw [← x1, ← fo 1 (by decide) (by decide)]; funext q; exact zup_ne (by decide), x2, zQ_imp (p_bookO1 (hl := hl) (d := 7) rfl hw hn) (fun r2 σ2 pm => ?_)⟩
    rcases pm with ⟨w1, rfl, rfl⟩ | ⟨w1, w2, rfl, rfl⟩ | ⟨w1, w2, rfl, rfl⟩
    · exfalso; omega
    · exfalso; omega
    · obtain ⟨e, ee⟩ : ∃ e, e = (zup (zup (zup (zup (zup (zup (zup (zup (zup (zup f 2 8 0) 104 0 0) 104 1 0) 119 1 1) 120 1 w) 121 1 n) 122 4 (-9)) 122 5 (-9)) 122 6 (-9)) 122 7 (-9)) := ⟨_, rfl⟩
      rw [← ee]
      have ec : ∀ c : Nat, c ≠ 2 → ((c ≠ 104 ∧ c < 119) ∨ 122 < c) → c ≠ 90 → c ≠ 91 → e c = h c := fun c h1 h2 h3 h4 => by rw [ee, ← fo c h3 h4]; funext q; rw [zup_ne (by omega), zup_ne (by omega), zup_ne (by omega), zup_ne (by omega), zup_ne (by omega), zup_ne (by omega), zup_ne (by omega), zup_ne (by omega), zup_ne (by omega), zup_ne (by omega)]
      have ec : ∀ c : Nat, c ≠ 2 → ((c ≠ 104 ∧ c < 119) ∨ 122 < c) ∧ c ≠ 90 ∧ c ≠ 91 → e c = h c := fun c h1 h2 => ec c h1 h2.1 h2.2.1 h2.2.2
      have bo0 : zBkR e hl 0 83 84 86 := zBkR_pt (ec 83 (by decide) (by omega)) (ec 84 (by decide) (by omega)) ⟨by rw [ee]; simp only [zup_at]; simp [fo 119 (by decide) (by decide)], by rw [ee]; simp only [zup_at]; simp [fo 120 (by decide) (by decide)], by rw [ee]; simp only [zup_at]; simp [fo 121 (by decide) (by decide)]⟩ (fun q hq => by rw [ee, zup_k (by omega), zup_k (by omega), zup_k (by omega), zup_k (by omega), zup_ne (by decide), zup_ne (by decide), zup_ne (by decide), zup_ne (by decide), zup_ne (by decide), zup_ne (by decide), fo 122 (by decide) (by decide)]) (fun _ _ _ _ => rfl) (fun _ _ => rfl) b0
      have bo2 : zBkR e hl 2 97 98 100 := zBkR_pt (ec 97 (by decide) (by omega)) (ec 98 (by decide) (by omega)) ⟨by rw [ee]; simp only [zup_at]; simp [fo 119 (by decide) (by decide)], by rw [ee]; simp only [zup_at]; simp [fo 120 (by decide) (by decide)], by rw [ee]; simp only [zup_at]; simp [fo 121 (by decide) (by decide)]⟩ (fun q hq => by rw [ee, zup_k (by omega), zup_k (by omega), zup_k (by omega), zup_k (by omega), zup_ne (by decide), zup_ne (by decide), zup_ne (by decide), zup_ne (by decide), zup_ne (by decide), zup_ne (by decide), fo 122 (by decide) (by decide)]) (fun _ _ _ _ => rfl) (fun _ _ => rfl) b2
      have eB : e 90 = f 90 ∧ e 91 = f 91 := by constructor <;> (rw [ee]; funext q; rw [zup_ne (by decide), zup_ne (by decide), zup_ne (by decide), zup_ne (by decide), zup_ne (by decide), zup_ne (by decide), zup_ne (by decide), zup_ne (by decide), zup_ne (by decide), zup_ne (by decide)])
      have e119 : e 119 1 = 1 ∧ e 120 1 = w ∧ e 121 1 = n := by rw [ee]; simp [zup_at]
      have e122 : ∀ q : Nat, q < 4 → e 122 (4 * 1 + q) = -9 := fun q hq => by rw [ee]; rcases (show q = 0 ∨ q = 1 ∨ q = 2 ∨ q = 3 by omega) with rfl | rfl | rfl | rfl <;> simp [zup_at]
      have ejs : ∀ j : Nat, j ≠ 0 → j ≠ 1 → e 104 j = h 104 j := fun j h1 h2 => by rw [ee, zup_ne (by decide), zup_ne (by decide), zup_ne (by decide), zup_ne (by decide), zup_ne (by decide), zup_ne (by decide), zup_ne (by decide), zup_k h2, zup_k h1, zup_ne (by decide), fo 104 (by decide) (by decide)]
      have e2s : e 2 7 = h 2 7 ∧ e 2 8 = 0 ∧ e 104 1 = 0 := by rw [ee, ← fo 2 (by decide) (by decide)]; simp [zup_at]
      have bb : zBkR e hl 1 90 91 93 := by
        unfold zBkR
        rw [eB.1, eB.2, e119.1, e119.2.1, e119.2.2, f0, f1]
        exact ⟨Or.inr rfl, by omega, by omega, by omega, by omega, by omega, fun _ => ⟨rfl, rfl⟩, fun q hq => Or.inl ⟨fz q hq, e122 q hq⟩, b1.2.2.2.2.2.2.2.2⟩
      exact ⟨p, r, e, hl, rfl, rfl, zLi_bk hI (fun c hc => ec c (by omega) (by omega)) e2s.1 ⟨by rw [e2s.2.1]; exact ⟨by decide, by decide⟩, by rw [e2s.2.2, e2s.2.1]⟩ (ec 56 (by decide) (by omega)) ejs rfl rfl rfl bo0 bb bo2⟩
theorem zT_row1 (hI : zLi X XL t p r h hl) {a n : Int} (ha : zr a) (hn : zr n) : zTw 87 [.inr (.inr (some 2)), .inl 1, .inl a, .inl n] 144 [.inr (.inr (some 104)), .inl 1, .inl a, .inl n] X XL t h hl := by
  have hIc := hI
  obtain ⟨x1, x2, tw, od, z38, z56, kd, kd2, st, st2, tr, tr2, b0, b1, b2, dy⟩ := hIc
  have bc := b1
  obtain ⟨k1, k2, k3, k4, k5, k6, k7, k8, k9⟩ := bc
  refine zQ_imp (p_row1 (d := 6) ha hn k3) (fun ρ σ' pc => ?_)
  unfold zHasRow at pc
  rcases pc with ⟨q, rfl, rfl⟩ | ⟨q, q2, rfl, rfl⟩ | ⟨q, q2, q3, rfl, rfl⟩ | ⟨q, q2, q3, rfl, rfl⟩ | ⟨q, q2, q3, q4, rfl, g, gl, rfl, rfl, f1, f2⟩
  · refine ⟨_, _, hl, rfl, ⟨by decide, by decide⟩, rfl, by rw [← x1]; funext q; exact zup_ne (by decide), x2, zQ_imp (p_rowO1 (hl := hl) (d := 7) rfl ha hn (zMbk_same (fun c c1 c2 => by funext q; rw [zup_ne (by omega), zup_ne (by omega)]) rfl (zBkR_M b1))) (fun r2 σ2 pm => ?_)⟩
    have k119 : (zup (zup h 2 8 (-1)) 104 0 0) 119 1 = h 119 1 ∧ (zup (zup h 2 8 (-1)) 104 0 0) 121 1 = h 121 1 := ⟨by rw [zup_ne (by decide), zup_ne (by decide)], by rw [zup_ne (by decide), zup_ne (by decide)]⟩
    rw [k119.1, k119.2] at pm
    rcases pm with ⟨w1, rfl, rfl⟩ | ⟨w1, w2, rfl, rfl⟩ | ⟨w1, w2, w3, rfl, rfl⟩ | ⟨w1, w2, w3, rfl, rfl⟩ | ⟨w1, w2, w3, w4, rfl, rfl⟩
    · exact ⟨p, r, _, hl, rfl, rfl, zLi_F hI ⟨by decide, by decide⟩⟩
    · exfalso; omega
    · exfalso; omega
    · exfalso; omega
    · exfalso; omega
  · refine ⟨_, _, hl, rfl, ⟨by decide, by decide⟩, rfl, by rw [← x1]; funext q; exact zup_ne (by decide), x2, zQ_imp (p_rowO1 (hl := hl) (d := 7) rfl ha hn (zMbk_same (fun c c1 c2 => by funext q; rw [zup_ne (by omega), zup_ne (by omega)]) rfl (zBkR_M b1))) (fun r2 σ2 pm => ?_)⟩
    have k119 : (zup (zup h 2 8 (-11)) 104 0 0) 119 1 = h 119 1 ∧ (zup (zup h 2 8 (-11)) 104 0 0) 121 1 = h 121 1 := ⟨by rw [zup_ne (by decide), zup_ne (by decide)], by rw [zup_ne (by decide), zup_ne (by decide)]⟩
    rw [k119.1, k119.2] at pm
    rcases pm with ⟨w1, rfl, rfl⟩ | ⟨w1, w2, rfl, rfl⟩ | ⟨w1, w2, w3, rfl, rfl⟩ | ⟨w1, w2, w3, rfl, rfl⟩ | ⟨w1, w2, w3, w4, rfl, rfl⟩
    · exfalso; omega
    · exact ⟨p, r, _, hl, rfl, rfl, zLi_F hI ⟨by decide, by decide⟩⟩
    · exfalso; omega
    · exfalso; omega
    · exfalso; omega
  · refine ⟨_, _, hl, rfl, ⟨by decide, by decide⟩, rfl, by rw [← x1]; funext q; exact zup_ne (by decide), x2, zQ_imp (p_rowO1 (hl := hl) (d := 7) rfl ha hn (zMbk_same (fun c c1 c2 => by funext q; rw [zup_ne (by omega), zup_ne (by omega)]) rfl (zBkR_M b1))) (fun r2 σ2 pm => ?_)⟩
    have k119 : (zup (zup h 2 8 (-12)) 104 0 0) 119 1 = h 119 1 ∧ (zup (zup h 2 8 (-12)) 104 0 0) 121 1 = h 121 1 := ⟨by rw [zup_ne (by decide), zup_ne (by decide)], by rw [zup_ne (by decide), zup_ne (by decide)]⟩
    rw [k119.1, k119.2] at pm
    rcases pm with ⟨w1, rfl, rfl⟩ | ⟨w1, w2, rfl, rfl⟩ | ⟨w1, w2, w3, rfl, rfl⟩ | ⟨w1, w2, w3, rfl, rfl⟩ | ⟨w1, w2, w3, w4, rfl, rfl⟩
    · exfalso; omega
    · exfalso; omega
    · exact ⟨p, r, _, hl, rfl, rfl, zLi_F hI ⟨by decide, by decide⟩⟩
    · exfalso; omega
    · exfalso; omega
  · refine ⟨_, _, hl, rfl, ⟨by decide, by decide⟩, rfl, by rw [← x1]; funext q; exact zup_ne (by decide), x2, zQ_imp (p_rowO1 (hl := hl) (d := 7) rfl ha hn (zMbk_same (fun c c1 c2 => by funext q; rw [zup_ne (by omega), zup_ne (by omega)]) rfl (zBkR_M b1))) (fun r2 σ2 pm => ?_)⟩
    have k119 : (zup (zup h 2 8 (-15)) 104 0 0) 119 1 = h 119 1 ∧ (zup (zup h 2 8 (-15)) 104 0 0) 121 1 = h 121 1 := ⟨by rw [zup_ne (by decide), zup_ne (by decide)], by rw [zup_ne (by decide), zup_ne (by decide)]⟩
    rw [k119.1, k119.2] at pm
    rcases pm with ⟨w1, rfl, rfl⟩ | ⟨w1, w2, rfl, rfl⟩ | ⟨w1, w2, w3, rfl, rfl⟩ | ⟨w1, w2, w3, rfl, rfl⟩ | ⟨w1, w2, w3, w4, rfl, rfl⟩
    · exfalso; omega
    · exfalso; omega
    · exfalso; omega
    · exact ⟨p, r, _, hl, rfl, rfl, zLi_F hI ⟨by decide, by decide⟩⟩
    · exfalso; omega
  · obtain ⟨R, rfl⟩ := Int.eq_ofNat_of_zero_le q2.1
    rw [Int.toNat_natCast] at f1 f2 ⊢
    refine ⟨_, _, gl, rfl, ⟨by decide, by decide⟩, rfl, by rw [← x1]; funext q; rw [zup_ne (by decide), zup_ne (by decide)], by rw [f1 1 (by omega)]; exact x2, zQ_imp (p_rowO1 (hl := gl) (d := 7) rfl ha hn (zMbk_same (fun c c1 c2 => by funext q; rw [zup_ne (by omega), zup_ne (by omega), zup_ne (by omega)]) (f1 123 (by omega)) (zBkR_M b1))) (fun r2 σ2 pm => ?_)⟩
    have k119 : (zup (zup (zup h 91 R n) 2 8 0) 104 0 0) 119 1 = h 119 1 ∧ (zup (zup (zup h 91 R n) 2 8 0) 104 0 0) 121 1 = h 121 1 := ⟨by rw [zup_ne (by decide), zup_ne (by decide), zup_ne (by decide)], by rw [zup_ne (by decide), zup_ne (by decide), zup_ne (by decide)]⟩
    rw [k119.1, k119.2, Int.toNat_natCast] at pm
    rcases pm with ⟨w1, rfl, rfl⟩ | ⟨w1, w2, rfl, rfl⟩ | ⟨w1, w2, w3, rfl, rfl⟩ | ⟨w1, w2, w3, rfl, rfl⟩ | ⟨w1, w2, w3, w4, rfl, rfl⟩
    · exfalso; omega
    · exfalso; omega
    · exfalso; omega
    · exfalso; omega
    · obtain ⟨e, ee⟩ : ∃ e, e = (zup (zup (zup (zup (zup h 91 R n) 2 8 0) 104 0 0) 104 1 0) 122 (4 + R) n) := ⟨_, rfl⟩
      rw [← ee]
      obtain ⟨e2, ee2⟩ : ∃ e2, e2 = (zup (zup (zup (zup (zup (zup (zup (zup gl 123 (32 + 8 * R + 0) 0) 123 (32 + 8 * R + 1) 0) 123 (32 + 8 * R + 2) 0) 123 (32 + 8 * R + 3) 0) 123 (32 + 8 * R + 4) 0) 123 (32 + 8 * R + 5) 0) 123 (32 + 8 * R + 6) 0) 123 (32 + 8 * R + 7) 0) := ⟨_, rfl⟩
      rw [← ee2]
      have ec : ∀ c : Nat, c ≠ 2 → c ≠ 104 → c ≠ 122 → c ≠ 91 → e c = h c := fun c h1 h2 h3 h4 => by rw [ee]; funext q; rw [zup_ne h3, zup_ne h2, zup_ne h2, zup_ne h1, zup_ne h4]
      have eZ : ∀ q : Nat, e 91 q = if q = R then n else h 91 q := fun q => by
        rw [ee, zup_ne (by decide), zup_ne (by decide), zup_ne (by decide), zup_ne (by decide)]
        by_cases w : q = R
        · rw [if_pos w, w, zup_eq]
        · rw [if_neg w, zup_k w]
      have e122R : e 122 (4 + R) = n := by rw [ee]; exact zup_eq
      have e122 : ∀ j : Nat, j ≠ 4 + R → e 122 j = h 122 j := fun j hj => by rw [ee, zup_k hj, zup_ne (by decide), zup_ne (by decide), zup_ne (by decide), zup_ne (by decide)]
      have e2c : ∀ c : Nat, c ≠ 123 → c ≠ 93 + R → e2 c = hl c := fun c h1 h2 => by rw [ee2, ← f1 c h2]; funext q; rw [zup_ne h1, zup_ne h1, zup_ne h1, zup_ne h1, zup_ne h1, zup_ne h1, zup_ne h1, zup_ne h1]
      have e2N : e2 (93 + R) = gl (93 + R) := by rw [ee2]; funext q; rw [zup_ne (by omega), zup_ne (by omega), zup_ne (by omega), zup_ne (by omega), zup_ne (by omega), zup_ne (by omega), zup_ne (by omega), zup_ne (by omega)]
      have e123R : ∀ i : Nat, i < 8 → e2 123 (32 + 8 * R + i) = 0 := fun i hi => by
        rw [ee2]
        rcases (show i = 0 ∨ i = 1 ∨ i = 2 ∨ i = 3 ∨ i = 4 ∨ i = 5 ∨ i = 6 ∨ i = 7 by omega) with rfl | rfl | rfl | rfl | rfl | rfl | rfl | rfl <;> simp [zup_at]
      have e123 : ∀ j : Nat, (j < 32 + 8 * R ∨ 32 + 8 * R + 8 ≤ j) → e2 123 j = hl 123 j := fun j hj => by rw [ee2, zup_k (by omega), zup_k (by omega), zup_k (by omega), zup_k (by omega), zup_k (by omega), zup_k (by omega), zup_k (by omega), zup_k (by omega), f1 123 (by omega)]
      have ejs : ∀ j : Nat, j ≠ 0 → j ≠ 1 → e 104 j = h 104 j := fun j h1 h2 => by rw [ee, zup_ne (by decide), zup_k h2, zup_k h1, zup_ne (by decide), zup_ne (by decide)]
      have e2s : e 2 7 = h 2 7 ∧ e 2 8 = 0 ∧ e 104 1 = 0 := by rw [ee]; simp [zup_at]
      have bo0 : zBkR e e2 0 83 84 86 := zBkR_pt (ec 83 (by decide) (by decide) (by decide) (by decide)) (ec 84 (by decide) (by decide) (by decide) (by decide)) ⟨by rw [ec 119 (by decide) (by decide) (by decide) (by decide)], by rw [ec 120 (by decide) (by decide) (by decide) (by decide)], by rw [ec 121 (by decide) (by decide) (by decide) (by decide)]⟩ (fun q hq => by rw [e122 _ (by omega)]) (fun q i hq hi => by rw [e123 _ (by omega)]) (fun q hq => e2c _ (by omega) (by omega)) b0
      have bo2 : zBkR e e2 2 97 98 100 := zBkR_pt (ec 97 (by decide) (by decide) (by decide) (by decide)) (ec 98 (by decide) (by decide) (by decide) (by decide)) ⟨by rw [ec 119 (by decide) (by decide) (by decide) (by decide)], by rw [ec 120 (by decide) (by decide) (by decide) (by decide)], by rw [ec 121 (by decide) (by decide) (by decide) (by decide)]⟩ (fun q hq => by rw [e122 _ (by omega)]) (fun q i hq hi => by rw [e123 _ (by omega)]) (fun q hq => e2c _ (by omega) (by omega)) b2
      have bb : zBkR e e2 1 90 91 93 := by
        unfold zBkR
        rw [ec 119 (by decide) (by decide) (by decide) (by decide), ec 120 (by decide) (by decide) (by decide) (by decide), ec 121 (by decide) (by decide) (by decide) (by decide), ec 90 (by decide) (by decide) (by decide) (by decide)]
        refine ⟨k1, k2, k3, k4, k5, k6, k7, fun q hq => ?_, fun q i hq hi => ?_⟩
        · rw [eZ q]
          by_cases w : q = R
          · rw [if_pos w, w]
            exact Or.inr ⟨q3, q4, e122R⟩
          · rw [if_neg w, e122 _ (by omega)]; exact k8 q hq
        · by_cases w : q = R
          · rw [w, show 32 * 1 + 8 * R + i = 32 + 8 * R + i by omega, e123R i hi, e2N, f2 i hi]
            exact ⟨rfl, by decide, by decide⟩
          · rw [e123 _ (by omega), e2c _ (by omega) (by omega)]; exact k9 q i hq hi
      exact ⟨p, r, e, e2, rfl, rfl, zLi_bk hI (fun c hc => ec c (by omega) (by omega) (by omega) (by omega)) e2s.1 ⟨by rw [e2s.2.1]; exact ⟨by decide, by decide⟩, by rw [e2s.2.2, e2s.2.1]⟩ (ec 56 (by decide) (by decide) (by decide) (by decide)) ejs (e2c 1 (by decide) (by omega)) (e2c 81 (by decide) (by omega)) (e2c 104 (by decide) (by omega)) bo0 bb bo2⟩
theorem zT_put1 (hI : zLi X XL t p r h hl) {w a i v : Int} (hw : zr w) (ha : zr a) (hi : zr i) (hv : zrl v) : zTw 88 [.inr (.inr (some 2)), .inl 1, .inl w, .inl a, .inl i, .inr (.inl v)] 146 [.inr (.inr (some 104)), .inl 1, .inl w, .inl a, .inl i, .inr (.inl v)] X XL t h hl := by
  have hIc := hI
  obtain ⟨x1, x2, tw, od, z38, z56, kd, kd2, st, st2, tr, tr2, b0, b1, b2, dy⟩ := hIc
  have bc := b1
  obtain ⟨k1, k2, k3, k4, k5, k6, k7, k8, k9⟩ := bc
  have hZq : ∀ q : Nat, q < 4 → -1 ≤ h 91 q ∧ h 91 q ≤ 8 := fun q hq => by have := k8 q hq; omega
  refine zQ_imp (p_put1 (d := 4) hw ha hi k4 k3 hZq) (fun ρ σ' pc => ?_)
  obtain ⟨x, hx, pc⟩ := pc
  have hxb := zWN_b hx
  rcases pc with ⟨q0, rfl, rfl⟩ | ⟨rfl, rfl, rfl⟩
  · refine ⟨x, _, hl, rfl, ⟨by omega, by omega⟩, rfl, by rw [← x1]; funext q; exact zup_ne (by decide), x2, zQ_imp (p_putO1 (hl := hl) (d := 6) rfl hw ha hi (zMbk_same (fun c c1 c2 => by funext q; rw [zup_ne (by omega), zup_ne (by omega)]) rfl (zBkR_M b1))) (fun r2 σ2 pm => ?_)⟩
    obtain ⟨y, hy, pm⟩ := pm
    obtain rfl := zWN_eq b1 (fun c c1 c2 => by funext q; rw [zup_ne (by omega), zup_ne (by omega)]) hx hy
    rcases pm with ⟨w0, rfl, rfl⟩ | ⟨w0, rfl, rfl⟩
    · exact ⟨p, r, _, hl, rfl, rfl, zLi_F1 hI ⟨by omega, by omega⟩⟩
    · exact absurd w0 q0
  · have ok := zWN_0 hx
    obtain ⟨R, rfl⟩ := Int.eq_ofNat_of_zero_le ok.1.1
    obtain ⟨U, rfl⟩ := Int.eq_ofNat_of_zero_le ok.2.1.1
    rw [Int.toNat_natCast] at ok
    have k8R := k8 R (by omega)
    rw [Int.toNat_natCast, Int.toNat_natCast, ok.2.2]
    obtain ⟨gl, egl⟩ : ∃ gl, gl = zup hl (93 + R) U (zNar w v) := ⟨_, rfl⟩
    rw [← egl]
    have glo : ∀ c : Nat, c ≠ 93 + R → gl c = hl c := fun c hc => by rw [egl]; funext q; exact zup_ne hc
    refine ⟨1, _, gl, rfl, ⟨by decide, by decide⟩, rfl, by rw [← x1]; funext q; exact zup_ne (by decide), by rw [glo 1 (by omega)]; exact x2, zQ_imp (p_putO1 (hl := gl) (d := 6) rfl hw ha hi (zMbk_same (fun c c1 c2 => by funext q; rw [zup_ne (by omega), zup_ne (by omega)]) (glo 123 (by omega)) (zBkR_M b1))) (fun r2 σ2 pm => ?_)⟩
    obtain ⟨y, hy, pm⟩ := pm
    obtain rfl := zWN_eq b1 (fun c c1 c2 => by funext q; rw [zup_ne (by omega), zup_ne (by omega)]) hx hy
    rcases pm with ⟨w0, rfl, rfl⟩ | ⟨w0, rfl, rfl⟩
    · exact absurd rfl w0
    · rw [Int.toNat_natCast, Int.toNat_natCast]
      obtain ⟨e, ee⟩ : ∃ e, e = zup (zup (zup h 2 8 0) 104 0 0) 104 1 0 := ⟨_, rfl⟩
      rw [← ee]
      obtain ⟨e2, ee2⟩ : ∃ e2, e2 = zup gl 123 (32 + 8 * R + U) (zNar w v) := ⟨_, rfl⟩
      rw [← ee2]
      have ec : ∀ c : Nat, c ≠ 2 → c ≠ 104 → e c = h c := fun c h1 h2 => by rw [ee]; funext q; rw [zup_ne h2, zup_ne h2, zup_ne h1]
      have e2c : ∀ c : Nat, c ≠ 123 → c ≠ 93 + R → e2 c = hl c := fun c h1 h2 => by rw [ee2, ← glo c h2]; funext q; exact zup_ne h1
      have e2N : ∀ j : Nat, e2 (93 + R) j = if j = U then zNar w v else hl (93 + R) j := fun j => by
        rw [ee2, zup_ne (by omega), egl]
        by_cases z : j = U
        · rw [if_pos z, z, zup_eq]
        · rw [if_neg z, zup_k z]
      have e123 : ∀ j : Nat, e2 123 j = if j = 32 + 8 * R + U then zNar w v else hl 123 j := fun j => by
        rw [ee2]
        by_cases z : j = 32 + 8 * R + U
        · rw [if_pos z, z, zup_eq]
        · rw [if_neg z, zup_k z, glo 123 (by omega)]
      have ejs : ∀ j : Nat, j ≠ 0 → j ≠ 1 → e 104 j = h 104 j := fun j h1 h2 => by rw [ee, zup_k h2, zup_k h1, zup_ne (by decide)]
      have e2s : e 2 7 = h 2 7 ∧ e 2 8 = 0 ∧ e 104 1 = 0 := by rw [ee]; simp [zup_at]
      have bo0 : zBkR e e2 0 83 84 86 := zBkR_pt (ec 83 (by decide) (by decide)) (ec 84 (by decide) (by decide)) ⟨by rw [ec 119 (by decide) (by decide)], by rw [ec 120 (by decide) (by decide)], by rw [ec 121 (by decide) (by decide)]⟩ (fun q hq => by rw [ec 122 (by decide) (by decide)]) (fun q i hq hi => by rw [e123, if_neg (by omega)]) (fun q hq => e2c _ (by omega) (by omega)) b0
      have bo2 : zBkR e e2 2 97 98 100 := zBkR_pt (ec 97 (by decide) (by decide)) (ec 98 (by decide) (by decide)) ⟨by rw [ec 119 (by decide) (by decide)], by rw [ec 120 (by decide) (by decide)], by rw [ec 121 (by decide) (by decide)]⟩ (fun q hq => by rw [ec 122 (by decide) (by decide)]) (fun q i hq hi => by rw [e123, if_neg (by omega)]) (fun q hq => e2c _ (by omega) (by omega)) b2
      have bb : zBkR e e2 1 90 91 93 := by
        unfold zBkR
        rw [ec 119 (by decide) (by decide), ec 120 (by decide) (by decide), ec 121 (by decide) (by decide), ec 122 (by decide) (by decide), ec 90 (by decide) (by decide), ec 91 (by decide) (by decide)]
        refine ⟨k1, k2, k3, k4, k5, k6, k7, k8, fun q i hq hi => ?_⟩
        rw [e123]
        by_cases z : q = R
        · rw [z, e2N]
          by_cases z2 : i = U
          · rw [if_pos (by omega), if_pos z2]; exact ⟨rfl, zNar_z hv⟩
          · rw [if_neg (by omega), if_neg z2]; exact k9 R i (by omega) hi
        · rw [if_neg (by omega), e2c _ (by omega) (by omega)]; exact k9 q i hq hi
      exact ⟨p, r, e, e2, rfl, rfl, zLi_bk hI (fun c hc => ec c (by omega) (by omega)) e2s.1 ⟨by rw [e2s.2.1]; exact ⟨by decide, by decide⟩, by rw [e2s.2.2, e2s.2.1]⟩ (ec 56 (by decide) (by decide)) ejs (e2c 1 (by decide) (by omega)) (e2c 81 (by decide) (by omega)) (e2c 104 (by decide) (by omega)) bo0 bb bo2⟩
theorem zT_item1 (hI : zLi X XL t p r h hl) {w a i : Int} (hw : zr w) (ha : zr a) (hi : zr i) : zTwl 89 [.inr (.inr (some 2)), .inl 1, .inl w, .inl a, .inl i] 147 [.inr (.inr (some 104)), .inl 1, .inl w, .inl a, .inl i] X XL t h hl := by
  have hIc := hI
  obtain ⟨x1, x2, tw, od, z38, z56, kd, kd2, st, st2, tr, tr2, b0, b1, b2, dy⟩ := hIc
  have bc := b1
  obtain ⟨k1, k2, k3, k4, k5, k6, k7, k8, k9⟩ := bc
  have hZq : ∀ q : Nat, q < 4 → -1 ≤ h 91 q ∧ h 91 q ≤ 8 := fun q hq => by have := k8 q hq; omega
  refine zQ_imp (p_item1 (d := 4) hw ha hi k4 k3 hZq) (fun ρ σ' pc => ?_)
  obtain ⟨x, hx, pc⟩ := pc
  have hxb := zWN_b hx
  rcases pc with ⟨q0, rfl, rfl⟩ | ⟨rfl, rfl, rfl⟩
  · refine ⟨0, _, hl, rfl, ⟨by decide, by decide⟩, rfl, by rw [← x1]; funext q; exact zup_ne (by decide), x2, zQ_imp (p_itemO1 (hl := hl) (d := 6) rfl hw ha hi (zMbk_same (fun c c1 c2 => by funext q; rw [zup_ne (by omega), zup_ne (by omega)]) rfl (zBkR_M b1))) (fun r2 σ2 pm => ?_)⟩
    obtain ⟨y, hy, pm⟩ := pm
    obtain rfl := zWN_eq b1 (fun c c1 c2 => by funext q; rw [zup_ne (by omega), zup_ne (by omega)]) hx hy
    rcases pm with ⟨w0, rfl, rfl⟩ | ⟨w0, rfl, rfl⟩
    · exact ⟨p, r, _, hl, rfl, rfl, zLi_F1 hI ⟨by omega, by omega⟩⟩
    · exact absurd w0 q0
  · have ok := zWN_0 hx
    obtain ⟨R, rfl⟩ := Int.eq_ofNat_of_zero_le ok.1.1
    obtain ⟨U, rfl⟩ := Int.eq_ofNat_of_zero_le ok.2.1.1
    rw [Int.toNat_natCast] at ok
    have k8R := k8 R (by omega)
    have k9R := k9 R U (by omega) (by omega)
    rw [Int.toNat_natCast, Int.toNat_natCast]
    refine ⟨_, _, hl, rfl, k9R.2, rfl, by rw [← x1]; funext q; exact zup_ne (by decide), x2, zQ_imp (p_itemO1 (hl := hl) (d := 6) rfl hw ha hi (zMbk_same (fun c c1 c2 => by funext q; rw [zup_ne (by omega), zup_ne (by omega)]) rfl (zBkR_M b1))) (fun r2 σ2 pm => ?_)⟩
    obtain ⟨y, hy, pm⟩ := pm
    obtain rfl := zWN_eq b1 (fun c c1 c2 => by funext q; rw [zup_ne (by omega), zup_ne (by omega)]) hx hy
    rcases pm with ⟨w0, rfl, rfl⟩ | ⟨w0, rfl, rfl⟩
    · exact absurd rfl w0
    · rw [Int.toNat_natCast, Int.toNat_natCast]
      exact ⟨p, r, _, hl, by rw [show hl 123 (32 + 8 * R + U) = hl (93 + R) U from k9R.1], rfl, zLi_F1 hI ⟨by decide, by decide⟩⟩
theorem zT_book2 (hI : zLi X XL t p r h hl) {w n : Int} (hw : zr w) (hn : zr n) : zTw 86 [.inr (.inr (some 2)), .inl 2, .inl w, .inl n] 143 [.inr (.inr (some 104)), .inl 2, .inl w, .inl n] X XL t h hl := by
  have hIc := hI
  obtain ⟨x1, x2, tw, od, z38, z56, kd, kd2, st, st2, tr, tr2, b0, b1, b2, dy⟩ := hIc
  refine zQ_imp (p_book2 (d := 7) hw hn) (fun ρ σ' pc => ?_)
  rcases pc with ⟨q, rfl, rfl⟩ | ⟨q, q2, rfl, rfl⟩ | ⟨q, q2, rfl, f, rfl, fo, f0, f1, fz⟩
  · refine ⟨_, _, hl, rfl, ⟨by decide, by decide⟩, rfl, by rw [← x1]; funext q; exact zup_ne (by decide), x2, zQ_imp (p_bookO2 (hl := hl) (d := 7) rfl hw hn) (fun r2 σ2 pm => ?_)⟩
    rcases pm with ⟨w1, rfl, rfl⟩ | ⟨w1, w2, rfl, rfl⟩ | ⟨w1, w2, rfl, rfl⟩
    · exact ⟨p, r, _, hl, rfl, rfl, zLi_F hI ⟨by decide, by decide⟩⟩
    · exfalso; omega
    · exfalso; omega
  · refine ⟨_, _, hl, rfl, ⟨by decide, by decide⟩, rfl, by rw [← x1]; funext q; exact zup_ne (by decide), x2, zQ_imp (p_bookO2 (hl := hl) (d := 7) rfl hw hn) (fun r2 σ2 pm => ?_)⟩
    rcases pm with ⟨w1, rfl, rfl⟩ | ⟨w1, w2, rfl, rfl⟩ | ⟨w1, w2, rfl, rfl⟩
    · exfalso; omega
    · exact ⟨p, r, _, hl, rfl, rfl, zLi_F hI ⟨by decide, by decide⟩⟩
    · exfalso; omega
  · refine ⟨_, _, hl, rfl, ⟨by decide, by decide⟩, rfl, by rw [← x1, ← fo 1 (by decide) (by decide)]; funext q; exact zup_ne (by decide), x2, zQ_imp (p_bookO2 (hl := hl) (d := 7) rfl hw hn) (fun r2 σ2 pm => ?_)⟩
    rcases pm with ⟨w1, rfl, rfl⟩ | ⟨w1, w2, rfl, rfl⟩ | ⟨w1, w2, rfl, rfl⟩
    · exfalso; omega
    · exfalso; omega
    · obtain ⟨e, ee⟩ : ∃ e, e = (zup (zup (zup (zup (zup (zup (zup (zup (zup (zup f 2 8 0) 104 0 0) 104 1 0) 119 2 1) 120 2 w) 121 2 n) 122 8 (-9)) 122 9 (-9)) 122 10 (-9)) 122 11 (-9)) := ⟨_, rfl⟩
      rw [← ee]
      have ec : ∀ c : Nat, c ≠ 2 → ((c ≠ 104 ∧ c < 119) ∨ 122 < c) → c ≠ 97 → c ≠ 98 → e c = h c := fun c h1 h2 h3 h4 => by rw [ee, ← fo c h3 h4]; funext q; rw [zup_ne (by omega), zup_ne (by omega), zup_ne (by omega), zup_ne (by omega), zup_ne (by omega), zup_ne (by omega), zup_ne (by omega), zup_ne (by omega), zup_ne (by omega), zup_ne (by omega)]
      have ec : ∀ c : Nat, c ≠ 2 → ((c ≠ 104 ∧ c < 119) ∨ 122 < c) ∧ c ≠ 97 ∧ c ≠ 98 → e c = h c := fun c h1 h2 => ec c h1 h2.1 h2.2.1 h2.2.2
      have bo0 : zBkR e hl 0 83 84 86 := zBkR_pt (ec 83 (by decide) (by omega)) (ec 84 (by decide) (by omega)) ⟨by rw [ee]; simp only [zup_at]; simp [fo 119 (by decide) (by decide)], by rw [ee]; simp only [zup_at]; simp [fo 120 (by decide) (by decide)], by rw [ee]; simp only [zup_at]; simp [fo 121 (by decide) (by decide)]⟩ (fun q hq => by rw [ee, zup_k (by omega), zup_k (by omega), zup_k (by omega), zup_k (by omega), zup_ne (by decide), zup_ne (by decide), zup_ne (by decide), zup_ne (by decide), zup_ne (by decide), zup_ne (by decide), fo 122 (by decide) (by decide)]) (fun _ _ _ _ => rfl) (fun _ _ => rfl) b0
      have bo1 : zBkR e hl 1 90 91 93 := zBkR_pt (ec 90 (by decide) (by omega)) (ec 91 (by decide) (by omega)) ⟨by rw [ee]; simp only [zup_at]; simp [fo 119 (by decide) (by decide)], by rw [ee]; simp only [zup_at]; simp [fo 120 (by decide) (by decide)], by rw [ee]; simp only [zup_at]; simp [fo 121 (by decide) (by decide)]⟩ (fun q hq => by rw [ee, zup_k (by omega), zup_k (by omega), zup_k (by omega), zup_k (by omega), zup_ne (by decide), zup_ne (by decide), zup_ne (by decide), zup_ne (by decide), zup_ne (by decide), zup_ne (by decide), fo 122 (by decide) (by decide)]) (fun _ _ _ _ => rfl) (fun _ _ => rfl) b1
      have eB : e 97 = f 97 ∧ e 98 = f 98 := by constructor <;> (rw [ee]; funext q; rw [zup_ne (by decide), zup_ne (by decide), zup_ne (by decide), zup_ne (by decide), zup_ne (by decide), zup_ne (by decide), zup_ne (by decide), zup_ne (by decide), zup_ne (by decide), zup_ne (by decide)])
      have e119 : e 119 2 = 1 ∧ e 120 2 = w ∧ e 121 2 = n := by rw [ee]; simp [zup_at]
      have e122 : ∀ q : Nat, q < 4 → e 122 (4 * 2 + q) = -9 := fun q hq => by rw [ee]; rcases (show q = 0 ∨ q = 1 ∨ q = 2 ∨ q = 3 by omega) with rfl | rfl | rfl | rfl <;> simp [zup_at]
      have ejs : ∀ j : Nat, j ≠ 0 → j ≠ 1 → e 104 j = h 104 j := fun j h1 h2 => by rw [ee, zup_ne (by decide), zup_ne (by decide), zup_ne (by decide), zup_ne (by decide), zup_ne (by decide), zup_ne (by decide), zup_ne (by decide), zup_k h2, zup_k h1, zup_ne (by decide), fo 104 (by decide) (by decide)]
      have e2s : e 2 7 = h 2 7 ∧ e 2 8 = 0 ∧ e 104 1 = 0 := by rw [ee, ← fo 2 (by decide) (by decide)]; simp [zup_at]
      have bb : zBkR e hl 2 97 98 100 := by
        unfold zBkR
        rw [eB.1, eB.2, e119.1, e119.2.1, e119.2.2, f0, f1]
        exact ⟨Or.inr rfl, by omega, by omega, by omega, by omega, by omega, fun _ => ⟨rfl, rfl⟩, fun q hq => Or.inl ⟨fz q hq, e122 q hq⟩, b2.2.2.2.2.2.2.2.2⟩
      exact ⟨p, r, e, hl, rfl, rfl, zLi_bk hI (fun c hc => ec c (by omega) (by omega)) e2s.1 ⟨by rw [e2s.2.1]; exact ⟨by decide, by decide⟩, by rw [e2s.2.2, e2s.2.1]⟩ (ec 56 (by decide) (by omega)) ejs rfl rfl rfl bo0 bo1 bb⟩
theorem zT_row2 (hI : zLi X XL t p r h hl) {a n : Int} (ha : zr a) (hn : zr n) : zTw 87 [.inr (.inr (some 2)), .inl 2, .inl a, .inl n] 144 [.inr (.inr (some 104)), .inl 2, .inl a, .inl n] X XL t h hl := by
  have hIc := hI
  obtain ⟨x1, x2, tw, od, z38, z56, kd, kd2, st, st2, tr, tr2, b0, b1, b2, dy⟩ := hIc
  have bc := b2
  obtain ⟨k1, k2, k3, k4, k5, k6, k7, k8, k9⟩ := bc
  refine zQ_imp (p_row2 (d := 6) ha hn k3) (fun ρ σ' pc => ?_)
  unfold zHasRow at pc
  rcases pc with ⟨q, rfl, rfl⟩ | ⟨q, q2, rfl, rfl⟩ | ⟨q, q2, q3, rfl, rfl⟩ | ⟨q, q2, q3, rfl, rfl⟩ | ⟨q, q2, q3, q4, rfl, g, gl, rfl, rfl, f1, f2⟩
  · refine ⟨_, _, hl, rfl, ⟨by decide, by decide⟩, rfl, by rw [← x1]; funext q; exact zup_ne (by decide), x2, zQ_imp (p_rowO2 (hl := hl) (d := 7) rfl ha hn (zMbk_same (fun c c1 c2 => by funext q; rw [zup_ne (by omega), zup_ne (by omega)]) rfl (zBkR_M b2))) (fun r2 σ2 pm => ?_)⟩
    have k119 : (zup (zup h 2 8 (-1)) 104 0 0) 119 2 = h 119 2 ∧ (zup (zup h 2 8 (-1)) 104 0 0) 121 2 = h 121 2 := ⟨by rw [zup_ne (by decide), zup_ne (by decide)], by rw [zup_ne (by decide), zup_ne (by decide)]⟩
    rw [k119.1, k119.2] at pm
    rcases pm with ⟨w1, rfl, rfl⟩ | ⟨w1, w2, rfl, rfl⟩ | ⟨w1, w2, w3, rfl, rfl⟩ | ⟨w1, w2, w3, rfl, rfl⟩ | ⟨w1, w2, w3, w4, rfl, rfl⟩
    · exact ⟨p, r, _, hl, rfl, rfl, zLi_F hI ⟨by decide, by decide⟩⟩
    · exfalso; omega
    · exfalso; omega
    · exfalso; omega
    · exfalso; omega
  · refine ⟨_, _, hl, rfl, ⟨by decide, by decide⟩, rfl, by rw [← x1]; funext q; exact zup_ne (by decide), x2, zQ_imp (p_rowO2 (hl := hl) (d := 7) rfl ha hn (zMbk_same (fun c c1 c2 => by funext q; rw [zup_ne (by omega), zup_ne (by omega)]) rfl (zBkR_M b2))) (fun r2 σ2 pm => ?_)⟩
    have k119 : (zup (zup h 2 8 (-11)) 104 0 0) 119 2 = h 119 2 ∧ (zup (zup h 2 8 (-11)) 104 0 0) 121 2 = h 121 2 := ⟨by rw [zup_ne (by decide), zup_ne (by decide)], by rw [zup_ne (by decide), zup_ne (by decide)]⟩
    rw [k119.1, k119.2] at pm
    rcases pm with ⟨w1, rfl, rfl⟩ | ⟨w1, w2, rfl, rfl⟩ | ⟨w1, w2, w3, rfl, rfl⟩ | ⟨w1, w2, w3, rfl, rfl⟩ | ⟨w1, w2, w3, w4, rfl, rfl⟩
    · exfalso; omega
    · exact ⟨p, r, _, hl, rfl, rfl, zLi_F hI ⟨by decide, by decide⟩⟩
    · exfalso; omega
    · exfalso; omega
    · exfalso; omega
  · refine ⟨_, _, hl, rfl, ⟨by decide, by decide⟩, rfl, by rw [← x1]; funext q; exact zup_ne (by decide), x2, zQ_imp (p_rowO2 (hl := hl) (d := 7) rfl ha hn (zMbk_same (fun c c1 c2 => by funext q; rw [zup_ne (by omega), zup_ne (by omega)]) rfl (zBkR_M b2))) (fun r2 σ2 pm => ?_)⟩
    have k119 : (zup (zup h 2 8 (-12)) 104 0 0) 119 2 = h 119 2 ∧ (zup (zup h 2 8 (-12)) 104 0 0) 121 2 = h 121 2 := ⟨by rw [zup_ne (by decide), zup_ne (by decide)], by rw [zup_ne (by decide), zup_ne (by decide)]⟩
    rw [k119.1, k119.2] at pm
    rcases pm with ⟨w1, rfl, rfl⟩ | ⟨w1, w2, rfl, rfl⟩ | ⟨w1, w2, w3, rfl, rfl⟩ | ⟨w1, w2, w3, rfl, rfl⟩ | ⟨w1, w2, w3, w4, rfl, rfl⟩
    · exfalso; omega
    · exfalso; omega
    · exact ⟨p, r, _, hl, rfl, rfl, zLi_F hI ⟨by decide, by decide⟩⟩
    · exfalso; omega
    · exfalso; omega
  · refine ⟨_, _, hl, rfl, ⟨by decide, by decide⟩, rfl, by rw [← x1]; funext q; exact zup_ne (by decide), x2, zQ_imp (p_rowO2 (hl := hl) (d := 7) rfl ha hn (zMbk_same (fun c c1 c2 => by funext q; rw [zup_ne (by omega), zup_ne (by omega)]) rfl (zBkR_M b2))) (fun r2 σ2 pm => ?_)⟩
    have k119 : (zup (zup h 2 8 (-15)) 104 0 0) 119 2 = h 119 2 ∧ (zup (zup h 2 8 (-15)) 104 0 0) 121 2 = h 121 2 := ⟨by rw [zup_ne (by decide), zup_ne (by decide)], by rw [zup_ne (by decide), zup_ne (by decide)]⟩
    rw [k119.1, k119.2] at pm
    rcases pm with ⟨w1, rfl, rfl⟩ | ⟨w1, w2, rfl, rfl⟩ | ⟨w1, w2, w3, rfl, rfl⟩ | ⟨w1, w2, w3, rfl, rfl⟩ | ⟨w1, w2, w3, w4, rfl, rfl⟩
    · exfalso; omega
    · exfalso; omega
    · exfalso; omega
    · exact ⟨p, r, _, hl, rfl, rfl, zLi_F hI ⟨by decide, by decide⟩⟩
    · exfalso; omega
  · obtain ⟨R, rfl⟩ := Int.eq_ofNat_of_zero_le q2.1
    rw [Int.toNat_natCast] at f1 f2 ⊢
    refine ⟨_, _, gl, rfl, ⟨by decide, by decide⟩, rfl, by rw [← x1]; funext q; rw [zup_ne (by decide), zup_ne (by decide)], by rw [f1 1 (by omega)]; exact x2, zQ_imp (p_rowO2 (hl := gl) (d := 7) rfl ha hn (zMbk_same (fun c c1 c2 => by funext q; rw [zup_ne (by omega), zup_ne (by omega), zup_ne (by omega)]) (f1 123 (by omega)) (zBkR_M b2))) (fun r2 σ2 pm => ?_)⟩
    have k119 : (zup (zup (zup h 98 R n) 2 8 0) 104 0 0) 119 2 = h 119 2 ∧ (zup (zup (zup h 98 R n) 2 8 0) 104 0 0) 121 2 = h 121 2 := ⟨by rw [zup_ne (by decide), zup_ne (by decide), zup_ne (by decide)], by rw [zup_ne (by decide), zup_ne (by decide), zup_ne (by decide)]⟩
    rw [k119.1, k119.2, Int.toNat_natCast] at pm
    rcases pm with ⟨w1, rfl, rfl⟩ | ⟨w1, w2, rfl, rfl⟩ | ⟨w1, w2, w3, rfl, rfl⟩ | ⟨w1, w2, w3, rfl, rfl⟩ | ⟨w1, w2, w3, w4, rfl, rfl⟩
    · exfalso; omega
    · exfalso; omega
    · exfalso; omega
    · exfalso; omega
    · obtain ⟨e, ee⟩ : ∃ e, e = (zup (zup (zup (zup (zup h 98 R n) 2 8 0) 104 0 0) 104 1 0) 122 (8 + R) n) := ⟨_, rfl⟩
      rw [← ee]
      obtain ⟨e2, ee2⟩ : ∃ e2, e2 = (zup (zup (zup (zup (zup (zup (zup (zup gl 123 (64 + 8 * R + 0) 0) 123 (64 + 8 * R + 1) 0) 123 (64 + 8 * R + 2) 0) 123 (64 + 8 * R + 3) 0) 123 (64 + 8 * R + 4) 0) 123 (64 + 8 * R + 5) 0) 123 (64 + 8 * R + 6) 0) 123 (64 + 8 * R + 7) 0) := ⟨_, rfl⟩
      rw [← ee2]
      have ec : ∀ c : Nat, c ≠ 2 → c ≠ 104 → c ≠ 122 → c ≠ 98 → e c = h c := fun c h1 h2 h3 h4 => by rw [ee]; funext q; rw [zup_ne h3, zup_ne h2, zup_ne h2, zup_ne h1, zup_ne h4]
      have eZ : ∀ q : Nat, e 98 q = if q = R then n else h 98 q := fun q => by
        rw [ee, zup_ne (by decide), zup_ne (by decide), zup_ne (by decide), zup_ne (by decide)]
        by_cases w : q = R
        · rw [if_pos w, w, zup_eq]
        · rw [if_neg w, zup_k w]
      have e122R : e 122 (8 + R) = n := by rw [ee]; exact zup_eq
      have e122 : ∀ j : Nat, j ≠ 8 + R → e 122 j = h 122 j := fun j hj => by rw [ee, zup_k hj, zup_ne (by decide), zup_ne (by decide), zup_ne (by decide), zup_ne (by decide)]
      have e2c : ∀ c : Nat, c ≠ 123 → c ≠ 100 + R → e2 c = hl c := fun c h1 h2 => by rw [ee2, ← f1 c h2]; funext q; rw [zup_ne h1, zup_ne h1, zup_ne h1, zup_ne h1, zup_ne h1, zup_ne h1, zup_ne h1, zup_ne h1]
      have e2N : e2 (100 + R) = gl (100 + R) := by rw [ee2]; funext q; rw [zup_ne (by omega), zup_ne (by omega), zup_ne (by omega), zup_ne (by omega), zup_ne (by omega), zup_ne (by omega), zup_ne (by omega), zup_ne (by omega)]
      have e123R : ∀ i : Nat, i < 8 → e2 123 (64 + 8 * R + i) = 0 := fun i hi => by
        rw [ee2]
        rcases (show i = 0 ∨ i = 1 ∨ i = 2 ∨ i = 3 ∨ i = 4 ∨ i = 5 ∨ i = 6 ∨ i = 7 by omega) with rfl | rfl | rfl | rfl | rfl | rfl | rfl | rfl <;> simp [zup_at]
      have e123 : ∀ j : Nat, (j < 64 + 8 * R ∨ 64 + 8 * R + 8 ≤ j) → e2 123 j = hl 123 j := fun j hj => by rw [ee2, zup_k (by omega), zup_k (by omega), zup_k (by omega), zup_k (by omega), zup_k (by omega), zup_k (by omega), zup_k (by omega), zup_k (by omega), f1 123 (by omega)]
      have ejs : ∀ j : Nat, j ≠ 0 → j ≠ 1 → e 104 j = h 104 j := fun j h1 h2 => by rw [ee, zup_ne (by decide), zup_k h2, zup_k h1, zup_ne (by decide), zup_ne (by decide)]
      have e2s : e 2 7 = h 2 7 ∧ e 2 8 = 0 ∧ e 104 1 = 0 := by rw [ee]; simp [zup_at]
      have bo0 : zBkR e e2 0 83 84 86 := zBkR_pt (ec 83 (by decide) (by decide) (by decide) (by decide)) (ec 84 (by decide) (by decide) (by decide) (by decide)) ⟨by rw [ec 119 (by decide) (by decide) (by decide) (by decide)], by rw [ec 120 (by decide) (by decide) (by decide) (by decide)], by rw [ec 121 (by decide) (by decide) (by decide) (by decide)]⟩ (fun q hq => by rw [e122 _ (by omega)]) (fun q i hq hi => by rw [e123 _ (by omega)]) (fun q hq => e2c _ (by omega) (by omega)) b0
      have bo1 : zBkR e e2 1 90 91 93 := zBkR_pt (ec 90 (by decide) (by decide) (by decide) (by decide)) (ec 91 (by decide) (by decide) (by decide) (by decide)) ⟨by rw [ec 119 (by decide) (by decide) (by decide) (by decide)], by rw [ec 120 (by decide) (by decide) (by decide) (by decide)], by rw [ec 121 (by decide) (by decide) (by decide) (by decide)]⟩ (fun q hq => by rw [e122 _ (by omega)]) (fun q i hq hi => by rw [e123 _ (by omega)]) (fun q hq => e2c _ (by omega) (by omega)) b1
      have bb : zBkR e e2 2 97 98 100 := by
        unfold zBkR
        rw [ec 119 (by decide) (by decide) (by decide) (by decide), ec 120 (by decide) (by decide) (by decide) (by decide), ec 121 (by decide) (by decide) (by decide) (by decide), ec 97 (by decide) (by decide) (by decide) (by decide)]
        refine ⟨k1, k2, k3, k4, k5, k6, k7, fun q hq => ?_, fun q i hq hi => ?_⟩
        · rw [eZ q]
          by_cases w : q = R
          · rw [if_pos w, w]
            exact Or.inr ⟨q3, q4, e122R⟩
          · rw [if_neg w, e122 _ (by omega)]; exact k8 q hq
        · by_cases w : q = R
          · rw [w, show 32 * 2 + 8 * R + i = 64 + 8 * R + i by omega, e123R i hi, e2N, f2 i hi]
            exact ⟨rfl, by decide, by decide⟩
          · rw [e123 _ (by omega), e2c _ (by omega) (by omega)]; exact k9 q i hq hi
      exact ⟨p, r, e, e2, rfl, rfl, zLi_bk hI (fun c hc => ec c (by omega) (by omega) (by omega) (by omega)) e2s.1 ⟨by rw [e2s.2.1]; exact ⟨by decide, by decide⟩, by rw [e2s.2.2, e2s.2.1]⟩ (ec 56 (by decide) (by decide) (by decide) (by decide)) ejs (e2c 1 (by decide) (by omega)) (e2c 81 (by decide) (by omega)) (e2c 104 (by decide) (by omega)) bo0 bo1 bb⟩
theorem zT_put2 (hI : zLi X XL t p r h hl) {w a i v : Int} (hw : zr w) (ha : zr a) (hi : zr i) (hv : zrl v) : zTw 88 [.inr (.inr (some 2)), .inl 2, .inl w, .inl a, .inl i, .inr (.inl v)] 146 [.inr (.inr (some 104)), .inl 2, .inl w, .inl a, .inl i, .inr (.inl v)] X XL t h hl := by
  have hIc := hI
  obtain ⟨x1, x2, tw, od, z38, z56, kd, kd2, st, st2, tr, tr2, b0, b1, b2, dy⟩ := hIc
  have bc := b2
  obtain ⟨k1, k2, k3, k4, k5, k6, k7, k8, k9⟩ := bc
  have hZq : ∀ q : Nat, q < 4 → -1 ≤ h 98 q ∧ h 98 q ≤ 8 := fun q hq => by have := k8 q hq; omega
  refine zQ_imp (p_put2 (d := 4) hw ha hi k4 k3 hZq) (fun ρ σ' pc => ?_)
  obtain ⟨x, hx, pc⟩ := pc
  have hxb := zWN_b hx
  rcases pc with ⟨q0, rfl, rfl⟩ | ⟨rfl, rfl, rfl⟩
  · refine ⟨x, _, hl, rfl, ⟨by omega, by omega⟩, rfl, by rw [← x1]; funext q; exact zup_ne (by decide), x2, zQ_imp (p_putO2 (hl := hl) (d := 6) rfl hw ha hi (zMbk_same (fun c c1 c2 => by funext q; rw [zup_ne (by omega), zup_ne (by omega)]) rfl (zBkR_M b2))) (fun r2 σ2 pm => ?_)⟩
    obtain ⟨y, hy, pm⟩ := pm
    obtain rfl := zWN_eq b2 (fun c c1 c2 => by funext q; rw [zup_ne (by omega), zup_ne (by omega)]) hx hy
    rcases pm with ⟨w0, rfl, rfl⟩ | ⟨w0, rfl, rfl⟩
    · exact ⟨p, r, _, hl, rfl, rfl, zLi_F1 hI ⟨by omega, by omega⟩⟩
    · exact absurd w0 q0
  · have ok := zWN_0 hx
    obtain ⟨R, rfl⟩ := Int.eq_ofNat_of_zero_le ok.1.1
    obtain ⟨U, rfl⟩ := Int.eq_ofNat_of_zero_le ok.2.1.1
    rw [Int.toNat_natCast] at ok
    have k8R := k8 R (by omega)
    rw [Int.toNat_natCast, Int.toNat_natCast, ok.2.2]
    obtain ⟨gl, egl⟩ : ∃ gl, gl = zup hl (100 + R) U (zNar w v) := ⟨_, rfl⟩
    rw [← egl]
    have glo : ∀ c : Nat, c ≠ 100 + R → gl c = hl c := fun c hc => by rw [egl]; funext q; exact zup_ne hc
    refine ⟨1, _, gl, rfl, ⟨by decide, by decide⟩, rfl, by rw [← x1]; funext q; exact zup_ne (by decide), by rw [glo 1 (by omega)]; exact x2, zQ_imp (p_putO2 (hl := gl) (d := 6) rfl hw ha hi (zMbk_same (fun c c1 c2 => by funext q; rw [zup_ne (by omega), zup_ne (by omega)]) (glo 123 (by omega)) (zBkR_M b2))) (fun r2 σ2 pm => ?_)⟩
    obtain ⟨y, hy, pm⟩ := pm
    obtain rfl := zWN_eq b2 (fun c c1 c2 => by funext q; rw [zup_ne (by omega), zup_ne (by omega)]) hx hy
    rcases pm with ⟨w0, rfl, rfl⟩ | ⟨w0, rfl, rfl⟩
    · exact absurd rfl w0
    · rw [Int.toNat_natCast, Int.toNat_natCast]
      obtain ⟨e, ee⟩ : ∃ e, e = zup (zup (zup h 2 8 0) 104 0 0) 104 1 0 := ⟨_, rfl⟩
      rw [← ee]
      obtain ⟨e2, ee2⟩ : ∃ e2, e2 = zup gl 123 (64 + 8 * R + U) (zNar w v) := ⟨_, rfl⟩
      rw [← ee2]
      have ec : ∀ c : Nat, c ≠ 2 → c ≠ 104 → e c = h c := fun c h1 h2 => by rw [ee]; funext q; rw [zup_ne h2, zup_ne h2, zup_ne h1]
      have e2c : ∀ c : Nat, c ≠ 123 → c ≠ 100 + R → e2 c = hl c := fun c h1 h2 => by rw [ee2, ← glo c h2]; funext q; exact zup_ne h1
      have e2N : ∀ j : Nat, e2 (100 + R) j = if j = U then zNar w v else hl (100 + R) j := fun j => by
        rw [ee2, zup_ne (by omega), egl]
        by_cases z : j = U
        · rw [if_pos z, z, zup_eq]
        · rw [if_neg z, zup_k z]
      have e123 : ∀ j : Nat, e2 123 j = if j = 64 + 8 * R + U then zNar w v else hl 123 j := fun j => by
        rw [ee2]
        by_cases z : j = 64 + 8 * R + U
        · rw [if_pos z, z, zup_eq]
        · rw [if_neg z, zup_k z, glo 123 (by omega)]
      have ejs : ∀ j : Nat, j ≠ 0 → j ≠ 1 → e 104 j = h 104 j := fun j h1 h2 => by rw [ee, zup_k h2, zup_k h1, zup_ne (by decide)]
      have e2s : e 2 7 = h 2 7 ∧ e 2 8 = 0 ∧ e 104 1 = 0 := by rw [ee]; simp [zup_at]
      have bo0 : zBkR e e2 0 83 84 86 := zBkR_pt (ec 83 (by decide) (by decide)) (ec 84 (by decide) (by decide)) ⟨by rw [ec 119 (by decide) (by decide)], by rw [ec 120 (by decide) (by decide)], by rw [ec 121 (by decide) (by decide)]⟩ (fun q hq => by rw [ec 122 (by decide) (by decide)]) (fun q i hq hi => by rw [e123, if_neg (by omega)]) (fun q hq => e2c _ (by omega) (by omega)) b0
      have bo1 : zBkR e e2 1 90 91 93 := zBkR_pt (ec 90 (by decide) (by decide)) (ec 91 (by decide) (by decide)) ⟨by rw [ec 119 (by decide) (by decide)], by rw [ec 120 (by decide) (by decide)], by rw [ec 121 (by decide) (by decide)]⟩ (fun q hq => by rw [ec 122 (by decide) (by decide)]) (fun q i hq hi => by rw [e123, if_neg (by omega)]) (fun q hq => e2c _ (by omega) (by omega)) b1
      have bb : zBkR e e2 2 97 98 100 := by
        unfold zBkR
        rw [ec 119 (by decide) (by decide), ec 120 (by decide) (by decide), ec 121 (by decide) (by decide), ec 122 (by decide) (by decide), ec 97 (by decide) (by decide), ec 98 (by decide) (by decide)]
        refine ⟨k1, k2, k3, k4, k5, k6, k7, k8, fun q i hq hi => ?_⟩
        rw [e123]
        by_cases z : q = R
        · rw [z, e2N]
          by_cases z2 : i = U
          · rw [if_pos (by omega), if_pos z2]; exact ⟨rfl, zNar_z hv⟩
          · rw [if_neg (by omega), if_neg z2]; exact k9 R i (by omega) hi
        · rw [if_neg (by omega), e2c _ (by omega) (by omega)]; exact k9 q i hq hi
      exact ⟨p, r, e, e2, rfl, rfl, zLi_bk hI (fun c hc => ec c (by omega) (by omega)) e2s.1 ⟨by rw [e2s.2.1]; exact ⟨by decide, by decide⟩, by rw [e2s.2.2, e2s.2.1]⟩ (ec 56 (by decide) (by decide)) ejs (e2c 1 (by decide) (by omega)) (e2c 81 (by decide) (by omega)) (e2c 104 (by decide) (by omega)) bo0 bo1 bb⟩
theorem zT_item2 (hI : zLi X XL t p r h hl) {w a i : Int} (hw : zr w) (ha : zr a) (hi : zr i) : zTwl 89 [.inr (.inr (some 2)), .inl 2, .inl w, .inl a, .inl i] 147 [.inr (.inr (some 104)), .inl 2, .inl w, .inl a, .inl i] X XL t h hl := by
  have hIc := hI
  obtain ⟨x1, x2, tw, od, z38, z56, kd, kd2, st, st2, tr, tr2, b0, b1, b2, dy⟩ := hIc
  have bc := b2
  obtain ⟨k1, k2, k3, k4, k5, k6, k7, k8, k9⟩ := bc
  have hZq : ∀ q : Nat, q < 4 → -1 ≤ h 98 q ∧ h 98 q ≤ 8 := fun q hq => by have := k8 q hq; omega
  refine zQ_imp (p_item2 (d := 4) hw ha hi k4 k3 hZq) (fun ρ σ' pc => ?_)
  obtain ⟨x, hx, pc⟩ := pc
  have hxb := zWN_b hx
  rcases pc with ⟨q0, rfl, rfl⟩ | ⟨rfl, rfl, rfl⟩
  · refine ⟨0, _, hl, rfl, ⟨by decide, by decide⟩, rfl, by rw [← x1]; funext q; exact zup_ne (by decide), x2, zQ_imp (p_itemO2 (hl := hl) (d := 6) rfl hw ha hi (zMbk_same (fun c c1 c2 => by funext q; rw [zup_ne (by omega), zup_ne (by omega)]) rfl (zBkR_M b2))) (fun r2 σ2 pm => ?_)⟩
    obtain ⟨y, hy, pm⟩ := pm
    obtain rfl := zWN_eq b2 (fun c c1 c2 => by funext q; rw [zup_ne (by omega), zup_ne (by omega)]) hx hy
    rcases pm with ⟨w0, rfl, rfl⟩ | ⟨w0, rfl, rfl⟩
    · exact ⟨p, r, _, hl, rfl, rfl, zLi_F1 hI ⟨by omega, by omega⟩⟩
    · exact absurd w0 q0
  · have ok := zWN_0 hx
    obtain ⟨R, rfl⟩ := Int.eq_ofNat_of_zero_le ok.1.1
    obtain ⟨U, rfl⟩ := Int.eq_ofNat_of_zero_le ok.2.1.1
    rw [Int.toNat_natCast] at ok
    have k8R := k8 R (by omega)
    have k9R := k9 R U (by omega) (by omega)
    rw [Int.toNat_natCast, Int.toNat_natCast]
    refine ⟨_, _, hl, rfl, k9R.2, rfl, by rw [← x1]; funext q; exact zup_ne (by decide), x2, zQ_imp (p_itemO2 (hl := hl) (d := 6) rfl hw ha hi (zMbk_same (fun c c1 c2 => by funext q; rw [zup_ne (by omega), zup_ne (by omega)]) rfl (zBkR_M b2))) (fun r2 σ2 pm => ?_)⟩
    obtain ⟨y, hy, pm⟩ := pm
    obtain rfl := zWN_eq b2 (fun c c1 c2 => by funext q; rw [zup_ne (by omega), zup_ne (by omega)]) hx hy
    rcases pm with ⟨w0, rfl, rfl⟩ | ⟨w0, rfl, rfl⟩
    · exact absurd rfl w0
    · rw [Int.toNat_natCast, Int.toNat_natCast]
      exact ⟨p, r, _, hl, by rw [show hl 123 (64 + 8 * R + U) = hl (100 + R) U from k9R.1], rfl, zLi_F1 hI ⟨by decide, by decide⟩⟩
theorem zT_bookX (hI : zLi X XL t p r h hl) {b : Int} (hb : zr b) (hnb : ¬ (0 ≤ b ∧ b < 3)) {w n : Int} (hw : zr w) (hn : zr n) : zTw 86 [.inr (.inr (some 2)), .inl b, .inl w, .inl n] 143 [.inr (.inr (some 104)), .inl b, .inl w, .inl n] X XL t h hl := by
  have hIc := hI
  obtain ⟨x1, x2, tw, od, z38, z56, kd, kd2, st, st2, tr, tr2, b0, b1, b2, dy⟩ := hIc
  refine zQ_imp (p_bookX (d := 7) hb hnb hw hn) (fun ρ σ' pc => ?_)
  obtain ⟨rfl, rfl⟩ := pc
  refine ⟨(-1), _, hl, rfl, ⟨by decide, by decide⟩, rfl, by rw [← x1]; funext q; exact zup_ne (by decide), x2, zQ_imp (p_bookXO (hl := hl) (d := 7) rfl hb hnb) (fun r2 σ2 pm => ?_)⟩
  obtain ⟨rfl, rfl⟩ := pm
  exact ⟨p, r, _, hl, rfl, rfl, zLi_F hI ⟨by decide, by decide⟩⟩
theorem zT_rowX (hI : zLi X XL t p r h hl) {b : Int} (hb : zr b) (hnb : ¬ (0 ≤ b ∧ b < 3)) {a n : Int} (ha : zr a) (hn : zr n) : zTw 87 [.inr (.inr (some 2)), .inl b, .inl a, .inl n] 144 [.inr (.inr (some 104)), .inl b, .inl a, .inl n] X XL t h hl := by
  have hIc := hI
  obtain ⟨x1, x2, tw, od, z38, z56, kd, kd2, st, st2, tr, tr2, b0, b1, b2, dy⟩ := hIc
  refine zQ_imp (p_rowX (d := 7) hb hnb ha hn) (fun ρ σ' pc => ?_)
  obtain ⟨rfl, rfl⟩ := pc
  refine ⟨(-1), _, hl, rfl, ⟨by decide, by decide⟩, rfl, by rw [← x1]; funext q; exact zup_ne (by decide), x2, zQ_imp (p_rowXO (hl := hl) (d := 7) rfl hb hnb) (fun r2 σ2 pm => ?_)⟩
  obtain ⟨rfl, rfl⟩ := pm
  exact ⟨p, r, _, hl, rfl, rfl, zLi_F hI ⟨by decide, by decide⟩⟩
theorem zT_putX (hI : zLi X XL t p r h hl) {b : Int} (hb : zr b) (hnb : ¬ (0 ≤ b ∧ b < 3)) {w a i v : Int} : zTw 88 [.inr (.inr (some 2)), .inl b, .inl w, .inl a, .inl i, .inr (.inl v)] 146 [.inr (.inr (some 104)), .inl b, .inl w, .inl a, .inl i, .inr (.inl v)] X XL t h hl := by
  have hIc := hI
  obtain ⟨x1, x2, tw, od, z38, z56, kd, kd2, st, st2, tr, tr2, b0, b1, b2, dy⟩ := hIc
  refine zQ_imp (p_putX (d := 6) hb hnb) (fun ρ σ' pc => ?_)
  obtain ⟨rfl, rfl⟩ := pc
  refine ⟨(-1), _, hl, rfl, ⟨by decide, by decide⟩, rfl, by rw [← x1]; funext q; exact zup_ne (by decide), x2, zQ_imp (p_putXO (hl := hl) (d := 6) rfl hb hnb) (fun r2 σ2 pm => ?_)⟩
  obtain ⟨rfl, rfl⟩ := pm
  exact ⟨p, r, _, hl, rfl, rfl, zLi_F1 hI ⟨by decide, by decide⟩⟩
theorem zT_itemX (hI : zLi X XL t p r h hl) {b : Int} (hb : zr b) (hnb : ¬ (0 ≤ b ∧ b < 3)) {w a i : Int} : zTwl 89 [.inr (.inr (some 2)), .inl b, .inl w, .inl a, .inl i] 147 [.inr (.inr (some 104)), .inl b, .inl w, .inl a, .inl i] X XL t h hl := by
  have hIc := hI
  obtain ⟨x1, x2, tw, od, z38, z56, kd, kd2, st, st2, tr, tr2, b0, b1, b2, dy⟩ := hIc
  refine zQ_imp (p_itemX (d := 6) hb hnb) (fun ρ σ' pc => ?_)
  obtain ⟨rfl, rfl⟩ := pc
  refine ⟨0, _, hl, rfl, ⟨by decide, by decide⟩, rfl, by rw [← x1]; funext q; exact zup_ne (by decide), x2, zQ_imp (p_itemXO (hl := hl) (d := 6) rfl hb hnb) (fun r2 σ2 pm => ?_)⟩
  obtain ⟨rfl, rfl⟩ := pm
  exact ⟨p, r, _, hl, rfl, rfl, zLi_F1 hI ⟨by decide, by decide⟩⟩
theorem zT_roadsX (hI : zLi X XL t p r h hl) {b : Int} (hb : zr b) (hnb : ¬ (0 ≤ b ∧ b < 3))  : zTw 90 [.inr (.inr (some 2)), .inl b] 148 [.inr (.inr (some 104)), .inl b] X XL t h hl := by
  have hIc := hI
  obtain ⟨x1, x2, tw, od, z38, z56, kd, kd2, st, st2, tr, tr2, b0, b1, b2, dy⟩ := hIc
  refine zQ_imp (p_roadsX (d := 7) hb hnb) (fun ρ σ' pc => ?_)
  obtain ⟨rfl, rfl⟩ := pc
  refine ⟨(-1), _, hl, rfl, ⟨by decide, by decide⟩, rfl, by rw [← x1]; funext q; exact zup_ne (by decide), x2, zQ_imp (p_roadsXO (hl := hl) (d := 7) rfl hb hnb) (fun r2 σ2 pm => ?_)⟩
  obtain ⟨rfl, rfl⟩ := pm
  exact ⟨p, r, _, hl, rfl, rfl, zLi_F hI ⟨by decide, by decide⟩⟩
theorem zT_callsX (hI : zLi X XL t p r h hl) {b : Int} (hb : zr b) (hnb : ¬ (0 ≤ b ∧ b < 3)) {a : Int} : zTw 91 [.inr (.inr (some 2)), .inl b, .inl a] 149 [.inr (.inr (some 104)), .inl b, .inl a] X XL t h hl := by
  have hIc := hI
  obtain ⟨x1, x2, tw, od, z38, z56, kd, kd2, st, st2, tr, tr2, b0, b1, b2, dy⟩ := hIc
  refine zQ_imp (p_callsX (d := 7) hb hnb) (fun ρ σ' pc => ?_)
  obtain ⟨rfl, rfl⟩ := pc
  refine ⟨(-1), _, hl, rfl, ⟨by decide, by decide⟩, rfl, by rw [← x1]; funext q; exact zup_ne (by decide), x2, zQ_imp (p_callsXO (hl := hl) (d := 7) rfl hb hnb) (fun r2 σ2 pm => ?_)⟩
  obtain ⟨rfl, rfl⟩ := pm
  exact ⟨p, r, _, hl, rfl, rfl, zLi_F hI ⟨by decide, by decide⟩⟩
end ZTW4
