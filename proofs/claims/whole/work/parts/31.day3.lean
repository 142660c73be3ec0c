/-! A day begins, ends; what is told of a CALL; the first PLACE without a LADDER. -/
def zStartP (h g : Nat → Nat → Int) (L B : Nat) (DY SP SU W R : Nat) : Prop := (∀ c : Nat, c ≠ DY → c ≠ SP → c ≠ SU → c ≠ W → c ≠ R → g c = h c) ∧ g DY 3 = (L : Int) ∧ g DY 5 = (B : Int) ∧ g DY 4 = 0 ∧ g DY 7 = 0 ∧ g DY 6 = -1 ∧ (∀ i : Nat, i < 3 → g SP i = ((zdg B i : Nat) : Int)) ∧ (∀ i : Nat, i < 3 → g SU i = 0) ∧ g W 4 = 0 ∧ ∀ j : Nat, (j : Int) < h 18 2 → g R j = zMv h L B (Int.toNat (h 19 j))
def zStopP (h g : Nat → Nat → Int) (DY SP SU : Nat) : Prop := (∀ c : Nat, c ≠ DY → c ≠ SP → c ≠ SU → g c = h c) ∧ g DY 3 = 0 ∧ g DY 5 = 0 ∧ g DY 4 = 0 ∧ g DY 7 = 0 ∧ g DY 6 = -1 ∧ (∀ i : Nat, i < 3 → g SP i = 0) ∧ ∀ i : Nat, i < 3 → g SU i = 0
/-- what is told of CALL i -/
def zTold (h : Nat → Nat → Int) (PL GO WA KI : Nat) (n : Nat) (i what x : Int) : Prop := (¬ (0 ≤ i ∧ i < (n : Int) ∧ 0 ≤ what ∧ what ≤ 3) ∧ x = -1) ∨ (0 ≤ i ∧ i < (n : Int) ∧ ((what = 0 ∧ x = h PL i.toNat) ∨ (what = 1 ∧ x = h GO i.toNat) ∨ (what = 2 ∧ x = h WA i.toNat) ∨ (what = 3 ∧ x = h KI i.toNat)))
set_option maxRecDepth 100000 in
set_option maxHeartbeats 4000000 in
theorem p_startD {d : Nat} {h hl : Nat → Nat → Int} {p L B : Nat} (hS : zSI h p L) (hT : zTD h p) (hBs : zSb p L B = true) (hBl : B < 512) : zQ (d + 4) 13 [.inr (.inr (some 21)), .inl (B : Int)] (zs h hl) (fun r σ' => r = none ∧ ∃ g : Nat → Nat → Int, σ' = zs g hl ∧ zStartP h g L B 21 40 41 22 24) := by
  refine zQ_of (Nat.le_of_ble_eq_true rfl) ?_
  show zH (d + 3) 13 (0, [some (.inr (.inr (some 21))), some (.inl (B : Int))], [], (zs h hl)) _
  refine zH_go 4 (c' := (8, [some (.inr (.inr (some 21))), some (.inl (B : Int))], [.inl (h 18 1), .inr (.inr (some 21))], (zs h hl))) rfl ?_
  rw [hS.2.2.1]
  refine zH_go 7 (c' := (21, [some (.inr (.inr (some 21))), some (.inl (B : Int))], [.inl (B : Int), .inr (.inr (some 22))], (zs (zup (zup h 21 3 (L : Int)) 21 5 (B : Int)) hl))) rfl ?_
  obtain ⟨h1, e1⟩ : ∃ h1, h1 = (zup (zup h 21 3 (L : Int)) 21 5 (B : Int)) := ⟨_, rfl⟩
  have k1 : ∀ c : Nat, c ≠ 21 → h1 c = h c := fun c hc => by rw [e1]; funext q; simp [zup_at, hc]
  have k3 : h1 21 3 = (L : Int) := by rw [e1]; simp [zup_at]
  have k5 : h1 21 5 = (B : Int) := by rw [e1]; simp [zup_at]
  rw [← e1]
  refine zH_call (M' := 56) (as := [.inr (.inr (some 22)), .inl (B : Int)]) (T := []) rfl (p_wstartD (p := p) (L := L) (B := B) (zSI_same hS (k1 18 (by decide)) (k1 19 (by decide)) (k1 20 (by decide))) (zTD_same hS.2.1 hT (fun c hc => k1 c (by omega))) hBs) (fun r σ' p_1 => ?_)
  obtain ⟨rfl, g, rfl, f1, f2, f3, f4⟩ := p_1
  show zH _ _ (24, [some (.inr (.inr (some 21))), some (.inl (B : Int))], [], (zs g hl)) _
  refine zH_go 1 (c' := (25, [some (.inr (.inr (some 21))), some (.inl (B : Int))], [.inr (.inr (some 21))], (zs g hl))) rfl ?_
  refine zH_call (M' := 14) (as := [.inr (.inr (some 21))]) (T := []) rfl (p_rewindD (B := B) hBl (by rw [f1 21 (by decide) (by decide)]; exact k5)) (fun r σ' p_2 => ?_)
  obtain ⟨rfl, g2, rfl, q1, q2, q3, q4, q5, q6, q7⟩ := p_2
  show zH _ _ (28, [some (.inr (.inr (some 21))), some (.inl (B : Int))], [], (zs g2 hl)) _
  refine zH_ret (v := none) rfl (fun q => absurd q (by decide)) ?_
  exact ⟨rfl, g2, rfl, fun c a1 a2 a3 a4 a5 => (q1 c a1 a2 a3).trans ((f1 c a4 a5).trans (k1 c a1)), by rw [q5 3 (by decide) (by decide) (by decide), f1 21 (by decide) (by decide)]; exact k3, by rw [q5 5 (by decide) (by decide) (by decide), f1 21 (by decide) (by decide)]; exact k5, q2, q3, q4, q6, q7, by rw [q1 22 (by decide) (by decide) (by decide)]; exact f2, fun j hj => by
    rw [q1 24 (by decide) (by decide) (by decide), f4 j (by rw [k1 18 (by decide)]; exact hj), k1 19 (by decide)]
    exact zMv_same (fun c h1 h2 => k1 c (by omega))⟩
set_option maxRecDepth 100000 in
set_option maxHeartbeats 4000000 in
theorem p_stopD {d : Nat} {h hl : Nat → Nat → Int}  : zQ (d + 3) 15 [.inr (.inr (some 21))] (zs h hl) (fun r σ' => r = none ∧ ∃ g : Nat → Nat → Int, σ' = zs g hl ∧ zStopP h g 21 40 41) := by
  refine zQ_of (Nat.le_of_ble_eq_true rfl) ?_
  show zH (d + 2) 15 (0, [some (.inr (.inr (some 21)))], [], (zs h hl)) _
  refine zH_go 7 (c' := (11, [some (.inr (.inr (some 21)))], [.inr (.inr (some 21))], (zs (zup (zup h 21 3 0) 21 5 0) hl))) rfl ?_
  obtain ⟨h1, e1⟩ : ∃ h1, h1 = (zup (zup h 21 3 0) 21 5 0) := ⟨_, rfl⟩
  have k1 : ∀ c : Nat, c ≠ 21 → h1 c = h c := fun c hc => by rw [e1]; funext q; simp [zup_at, hc]
  have k3 : h1 21 3 = 0 := by rw [e1]; simp [zup_at]
  have k5 : h1 21 5 = ((0 : Nat) : Int) := by rw [e1]; simp [zup_at]
  rw [← e1]
  refine zH_call (M' := 14) (as := [.inr (.inr (some 21))]) (T := []) rfl (p_rewindD (B := 0) (by decide) k5) (fun r σ' p_1 => ?_)
  obtain ⟨rfl, g2, rfl, q1, q2, q3, q4, q5, q6, q7⟩ := p_1
  show zH _ _ (14, [some (.inr (.inr (some 21)))], [], (zs g2 hl)) _
  refine zH_ret (v := none) rfl (fun q => absurd q (by decide)) ?_
  exact ⟨rfl, g2, rfl, fun c a1 a2 a3 => (q1 c a1 a2 a3).trans (k1 c a1), by rw [q5 3 (by decide) (by decide) (by decide)]; exact k3, by rw [q5 5 (by decide) (by decide) (by decide)]; exact k5, q2, q3, q4, fun i hi => by
    rw [q6 i hi]
    rcases (show i = 0 ∨ i = 1 ∨ i = 2 by omega) with rfl | rfl | rfl <;> decide, q7⟩
set_option maxRecDepth 100000 in
set_option maxHeartbeats 4000000 in
theorem p_toldD0 {d : Nat} {h hl : Nat → Nat → Int} {n : Nat} {i : Int} (hi : zr i) (hn : h 21 4 = (n : Int)) (hn2 : n ≤ 12) : zQ (d + 1) 24 [.inr (.inr (some 21)), .inl i, .inl 0] (zs h hl) (fun r σ' => ∃ x : Int, zTold h 42 43 44 45 n i 0 x ∧ r = some (.inl x) ∧ σ' = zs h hl) := by
  refine zQ_of (Nat.le_of_ble_eq_true rfl) ?_
  show zH d 24 (0, [some (.inr (.inr (some 21))), some (.inl i), some (.inl 0)], [], (zs h hl)) _
  refine zH_go 1 (c' := (1, [some (.inr (.inr (some 21))), some (.inl i), some (.inl 0)], [.inl i], (zs h hl))) rfl ?_
  refine zH_br (x := i) (y := 0) (k := .lt) (c1 := (21, [some (.inr (.inr (some 21))), some (.inl i), some (.inl 0)], [], (zs h hl))) (c2 := (4, [some (.inr (.inr (some 21))), some (.inl i), some (.inl 0)], [], (zs h hl))) rfl (by first | assumption | (unfold zr; omega)) ⟨by decide, by decide⟩ (fun (b_1 : i < 0) => ?_) (fun (b_1 : ¬ (i < 0)) => ?_)
  · refine zH_go 1 (c' := (22, [some (.inr (.inr (some 21))), some (.inl i), some (.inl 0)], [.inl (-1)], (zs h hl))) rfl ?_
    refine zH_ret (v := some (.inl (-1))) rfl (fun q => absurd q (by decide)) ?_
    exact ⟨_, Or.inl ⟨by omega, rfl⟩, rfl, rfl⟩
  · refine zH_go 3 (c' := (9, [some (.inr (.inr (some 21))), some (.inl i), some (.inl 0)], [.inl (h 21 4), .inl i], (zs h hl))) rfl ?_
    rw [hn]
    refine zH_br (x := i) (y := (n : Int)) (k := .ge) (c1 := (21, [some (.inr (.inr (some 21))), some (.inl i), some (.inl 0)], [], (zs h hl))) (c2 := (12, [some (.inr (.inr (some 21))), some (.inl i), some (.inl 0)], [], (zs h hl))) rfl (by first | assumption | (unfold zr; omega)) (by first | assumption | (unfold zr; omega)) (fun (b_2 : ¬ i < (n : Int)) => ?_) (fun (b_2 : ¬ (¬ i < (n : Int))) => ?_)
    · refine zH_go 1 (c' := (22, [some (.inr (.inr (some 21))), some (.inl i), some (.inl 0)], [.inl (-1)], (zs h hl))) rfl ?_
      refine zH_ret (v := some (.inl (-1))) rfl (fun q => absurd q (by decide)) ?_
      exact ⟨_, Or.inl ⟨by omega, rfl⟩, rfl, rfl⟩
    · refine zH_go 4 (c' := (18, [some (.inr (.inr (some 21))), some (.inl i), some (.inl 0)], [.inl 12, .inl i], (zs h hl))) rfl ?_
      refine zH_br (x := i) (y := 12) (k := .lt) (c1 := (23, [some (.inr (.inr (some 21))), some (.inl i), some (.inl 0)], [], (zs h hl))) (c2 := (21, [some (.inr (.inr (some 21))), some (.inl i), some (.inl 0)], [], (zs h hl))) rfl (by first | assumption | (unfold zr; omega)) ⟨by decide, by decide⟩ (fun (b_3 : i < 12) => ?_) (fun (b_3 : ¬ (i < 12)) => ?_)
      · refine zH_go 1 (c' := (24, [some (.inr (.inr (some 21))), some (.inl i), some (.inl 0)], [.inl 0], (zs h hl))) rfl ?_
        refine zH_sw rfl ⟨by decide, by decide⟩ (tgt := 56) rfl ?_
        show zH _ _ (56, [some (.inr (.inr (some 21))), some (.inl i), some (.inl 0)], [], (zs h hl)) _
        refine zH_go 3 (c' := (61, [some (.inr (.inr (some 21))), some (.inl i), some (.inl 0)], [.inl i, .inr (.inr (some 42))], (zs h hl))) rfl ?_
        refine zH_np (P := 0 ≤ i ∧ i < ((12 : Nat) : Int)) (c' := (62, [some (.inr (.inr (some 21))), some (.inl i), some (.inl 0)], [.inl (h 42 (Int.toNat i))], (zs h hl))) rfl ⟨by omega, by omega⟩ ?_
        refine zH_ret (v := some (.inl (h 42 (Int.toNat i)))) rfl (fun q => absurd q (by decide)) ?_
        exact ⟨_, Or.inr ⟨by omega, by omega, by first | exact Or.inl ⟨rfl, rfl⟩ | exact Or.inr (Or.inl ⟨rfl, rfl⟩) | exact Or.inr (Or.inr (Or.inl ⟨rfl, rfl⟩)) | exact Or.inr (Or.inr (Or.inr ⟨rfl, rfl⟩))⟩, rfl, rfl⟩
      · refine zH_go 1 (c' := (22, [some (.inr (.inr (some 21))), some (.inl i), some (.inl 0)], [.inl (-1)], (zs h hl))) rfl ?_
        refine zH_ret (v := some (.inl (-1))) rfl (fun q => absurd q (by decide)) ?_
        exact ⟨_, Or.inl ⟨by omega, rfl⟩, rfl, rfl⟩
set_option maxRecDepth 100000 in
set_option maxHeartbeats 4000000 in
theorem p_toldD1 {d : Nat} {h hl : Nat → Nat → Int} {n : Nat} {i : Int} (hi : zr i) (hn : h 21 4 = (n : Int)) (hn2 : n ≤ 12) : zQ (d + 1) 24 [.inr (.inr (some 21)), .inl i, .inl 1] (zs h hl) (fun r σ' => ∃ x : Int, zTold h 42 43 44 45 n i 1 x ∧ r = some (.inl x) ∧ σ' = zs h hl) := by
  refine zQ_of (Nat.le_of_ble_eq_true rfl) ?_
  show zH d 24 (0, [some (.inr (.inr (some 21))), some (.inl i), some (.inl 1)], [], (zs h hl)) _
  refine zH_go 1 (c' := (1, [some (.inr (.inr (some 21))), some (.inl i), some (.inl 1)], [.inl i], (zs h hl))) rfl ?_
  refine zH_br (x := i) (y := 0) (k := .lt) (c1 := (21, [some (.inr (.inr (some 21))), some (.inl i), some (.inl 1)], [], (zs h hl))) (c2 := (4, [some (.inr (.inr (some 21))), some (.inl i), some (.inl 1)], [], (zs h hl))) rfl (by first | assumption | (unfold zr; omega)) ⟨by decide, by decide⟩ (fun (b_1 : i < 0) => ?_) (fun (b_1 : ¬ (i < 0)) => ?_)
  · refine zH_go 1 (c' := (22, [some (.inr (.inr (some 21))), some (.inl i), some (.inl 1)], [.inl (-1)], (zs h hl))) rfl ?_
    refine zH_ret (v := some (.inl (-1))) rfl (fun q => absurd q (by decide)) ?_
    exact ⟨_, Or.inl ⟨by omega, rfl⟩, rfl, rfl⟩
  · refine zH_go 3 (c' := (9, [some (.inr (.inr (some 21))), some (.inl i), some (.inl 1)], [.inl (h 21 4), .inl i], (zs h hl))) rfl ?_
    rw [hn]
    refine zH_br (x := i) (y := (n : Int)) (k := .ge) (c1 := (21, [some (.inr (.inr (some 21))), some (.inl i), some (.inl 1)], [], (zs h hl))) (c2 := (12, [some (.inr (.inr (some 21))), some (.inl i), some (.inl 1)], [], (zs h hl))) rfl (by first | assumption | (unfold zr; omega)) (by first | assumption | (unfold zr; omega)) (fun (b_2 : ¬ i < (n : Int)) => ?_) (fun (b_2 : ¬ (¬ i < (n : Int))) => ?_)
    · refine zH_go 1 (c' := (22, [some (.inr (.inr (some 21))), some (.inl i), some (.inl 1)], [.inl (-1)], (zs h hl))) rfl ?_
      refine zH_ret (v := some (.inl (-1))) rfl (fun q => absurd q (by decide)) ?_
      exact ⟨_, Or.inl ⟨by omega, rfl⟩, rfl, rfl⟩
    · refine zH_go 4 (c' := (18, [some (.inr (.inr (some 21))), some (.inl i), some (.inl 1)], [.inl 12, .inl i], (zs h hl))) rfl ?_
      refine zH_br (x := i) (y := 12) (k := .lt) (c1 := (23, [some (.inr (.inr (some 21))), some (.inl i), some (.inl 1)], [], (zs h hl))) (c2 := (21, [some (.inr (.inr (some 21))), some (.inl i), some (.inl 1)], [], (zs h hl))) rfl (by first | assumption | (unfold zr; omega)) ⟨by decide, by decide⟩ (fun (b_3 : i < 12) => ?_) (fun (b_3 : ¬ (i < 12)) => ?_)
      · refine zH_go 1 (c' := (24, [some (.inr (.inr (some 21))), some (.inl i), some (.inl 1)], [.inl 1], (zs h hl))) rfl ?_
        refine zH_sw rfl ⟨by decide, by decide⟩ (tgt := 63) rfl ?_
        show zH _ _ (63, [some (.inr (.inr (some 21))), some (.inl i), some (.inl 1)], [], (zs h hl)) _
        refine zH_go 3 (c' := (68, [some (.inr (.inr (some 21))), some (.inl i), some (.inl 1)], [.inl i, .inr (.inr (some 43))], (zs h hl))) rfl ?_
        refine zH_np (P := 0 ≤ i ∧ i < ((12 : Nat) : Int)) (c' := (69, [some (.inr (.inr (some 21))), some (.inl i), some (.inl 1)], [.inl (h 43 (Int.toNat i))], (zs h hl))) rfl ⟨by omega, by omega⟩ ?_
        refine zH_ret (v := some (.inl (h 43 (Int.toNat i)))) rfl (fun q => absurd q (by decide)) ?_
        exact ⟨_, Or.inr ⟨by omega, by omega, by first | exact Or.inl ⟨rfl, rfl⟩ | exact Or.inr (Or.inl ⟨rfl, rfl⟩) | exact Or.inr (Or.inr (Or.inl ⟨rfl, rfl⟩)) | exact Or.inr (Or.inr (Or.inr ⟨rfl, rfl⟩))⟩, rfl, rfl⟩
      · refine zH_go 1 (c' := (22, [some (.inr (.inr (some 21))), some (.inl i), some (.inl 1)], [.inl (-1)], (zs h hl))) rfl ?_
        refine zH_ret (v := some (.inl (-1))) rfl (fun q => absurd q (by decide)) ?_
        exact ⟨_, Or.inl ⟨by omega, rfl⟩, rfl, rfl⟩
set_option maxRecDepth 100000 in
set_option maxHeartbeats 4000000 in
theorem p_toldD2 {d : Nat} {h hl : Nat → Nat → Int} {n : Nat} {i : Int} (hi : zr i) (hn : h 21 4 = (n : Int)) (hn2 : n ≤ 12) : zQ (d + 1) 24 [.inr (.inr (some 21)), .inl i, .inl 2] (zs h hl) (fun r σ' => ∃ x : Int, zTold h 42 43 44 45 n i 2 x ∧ r = some (.inl x) ∧ σ' = zs h hl) := by
  refine zQ_of (Nat.le_of_ble_eq_true rfl) ?_
  show zH d 24 (0, [some (.inr (.inr (some 21))), some (.inl i), some (.inl 2)], [], (zs h hl)) _
  refine zH_go 1 (c' := (1, [some (.inr (.inr (some 21))), some (.inl i), some (.inl 2)], [.inl i], (zs h hl))) rfl ?_
  refine zH_br (x := i) (y := 0) (k := .lt) (c1 := (21, [some (.inr (.inr (some 21))), some (.inl i), some (.inl 2)], [], (zs h hl))) (c2 := (4, [some (.inr (.inr (some 21))), some (.inl i), some (.inl 2)], [], (zs h hl))) rfl (by first | assumption | (unfold zr; omega)) ⟨by decide, by decide⟩ (fun (b_1 : i < 0) => ?_) (fun (b_1 : ¬ (i < 0)) => ?_)
  · refine zH_go 1 (c' := (22, [some (.inr (.inr (some 21))), some (.inl i), some (.inl 2)], [.inl (-1)], (zs h hl))) rfl ?_
    refine zH_ret (v := some (.inl (-1))) rfl (fun q => absurd q (by decide)) ?_
    exact ⟨_, Or.inl ⟨by omega, rfl⟩, rfl, rfl⟩
  · refine zH_go 3 (c' := (9, [some (.inr (.inr (some 21))), some (.inl i), some (.inl 2)], [.inl (h 21 4), .inl i], (zs h hl))) rfl ?_
    rw [hn]
    refine zH_br (x := i) (y := (n : Int)) (k := .ge) (c1 := (21, [some (.inr (.inr (some 21))), some (.inl i), some (.inl 2)], [], (zs h hl))) (c2 := (12, [some (.inr (.inr (some 21))), some (.inl i), some (.inl 2)], [], (zs h hl))) rfl (by first | assumption | (unfold zr; omega)) (by first | assumption | (unfold zr; omega)) (fun (b_2 : ¬ i < (n : Int)) => ?_) (fun (b_2 : ¬ (¬ i < (n : Int))) => ?_)
    · refine zH_go 1 (c' := (22, [some (.inr (.inr (some 21))), some (.inl i), some (.inl 2)], [.inl (-1)], (zs h hl))) rfl ?_
      refine zH_ret (v := some (.inl (-1))) rfl (fun q => absurd q (by decide)) ?_
      exact ⟨_, Or.inl ⟨by omega, rfl⟩, rfl, rfl⟩
    · refine zH_go 4 (c' := (18, [some (.inr (.inr (some 21))), some (.inl i), some (.inl 2)], [.inl 12, .inl i], (zs h hl))) rfl ?_
      refine zH_br (x := i) (y := 12) (k := .lt) (c1 := (23, [some (.inr (.inr (some 21))), some (.inl i), some (.inl 2)], [], (zs h hl))) (c2 := (21, [some (.inr (.inr (some 21))), some (.inl i), some (.inl 2)], [], (zs h hl))) rfl (by first | assumption | (unfold zr; omega)) ⟨by decide, by decide⟩ (fun (b_3 : i < 12) => ?_) (fun (b_3 : ¬ (i < 12)) => ?_)
      · refine zH_go 1 (c' := (24, [some (.inr (.inr (some 21))), some (.inl i), some (.inl 2)], [.inl 2], (zs h hl))) rfl ?_
        refine zH_sw rfl ⟨by decide, by decide⟩ (tgt := 70) rfl ?_
        show zH _ _ (70, [some (.inr (.inr (some 21))), some (.inl i), some (.inl 2)], [], (zs h hl)) _
        refine zH_go 3 (c' := (75, [some (.inr (.inr (some 21))), some (.inl i), some (.inl 2)], [.inl i, .inr (.inr (some 44))], (zs h hl))) rfl ?_
        refine zH_np (P := 0 ≤ i ∧ i < ((12 : Nat) : Int)) (c' := (76, [some (.inr (.inr (some 21))), some (.inl i), some (.inl 2)], [.inl (h 44 (Int.toNat i))], (zs h hl))) rfl ⟨by omega, by omega⟩ ?_
        refine zH_ret (v := some (.inl (h 44 (Int.toNat i)))) rfl (fun q => absurd q (by decide)) ?_
        exact ⟨_, Or.inr ⟨by omega, by omega, by first | exact Or.inl ⟨rfl, rfl⟩ | exact Or.inr (Or.inl ⟨rfl, rfl⟩) | exact Or.inr (Or.inr (Or.inl ⟨rfl, rfl⟩)) | exact Or.inr (Or.inr (Or.inr ⟨rfl, rfl⟩))⟩, rfl, rfl⟩
      · refine zH_go 1 (c' := (22, [some (.inr (.inr (some 21))), some (.inl i), some (.inl 2)], [.inl (-1)], (zs h hl))) rfl ?_
        refine zH_ret (v := some (.inl (-1))) rfl (fun q => absurd q (by decide)) ?_
        exact ⟨_, Or.inl ⟨by omega, rfl⟩, rfl, rfl⟩
set_option maxRecDepth 100000 in
set_option maxHeartbeats 4000000 in
theorem p_toldD3 {d : Nat} {h hl : Nat → Nat → Int} {n : Nat} {i : Int} (hi : zr i) (hn : h 21 4 = (n : Int)) (hn2 : n ≤ 12) : zQ (d + 1) 24 [.inr (.inr (some 21)), .inl i, .inl 3] (zs h hl) (fun r σ' => ∃ x : Int, zTold h 42 43 44 45 n i 3 x ∧ r = some (.inl x) ∧ σ' = zs h hl) := by
  refine zQ_of (Nat.le_of_ble_eq_true rfl) ?_
  show zH d 24 (0, [some (.inr (.inr (some 21))), some (.inl i), some (.inl 3)], [], (zs h hl)) _
  refine zH_go 1 (c' := (1, [some (.inr (.inr (some 21))), some (.inl i), some (.inl 3)], [.inl i], (zs h hl))) rfl ?_
  refine zH_br (x := i) (y := 0) (k := .lt) (c1 := (21, [some (.inr (.inr (some 21))), some (.inl i), some (.inl 3)], [], (zs h hl))) (c2 := (4, [some (.inr (.inr (some 21))), some (.inl i), some (.inl 3)], [], (zs h hl))) rfl (by first | assumption | (unfold zr; omega)) ⟨by decide, by decide⟩ (fun (b_1 : i < 0) => ?_) (fun (b_1 : ¬ (i < 0)) => ?_)
  · refine zH_go 1 (c' := (22, [some (.inr (.inr (some 21))), some (.inl i), some (.inl 3)], [.inl (-1)], (zs h hl))) rfl ?_
    refine zH_ret (v := some (.inl (-1))) rfl (fun q => absurd q (by decide)) ?_
    exact ⟨_, Or.inl ⟨by omega, rfl⟩, rfl, rfl⟩
  · refine zH_go 3 (c' := (9, [some (.inr (.inr (some 21))), some (.inl i), some (.inl 3)], [.inl (h 21 4), .inl i], (zs h hl))) rfl ?_
    rw [hn]
    refine zH_br (x := i) (y := (n : Int)) (k := .ge) (c1 := (21, [some (.inr (.inr (some 21))), some (.inl i), some (.inl 3)], [], (zs h hl))) (c2 := (12, [some (.inr (.inr (some 21))), some (.inl i), some (.inl 3)], [], (zs h hl))) rfl (by first | assumption | (unfold zr; omega)) (by first | assumption | (unfold zr; omega)) (fun (b_2 : ¬ i < (n : Int)) => ?_) (fun (b_2 : ¬ (¬ i < (n : Int))) => ?_)
    · refine zH_go 1 (c' := (22, [some (.inr (.inr (some 21))), some (.inl i), some (.inl 3)], [.inl (-1)], (zs h hl))) rfl ?_
      refine zH_ret (v := some (.inl (-1))) rfl (fun q => absurd q (by decide)) ?_
      exact ⟨_, Or.inl ⟨by omega, rfl⟩, rfl, rfl⟩
    · refine zH_go 4 (c' := (18, [some (.inr (.inr (some 21))), some (.inl i), some (.inl 3)], [.inl 12, .inl i], (zs h hl))) rfl ?_
      refine zH_br (x := i) (y := 12) (k := .lt) (c1 := (23, [some (.inr (.inr (some 21))), some (.inl i), some (.inl 3)], [], (zs h hl))) (c2 := (21, [some (.inr (.inr (some 21))), some (.inl i), some (.inl 3)], [], (zs h hl))) rfl (by first | assumption | (unfold zr; omega)) ⟨by decide, by decide⟩ (fun (b_3 : i < 12) => ?_) (fun (b_3 : ¬ (i < 12)) => ?_)
      · refine zH_go 1 (c' := (24, [some (.inr (.inr (some 21))), some (.inl i), some (.inl 3)], [.inl 3], (zs h hl))) rfl ?_
        refine zH_sw rfl ⟨by decide, by decide⟩ (tgt := 77) rfl ?_
        show zH _ _ (77, [some (.inr (.inr (some 21))), some (.inl i), some (.inl 3)], [], (zs h hl)) _
        refine zH_go 3 (c' := (82, [some (.inr (.inr (some 21))), some (.inl i), some (.inl 3)], [.inl i, .inr (.inr (some 45))], (zs h hl))) rfl ?_
        refine zH_np (P := 0 ≤ i ∧ i < ((12 : Nat) : Int)) (c' := (83, [some (.inr (.inr (some 21))), some (.inl i), some (.inl 3)], [.inl (h 45 (Int.toNat i))], (zs h hl))) rfl ⟨by omega, by omega⟩ ?_
        refine zH_ret (v := some (.inl (h 45 (Int.toNat i)))) rfl (fun q => absurd q (by decide)) ?_
        exact ⟨_, Or.inr ⟨by omega, by omega, by first | exact Or.inl ⟨rfl, rfl⟩ | exact Or.inr (Or.inl ⟨rfl, rfl⟩) | exact Or.inr (Or.inr (Or.inl ⟨rfl, rfl⟩)) | exact Or.inr (Or.inr (Or.inr ⟨rfl, rfl⟩))⟩, rfl, rfl⟩
      · refine zH_go 1 (c' := (22, [some (.inr (.inr (some 21))), some (.inl i), some (.inl 3)], [.inl (-1)], (zs h hl))) rfl ?_
        refine zH_ret (v := some (.inl (-1))) rfl (fun q => absurd q (by decide)) ?_
        exact ⟨_, Or.inl ⟨by omega, rfl⟩, rfl, rfl⟩
set_option maxRecDepth 100000 in
set_option maxHeartbeats 4000000 in
theorem p_toldDe {d : Nat} {h hl : Nat → Nat → Int} {n : Nat} {i what : Int} (hi : zr i) (hw : zr what) (hsw : what < 0 ∨ 3 < what) (hn : h 21 4 = (n : Int)) (hn2 : n ≤ 12) : zQ (d + 1) 24 [.inr (.inr (some 21)), .inl i, .inl what] (zs h hl) (fun r σ' => ∃ x : Int, zTold h 42 43 44 45 n i what x ∧ r = some (.inl x) ∧ σ' = zs h hl) := by
  refine zQ_of (Nat.le_of_ble_eq_true rfl) ?_
  show zH d 24 (0, [some (.inr (.inr (some 21))), some (.inl i), some (.inl what)], [], (zs h hl)) _
  refine zH_go 1 (c' := (1, [some (.inr (.inr (some 21))), some (.inl i), some (.inl what)], [.inl i], (zs h hl))) rfl ?_
  refine zH_br (x := i) (y := 0) (k := .lt) (c1 := (21, [some (.inr (.inr (some 21))), some (.inl i), some (.inl what)], [], (zs h hl))) (c2 := (4, [some (.inr (.inr (some 21))), some (.inl i), some (.inl what)], [], (zs h hl))) rfl (by first | assumption | (unfold zr; omega)) ⟨by decide, by decide⟩ (fun (b_1 : i < 0) => ?_) (fun (b_1 : ¬ (i < 0)) => ?_)
  · refine zH_go 1 (c' := (22, [some (.inr (.inr (some 21))), some (.inl i), some (.inl what)], [.inl (-1)], (zs h hl))) rfl ?_
    refine zH_ret (v := some (.inl (-1))) rfl (fun q => absurd q (by decide)) ?_
    exact ⟨_, Or.inl ⟨by omega, rfl⟩, rfl, rfl⟩
  · refine zH_go 3 (c' := (9, [some (.inr (.inr (some 21))), some (.inl i), some (.inl what)], [.inl (h 21 4), .inl i], (zs h hl))) rfl ?_
    rw [hn]
    refine zH_br (x := i) (y := (n : Int)) (k := .ge) (c1 := (21, [some (.inr (.inr (some 21))), some (.inl i), some (.inl what)], [], (zs h hl))) (c2 := (12, [some (.inr (.inr (some 21))), some (.inl i), some (.inl what)], [], (zs h hl))) rfl (by first | assumption | (unfold zr; omega)) (by first | assumption | (unfold zr; omega)) (fun (b_2 : ¬ i < (n : Int)) => ?_) (fun (b_2 : ¬ (¬ i < (n : Int))) => ?_)
    · refine zH_go 1 (c' := (22, [some (.inr (.inr (some 21))), some (.inl i), some (.inl what)], [.inl (-1)], (zs h hl))) rfl ?_
      refine zH_ret (v := some (.inl (-1))) rfl (fun q => absurd q (by decide)) ?_
      exact ⟨_, Or.inl ⟨by omega, rfl⟩, rfl, rfl⟩
    · refine zH_go 4 (c' := (18, [some (.inr (.inr (some 21))), some (.inl i), some (.inl what)], [.inl 12, .inl i], (zs h hl))) rfl ?_
      refine zH_br (x := i) (y := 12) (k := .lt) (c1 := (23, [some (.inr (.inr (some 21))), some (.inl i), some (.inl what)], [], (zs h hl))) (c2 := (21, [some (.inr (.inr (some 21))), some (.inl i), some (.inl what)], [], (zs h hl))) rfl (by first | assumption | (unfold zr; omega)) ⟨by decide, by decide⟩ (fun (b_3 : i < 12) => ?_) (fun (b_3 : ¬ (i < 12)) => ?_)
      · refine zH_go 1 (c' := (24, [some (.inr (.inr (some 21))), some (.inl i), some (.inl what)], [.inl what], (zs h hl))) rfl ?_
        refine zH_sw rfl (by first | assumption | (unfold zr; omega)) (tgt := 84) (by rw [if_pos hsw]; rfl) ?_
        show zH _ _ (84, [some (.inr (.inr (some 21))), some (.inl i), some (.inl what)], [], (zs h hl)) _
        refine zH_go 1 (c' := (85, [some (.inr (.inr (some 21))), some (.inl i), some (.inl what)], [.inl (-1)], (zs h hl))) rfl ?_
        refine zH_ret (v := some (.inl (-1))) rfl (fun q => absurd q (by decide)) ?_
        exact ⟨_, Or.inl ⟨by omega, rfl⟩, rfl, rfl⟩
      · refine zH_go 1 (c' := (22, [some (.inr (.inr (some 21))), some (.inl i), some (.inl what)], [.inl (-1)], (zs h hl))) rfl ?_
        refine zH_ret (v := some (.inl (-1))) rfl (fun q => absurd q (by decide)) ?_
        exact ⟨_, Or.inl ⟨by omega, rfl⟩, rfl, rfl⟩
theorem p_toldD {d : Nat} {h hl : Nat → Nat → Int} {n : Nat} {i what : Int} (hi : zr i) (hw : zr what) (hn : h 21 4 = (n : Int)) (hn2 : n ≤ 12) : zQ (d + 1) 24 [.inr (.inr (some 21)), .inl i, .inl what] (zs h hl) (fun r σ' => ∃ x : Int, zTold h 42 43 44 45 n i what x ∧ r = some (.inl x) ∧ σ' = zs h hl) := by
  by_cases q : what < 0 ∨ 3 < what
  · exact p_toldDe hi hw q hn hn2
  · rcases (show what = 0 ∨ what = 1 ∨ what = 2 ∨ what = 3 by omega) with rfl | rfl | rfl | rfl
    · exact p_toldD0 hi hn hn2
    · exact p_toldD1 hi hn hn2
    · exact p_toldD2 hi hn hn2
    · exact p_toldD3 hi hn hn2
set_option maxRecDepth 100000 in
set_option maxHeartbeats 4000000 in
theorem p_bareD {d : Nat} {h hl : Nat → Nat → Int} {L : Nat} {sp : Nat → Nat} (hL3 : 1 ≤ L ∧ L ≤ 3) (hL : h 21 3 = (L : Int)) (hsp : ∀ i : Nat, i < L → h 40 i = ((sp i : Nat) : Int)) (hs6 : ∀ i : Nat, i < L → sp i < 6) (hP : 0 ≤ h 3 0 ∧ h 3 0 ≤ 6) : zQ (d + 2) 26 [.inr (.inr (some 21))] (zs h hl) (fun r σ' => ∃ k : Nat, (k : Int) ≤ h 3 0 ∧ (∀ j : Nat, j < k → zCov L sp j) ∧ ((k : Int) = h 3 0 ∨ ¬ zCov L sp k) ∧ r = some (.inl (k : Int)) ∧ σ' = zs h hl) := by
  refine zQ_of (Nat.le_of_ble_eq_true rfl) ?_
  show zH (d + 1) 26 (0, [some (.inr (.inr (some 21))), none], [], (zs h hl)) _
  refine zH_go 6 (c' := (10, [some (.inr (.inr (some 21))), some (.inl 0)], [.inl (h 3 0), .inl 0], (zs h hl))) rfl ?_
  refine zH_br (x := 0) (y := (h 3 0)) (k := .ge) (c1 := (27, [some (.inr (.inr (some 21))), some (.inl 0)], [], (zs h hl))) (c2 := (13, [some (.inr (.inr (some 21))), some (.inl 0)], [], (zs h hl))) rfl ⟨by decide, by decide⟩ (by first | assumption | (unfold zr; omega)) (fun (b_1 : ¬ 0 < (h 3 0)) => ?_) (fun (b_1 : ¬ (¬ 0 < (h 3 0))) => ?_)
  · refine zH_go 1 (c' := (28, [some (.inr (.inr (some 21))), some (.inl 0)], [.inl 0], (zs h hl))) rfl ?_
    refine zH_ret (v := some (.inl 0)) rfl (fun q => absurd q (by decide)) ?_
    refine ⟨0, by omega, fun j hj => absurd hj (Nat.not_lt_zero j), ?_, rfl, rfl⟩
    first | exact Or.inl (by omega) | exact Or.inr (by assumption)
  · refine zH_go 2 (c' := (15, [some (.inr (.inr (some 21))), some (.inl 0)], [.inl 0, .inr (.inr (some 21))], (zs h hl))) rfl ?_
    refine zH_call (M' := 25) (as := [.inr (.inr (some 21)), .inl 0]) (T := []) rfl (p_covD (pp := 0) (by decide) hL3 hL hsp hs6) (fun r σ' p_2 => ?_)
    rcases p_2 with ⟨rfl, b_3, rfl⟩ | ⟨rfl, b_3, rfl⟩
    · show zH _ _ (18, [some (.inr (.inr (some 21))), some (.inl 0)], [.inl 1], (zs h hl)) _
      refine zH_bf (x := 1) (y := 0) (k := .eq) (c1 := (27, [some (.inr (.inr (some 21))), some (.inl 0)], [], (zs h hl))) (c2 := (21, [some (.inr (.inr (some 21))), some (.inl 0)], [], (zs h hl))) rfl ⟨by decide, by decide⟩ ⟨by decide, by decide⟩ (by show ¬ (1 = 0); decide) ?_
      refine zH_go 6 (c' := (10, [some (.inr (.inr (some 21))), some (.inl 1)], [.inl (h 3 0), .inl 1], (zs h hl))) rfl ?_
      refine zH_br (x := 1) (y := (h 3 0)) (k := .ge) (c1 := (27, [some (.inr (.inr (some 21))), some (.inl 1)], [], (zs h hl))) (c2 := (13, [some (.inr (.inr (some 21))), some (.inl 1)], [], (zs h hl))) rfl ⟨by decide, by decide⟩ (by first | assumption | (unfold zr; omega)) (fun (b_4 : ¬ 1 < (h 3 0)) => ?_) (fun (b_4 : ¬ (¬ 1 < (h 3 0))) => ?_)
      · refine zH_go 1 (c' := (28, [some (.inr (.inr (some 21))), some (.inl 1)], [.inl 1], (zs h hl))) rfl ?_
        refine zH_ret (v := some (.inl 1)) rfl (fun q => absurd q (by decide)) ?_
        refine ⟨1, by omega, fun j hj => by rcases (show j = 0 by omega) with rfl <;> assumption, ?_, rfl, rfl⟩
        first | exact Or.inl (by omega) | exact Or.inr (by assumption)
      · refine zH_go 2 (c' := (15, [some (.inr (.inr (some 21))), some (.inl 1)], [.inl 1, .inr (.inr (some 21))], (zs h hl))) rfl ?_
        refine zH_call (M' := 25) (as := [.inr (.inr (some 21)), .inl 1]) (T := []) rfl (p_covD (pp := 1) (by decide) hL3 hL hsp hs6) (fun r σ' p_5 => ?_)
        rcases p_5 with ⟨rfl, b_6, rfl⟩ | ⟨rfl, b_6, rfl⟩
        · show zH _ _ (18, [some (.inr (.inr (some 21))), some (.inl 1)], [.inl 1], (zs h hl)) _
          refine zH_bf (x := 1) (y := 0) (k := .eq) (c1 := (27, [some (.inr (.inr (some 21))), some (.inl 1)], [], (zs h hl))) (c2 := (21, [some (.inr (.inr (some 21))), some (.inl 1)], [], (zs h hl))) rfl ⟨by decide, by decide⟩ ⟨by decide, by decide⟩ (by show ¬ (1 = 0); decide) ?_
          refine zH_go 6 (c' := (10, [some (.inr (.inr (some 21))), some (.inl 2)], [.inl (h 3 0), .inl 2], (zs h hl))) rfl ?_
          refine zH_br (x := 2) (y := (h 3 0)) (k := .ge) (c1 := (27, [some (.inr (.inr (some 21))), some (.inl 2)], [], (zs h hl))) (c2 := (13, [some (.inr (.inr (some 21))), some (.inl 2)], [], (zs h hl))) rfl ⟨by decide, by decide⟩ (by first | assumption | (unfold zr; omega)) (fun (b_7 : ¬ 2 < (h 3 0)) => ?_) (fun (b_7 : ¬ (¬ 2 < (h 3 0))) => ?_)
          · refine zH_go 1 (c' := (28, [some (.inr (.inr (some 21))), some (.inl 2)], [.inl 2], (zs h hl))) rfl ?_
            refine zH_ret (v := some (.inl 2)) rfl (fun q => absurd q (by decide)) ?_
            refine ⟨2, by omega, fun j hj => by rcases (show j = 0 ∨ j = 1 by omega) with rfl | rfl <;> assumption, ?_, rfl, rfl⟩
            first | exact Or.inl (by omega) | exact Or.inr (by assumption)
          · refine zH_go 2 (c' := (15, [some (.inr (.inr (some 21))), some (.inl 2)], [.inl 2, .inr (.inr (some 21))], (zs h hl))) rfl ?_
            refine zH_call (M' := 25) (as := [.inr (.inr (some 21)), .inl 2]) (T := []) rfl (p_covD (pp := 2) (by decide) hL3 hL hsp hs6) (fun r σ' p_8 => ?_)
            rcases p_8 with ⟨rfl, b_9, rfl⟩ | ⟨rfl, b_9, rfl⟩
            · show zH _ _ (18, [some (.inr (.inr (some 21))), some (.inl 2)], [.inl 1], (zs h hl)) _
              refine zH_bf (x := 1) (y := 0) (k := .eq) (c1 := (27, [some (.inr (.inr (some 21))), some (.inl 2)], [], (zs h hl))) (c2 := (21, [some (.inr (.inr (some 21))), some (.inl 2)], [], (zs h hl))) rfl ⟨by decide, by decide⟩ ⟨by decide, by decide⟩ (by show ¬ (1 = 0); decide) ?_
              refine zH_go 6 (c' := (10, [some (.inr (.inr (some 21))), some (.inl 3)], [.inl (h 3 0), .inl 3], (zs h hl))) rfl ?_
              refine zH_br (x := 3) (y := (h 3 0)) (k := .ge) (c1 := (27, [some (.inr (.inr (some 21))), some (.inl 3)], [], (zs h hl))) (c2 := (13, [some (.inr (.inr (some 21))), some (.inl 3)], [], (zs h hl))) rfl ⟨by decide, by decide⟩ (by first | assumption | (unfold zr; omega)) (fun (b_10 : ¬ 3 < (h 3 0)) => ?_) (fun (b_10 : ¬ (¬ 3 < (h 3 0))) => ?_)
              · refine zH_go 1 (c' := (28, [some (.inr (.inr (some 21))), some (.inl 3)], [.inl 3], (zs h hl))) rfl ?_
                refine zH_ret (v := some (.inl 3)) rfl (fun q => absurd q (by decide)) ?_
                refine ⟨3, by omega, fun j hj => by rcases (show j = 0 ∨ j = 1 ∨ j = 2 by omega) with rfl | rfl | rfl <;> assumption, ?_, rfl, rfl⟩
                first | exact Or.inl (by omega) | exact Or.inr (by assumption)
              · refine zH_go 2 (c' := (15, [some (.inr (.inr (some 21))), some (.inl 3)], [.inl 3, .inr (.inr (some 21))], (zs h hl))) rfl ?_
                refine zH_call (M' := 25) (as := [.inr (.inr (some 21)), .inl 3]) (T := []) rfl (p_covD (pp := 3) (by decide) hL3 hL hsp hs6) (fun r σ' p_11 => ?_)
                rcases p_11 with ⟨rfl, b_12, rfl⟩ | ⟨rfl, b_12, rfl⟩
                · show zH _ _ (18, [some (.inr (.inr (some 21))), some (.inl 3)], [.inl 1], (zs h hl)) _
                  refine zH_bf (x := 1) (y := 0) (k := .eq) (c1 := (27, [some (.inr (.inr (some 21))), some (.inl 3)], [], (zs h hl))) (c2 := (21, [some (.inr (.inr (some 21))), some (.inl 3)], [], (zs h hl))) rfl ⟨by decide, by decide⟩ ⟨by decide, by decide⟩ (by show ¬ (1 = 0); decide) ?_
                  refine zH_go 6 (c' := (10, [some (.inr (.inr (some 21))), some (.inl 4)], [.inl (h 3 0), .inl 4], (zs h hl))) rfl ?_
                  refine zH_br (x := 4) (y := (h 3 0)) (k := .ge) (c1 := (27, [some (.inr (.inr (some 21))), some (.inl 4)], [], (zs h hl))) (c2 := (13, [some (.inr (.inr (some 21))), some (.inl 4)], [], (zs h hl))) rfl ⟨by decide, by decide⟩ (by first | assumption | (unfold zr; omega)) (fun (b_13 : ¬ 4 < (h 3 0)) => ?_) (fun (b_13 : ¬ (¬ 4 < (h 3 0))) => ?_)
                  · refine zH_go 1 (c' := (28, [some (.inr (.inr (some 21))), some (.inl 4)], [.inl 4], (zs h hl))) rfl ?_
                    refine zH_ret (v := some (.inl 4)) rfl (fun q => absurd q (by decide)) ?_
                    refine ⟨4, by omega, fun j hj => by rcases (show j = 0 ∨ j = 1 ∨ j = 2 ∨ j = 3 by omega) with rfl | rfl | rfl | rfl <;> assumption, ?_, rfl, rfl⟩
                    first | exact Or.inl (by omega) | exact Or.inr (by assumption)
                  · refine zH_go 2 (c' := (15, [some (.inr (.inr (some 21))), some (.inl 4)], [.inl 4, .inr (.inr (some 21))], (zs h hl))) rfl ?_
                    refine zH_call (M' := 25) (as := [.inr (.inr (some 21)), .inl 4]) (T := []) rfl (p_covD (pp := 4) (by decide) hL3 hL hsp hs6) (fun r σ' p_14 => ?_)
                    rcases p_14 with ⟨rfl, b_15, rfl⟩ | ⟨rfl, b_15, rfl⟩
                    · show zH _ _ (18, [some (.inr (.inr (some 21))), some (.inl 4)], [.inl 1], (zs h hl)) _
                      refine zH_bf (x := 1) (y := 0) (k := .eq) (c1 := (27, [some (.inr (.inr (some 21))), some (.inl 4)], [], (zs h hl))) (c2 := (21, [some (.inr (.inr (some 21))), some (.inl 4)], [], (zs h hl))) rfl ⟨by decide, by decide⟩ ⟨by decide, by decide⟩ (by show ¬ (1 = 0); decide) ?_
                      refine zH_go 6 (c' := (10, [some (.inr (.inr (some 21))), some (.inl 5)], [.inl (h 3 0), .inl 5], (zs h hl))) rfl ?_
                      refine zH_br (x := 5) (y := (h 3 0)) (k := .ge) (c1 := (27, [some (.inr (.inr (some 21))), some (.inl 5)], [], (zs h hl))) (c2 := (13, [some (.inr (.inr (some 21))), some (.inl 5)], [], (zs h hl))) rfl ⟨by decide, by decide⟩ (by first | assumption | (unfold zr; omega)) (fun (b_16 : ¬ 5 < (h 3 0)) => ?_) (fun (b_16 : ¬ (¬ 5 < (h 3 0))) => ?_)
                      · refine zH_go 1 (c' := (28, [some (.inr (.inr (some 21))), some (.inl 5)], [.inl 5], (zs h hl))) rfl ?_
                        refine zH_ret (v := some (.inl 5)) rfl (fun q => absurd q (by decide)) ?_
                        refine ⟨5, by omega, fun j hj => by rcases (show j = 0 ∨ j = 1 ∨ j = 2 ∨ j = 3 ∨ j = 4 by omega) with rfl | rfl | rfl | rfl | rfl <;> assumption, ?_, rfl, rfl⟩
                        first | exact Or.inl (by omega) | exact Or.inr (by assumption)
                      · refine zH_go 2 (c' := (15, [some (.inr (.inr (some 21))), some (.inl 5)], [.inl 5, .inr (.inr (some 21))], (zs h hl))) rfl ?_
                        refine zH_call (M' := 25) (as := [.inr (.inr (some 21)), .inl 5]) (T := []) rfl (p_covD (pp := 5) (by decide) hL3 hL hsp hs6) (fun r σ' p_17 => ?_)
                        rcases p_17 with ⟨rfl, b_18, rfl⟩ | ⟨rfl, b_18, rfl⟩
                        · show zH _ _ (18, [some (.inr (.inr (some 21))), some (.inl 5)], [.inl 1], (zs h hl)) _
                          refine zH_bf (x := 1) (y := 0) (k := .eq) (c1 := (27, [some (.inr (.inr (some 21))), some (.inl 5)], [], (zs h hl))) (c2 := (21, [some (.inr (.inr (some 21))), some (.inl 5)], [], (zs h hl))) rfl ⟨by decide, by decide⟩ ⟨by decide, by decide⟩ (by show ¬ (1 = 0); decide) ?_
                          refine zH_go 6 (c' := (10, [some (.inr (.inr (some 21))), some (.inl 6)], [.inl (h 3 0), .inl 6], (zs h hl))) rfl ?_
                          refine zH_br (x := 6) (y := (h 3 0)) (k := .ge) (c1 := (27, [some (.inr (.inr (some 21))), some (.inl 6)], [], (zs h hl))) (c2 := (13, [some (.inr (.inr (some 21))), some (.inl 6)], [], (zs h hl))) rfl ⟨by decide, by decide⟩ (by first | assumption | (unfold zr; omega)) (fun (b_19 : ¬ 6 < (h 3 0)) => ?_) (fun (b_19 : ¬ (¬ 6 < (h 3 0))) => ?_)
                          · refine zH_go 1 (c' := (28, [some (.inr (.inr (some 21))), some (.inl 6)], [.inl 6], (zs h hl))) rfl ?_
                            refine zH_ret (v := some (.inl 6)) rfl (fun q => absurd q (by decide)) ?_
                            refine ⟨6, by omega, fun j hj => by rcases (show j = 0 ∨ j = 1 ∨ j = 2 ∨ j = 3 ∨ j = 4 ∨ j = 5 by omega) with rfl | rfl | rfl | rfl | rfl | rfl <;> assumption, ?_, rfl, rfl⟩
                            first | exact Or.inl (by omega) | exact Or.inr (by assumption)
                          · exfalso
                            omega
                        · show zH _ _ (18, [some (.inr (.inr (some 21))), some (.inl 5)], [.inl 0], (zs h hl)) _
                          refine zH_bt (x := 0) (y := 0) (k := .eq) (c1 := (27, [some (.inr (.inr (some 21))), some (.inl 5)], [], (zs h hl))) (c2 := (21, [some (.inr (.inr (some 21))), some (.inl 5)], [], (zs h hl))) rfl ⟨by decide, by decide⟩ ⟨by decide, by decide⟩ (by show 0 = 0; decide) ?_
                          refine zH_go 1 (c' := (28, [some (.inr (.inr (some 21))), some (.inl 5)], [.inl 5], (zs h hl))) rfl ?_
                          refine zH_ret (v := some (.inl 5)) rfl (fun q => absurd q (by decide)) ?_
                          refine ⟨5, by omega, fun j hj => by rcases (show j = 0 ∨ j = 1 ∨ j = 2 ∨ j = 3 ∨ j = 4 by omega) with rfl | rfl | rfl | rfl | rfl <;> assumption, ?_, rfl, rfl⟩
                          first | exact Or.inl (by omega) | exact Or.inr (by assumption)
                    · show zH _ _ (18, [some (.inr (.inr (some 21))), some (.inl 4)], [.inl 0], (zs h hl)) _
                      refine zH_bt (x := 0) (y := 0) (k := .eq) (c1 := (27, [some (.inr (.inr (some 21))), some (.inl 4)], [], (zs h hl))) (c2 := (21, [some (.inr (.inr (some 21))), some (.inl 4)], [], (zs h hl))) rfl ⟨by decide, by decide⟩ ⟨by decide, by decide⟩ (by show 0 = 0; decide) ?_
                      refine zH_go 1 (c' := (28, [some (.inr (.inr (some 21))), some (.inl 4)], [.inl 4], (zs h hl))) rfl ?_
                      refine zH_ret (v := some (.inl 4)) rfl (fun q => absurd q (by decide)) ?_
                      refine ⟨4, by omega, fun j hj => by rcases (show j = 0 ∨ j = 1 ∨ j = 2 ∨ j = 3 by omega) with rfl | rfl | rfl | rfl <;> assumption, ?_, rfl, rfl⟩
                      first | exact Or.inl (by omega) | exact Or.inr (by assumption)
                · show zH _ _ (18, [some (.inr (.inr (some 21))), some (.inl 3)], [.inl 0], (zs h hl)) _
                  refine zH_bt (x := 0) (y := 0) (k := .eq) (c1 := (27, [some (.inr (.inr (some 21))), some (.inl 3)], [], (zs h hl))) (c2 := (21, [some (.inr (.inr (some 21))), some (.inl 3)], [], (zs h hl))) rfl ⟨by decide, by decide⟩ ⟨by decide, by decide⟩ (by show 0 = 0; decide) ?_
                  refine zH_go 1 (c' := (28, [some (.inr (.inr (some 21))), some (.inl 3)], [.inl 3], (zs h hl))) rfl ?_
                  refine zH_ret (v := some (.inl 3)) rfl (fun q => absurd q (by decide)) ?_
                  refine ⟨3, by omega, fun j hj => by rcases (show j = 0 ∨ j = 1 ∨ j = 2 by omega) with rfl | rfl | rfl <;> assumption, ?_, rfl, rfl⟩
                  first | exact Or.inl (by omega) | exact Or.inr (by assumption)
            · show zH _ _ (18, [some (.inr (.inr (some 21))), some (.inl 2)], [.inl 0], (zs h hl)) _
              refine zH_bt (x := 0) (y := 0) (k := .eq) (c1 := (27, [some (.inr (.inr (some 21))), some (.inl 2)], [], (zs h hl))) (c2 := (21, [some (.inr (.inr (some 21))), some (.inl 2)], [], (zs h hl))) rfl ⟨by decide, by decide⟩ ⟨by decide, by decide⟩ (by show 0 = 0; decide) ?_
              refine zH_go 1 (c' := (28, [some (.inr (.inr (some 21))), some (.inl 2)], [.inl 2], (zs h hl))) rfl ?_
              refine zH_ret (v := some (.inl 2)) rfl (fun q => absurd q (by decide)) ?_
              refine ⟨2, by omega, fun j hj => by rcases (show j = 0 ∨ j = 1 by omega) with rfl | rfl <;> assumption, ?_, rfl, rfl⟩
              first | exact Or.inl (by omega) | exact Or.inr (by assumption)
        · show zH _ _ (18, [some (.inr (.inr (some 21))), some (.inl 1)], [.inl 0], (zs h hl)) _
          refine zH_bt (x := 0) (y := 0) (k := .eq) (c1 := (27, [some (.inr (.inr (some 21))), some (.inl 1)], [], (zs h hl))) (c2 := (21, [some (.inr (.inr (some 21))), some (.inl 1)], [], (zs h hl))) rfl ⟨by decide, by decide⟩ ⟨by decide, by decide⟩ (by show 0 = 0; decide) ?_
          refine zH_go 1 (c' := (28, [some (.inr (.inr (some 21))), some (.inl 1)], [.inl 1], (zs h hl))) rfl ?_
          refine zH_ret (v := some (.inl 1)) rfl (fun q => absurd q (by decide)) ?_
          refine ⟨1, by omega, fun j hj => by rcases (show j = 0 by omega) with rfl <;> assumption, ?_, rfl, rfl⟩
          first | exact Or.inl (by omega) | exact Or.inr (by assumption)
    · show zH _ _ (18, [some (.inr (.inr (some 21))), some (.inl 0)], [.inl 0], (zs h hl)) _
      refine zH_bt (x := 0) (y := 0) (k := .eq) (c1 := (27, [some (.inr (.inr (some 21))), some (.inl 0)], [], (zs h hl))) (c2 := (21, [some (.inr (.inr (some 21))), some (.inl 0)], [], (zs h hl))) rfl ⟨by decide, by decide⟩ ⟨by decide, by decide⟩ (by show 0 = 0; decide) ?_
      refine zH_go 1 (c' := (28, [some (.inr (.inr (some 21))), some (.inl 0)], [.inl 0], (zs h hl))) rfl ?_
      refine zH_ret (v := some (.inl 0)) rfl (fun q => absurd q (by decide)) ?_
      refine ⟨0, by omega, fun j hj => absurd hj (Nat.not_lt_zero j), ?_, rfl, rfl⟩
      first | exact Or.inl (by omega) | exact Or.inr (by assumption)
set_option maxRecDepth 100000 in
set_option maxHeartbeats 4000000 in
theorem p_startT {d : Nat} {h hl : Nat → Nat → Int} {p L B : Nat} (hS : zSI h p L) (hT : zTD h p) (hBs : zSb p L B = true) (hBl : B < 512) : zQ (d + 4) 13 [.inr (.inr (some 48)), .inl (B : Int)] (zs h hl) (fun r σ' => r = none ∧ ∃ g : Nat → Nat → Int, σ' = zs g hl ∧ zStartP h g L B 48 58 59 49 51) := by
  refine zQ_of (Nat.le_of_ble_eq_true rfl) ?_
  show zH (d + 3) 13 (0, [some (.inr (.inr (some 48))), some (.inl (B : Int))], [], (zs h hl)) _
  refine zH_go 4 (c' := (8, [some (.inr (.inr (some 48))), some (.inl (B : Int))], [.inl (h 18 1), .inr (.inr (some 48))], (zs h hl))) rfl ?_
  rw [hS.2.2.1]
  refine zH_go 7 (c' := (21, [some (.inr (.inr (some 48))), some (.inl (B : Int))], [.inl (B : Int), .inr (.inr (some 49))], (zs (zup (zup h 48 3 (L : Int)) 48 5 (B : Int)) hl))) rfl ?_
  obtain ⟨h1, e1⟩ : ∃ h1, h1 = (zup (zup h 48 3 (L : Int)) 48 5 (B : Int)) := ⟨_, rfl⟩
  have k1 : ∀ c : Nat, c ≠ 48 → h1 c = h c := fun c hc => by rw [e1]; funext q; simp [zup_at, hc]
  have k3 : h1 48 3 = (L : Int) := by rw [e1]; simp [zup_at]
  have k5 : h1 48 5 = (B : Int) := by rw [e1]; simp [zup_at]
  rw [← e1]
  refine zH_call (M' := 56) (as := [.inr (.inr (some 49)), .inl (B : Int)]) (T := []) rfl (p_wstartT (p := p) (L := L) (B := B) (zSI_same hS (k1 18 (by decide)) (k1 19 (by decide)) (k1 20 (by decide))) (zTD_same hS.2.1 hT (fun c hc => k1 c (by omega))) hBs) (fun r σ' p_1 => ?_)
  obtain ⟨rfl, g, rfl, f1, f2, f3, f4⟩ := p_1
  show zH _ _ (24, [some (.inr (.inr (some 48))), some (.inl (B : Int))], [], (zs g hl)) _
  refine zH_go 1 (c' := (25, [some (.inr (.inr (some 48))), some (.inl (B : Int))], [.inr (.inr (some 48))], (zs g hl))) rfl ?_
  refine zH_call (M' := 14) (as := [.inr (.inr (some 48))]) (T := []) rfl (p_rewindT (B := B) hBl (by rw [f1 48 (by decide) (by decide)]; exact k5)) (fun r σ' p_2 => ?_)
  obtain ⟨rfl, g2, rfl, q1, q2, q3, q4, q5, q6, q7⟩ := p_2
  show zH _ _ (28, [some (.inr (.inr (some 48))), some (.inl (B : Int))], [], (zs g2 hl)) _
  refine zH_ret (v := none) rfl (fun q => absurd q (by decide)) ?_
  exact ⟨rfl, g2, rfl, fun c a1 a2 a3 a4 a5 => (q1 c a1 a2 a3).trans ((f1 c a4 a5).trans (k1 c a1)), by rw [q5 3 (by decide) (by decide) (by decide), f1 48 (by decide) (by decide)]; exact k3, by rw [q5 5 (by decide) (by decide) (by decide), f1 48 (by decide) (by decide)]; exact k5, q2, q3, q4, q6, q7, by rw [q1 49 (by decide) (by decide) (by decide)]; exact f2, fun j hj => by
    rw [q1 51 (by decide) (by decide) (by decide), f4 j (by rw [k1 18 (by decide)]; exact hj), k1 19 (by decide)]
    exact zMv_same (fun c h1 h2 => k1 c (by omega))⟩
set_option maxRecDepth 100000 in
set_option maxHeartbeats 4000000 in
theorem p_stopT {d : Nat} {h hl : Nat → Nat → Int}  : zQ (d + 3) 15 [.inr (.inr (some 48))] (zs h hl) (fun r σ' => r = none ∧ ∃ g : Nat → Nat → Int, σ' = zs g hl ∧ zStopP h g 48 58 59) := by
  refine zQ_of (Nat.le_of_ble_eq_true rfl) ?_
  show zH (d + 2) 15 (0, [some (.inr (.inr (some 48)))], [], (zs h hl)) _
  refine zH_go 7 (c' := (11, [some (.inr (.inr (some 48)))], [.inr (.inr (some 48))], (zs (zup (zup h 48 3 0) 48 5 0) hl))) rfl ?_
  obtain ⟨h1, e1⟩ : ∃ h1, h1 = (zup (zup h 48 3 0) 48 5 0) := ⟨_, rfl⟩
  have k1 : ∀ c : Nat, c ≠ 48 → h1 c = h c := fun c hc => by rw [e1]; funext q; simp [zup_at, hc]
  have k3 : h1 48 3 = 0 := by rw [e1]; simp [zup_at]
  have k5 : h1 48 5 = ((0 : Nat) : Int) := by rw [e1]; simp [zup_at]
  rw [← e1]
  refine zH_call (M' := 14) (as := [.inr (.inr (some 48))]) (T := []) rfl (p_rewindT (B := 0) (by decide) k5) (fun r σ' p_1 => ?_)
  obtain ⟨rfl, g2, rfl, q1, q2, q3, q4, q5, q6, q7⟩ := p_1
  show zH _ _ (14, [some (.inr (.inr (some 48)))], [], (zs g2 hl)) _
  refine zH_ret (v := none) rfl (fun q => absurd q (by decide)) ?_
  exact ⟨rfl, g2, rfl, fun c a1 a2 a3 => (q1 c a1 a2 a3).trans (k1 c a1), by rw [q5 3 (by decide) (by decide) (by decide)]; exact k3, by rw [q5 5 (by decide) (by decide) (by decide)]; exact k5, q2, q3, q4, fun i hi => by
    rw [q6 i hi]
    rcases (show i = 0 ∨ i = 1 ∨ i = 2 by omega) with rfl | rfl | rfl <;> decide, q7⟩
set_option maxRecDepth 100000 in
set_option maxHeartbeats 4000000 in
theorem p_toldT0 {d : Nat} {h hl : Nat → Nat → Int} {n : Nat} {i : Int} (hi : zr i) (hn : h 48 4 = (n : Int)) (hn2 : n ≤ 3) : zQ (d + 1) 24 [.inr (.inr (some 48)), .inl i, .inl 0] (zs h hl) (fun r σ' => ∃ x : Int, zTold h 60 61 62 63 n i 0 x ∧ r = some (.inl x) ∧ σ' = zs h hl) := by
  refine zQ_of (Nat.le_of_ble_eq_true rfl) ?_
  show zH d 24 (0, [some (.inr (.inr (some 48))), some (.inl i), some (.inl 0)], [], (zs h hl)) _
  refine zH_go 1 (c' := (1, [some (.inr (.inr (some 48))), some (.inl i), some (.inl 0)], [.inl i], (zs h hl))) rfl ?_
  refine zH_br (x := i) (y := 0) (k := .lt) (c1 := (21, [some (.inr (.inr (some 48))), some (.inl i), some (.inl 0)], [], (zs h hl))) (c2 := (4, [some (.inr (.inr (some 48))), some (.inl i), some (.inl 0)], [], (zs h hl))) rfl (by first | assumption | (unfold zr; omega)) ⟨by decide, by decide⟩ (fun (b_1 : i < 0) => ?_) (fun (b_1 : ¬ (i < 0)) => ?_)
  · refine zH_go 1 (c' := (22, [some (.inr (.inr (some 48))), some (.inl i), some (.inl 0)], [.inl (-1)], (zs h hl))) rfl ?_
    refine zH_ret (v := some (.inl (-1))) rfl (fun q => absurd q (by decide)) ?_
    exact ⟨_, Or.inl ⟨by omega, rfl⟩, rfl, rfl⟩
  · refine zH_go 3 (c' := (9, [some (.inr (.inr (some 48))), some (.inl i), some (.inl 0)], [.inl (h 48 4), .inl i], (zs h hl))) rfl ?_
    rw [hn]
    refine zH_br (x := i) (y := (n : Int)) (k := .ge) (c1 := (21, [some (.inr (.inr (some 48))), some (.inl i), some (.inl 0)], [], (zs h hl))) (c2 := (12, [some (.inr (.inr (some 48))), some (.inl i), some (.inl 0)], [], (zs h hl))) rfl (by first | assumption | (unfold zr; omega)) (by first | assumption | (unfold zr; omega)) (fun (b_2 : ¬ i < (n : Int)) => ?_) (fun (b_2 : ¬ (¬ i < (n : Int))) => ?_)
    · refine zH_go 1 (c' := (22, [some (.inr (.inr (some 48))), some (.inl i), some (.inl 0)], [.inl (-1)], (zs h hl))) rfl ?_
      refine zH_ret (v := some (.inl (-1))) rfl (fun q => absurd q (by decide)) ?_
      exact ⟨_, Or.inl ⟨by omega, rfl⟩, rfl, rfl⟩
    · refine zH_go 4 (c' := (18, [some (.inr (.inr (some 48))), some (.inl i), some (.inl 0)], [.inl 3, .inl i], (zs h hl))) rfl ?_
      refine zH_br (x := i) (y := 3) (k := .lt) (c1 := (23, [some (.inr (.inr (some 48))), some (.inl i), some (.inl 0)], [], (zs h hl))) (c2 := (21, [some (.inr (.inr (some 48))), some (.inl i), some (.inl 0)], [], (zs h hl))) rfl (by first | assumption | (unfold zr; omega)) ⟨by decide, by decide⟩ (fun (b_3 : i < 3) => ?_) (fun (b_3 : ¬ (i < 3)) => ?_)
      · refine zH_go 1 (c' := (24, [some (.inr (.inr (some 48))), some (.inl i), some (.inl 0)], [.inl 0], (zs h hl))) rfl ?_
        refine zH_sw rfl ⟨by decide, by decide⟩ (tgt := 56) rfl ?_
        show zH _ _ (56, [some (.inr (.inr (some 48))), some (.inl i), some (.inl 0)], [], (zs h hl)) _
        refine zH_go 3 (c' := (61, [some (.inr (.inr (some 48))), some (.inl i), some (.inl 0)], [.inl i, .inr (.inr (some 60))], (zs h hl))) rfl ?_
        refine zH_np (P := 0 ≤ i ∧ i < ((3 : Nat) : Int)) (c' := (62, [some (.inr (.inr (some 48))), some (.inl i), some (.inl 0)], [.inl (h 60 (Int.toNat i))], (zs h hl))) rfl ⟨by omega, by omega⟩ ?_
        refine zH_ret (v := some (.inl (h 60 (Int.toNat i)))) rfl (fun q => absurd q (by decide)) ?_
        exact ⟨_, Or.inr ⟨by omega, by omega, by first | exact Or.inl ⟨rfl, rfl⟩ | exact Or.inr (Or.inl ⟨rfl, rfl⟩) | exact Or.inr (Or.inr (Or.inl ⟨rfl, rfl⟩)) | exact Or.inr (Or.inr (Or.inr ⟨rfl, rfl⟩))⟩, rfl, rfl⟩
      · refine zH_go 1 (c' := (22, [some (.inr (.inr (some 48))), some (.inl i), some (.inl 0)], [.inl (-1)], (zs h hl))) rfl ?_
        refine zH_ret (v := some (.inl (-1))) rfl (fun q => absurd q (by decide)) ?_
        exact ⟨_, Or.inl ⟨by omega, rfl⟩, rfl, rfl⟩
set_option maxRecDepth 100000 in
set_option maxHeartbeats 4000000 in
theorem p_toldT1 {d : Nat} {h hl : Nat → Nat → Int} {n : Nat} {i : Int} (hi : zr i) (hn : h 48 4 = (n : Int)) (hn2 : n ≤ 3) : zQ (d + 1) 24 [.inr (.inr (some 48)), .inl i, .inl 1] (zs h hl) (fun r σ' => ∃ x : Int, zTold h 60 61 62 63 n i 1 x ∧ r = some (.inl x) ∧ σ' = zs h hl) := by
  refine zQ_of (Nat.le_of_ble_eq_true rfl) ?_
  show zH d 24 (0, [some (.inr (.inr (some 48))), some (.inl i), some (.inl 1)], [], (zs h hl)) _
  refine zH_go 1 (c' := (1, [some (.inr (.inr (some 48))), some (.inl i), some (.inl 1)], [.inl i], (zs h hl))) rfl ?_
  refine zH_br (x := i) (y := 0) (k := .lt) (c1 := (21, [some (.inr (.inr (some 48))), some (.inl i), some (.inl 1)], [], (zs h hl))) (c2 := (4, [some (.inr (.inr (some 48))), some (.inl i), some (.inl 1)], [], (zs h hl))) rfl (by first | assumption | (unfold zr; omega)) ⟨by decide, by decide⟩ (fun (b_1 : i < 0) => ?_) (fun (b_1 : ¬ (i < 0)) => ?_)
  · refine zH_go 1 (c' := (22, [some (.inr (.inr (some 48))), some (.inl i), some (.inl 1)], [.inl (-1)], (zs h hl))) rfl ?_
    refine zH_ret (v := some (.inl (-1))) rfl (fun q => absurd q (by decide)) ?_
    exact ⟨_, Or.inl ⟨by omega, rfl⟩, rfl, rfl⟩
  · refine zH_go 3 (c' := (9, [some (.inr (.inr (some 48))), some (.inl i), some (.inl 1)], [.inl (h 48 4), .inl i], (zs h hl))) rfl ?_
    rw [hn]
    refine zH_br (x := i) (y := (n : Int)) (k := .ge) (c1 := (21, [some (.inr (.inr (some 48))), some (.inl i), some (.inl 1)], [], (zs h hl))) (c2 := (12, [some (.inr (.inr (some 48))), some (.inl i), some (.inl 1)], [], (zs h hl))) rfl (by first | assumption | (unfold zr; omega)) (by first | assumption | (unfold zr; omega)) (fun (b_2 : ¬ i < (n : Int)) => ?_) (fun (b_2 : ¬ (¬ i < (n : Int))) => ?_)
    · refine zH_go 1 (c' := (22, [some (.inr (.inr (some 48))), some (.inl i), some (.inl 1)], [.inl (-1)], (zs h hl))) rfl ?_
      refine zH_ret (v := some (.inl (-1))) rfl (fun q => absurd q (by decide)) ?_
      exact ⟨_, Or.inl ⟨by omega, rfl⟩, rfl, rfl⟩
    · refine zH_go 4 (c' := (18, [some (.inr (.inr (some 48))), some (.inl i), some (.inl 1)], [.inl 3, .inl i], (zs h hl))) rfl ?_
      refine zH_br (x := i) (y := 3) (k := .lt) (c1 := (23, [some (.inr (.inr (some 48))), some (.inl i), some (.inl 1)], [], (zs h hl))) (c2 := (21, [some (.inr (.inr (some 48))), some (.inl i), some (.inl 1)], [], (zs h hl))) rfl (by first | assumption | (unfold zr; omega)) ⟨by decide, by decide⟩ (fun (b_3 : i < 3) => ?_) (fun (b_3 : ¬ (i < 3)) => ?_)
      · refine zH_go 1 (c' := (24, [some (.inr (.inr (some 48))), some (.inl i), some (.inl 1)], [.inl 1], (zs h hl))) rfl ?_
        refine zH_sw rfl ⟨by decide, by decide⟩ (tgt := 63) rfl ?_
        show zH _ _ (63, [some (.inr (.inr (some 48))), some (.inl i), some (.inl 1)], [], (zs h hl)) _
        refine zH_go 3 (c' := (68, [some (.inr (.inr (some 48))), some (.inl i), some (.inl 1)], [.inl i, .inr (.inr (some 61))], (zs h hl))) rfl ?_
        refine zH_np (P := 0 ≤ i ∧ i < ((3 : Nat) : Int)) (c' := (69, [some (.inr (.inr (some 48))), some (.inl i), some (.inl 1)], [.inl (h 61 (Int.toNat i))], (zs h hl))) rfl ⟨by omega, by omega⟩ ?_
        refine zH_ret (v := some (.inl (h 61 (Int.toNat i)))) rfl (fun q => absurd q (by decide)) ?_
        exact ⟨_, Or.inr ⟨by omega, by omega, by first | exact Or.inl ⟨rfl, rfl⟩ | exact Or.inr (Or.inl ⟨rfl, rfl⟩) | exact Or.inr (Or.inr (Or.inl ⟨rfl, rfl⟩)) | exact Or.inr (Or.inr (Or.inr ⟨rfl, rfl⟩))⟩, rfl, rfl⟩
      · refine zH_go 1 (c' := (22, [some (.inr (.inr (some 48))), some (.inl i), some (.inl 1)], [.inl (-1)], (zs h hl))) rfl ?_
        refine zH_ret (v := some (.inl (-1))) rfl (fun q => absurd q (by decide)) ?_
        exact ⟨_, Or.inl ⟨by omega, rfl⟩, rfl, rfl⟩
set_option maxRecDepth 100000 in
set_option maxHeartbeats 4000000 in
theorem p_toldT2 {d : Nat} {h hl : Nat → Nat → Int} {n : Nat} {i : Int} (hi : zr i) (hn : h 48 4 = (n : Int)) (hn2 : n ≤ 3) : zQ (d + 1) 24 [.inr (.inr (some 48)), .inl i, .inl 2] (zs h hl) (fun r σ' => ∃ x : Int, zTold h 60 61 62 63 n i 2 x ∧ r = some (.inl x) ∧ σ' = zs h hl) := by
  refine zQ_of (Nat.le_of_ble_eq_true rfl) ?_
  show zH d 24 (0, [some (.inr (.inr (some 48))), some (.inl i), some (.inl 2)], [], (zs h hl)) _
  refine zH_go 1 (c' := (1, [some (.inr (.inr (some 48))), some (.inl i), some (.inl 2)], [.inl i], (zs h hl))) rfl ?_
  refine zH_br (x := i) (y := 0) (k := .lt) (c1 := (21, [some (.inr (.inr (some 48))), some (.inl i), some (.inl 2)], [], (zs h hl))) (c2 := (4, [some (.inr (.inr (some 48))), some (.inl i), some (.inl 2)], [], (zs h hl))) rfl (by first | assumption | (unfold zr; omega)) ⟨by decide, by decide⟩ (fun (b_1 : i < 0) => ?_) (fun (b_1 : ¬ (i < 0)) => ?_)
  · refine zH_go 1 (c' := (22, [some (.inr (.inr (some 48))), some (.inl i), some (.inl 2)], [.inl (-1)], (zs h hl))) rfl ?_
    refine zH_ret (v := some (.inl (-1))) rfl (fun q => absurd q (by decide)) ?_
    exact ⟨_, Or.inl ⟨by omega, rfl⟩, rfl, rfl⟩
  · refine zH_go 3 (c' := (9, [some (.inr (.inr (some 48))), some (.inl i), some (.inl 2)], [.inl (h 48 4), .inl i], (zs h hl))) rfl ?_
    rw [hn]
    refine zH_br (x := i) (y := (n : Int)) (k := .ge) (c1 := (21, [some (.inr (.inr (some 48))), some (.inl i), some (.inl 2)], [], (zs h hl))) (c2 := (12, [some (.inr (.inr (some 48))), some (.inl i), some (.inl 2)], [], (zs h hl))) rfl (by first | assumption | (unfold zr; omega)) (by first | assumption | (unfold zr; omega)) (fun (b_2 : ¬ i < (n : Int)) => ?_) (fun (b_2 : ¬ (¬ i < (n : Int))) => ?_)
    · refine zH_go 1 (c' := (22, [some (.inr (.inr (some 48))), some (.inl i), some (.inl 2)], [.inl (-1)], (zs h hl))) rfl ?_
      refine zH_ret (v := some (.inl (-1))) rfl (fun q => absurd q (by decide)) ?_
      exact ⟨_, Or.inl ⟨by omega, rfl⟩, rfl, rfl⟩
    · refine zH_go 4 (c' := (18, [some (.inr (.inr (some 48))), some (.inl i), some (.inl 2)], [.inl 3, .inl i], (zs h hl))) rfl ?_
      refine zH_br (x := i) (y := 3) (k := .lt) (c1 := (23, [some (.inr (.inr (some 48))), some (.inl i), some (.inl 2)], [], (zs h hl))) (c2 := (21, [some (.inr (.inr (some 48))), some (.inl i), some (.inl 2)], [], (zs h hl))) rfl (by first | assumption | (unfold zr; omega)) ⟨by decide, by decide⟩ (fun (b_3 : i < 3) => ?_) (fun (b_3 : ¬ (i < 3)) => ?_)
      · refine zH_go 1 (c' := (24, [some (.inr (.inr (some 48))), some (.inl i), some (.inl 2)], [.inl 2], (zs h hl))) rfl ?_
        refine zH_sw rfl ⟨by decide, by decide⟩ (tgt := 70) rfl ?_
        show zH _ _ (70, [some (.inr (.inr (some 48))), some (.inl i), some (.inl 2)], [], (zs h hl)) _
        refine zH_go 3 (c' := (75, [some (.inr (.inr (some 48))), some (.inl i), some (.inl 2)], [.inl i, .inr (.inr (some 62))], (zs h hl))) rfl ?_
        refine zH_np (P := 0 ≤ i ∧ i < ((3 : Nat) : Int)) (c' := (76, [some (.inr (.inr (some 48))), some (.inl i), some (.inl 2)], [.inl (h 62 (Int.toNat i))], (zs h hl))) rfl ⟨by omega, by omega⟩ ?_
        refine zH_ret (v := some (.inl (h 62 (Int.toNat i)))) rfl (fun q => absurd q (by decide)) ?_
        exact ⟨_, Or.inr ⟨by omega, by omega, by first | exact Or.inl ⟨rfl, rfl⟩ | exact Or.inr (Or.inl ⟨rfl, rfl⟩) | exact Or.inr (Or.inr (Or.inl ⟨rfl, rfl⟩)) | exact Or.inr (Or.inr (Or.inr ⟨rfl, rfl⟩))⟩, rfl, rfl⟩
      · refine zH_go 1 (c' := (22, [some (.inr (.inr (some 48))), some (.inl i), some (.inl 2)], [.inl (-1)], (zs h hl))) rfl ?_
        refine zH_ret (v := some (.inl (-1))) rfl (fun q => absurd q (by decide)) ?_
        exact ⟨_, Or.inl ⟨by omega, rfl⟩, rfl, rfl⟩
set_option maxRecDepth 100000 in
set_option maxHeartbeats 4000000 in
theorem p_toldT3 {d : Nat} {h hl : Nat → Nat → Int} {n : Nat} {i : Int} (hi : zr i) (hn : h 48 4 = (n : Int)) (hn2 : n ≤ 3) : zQ (d + 1) 24 [.inr (.inr (some 48)), .inl i, .inl 3] (zs h hl) (fun r σ' => ∃ x : Int, zTold h 60 61 62 63 n i 3 x ∧ r = some (.inl x) ∧ σ' = zs h hl) := by
  refine zQ_of (Nat.le_of_ble_eq_true rfl) ?_
  show zH d 24 (0, [some (.inr (.inr (some 48))), some (.inl i), some (.inl 3)], [], (zs h hl)) _
  refine zH_go 1 (c' := (1, [some (.inr (.inr (some 48))), some (.inl i), some (.inl 3)], [.inl i], (zs h hl))) rfl ?_
  refine zH_br (x := i) (y := 0) (k := .lt) (c1 := (21, [some (.inr (.inr (some 48))), some (.inl i), some (.inl 3)], [], (zs h hl))) (c2 := (4, [some (.inr (.inr (some 48))), some (.inl i), some (.inl 3)], [], (zs h hl))) rfl (by first | assumption | (unfold zr; omega)) ⟨by decide, by decide⟩ (fun (b_1 : i < 0) => ?_) (fun (b_1 : ¬ (i < 0)) => ?_)
  · refine zH_go 1 (c' := (22, [some (.inr (.inr (some 48))), some (.inl i), some (.inl 3)], [.inl (-1)], (zs h hl))) rfl ?_
    refine zH_ret (v := some (.inl (-1))) rfl (fun q => absurd q (by decide)) ?_
    exact ⟨_, Or.inl ⟨by omega, rfl⟩, rfl, rfl⟩
  · refine zH_go 3 (c' := (9, [some (.inr (.inr (some 48))), some (.inl i), some (.inl 3)], [.inl (h 48 4), .inl i], (zs h hl))) rfl ?_
    rw [hn]
    refine zH_br (x := i) (y := (n : Int)) (k := .ge) (c1 := (21, [some (.inr (.inr (some 48))), some (.inl i), some (.inl 3)], [], (zs h hl))) (c2 := (12, [some (.inr (.inr (some 48))), some (.inl i), some (.inl 3)], [], (zs h hl))) rfl (by first | assumption | (unfold zr; omega)) (by first | assumption | (unfold zr; omega)) (fun (b_2 : ¬ i < (n : Int)) => ?_) (fun (b_2 : ¬ (¬ i < (n : Int))) => ?_)
    · refine zH_go 1 (c' := (22, [some (.inr (.inr (some 48))), some (.inl i), some (.inl 3)], [.inl (-1)], (zs h hl))) rfl ?_
      refine zH_ret (v := some (.inl (-1))) rfl (fun q => absurd q (by decide)) ?_
      exact ⟨_, Or.inl ⟨by omega, rfl⟩, rfl, rfl⟩
    · refine zH_go 4 (c' := (18, [some (.inr (.inr (some 48))), some (.inl i), some (.inl 3)], [.inl 3, .inl i], (zs h hl))) rfl ?_
      refine zH_br (x := i) (y := 3) (k := .lt) (c1 := (23, [some (.inr (.inr (some 48))), some (.inl i), some (.inl 3)], [], (zs h hl))) (c2 := (21, [some (.inr (.inr (some 48))), some (.inl i), some (.inl 3)], [], (zs h hl))) rfl (by first | assumption | (unfold zr; omega)) ⟨by decide, by decide⟩ (fun (b_3 : i < 3) => ?_) (fun (b_3 : ¬ (i < 3)) => ?_)
      · refine zH_go 1 (c' := (24, [some (.inr (.inr (some 48))), some (.inl i), some (.inl 3)], [.inl 3], (zs h hl))) rfl ?_
        refine zH_sw rfl ⟨by decide, by decide⟩ (tgt := 77) rfl ?_
        show zH _ _ (77, [some (.inr (.inr (some 48))), some (.inl i), some (.inl 3)], [], (zs h hl)) _
        refine zH_go 3 (c' := (82, [some (.inr (.inr (some 48))), some (.inl i), some (.inl 3)], [.inl i, .inr (.inr (some 63))], (zs h hl))) rfl ?_
        refine zH_np (P := 0 ≤ i ∧ i < ((3 : Nat) : Int)) (c' := (83, [some (.inr (.inr (some 48))), some (.inl i), some (.inl 3)], [.inl (h 63 (Int.toNat i))], (zs h hl))) rfl ⟨by omega, by omega⟩ ?_
        refine zH_ret (v := some (.inl (h 63 (Int.toNat i)))) rfl (fun q => absurd q (by decide)) ?_
        exact ⟨_, Or.inr ⟨by omega, by omega, by first | exact Or.inl ⟨rfl, rfl⟩ | exact Or.inr (Or.inl ⟨rfl, rfl⟩) | exact Or.inr (Or.inr (Or.inl ⟨rfl, rfl⟩)) | exact Or.inr (Or.inr (Or.inr ⟨rfl, rfl⟩))⟩, rfl, rfl⟩
      · refine zH_go 1 (c' := (22, [some (.inr (.inr (some 48))), some (.inl i), some (.inl 3)], [.inl (-1)], (zs h hl))) rfl ?_
        refine zH_ret (v := some (.inl (-1))) rfl (fun q => absurd q (by decide)) ?_
        exact ⟨_, Or.inl ⟨by omega, rfl⟩, rfl, rfl⟩
set_option maxRecDepth 100000 in
set_option maxHeartbeats 4000000 in
theorem p_toldTe {d : Nat} {h hl : Nat → Nat → Int} {n : Nat} {i what : Int} (hi : zr i) (hw : zr what) (hsw : what < 0 ∨ 3 < what) (hn : h 48 4 = (n : Int)) (hn2 : n ≤ 3) : zQ (d + 1) 24 [.inr (.inr (some 48)), .inl i, .inl what] (zs h hl) (fun r σ' => ∃ x : Int, zTold h 60 61 62 63 n i what x ∧ r = some (.inl x) ∧ σ' = zs h hl) := by
  refine zQ_of (Nat.le_of_ble_eq_true rfl) ?_
  show zH d 24 (0, [some (.inr (.inr (some 48))), some (.inl i), some (.inl what)], [], (zs h hl)) _
  refine zH_go 1 (c' := (1, [some (.inr (.inr (some 48))), some (.inl i), some (.inl what)], [.inl i], (zs h hl))) rfl ?_
  refine zH_br (x := i) (y := 0) (k := .lt) (c1 := (21, [some (.inr (.inr (some 48))), some (.inl i), some (.inl what)], [], (zs h hl))) (c2 := (4, [some (.inr (.inr (some 48))), some (.inl i), some (.inl what)], [], (zs h hl))) rfl (by first | assumption | (unfold zr; omega)) ⟨by decide, by decide⟩ (fun (b_1 : i < 0) => ?_) (fun (b_1 : ¬ (i < 0)) => ?_)
  · refine zH_go 1 (c' := (22, [some (.inr (.inr (some 48))), some (.inl i), some (.inl what)], [.inl (-1)], (zs h hl))) rfl ?_
    refine zH_ret (v := some (.inl (-1))) rfl (fun q => absurd q (by decide)) ?_
    exact ⟨_, Or.inl ⟨by omega, rfl⟩, rfl, rfl⟩
  · refine zH_go 3 (c' := (9, [some (.inr (.inr (some 48))), some (.inl i), some (.inl what)], [.inl (h 48 4), .inl i], (zs h hl))) rfl ?_
    rw [hn]
    refine zH_br (x := i) (y := (n : Int)) (k := .ge) (c1 := (21, [some (.inr (.inr (some 48))), some (.inl i), some (.inl what)], [], (zs h hl))) (c2 := (12, [some (.inr (.inr (some 48))), some (.inl i), some (.inl what)], [], (zs h hl))) rfl (by first | assumption | (unfold zr; omega)) (by first | assumption | (unfold zr; omega)) (fun (b_2 : ¬ i < (n : Int)) => ?_) (fun (b_2 : ¬ (¬ i < (n : Int))) => ?_)
    · refine zH_go 1 (c' := (22, [some (.inr (.inr (some 48))), some (.inl i), some (.inl what)], [.inl (-1)], (zs h hl))) rfl ?_
      refine zH_ret (v := some (.inl (-1))) rfl (fun q => absurd q (by decide)) ?_
      exact ⟨_, Or.inl ⟨by omega, rfl⟩, rfl, rfl⟩
    · refine zH_go 4 (c' := (18, [some (.inr (.inr (some 48))), some (.inl i), some (.inl what)], [.inl 3, .inl i], (zs h hl))) rfl ?_
      refine zH_br (x := i) (y := 3) (k := .lt) (c1 := (23, [some (.inr (.inr (some 48))), some (.inl i), some (.inl what)], [], (zs h hl))) (c2 := (21, [some (.inr (.inr (some 48))), some (.inl i), some (.inl what)], [], (zs h hl))) rfl (by first | assumption | (unfold zr; omega)) ⟨by decide, by decide⟩ (fun (b_3 : i < 3) => ?_) (fun (b_3 : ¬ (i < 3)) => ?_)
      · refine zH_go 1 (c' := (24, [some (.inr (.inr (some 48))), some (.inl i), some (.inl what)], [.inl what], (zs h hl))) rfl ?_
        refine zH_sw rfl (by first | assumption | (unfold zr; omega)) (tgt := 84) (by rw [if_pos hsw]; rfl) ?_
        show zH _ _ (84, [some (.inr (.inr (some 48))), some (.inl i), some (.inl what)], [], (zs h hl)) _
        refine zH_go 1 (c' := (85, [some (.inr (.inr (some 48))), some (.inl i), some (.inl what)], [.inl (-1)], (zs h hl))) rfl ?_
        refine zH_ret (v := some (.inl (-1))) rfl (fun q => absurd q (by decide)) ?_
        exact ⟨_, Or.inl ⟨by omega, rfl⟩, rfl, rfl⟩
      · refine zH_go 1 (c' := (22, [some (.inr (.inr (some 48))), some (.inl i), some (.inl what)], [.inl (-1)], (zs h hl))) rfl ?_
        refine zH_ret (v := some (.inl (-1))) rfl (fun q => absurd q (by decide)) ?_
        exact ⟨_, Or.inl ⟨by omega, rfl⟩, rfl, rfl⟩
theorem p_toldT {d : Nat} {h hl : Nat → Nat → Int} {n : Nat} {i what : Int} (hi : zr i) (hw : zr what) (hn : h 48 4 = (n : Int)) (hn2 : n ≤ 3) : zQ (d + 1) 24 [.inr (.inr (some 48)), .inl i, .inl what] (zs h hl) (fun r σ' => ∃ x : Int, zTold h 60 61 62 63 n i what x ∧ r = some (.inl x) ∧ σ' = zs h hl) := by
  by_cases q : what < 0 ∨ 3 < what
  · exact p_toldTe hi hw q hn hn2
  · rcases (show what = 0 ∨ what = 1 ∨ what = 2 ∨ what = 3 by omega) with rfl | rfl | rfl | rfl
    · exact p_toldT0 hi hn hn2
    · exact p_toldT1 hi hn hn2
    · exact p_toldT2 hi hn hn2
    · exact p_toldT3 hi hn hn2
set_option maxRecDepth 100000 in
set_option maxHeartbeats 4000000 in
theorem p_bareT {d : Nat} {h hl : Nat → Nat → Int} {L : Nat} {sp : Nat → Nat} (hL3 : 1 ≤ L ∧ L ≤ 3) (hL : h 48 3 = (L : Int)) (hsp : ∀ i : Nat, i < L → h 58 i = ((sp i : Nat) : Int)) (hs6 : ∀ i : Nat, i < L → sp i < 6) (hP : 0 ≤ h 3 0 ∧ h 3 0 ≤ 6) : zQ (d + 2) 26 [.inr (.inr (some 48))] (zs h hl) (fun r σ' => ∃ k : Nat, (k : Int) ≤ h 3 0 ∧ (∀ j : Nat, j < k → zCov L sp j) ∧ ((k : Int) = h 3 0 ∨ ¬ zCov L sp k) ∧ r = some (.inl (k : Int)) ∧ σ' = zs h hl) := by
  refine zQ_of (Nat.le_of_ble_eq_true rfl) ?_
  show zH (d + 1) 26 (0, [some (.inr (.inr (some 48))), none], [], (zs h hl)) _
  refine zH_go 6 (c' := (10, [some (.inr (.inr (some 48))), some (.inl 0)], [.inl (h 3 0), .inl 0], (zs h hl))) rfl ?_
  refine zH_br (x := 0) (y := (h 3 0)) (k := .ge) (c1 := (27, [some (.inr (.inr (some 48))), some (.inl 0)], [], (zs h hl))) (c2 := (13, [some (.inr (.inr (some 48))), some (.inl 0)], [], (zs h hl))) rfl ⟨by decide, by decide⟩ (by first | assumption | (unfold zr; omega)) (fun (b_1 : ¬ 0 < (h 3 0)) => ?_) (fun (b_1 : ¬ (¬ 0 < (h 3 0))) => ?_)
  · refine zH_go 1 (c' := (28, [some (.inr (.inr (some 48))), some (.inl 0)], [.inl 0], (zs h hl))) rfl ?_
    refine zH_ret (v := some (.inl 0)) rfl (fun q => absurd q (by decide)) ?_
    refine ⟨0, by omega, fun j hj => absurd hj (Nat.not_lt_zero j), ?_, rfl, rfl⟩
    first | exact Or.inl (by omega) | exact Or.inr (by assumption)
  · refine zH_go 2 (c' := (15, [some (.inr (.inr (some 48))), some (.inl 0)], [.inl 0, .inr (.inr (some 48))], (zs h hl))) rfl ?_
    refine zH_call (M' := 25) (as := [.inr (.inr (some 48)), .inl 0]) (T := []) rfl (p_covT (pp := 0) (by decide) hL3 hL hsp hs6) (fun r σ' p_2 => ?_)
    rcases p_2 with ⟨rfl, b_3, rfl⟩ | ⟨rfl, b_3, rfl⟩
    · show zH _ _ (18, [some (.inr (.inr (some 48))), some (.inl 0)], [.inl 1], (zs h hl)) _
      refine zH_bf (x := 1) (y := 0) (k := .eq) (c1 := (27, [some (.inr (.inr (some 48))), some (.inl 0)], [], (zs h hl))) (c2 := (21, [some (.inr (.inr (some 48))), some (.inl 0)], [], (zs h hl))) rfl ⟨by decide, by decide⟩ ⟨by decide, by decide⟩ (by show ¬ (1 = 0); decide) ?_
      refine zH_go 6 (c' := (10, [some (.inr (.inr (some 48))), some (.inl 1)], [.inl (h 3 0), .inl 1], (zs h hl))) rfl ?_
      refine zH_br (x := 1) (y := (h 3 0)) (k := .ge) (c1 := (27, [some (.inr (.inr (some 48))), some (.inl 1)], [], (zs h hl))) (c2 := (13, [some (.inr (.inr (some 48))), some (.inl 1)], [], (zs h hl))) rfl ⟨by decide, by decide⟩ (by first | assumption | (unfold zr; omega)) (fun (b_4 : ¬ 1 < (h 3 0)) => ?_) (fun (b_4 : ¬ (¬ 1 < (h 3 0))) => ?_)
      · refine zH_go 1 (c' := (28, [some (.inr (.inr (some 48))), some (.inl 1)], [.inl 1], (zs h hl))) rfl ?_
        refine zH_ret (v := some (.inl 1)) rfl (fun q => absurd q (by decide)) ?_
        refine ⟨1, by omega, fun j hj => by rcases (show j = 0 by omega) with rfl <;> assumption, ?_, rfl, rfl⟩
        first | exact Or.inl (by omega) | exact Or.inr (by assumption)
      · refine zH_go 2 (c' := (15, [some (.inr (.inr (some 48))), some (.inl 1)], [.inl 1, .inr (.inr (some 48))], (zs h hl))) rfl ?_
        refine zH_call (M' := 25) (as := [.inr (.inr (some 48)), .inl 1]) (T := []) rfl (p_covT (pp := 1) (by decide) hL3 hL hsp hs6) (fun r σ' p_5 => ?_)
        rcases p_5 with ⟨rfl, b_6, rfl⟩ | ⟨rfl, b_6, rfl⟩
        · show zH _ _ (18, [some (.inr (.inr (some 48))), some (.inl 1)], [.inl 1], (zs h hl)) _
          refine zH_bf (x := 1) (y := 0) (k := .eq) (c1 := (27, [some (.inr (.inr (some 48))), some (.inl 1)], [], (zs h hl))) (c2 := (21, [some (.inr (.inr (some 48))), some (.inl 1)], [], (zs h hl))) rfl ⟨by decide, by decide⟩ ⟨by decide, by decide⟩ (by show ¬ (1 = 0); decide) ?_
          refine zH_go 6 (c' := (10, [some (.inr (.inr (some 48))), some (.inl 2)], [.inl (h 3 0), .inl 2], (zs h hl))) rfl ?_
          refine zH_br (x := 2) (y := (h 3 0)) (k := .ge) (c1 := (27, [some (.inr (.inr (some 48))), some (.inl 2)], [], (zs h hl))) (c2 := (13, [some (.inr (.inr (some 48))), some (.inl 2)], [], (zs h hl))) rfl ⟨by decide, by decide⟩ (by first | assumption | (unfold zr; omega)) (fun (b_7 : ¬ 2 < (h 3 0)) => ?_) (fun (b_7 : ¬ (¬ 2 < (h 3 0))) => ?_)
          · refine zH_go 1 (c' := (28, [some (.inr (.inr (some 48))), some (.inl 2)], [.inl 2], (zs h hl))) rfl ?_
            refine zH_ret (v := some (.inl 2)) rfl (fun q => absurd q (by decide)) ?_
            refine ⟨2, by omega, fun j hj => by rcases (show j = 0 ∨ j = 1 by omega) with rfl | rfl <;> assumption, ?_, rfl, rfl⟩
            first | exact Or.inl (by omega) | exact Or.inr (by assumption)
          · refine zH_go 2 (c' := (15, [some (.inr (.inr (some 48))), some (.inl 2)], [.inl 2, .inr (.inr (some 48))], (zs h hl))) rfl ?_
            refine zH_call (M' := 25) (as := [.inr (.inr (some 48)), .inl 2]) (T := []) rfl (p_covT (pp := 2) (by decide) hL3 hL hsp hs6) (fun r σ' p_8 => ?_)
            rcases p_8 with ⟨rfl, b_9, rfl⟩ | ⟨rfl, b_9, rfl⟩
            · show zH _ _ (18, [some (.inr (.inr (some 48))), some (.inl 2)], [.inl 1], (zs h hl)) _
              refine zH_bf (x := 1) (y := 0) (k := .eq) (c1 := (27, [some (.inr (.inr (some 48))), some (.inl 2)], [], (zs h hl))) (c2 := (21, [some (.inr (.inr (some 48))), some (.inl 2)], [], (zs h hl))) rfl ⟨by decide, by decide⟩ ⟨by decide, by decide⟩ (by show ¬ (1 = 0); decide) ?_
              refine zH_go 6 (c' := (10, [some (.inr (.inr (some 48))), some (.inl 3)], [.inl (h 3 0), .inl 3], (zs h hl))) rfl ?_
              refine zH_br (x := 3) (y := (h 3 0)) (k := .ge) (c1 := (27, [some (.inr (.inr (some 48))), some (.inl 3)], [], (zs h hl))) (c2 := (13, [some (.inr (.inr (some 48))), some (.inl 3)], [], (zs h hl))) rfl ⟨by decide, by decide⟩ (by first | assumption | (unfold zr; omega)) (fun (b_10 : ¬ 3 < (h 3 0)) => ?_) (fun (b_10 : ¬ (¬ 3 < (h 3 0))) => ?_)
              · refine zH_go 1 (c' := (28, [some (.inr (.inr (some 48))), some (.inl 3)], [.inl 3], (zs h hl))) rfl ?_
                refine zH_ret (v := some (.inl 3)) rfl (fun q => absurd q (by decide)) ?_
                refine ⟨3, by omega, fun j hj => by rcases (show j = 0 ∨ j = 1 ∨ j = 2 by omega) with rfl | rfl | rfl <;> assumption, ?_, rfl, rfl⟩
                first | exact Or.inl (by omega) | exact Or.inr (by assumption)
              · refine zH_go 2 (c' := (15, [some (.inr (.inr (some 48))), some (.inl 3)], [.inl 3, .inr (.inr (some 48))], (zs h hl))) rfl ?_
                refine zH_call (M' := 25) (as := [.inr (.inr (some 48)), .inl 3]) (T := []) rfl (p_covT (pp := 3) (by decide) hL3 hL hsp hs6) (fun r σ' p_11 => ?_)
                rcases p_11 with ⟨rfl, b_12, rfl⟩ | ⟨rfl, b_12, rfl⟩
                · show zH _ _ (18, [some (.inr (.inr (some 48))), some (.inl 3)], [.inl 1], (zs h hl)) _
                  refine zH_bf (x := 1) (y := 0) (k := .eq) (c1 := (27, [some (.inr (.inr (some 48))), some (.inl 3)], [], (zs h hl))) (c2 := (21, [some (.inr (.inr (some 48))), some (.inl 3)], [], (zs h hl))) rfl ⟨by decide, by decide⟩ ⟨by decide, by decide⟩ (by show ¬ (1 = 0); decide) ?_
                  refine zH_go 6 (c' := (10, [some (.inr (.inr (some 48))), some (.inl 4)], [.inl (h 3 0), .inl 4], (zs h hl))) rfl ?_
                  refine zH_br (x := 4) (y := (h 3 0)) (k := .ge) (c1 := (27, [some (.inr (.inr (some 48))), some (.inl 4)], [], (zs h hl))) (c2 := (13, [some (.inr (.inr (some 48))), some (.inl 4)], [], (zs h hl))) rfl ⟨by decide, by decide⟩ (by first | assumption | (unfold zr; omega)) (fun (b_13 : ¬ 4 < (h 3 0)) => ?_) (fun (b_13 : ¬ (¬ 4 < (h 3 0))) => ?_)
                  · refine zH_go 1 (c' := (28, [some (.inr (.inr (some 48))), some (.inl 4)], [.inl 4], (zs h hl))) rfl ?_
                    refine zH_ret (v := some (.inl 4)) rfl (fun q => absurd q (by decide)) ?_
                    refine ⟨4, by omega, fun j hj => by rcases (show j = 0 ∨ j = 1 ∨ j = 2 ∨ j = 3 by omega) with rfl | rfl | rfl | rfl <;> assumption, ?_, rfl, rfl⟩
                    first | exact Or.inl (by omega) | exact Or.inr (by assumption)
                  · refine zH_go 2 (c' := (15, [some (.inr (.inr (some 48))), some (.inl 4)], [.inl 4, .inr (.inr (some 48))], (zs h hl))) rfl ?_
                    refine zH_call (M' := 25) (as := [.inr (.inr (some 48)), .inl 4]) (T := []) rfl (p_covT (pp := 4) (by decide) hL3 hL hsp hs6) (fun r σ' p_14 => ?_)
                    rcases p_14 with ⟨rfl, b_15, rfl⟩ | ⟨rfl, b_15, rfl⟩
                    · show zH _ _ (18, [some (.inr (.inr (some 48))), some (.inl 4)], [.inl 1], (zs h hl)) _
                      refine zH_bf (x := 1) (y := 0) (k := .eq) (c1 := (27, [some (.inr (.inr (some 48))), some (.inl 4)], [], (zs h hl))) (c2 := (21, [some (.inr (.inr (some 48))), some (.inl 4)], [], (zs h hl))) rfl ⟨by decide, by decide⟩ ⟨by decide, by decide⟩ (by show ¬ (1 = 0); decide) ?_
                      refine zH_go 6 (c' := (10, [some (.inr (.inr (some 48))), some (.inl 5)], [.inl (h 3 0), .inl 5], (zs h hl))) rfl ?_
                      refine zH_br (x := 5) (y := (h 3 0)) (k := .ge) (c1 := (27, [some (.inr (.inr (some 48))), some (.inl 5)], [], (zs h hl))) (c2 := (13, [some (.inr (.inr (some 48))), some (.inl 5)], [], (zs h hl))) rfl ⟨by decide, by decide⟩ (by first | assumption | (unfold zr; omega)) (fun (b_16 : ¬ 5 < (h 3 0)) => ?_) (fun (b_16 : ¬ (¬ 5 < (h 3 0))) => ?_)
                      · refine zH_go 1 (c' := (28, [some (.inr (.inr (some 48))), some (.inl 5)], [.inl 5], (zs h hl))) rfl ?_
                        refine zH_ret (v := some (.inl 5)) rfl (fun q => absurd q (by decide)) ?_
                        refine ⟨5, by omega, fun j hj => by rcases (show j = 0 ∨ j = 1 ∨ j = 2 ∨ j = 3 ∨ j = 4 by omega) with rfl | rfl | rfl | rfl | rfl <;> assumption, ?_, rfl, rfl⟩
                        first | exact Or.inl (by omega) | exact Or.inr (by assumption)
                      · refine zH_go 2 (c' := (15, [some (.inr (.inr (some 48))), some (.inl 5)], [.inl 5, .inr (.inr (some 48))], (zs h hl))) rfl ?_
                        refine zH_call (M' := 25) (as := [.inr (.inr (some 48)), .inl 5]) (T := []) rfl (p_covT (pp := 5) (by decide) hL3 hL hsp hs6) (fun r σ' p_17 => ?_)
                        rcases p_17 with ⟨rfl, b_18, rfl⟩ | ⟨rfl, b_18, rfl⟩
                        · show zH _ _ (18, [some (.inr (.inr (some 48))), some (.inl 5)], [.inl 1], (zs h hl)) _
                          refine zH_bf (x := 1) (y := 0) (k := .eq) (c1 := (27, [some (.inr (.inr (some 48))), some (.inl 5)], [], (zs h hl))) (c2 := (21, [some (.inr (.inr (some 48))), some (.inl 5)], [], (zs h hl))) rfl ⟨by decide, by decide⟩ ⟨by decide, by decide⟩ (by show ¬ (1 = 0); decide) ?_
                          refine zH_go 6 (c' := (10, [some (.inr (.inr (some 48))), some (.inl 6)], [.inl (h 3 0), .inl 6], (zs h hl))) rfl ?_
                          refine zH_br (x := 6) (y := (h 3 0)) (k := .ge) (c1 := (27, [some (.inr (.inr (some 48))), some (.inl 6)], [], (zs h hl))) (c2 := (13, [some (.inr (.inr (some 48))), some (.inl 6)], [], (zs h hl))) rfl ⟨by decide, by decide⟩ (by first | assumption | (unfold zr; omega)) (fun (b_19 : ¬ 6 < (h 3 0)) => ?_) (fun (b_19 : ¬ (¬ 6 < (h 3 0))) => ?_)
                          · refine zH_go 1 (c' := (28, [some (.inr (.inr (some 48))), some (.inl 6)], [.inl 6], (zs h hl))) rfl ?_
                            refine zH_ret (v := some (.inl 6)) rfl (fun q => absurd q (by decide)) ?_
                            refine ⟨6, by omega, fun j hj => by rcases (show j = 0 ∨ j = 1 ∨ j = 2 ∨ j = 3 ∨ j = 4 ∨ j = 5 by omega) with rfl | rfl | rfl | rfl | rfl | rfl <;> assumption, ?_, rfl, rfl⟩
                            first | exact Or.inl (by omega) | exact Or.inr (by assumption)
                          · exfalso
                            omega
                        · show zH _ _ (18, [some (.inr (.inr (some 48))), some (.inl 5)], [.inl 0], (zs h hl)) _
                          refine zH_bt (x := 0) (y := 0) (k := .eq) (c1 := (27, [some (.inr (.inr (some 48))), some (.inl 5)], [], (zs h hl))) (c2 := (21, [some (.inr (.inr (some 48))), some (.inl 5)], [], (zs h hl))) rfl ⟨by decide, by decide⟩ ⟨by decide, by decide⟩ (by show 0 = 0; decide) ?_
                          refine zH_go 1 (c' := (28, [some (.inr (.inr (some 48))), some (.inl 5)], [.inl 5], (zs h hl))) rfl ?_
                          refine zH_ret (v := some (.inl 5)) rfl (fun q => absurd q (by decide)) ?_
                          refine ⟨5, by omega, fun j hj => by rcases (show j = 0 ∨ j = 1 ∨ j = 2 ∨ j = 3 ∨ j = 4 by omega) with rfl | rfl | rfl | rfl | rfl <;> assumption, ?_, rfl, rfl⟩
                          first | exact Or.inl (by omega) | exact Or.inr (by assumption)
                    · show zH _ _ (18, [some (.inr (.inr (some 48))), some (.inl 4)], [.inl 0], (zs h hl)) _
                      refine zH_bt (x := 0) (y := 0) (k := .eq) (c1 := (27, [some (.inr (.inr (some 48))), some (.inl 4)], [], (zs h hl))) (c2 := (21, [some (.inr (.inr (some 48))), some (.inl 4)], [], (zs h hl))) rfl ⟨by decide, by decide⟩ ⟨by decide, by decide⟩ (by show 0 = 0; decide) ?_
                      refine zH_go 1 (c' := (28, [some (.inr (.inr (some 48))), some (.inl 4)], [.inl 4], (zs h hl))) rfl ?_
                      refine zH_ret (v := some (.inl 4)) rfl (fun q => absurd q (by decide)) ?_
                      refine ⟨4, by omega, fun j hj => by rcases (show j = 0 ∨ j = 1 ∨ j = 2 ∨ j = 3 by omega) with rfl | rfl | rfl | rfl <;> assumption, ?_, rfl, rfl⟩
                      first | exact Or.inl (by omega) | exact Or.inr (by assumption)
                · show zH _ _ (18, [some (.inr (.inr (some 48))), some (.inl 3)], [.inl 0], (zs h hl)) _
                  refine zH_bt (x := 0) (y := 0) (k := .eq) (c1 := (27, [some (.inr (.inr (some 48))), some (.inl 3)], [], (zs h hl))) (c2 := (21, [some (.inr (.inr (some 48))), some (.inl 3)], [], (zs h hl))) rfl ⟨by decide, by decide⟩ ⟨by decide, by decide⟩ (by show 0 = 0; decide) ?_
                  refine zH_go 1 (c' := (28, [some (.inr (.inr (some 48))), some (.inl 3)], [.inl 3], (zs h hl))) rfl ?_
                  refine zH_ret (v := some (.inl 3)) rfl (fun q => absurd q (by decide)) ?_
                  refine ⟨3, by omega, fun j hj => by rcases (show j = 0 ∨ j = 1 ∨ j = 2 by omega) with rfl | rfl | rfl <;> assumption, ?_, rfl, rfl⟩
                  first | exact Or.inl (by omega) | exact Or.inr (by assumption)
            · show zH _ _ (18, [some (.inr (.inr (some 48))), some (.inl 2)], [.inl 0], (zs h hl)) _
              refine zH_bt (x := 0) (y := 0) (k := .eq) (c1 := (27, [some (.inr (.inr (some 48))), some (.inl 2)], [], (zs h hl))) (c2 := (21, [some (.inr (.inr (some 48))), some (.inl 2)], [], (zs h hl))) rfl ⟨by decide, by decide⟩ ⟨by decide, by decide⟩ (by show 0 = 0; decide) ?_
              refine zH_go 1 (c' := (28, [some (.inr (.inr (some 48))), some (.inl 2)], [.inl 2], (zs h hl))) rfl ?_
              refine zH_ret (v := some (.inl 2)) rfl (fun q => absurd q (by decide)) ?_
              refine ⟨2, by omega, fun j hj => by rcases (show j = 0 ∨ j = 1 by omega) with rfl | rfl <;> assumption, ?_, rfl, rfl⟩
              first | exact Or.inl (by omega) | exact Or.inr (by assumption)
        · show zH _ _ (18, [some (.inr (.inr (some 48))), some (.inl 1)], [.inl 0], (zs h hl)) _
          refine zH_bt (x := 0) (y := 0) (k := .eq) (c1 := (27, [some (.inr (.inr (some 48))), some (.inl 1)], [], (zs h hl))) (c2 := (21, [some (.inr (.inr (some 48))), some (.inl 1)], [], (zs h hl))) rfl ⟨by decide, by decide⟩ ⟨by decide, by decide⟩ (by show 0 = 0; decide) ?_
          refine zH_go 1 (c' := (28, [some (.inr (.inr (some 48))), some (.inl 1)], [.inl 1], (zs h hl))) rfl ?_
          refine zH_ret (v := some (.inl 1)) rfl (fun q => absurd q (by decide)) ?_
          refine ⟨1, by omega, fun j hj => by rcases (show j = 0 by omega) with rfl <;> assumption, ?_, rfl, rfl⟩
          first | exact Or.inl (by omega) | exact Or.inr (by assumption)
    · show zH _ _ (18, [some (.inr (.inr (some 48))), some (.inl 0)], [.inl 0], (zs h hl)) _
      refine zH_bt (x := 0) (y := 0) (k := .eq) (c1 := (27, [some (.inr (.inr (some 48))), some (.inl 0)], [], (zs h hl))) (c2 := (21, [some (.inr (.inr (some 48))), some (.inl 0)], [], (zs h hl))) rfl ⟨by decide, by decide⟩ ⟨by decide, by decide⟩ (by show 0 = 0; decide) ?_
      refine zH_go 1 (c' := (28, [some (.inr (.inr (some 48))), some (.inl 0)], [.inl 0], (zs h hl))) rfl ?_
      refine zH_ret (v := some (.inl 0)) rfl (fun q => absurd q (by decide)) ?_
      refine ⟨0, by omega, fun j hj => absurd hj (Nat.not_lt_zero j), ?_, rfl, rfl⟩
      first | exact Or.inl (by omega) | exact Or.inr (by assumption)
