/-! A day: beginning, hearing, sending, taking back. -/
theorem zup_at {h : Nat → Nat → Int} {a k : Nat} {v : Int} {b j : Nat} : zup h a k v b j = if b = a ∧ j = k then v else h b j := by
  unfold zup
  by_cases h1 : b = a
  · rw [if_pos h1]
    by_cases h2 : j = k
    · rw [if_pos h2, if_pos ⟨h1, h2⟩]
    · rw [if_neg h2, if_neg (fun q => h2 q.2)]
  · rw [if_neg h1, if_neg (fun q => h1 q.1)]
def zRwP (h g : Nat → Nat → Int) (DY SP SU B : Nat) : Prop := (∀ c : Nat, c ≠ DY → c ≠ SP → c ≠ SU → g c = h c) ∧ g DY 4 = 0 ∧ g DY 7 = 0 ∧ g DY 6 = -1 ∧ (∀ j : Nat, j ≠ 4 → j ≠ 7 → j ≠ 6 → g DY j = h DY j) ∧ (∀ i : Nat, i < 3 → g SP i = ((zdg B i : Nat) : Int)) ∧ ∀ i : Nat, i < 3 → g SU i = 0
set_option maxRecDepth 100000 in
set_option maxHeartbeats 4000000 in
theorem p_rewindD {d : Nat} {h hl : Nat → Nat → Int} {B : Nat} (hBl : B < 512) (hB : h 21 5 = (B : Int)) : zQ (d + 2) 14 [.inr (.inr (some 21))] (zs h hl) (fun r σ' => r = none ∧ ∃ g : Nat → Nat → Int, σ' = zs g hl ∧ zRwP h g 21 40 41 B) := by
  refine zQ_of (Nat.le_of_ble_eq_true rfl) ?_
  show zH (d + 1) 14 (0, [some (.inr (.inr (some 21))), none], [], (zs h hl)) _
  refine zH_go 13 (c' := (19, [some (.inr (.inr (some 21))), some (.inl 0)], [.inl 3, .inl 0], (zs (zup (zup (zup h 21 4 0) 21 7 0) 21 6 (-1)) hl))) rfl ?_
  refine zH_bf (x := 0) (y := 3) (k := .ge) (c1 := (49, [some (.inr (.inr (some 21))), some (.inl 0)], [], (zs (zup (zup (zup h 21 4 0) 21 7 0) 21 6 (-1)) hl))) (c2 := (22, [some (.inr (.inr (some 21))), some (.inl 0)], [], (zs (zup (zup (zup h 21 4 0) 21 7 0) 21 6 (-1)) hl))) rfl ⟨by decide, by decide⟩ ⟨by decide, by decide⟩ (by show ¬ (¬ 0 < 3); decide) ?_
  refine zH_go 5 (c' := (31, [some (.inr (.inr (some 21))), some (.inl 0)], [.inl (h 21 5), .inl 0, .inr (.inr (some 40))], (zs (zup (zup (zup h 21 4 0) 21 7 0) 21 6 (-1)) hl))) rfl ?_
  rw [hB]
  refine zH_go 1 (c' := (32, [some (.inr (.inr (some 21))), some (.inl 0)], [.inl 0, .inl (B : Int), .inl 0, .inr (.inr (some 40))], (zs (zup (zup (zup h 21 4 0) 21 7 0) 21 6 (-1)) hl))) rfl ?_
  refine zH_call (M' := 100) (as := [.inl (B : Int), .inl 0]) (T := [.inl 0, .inr (.inr (some 40))]) rfl (p_digit (n := B) (i := 0) (by omega) (by decide)) (fun r σ' p_1 => ?_)
  obtain ⟨rfl, rfl⟩ := p_1
  show zH _ _ (35, [some (.inr (.inr (some 21))), some (.inl 0)], [.inl ((zdg B 0 : Nat) : Int), .inl 0, .inr (.inr (some 40))], (zs (zup (zup (zup h 21 4 0) 21 7 0) 21 6 (-1)) hl)) _
  refine zH_np (P := 0 ≤ 0 ∧ 0 < ((3 : Nat) : Int)) (c' := (36, [some (.inr (.inr (some 21))), some (.inl 0)], [], (zs (zup (zup (zup (zup h 21 4 0) 21 7 0) 21 6 (-1)) 40 0 ((zdg B 0 : Nat) : Int)) hl))) rfl ⟨by decide, by decide⟩ ?_
  refine zH_go 4 (c' := (42, [some (.inr (.inr (some 21))), some (.inl 0)], [.inl 0, .inl 0, .inr (.inr (some 41))], (zs (zup (zup (zup (zup h 21 4 0) 21 7 0) 21 6 (-1)) 40 0 ((zdg B 0 : Nat) : Int)) hl))) rfl ?_
  refine zH_np (P := 0 ≤ 0 ∧ 0 < ((3 : Nat) : Int)) (c' := (43, [some (.inr (.inr (some 21))), some (.inl 0)], [], (zs (zup (zup (zup (zup (zup h 21 4 0) 21 7 0) 21 6 (-1)) 40 0 ((zdg B 0 : Nat) : Int)) 41 0 0) hl))) rfl ⟨by decide, by decide⟩ ?_
  refine zH_go 4 (c' := (19, [some (.inr (.inr (some 21))), some (.inl 1)], [.inl 3, .inl 1], (zs (zup (zup (zup (zup (zup h 21 4 0) 21 7 0) 21 6 (-1)) 40 0 ((zdg B 0 : Nat) : Int)) 41 0 0) hl))) rfl ?_
  refine zH_bf (x := 1) (y := 3) (k := .ge) (c1 := (49, [some (.inr (.inr (some 21))), some (.inl 1)], [], (zs (zup (zup (zup (zup (zup h 21 4 0) 21 7 0) 21 6 (-1)) 40 0 ((zdg B 0 : Nat) : Int)) 41 0 0) hl))) (c2 := (22, [some (.inr (.inr (some 21))), some (.inl 1)], [], (zs (zup (zup (zup (zup (zup h 21 4 0) 21 7 0) 21 6 (-1)) 40 0 ((zdg B 0 : Nat) : Int)) 41 0 0) hl))) rfl ⟨by decide, by decide⟩ ⟨by decide, by decide⟩ (by show ¬ (¬ 1 < 3); decide) ?_
  refine zH_go 5 (c' := (31, [some (.inr (.inr (some 21))), some (.inl 1)], [.inl (h 21 5), .inl 1, .inr (.inr (some 40))], (zs (zup (zup (zup (zup (zup h 21 4 0) 21 7 0) 21 6 (-1)) 40 0 ((zdg B 0 : Nat) : Int)) 41 0 0) hl))) rfl ?_
  rw [hB]
  refine zH_go 1 (c' := (32, [some (.inr (.inr (some 21))), some (.inl 1)], [.inl 1, .inl (B : Int), .inl 1, .inr (.inr (some 40))], (zs (zup (zup (zup (zup (zup h 21 4 0) 21 7 0) 21 6 (-1)) 40 0 ((zdg B 0 : Nat) : Int)) 41 0 0) hl))) rfl ?_
  refine zH_call (M' := 100) (as := [.inl (B : Int), .inl 1]) (T := [.inl 1, .inr (.inr (some 40))]) rfl (p_digit (n := B) (i := 1) (by omega) (by decide)) (fun r σ' p_2 => ?_)
  obtain ⟨rfl, rfl⟩ := p_2
  show zH _ _ (35, [some (.inr (.inr (some 21))), some (.inl 1)], [.inl ((zdg B 1 : Nat) : Int), .inl 1, .inr (.inr (some 40))], (zs (zup (zup (zup (zup (zup h 21 4 0) 21 7 0) 21 6 (-1)) 40 0 ((zdg B 0 : Nat) : Int)) 41 0 0) hl)) _
  refine zH_np (P := 0 ≤ 1 ∧ 1 < ((3 : Nat) : Int)) (c' := (36, [some (.inr (.inr (some 21))), some (.inl 1)], [], (zs (zup (zup (zup (zup (zup (zup h 21 4 0) 21 7 0) 21 6 (-1)) 40 0 ((zdg B 0 : Nat) : Int)) 41 0 0) 40 1 ((zdg B 1 : Nat) : Int)) hl))) rfl ⟨by decide, by decide⟩ ?_
  refine zH_go 4 (c' := (42, [some (.inr (.inr (some 21))), some (.inl 1)], [.inl 0, .inl 1, .inr (.inr (some 41))], (zs (zup (zup (zup (zup (zup (zup h 21 4 0) 21 7 0) 21 6 (-1)) 40 0 ((zdg B 0 : Nat) : Int)) 41 0 0) 40 1 ((zdg B 1 : Nat) : Int)) hl))) rfl ?_
  refine zH_np (P := 0 ≤ 1 ∧ 1 < ((3 : Nat) : Int)) (c' := (43, [some (.inr (.inr (some 21))), some (.inl 1)], [], (zs (zup (zup (zup (zup (zup (zup (zup h 21 4 0) 21 7 0) 21 6 (-1)) 40 0 ((zdg B 0 : Nat) : Int)) 41 0 0) 40 1 ((zdg B 1 : Nat) : Int)) 41 1 0) hl))) rfl ⟨by decide, by decide⟩ ?_
  refine zH_go 4 (c' := (19, [some (.inr (.inr (some 21))), some (.inl 2)], [.inl 3, .inl 2], (zs (zup (zup (zup (zup (zup (zup (zup h 21 4 0) 21 7 0) 21 6 (-1)) 40 0 ((zdg B 0 : Nat) : Int)) 41 0 0) 40 1 ((zdg B 1 : Nat) : Int)) 41 1 0) hl))) rfl ?_
  refine zH_bf (x := 2) (y := 3) (k := .ge) (c1 := (49, [some (.inr (.inr (some 21))), some (.inl 2)], [], (zs (zup (zup (zup (zup (zup (zup (zup h 21 4 0) 21 7 0) 21 6 (-1)) 40 0 ((zdg B 0 : Nat) : Int)) 41 0 0) 40 1 ((zdg B 1 : Nat) : Int)) 41 1 0) hl))) (c2 := (22, [some (.inr (.inr (some 21))), some (.inl 2)], [], (zs (zup (zup (zup (zup (zup (zup (zup h 21 4 0) 21 7 0) 21 6 (-1)) 40 0 ((zdg B 0 : Nat) : Int)) 41 0 0) 40 1 ((zdg B 1 : Nat) : Int)) 41 1 0) hl))) rfl ⟨by decide, by decide⟩ ⟨by decide, by decide⟩ (by show ¬ (¬ 2 < 3); decide) ?_
  refine zH_go 5 (c' := (31, [some (.inr (.inr (some 21))), some (.inl 2)], [.inl (h 21 5), .inl 2, .inr (.inr (some 40))], (zs (zup (zup (zup (zup (zup (zup (zup h 21 4 0) 21 7 0) 21 6 (-1)) 40 0 ((zdg B 0 : Nat) : Int)) 41 0 0) 40 1 ((zdg B 1 : Nat) : Int)) 41 1 0) hl))) rfl ?_
  rw [hB]
  refine zH_go 1 (c' := (32, [some (.inr (.inr (some 21))), some (.inl 2)], [.inl 2, .inl (B : Int), .inl 2, .inr (.inr (some 40))], (zs (zup (zup (zup (zup (zup (zup (zup h 21 4 0) 21 7 0) 21 6 (-1)) 40 0 ((zdg B 0 : Nat) : Int)) 41 0 0) 40 1 ((zdg B 1 : Nat) : Int)) 41 1 0) hl))) rfl ?_
  refine zH_call (M' := 100) (as := [.inl (B : Int), .inl 2]) (T := [.inl 2, .inr (.inr (some 40))]) rfl (p_digit (n := B) (i := 2) (by omega) (by decide)) (fun r σ' p_3 => ?_)
  obtain ⟨rfl, rfl⟩ := p_3
  show zH _ _ (35, [some (.inr (.inr (some 21))), some (.inl 2)], [.inl ((zdg B 2 : Nat) : Int), .inl 2, .inr (.inr (some 40))], (zs (zup (zup (zup (zup (zup (zup (zup h 21 4 0) 21 7 0) 21 6 (-1)) 40 0 ((zdg B 0 : Nat) : Int)) 41 0 0) 40 1 ((zdg B 1 : Nat) : Int)) 41 1 0) hl)) _
  refine zH_np (P := 0 ≤ 2 ∧ 2 < ((3 : Nat) : Int)) (c' := (36, [some (.inr (.inr (some 21))), some (.inl 2)], [], (zs (zup (zup (zup (zup (zup (zup (zup (zup h 21 4 0) 21 7 0) 21 6 (-1)) 40 0 ((zdg B 0 : Nat) : Int)) 41 0 0) 40 1 ((zdg B 1 : Nat) : Int)) 41 1 0) 40 2 ((zdg B 2 : Nat) : Int)) hl))) rfl ⟨by decide, by decide⟩ ?_
  refine zH_go 4 (c' := (42, [some (.inr (.inr (some 21))), some (.inl 2)], [.inl 0, .inl 2, .inr (.inr (some 41))], (zs (zup (zup (zup (zup (zup (zup (zup (zup h 21 4 0) 21 7 0) 21 6 (-1)) 40 0 ((zdg B 0 : Nat) : Int)) 41 0 0) 40 1 ((zdg B 1 : Nat) : Int)) 41 1 0) 40 2 ((zdg B 2 : Nat) : Int)) hl))) rfl ?_
  refine zH_np (P := 0 ≤ 2 ∧ 2 < ((3 : Nat) : Int)) (c' := (43, [some (.inr (.inr (some 21))), some (.inl 2)], [], (zs (zup (zup (zup (zup (zup (zup (zup (zup (zup h 21 4 0) 21 7 0) 21 6 (-1)) 40 0 ((zdg B 0 : Nat) : Int)) 41 0 0) 40 1 ((zdg B 1 : Nat) : Int)) 41 1 0) 40 2 ((zdg B 2 : Nat) : Int)) 41 2 0) hl))) rfl ⟨by decide, by decide⟩ ?_
  refine zH_go 4 (c' := (19, [some (.inr (.inr (some 21))), some (.inl 3)], [.inl 3, .inl 3], (zs (zup (zup (zup (zup (zup (zup (zup (zup (zup h 21 4 0) 21 7 0) 21 6 (-1)) 40 0 ((zdg B 0 : Nat) : Int)) 41 0 0) 40 1 ((zdg B 1 : Nat) : Int)) 41 1 0) 40 2 ((zdg B 2 : Nat) : Int)) 41 2 0) hl))) rfl ?_
  refine zH_bt (x := 3) (y := 3) (k := .ge) (c1 := (49, [some (.inr (.inr (some 21))), some (.inl 3)], [], (zs (zup (zup (zup (zup (zup (zup (zup (zup (zup h 21 4 0) 21 7 0) 21 6 (-1)) 40 0 ((zdg B 0 : Nat) : Int)) 41 0 0) 40 1 ((zdg B 1 : Nat) : Int)) 41 1 0) 40 2 ((zdg B 2 : Nat) : Int)) 41 2 0) hl))) (c2 := (22, [some (.inr (.inr (some 21))), some (.inl 3)], [], (zs (zup (zup (zup (zup (zup (zup (zup (zup (zup h 21 4 0) 21 7 0) 21 6 (-1)) 40 0 ((zdg B 0 : Nat) : Int)) 41 0 0) 40 1 ((zdg B 1 : Nat) : Int)) 41 1 0) 40 2 ((zdg B 2 : Nat) : Int)) 41 2 0) hl))) rfl ⟨by decide, by decide⟩ ⟨by decide, by decide⟩ (by show ¬ 3 < 3; decide) ?_
  refine zH_ret (v := none) rfl (fun q => absurd q (by decide)) ?_
  refine ⟨rfl, _, rfl, ?_⟩
  simp only [zRwP, zup_at]
  refine ⟨fun c h1 h2 h3 => ?_, by simp, by simp, by simp, fun j h1 h2 h3 => by simp [h1, h2, h3], fun i hi => ?_, fun i hi => ?_⟩
  · funext k; simp [zup_at, h1, h2, h3]
  · rcases (show i = 0 ∨ i = 1 ∨ i = 2 by omega) with rfl | rfl | rfl <;> simp
  · rcases (show i = 0 ∨ i = 1 ∨ i = 2 by omega) with rfl | rfl | rfl <;> simp
set_option maxRecDepth 100000 in
set_option maxHeartbeats 4000000 in
theorem p_rewindT {d : Nat} {h hl : Nat → Nat → Int} {B : Nat} (hBl : B < 512) (hB : h 48 5 = (B : Int)) : zQ (d + 2) 14 [.inr (.inr (some 48))] (zs h hl) (fun r σ' => r = none ∧ ∃ g : Nat → Nat → Int, σ' = zs g hl ∧ zRwP h g 48 58 59 B) := by
  refine zQ_of (Nat.le_of_ble_eq_true rfl) ?_
  show zH (d + 1) 14 (0, [some (.inr (.inr (some 48))), none], [], (zs h hl)) _
  refine zH_go 13 (c' := (19, [some (.inr (.inr (some 48))), some (.inl 0)], [.inl 3, .inl 0], (zs (zup (zup (zup h 48 4 0) 48 7 0) 48 6 (-1)) hl))) rfl ?_
  refine zH_bf (x := 0) (y := 3) (k := .ge) (c1 := (49, [some (.inr (.inr (some 48))), some (.inl 0)], [], (zs (zup (zup (zup h 48 4 0) 48 7 0) 48 6 (-1)) hl))) (c2 := (22, [some (.inr (.inr (some 48))), some (.inl 0)], [], (zs (zup (zup (zup h 48 4 0) 48 7 0) 48 6 (-1)) hl))) rfl ⟨by decide, by decide⟩ ⟨by decide, by decide⟩ (by show ¬ (¬ 0 < 3); decide) ?_
  refine zH_go 5 (c' := (31, [some (.inr (.inr (some 48))), some (.inl 0)], [.inl (h 48 5), .inl 0, .inr (.inr (some 58))], (zs (zup (zup (zup h 48 4 0) 48 7 0) 48 6 (-1)) hl))) rfl ?_
  rw [hB]
  refine zH_go 1 (c' := (32, [some (.inr (.inr (some 48))), some (.inl 0)], [.inl 0, .inl (B : Int), .inl 0, .inr (.inr (some 58))], (zs (zup (zup (zup h 48 4 0) 48 7 0) 48 6 (-1)) hl))) rfl ?_
  refine zH_call (M' := 100) (as := [.inl (B : Int), .inl 0]) (T := [.inl 0, .inr (.inr (some 58))]) rfl (p_digit (n := B) (i := 0) (by omega) (by decide)) (fun r σ' p_1 => ?_)
  obtain ⟨rfl, rfl⟩ := p_1
  show zH _ _ (35, [some (.inr (.inr (some 48))), some (.inl 0)], [.inl ((zdg B 0 : Nat) : Int), .inl 0, .inr (.inr (some 58))], (zs (zup (zup (zup h 48 4 0) 48 7 0) 48 6 (-1)) hl)) _
  refine zH_np (P := 0 ≤ 0 ∧ 0 < ((3 : Nat) : Int)) (c' := (36, [some (.inr (.inr (some 48))), some (.inl 0)], [], (zs (zup (zup (zup (zup h 48 4 0) 48 7 0) 48 6 (-1)) 58 0 ((zdg B 0 : Nat) : Int)) hl))) rfl ⟨by decide, by decide⟩ ?_
  refine zH_go 4 (c' := (42, [some (.inr (.inr (some 48))), some (.inl 0)], [.inl 0, .inl 0, .inr (.inr (some 59))], (zs (zup (zup (zup (zup h 48 4 0) 48 7 0) 48 6 (-1)) 58 0 ((zdg B 0 : Nat) : Int)) hl))) rfl ?_
  refine zH_np (P := 0 ≤ 0 ∧ 0 < ((3 : Nat) : Int)) (c' := (43, [some (.inr (.inr (some 48))), some (.inl 0)], [], (zs (zup (zup (zup (zup (zup h 48 4 0) 48 7 0) 48 6 (-1)) 58 0 ((zdg B 0 : Nat) : Int)) 59 0 0) hl))) rfl ⟨by decide, by decide⟩ ?_
  refine zH_go 4 (c' := (19, [some (.inr (.inr (some 48))), some (.inl 1)], [.inl 3, .inl 1], (zs (zup (zup (zup (zup (zup h 48 4 0) 48 7 0) 48 6 (-1)) 58 0 ((zdg B 0 : Nat) : Int)) 59 0 0) hl))) rfl ?_
  refine zH_bf (x := 1) (y := 3) (k := .ge) (c1 := (49, [some (.inr (.inr (some 48))), some (.inl 1)], [], (zs (zup (zup (zup (zup (zup h 48 4 0) 48 7 0) 48 6 (-1)) 58 0 ((zdg B 0 : Nat) : Int)) 59 0 0) hl))) (c2 := (22, [some (.inr (.inr (some 48))), some (.inl 1)], [], (zs (zup (zup (zup (zup (zup h 48 4 0) 48 7 0) 48 6 (-1)) 58 0 ((zdg B 0 : Nat) : Int)) 59 0 0) hl))) rfl ⟨by decide, by decide⟩ ⟨by decide, by decide⟩ (by show ¬ (¬ 1 < 3); decide) ?_
  refine zH_go 5 (c' := (31, [some (.inr (.inr (some 48))), some (.inl 1)], [.inl (h 48 5), .inl 1, .inr (.inr (some 58))], (zs (zup (zup (zup (zup (zup h 48 4 0) 48 7 0) 48 6 (-1)) 58 0 ((zdg B 0 : Nat) : Int)) 59 0 0) hl))) rfl ?_
  rw [hB]
  refine zH_go 1 (c' := (32, [some (.inr (.inr (some 48))), some (.inl 1)], [.inl 1, .inl (B : Int), .inl 1, .inr (.inr (some 58))], (zs (zup (zup (zup (zup (zup h 48 4 0) 48 7 0) 48 6 (-1)) 58 0 ((zdg B 0 : Nat) : Int)) 59 0 0) hl))) rfl ?_
  refine zH_call (M' := 100) (as := [.inl (B : Int), .inl 1]) (T := [.inl 1, .inr (.inr (some 58))]) rfl (p_digit (n := B) (i := 1) (by omega) (by decide)) (fun r σ' p_2 => ?_)
  obtain ⟨rfl, rfl⟩ := p_2
  show zH _ _ (35, [some (.inr (.inr (some 48))), some (.inl 1)], [.inl ((zdg B 1 : Nat) : Int), .inl 1, .inr (.inr (some 58))], (zs (zup (zup (zup (zup (zup h 48 4 0) 48 7 0) 48 6 (-1)) 58 0 ((zdg B 0 : Nat) : Int)) 59 0 0) hl)) _
  refine zH_np (P := 0 ≤ 1 ∧ 1 < ((3 : Nat) : Int)) (c' := (36, [some (.inr (.inr (some 48))), some (.inl 1)], [], (zs (zup (zup (zup (zup (zup (zup h 48 4 0) 48 7 0) 48 6 (-1)) 58 0 ((zdg B 0 : Nat) : Int)) 59 0 0) 58 1 ((zdg B 1 : Nat) : Int)) hl))) rfl ⟨by decide, by decide⟩ ?_
  refine zH_go 4 (c' := (42, [some (.inr (.inr (some 48))), some (.inl 1)], [.inl 0, .inl 1, .inr (.inr (some 59))], (zs (zup (zup (zup (zup (zup (zup h 48 4 0) 48 7 0) 48 6 (-1)) 58 0 ((zdg B 0 : Nat) : Int)) 59 0 0) 58 1 ((zdg B 1 : Nat) : Int)) hl))) rfl ?_
  refine zH_np (P := 0 ≤ 1 ∧ 1 < ((3 : Nat) : Int)) (c' := (43, [some (.inr (.inr (some 48))), some (.inl 1)], [], (zs (zup (zup (zup (zup (zup (zup (zup h 48 4 0) 48 7 0) 48 6 (-1)) 58 0 ((zdg B 0 : Nat) : Int)) 59 0 0) 58 1 ((zdg B 1 : Nat) : Int)) 59 1 0) hl))) rfl ⟨by decide, by decide⟩ ?_
  refine zH_go 4 (c' := (19, [some (.inr (.inr (some 48))), some (.inl 2)], [.inl 3, .inl 2], (zs (zup (zup (zup (zup (zup (zup (zup h 48 4 0) 48 7 0) 48 6 (-1)) 58 0 ((zdg B 0 : Nat) : Int)) 59 0 0) 58 1 ((zdg B 1 : Nat) : Int)) 59 1 0) hl))) rfl ?_
  refine zH_bf (x := 2) (y := 3) (k := .ge) (c1 := (49, [some (.inr (.inr (some 48))), some (.inl 2)], [], (zs (zup (zup (zup (zup (zup (zup (zup h 48 4 0) 48 7 0) 48 6 (-1)) 58 0 ((zdg B 0 : Nat) : Int)) 59 0 0) 58 1 ((zdg B 1 : Nat) : Int)) 59 1 0) hl))) (c2 := (22, [some (.inr (.inr (some 48))), some (.inl 2)], [], (zs (zup (zup (zup (zup (zup (zup (zup h 48 4 0) 48 7 0) 48 6 (-1)) 58 0 ((zdg B 0 : Nat) : Int)) 59 0 0) 58 1 ((zdg B 1 : Nat) : Int)) 59 1 0) hl))) rfl ⟨by decide, by decide⟩ ⟨by decide, by decide⟩ (by show ¬ (¬ 2 < 3); decide) ?_
  refine zH_go 5 (c' := (31, [some (.inr (.inr (some 48))), some (.inl 2)], [.inl (h 48 5), .inl 2, .inr (.inr (some 58))], (zs (zup (zup (zup (zup (zup (zup (zup h 48 4 0) 48 7 0) 48 6 (-1)) 58 0 ((zdg B 0 : Nat) : Int)) 59 0 0) 58 1 ((zdg B 1 : Nat) : Int)) 59 1 0) hl))) rfl ?_
  rw [hB]
  refine zH_go 1 (c' := (32, [some (.inr (.inr (some 48))), some (.inl 2)], [.inl 2, .inl (B : Int), .inl 2, .inr (.inr (some 58))], (zs (zup (zup (zup (zup (zup (zup (zup h 48 4 0) 48 7 0) 48 6 (-1)) 58 0 ((zdg B 0 : Nat) : Int)) 59 0 0) 58 1 ((zdg B 1 : Nat) : Int)) 59 1 0) hl))) rfl ?_
  refine zH_call (M' := 100) (as := [.inl (B : Int), .inl 2]) (T := [.inl 2, .inr (.inr (some 58))]) rfl (p_digit (n := B) (i := 2) (by omega) (by decide)) (fun r σ' p_3 => ?_)
  obtain ⟨rfl, rfl⟩ := p_3
  show zH _ _ (35, [some (.inr (.inr (some 48))), some (.inl 2)], [.inl ((zdg B 2 : Nat) : Int), .inl 2, .inr (.inr (some 58))], (zs (zup (zup (zup (zup (zup (zup (zup h 48 4 0) 48 7 0) 48 6 (-1)) 58 0 ((zdg B 0 : Nat) : Int)) 59 0 0) 58 1 ((zdg B 1 : Nat) : Int)) 59 1 0) hl)) _
  refine zH_np (P := 0 ≤ 2 ∧ 2 < ((3 : Nat) : Int)) (c' := (36, [some (.inr (.inr (some 48))), some (.inl 2)], [], (zs (zup (zup (zup (zup (zup (zup (zup (zup h 48 4 0) 48 7 0) 48 6 (-1)) 58 0 ((zdg B 0 : Nat) : Int)) 59 0 0) 58 1 ((zdg B 1 : Nat) : Int)) 59 1 0) 58 2 ((zdg B 2 : Nat) : Int)) hl))) rfl ⟨by decide, by decide⟩ ?_
  refine zH_go 4 (c' := (42, [some (.inr (.inr (some 48))), some (.inl 2)], [.inl 0, .inl 2, .inr (.inr (some 59))], (zs (zup (zup (zup (zup (zup (zup (zup (zup h 48 4 0) 48 7 0) 48 6 (-1)) 58 0 ((zdg B 0 : Nat) : Int)) 59 0 0) 58 1 ((zdg B 1 : Nat) : Int)) 59 1 0) 58 2 ((zdg B 2 : Nat) : Int)) hl))) rfl ?_
  refine zH_np (P := 0 ≤ 2 ∧ 2 < ((3 : Nat) : Int)) (c' := (43, [some (.inr (.inr (some 48))), some (.inl 2)], [], (zs (zup (zup (zup (zup (zup (zup (zup (zup (zup h 48 4 0) 48 7 0) 48 6 (-1)) 58 0 ((zdg B 0 : Nat) : Int)) 59 0 0) 58 1 ((zdg B 1 : Nat) : Int)) 59 1 0) 58 2 ((zdg B 2 : Nat) : Int)) 59 2 0) hl))) rfl ⟨by decide, by decide⟩ ?_
  refine zH_go 4 (c' := (19, [some (.inr (.inr (some 48))), some (.inl 3)], [.inl 3, .inl 3], (zs (zup (zup (zup (zup (zup (zup (zup (zup (zup h 48 4 0) 48 7 0) 48 6 (-1)) 58 0 ((zdg B 0 : Nat) : Int)) 59 0 0) 58 1 ((zdg B 1 : Nat) : Int)) 59 1 0) 58 2 ((zdg B 2 : Nat) : Int)) 59 2 0) hl))) rfl ?_
  refine zH_bt (x := 3) (y := 3) (k := .ge) (c1 := (49, [some (.inr (.inr (some 48))), some (.inl 3)], [], (zs (zup (zup (zup (zup (zup (zup (zup (zup (zup h 48 4 0) 48 7 0) 48 6 (-1)) 58 0 ((zdg B 0 : Nat) : Int)) 59 0 0) 58 1 ((zdg B 1 : Nat) : Int)) 59 1 0) 58 2 ((zdg B 2 : Nat) : Int)) 59 2 0) hl))) (c2 := (22, [some (.inr (.inr (some 48))), some (.inl 3)], [], (zs (zup (zup (zup (zup (zup (zup (zup (zup (zup h 48 4 0) 48 7 0) 48 6 (-1)) 58 0 ((zdg B 0 : Nat) : Int)) 59 0 0) 58 1 ((zdg B 1 : Nat) : Int)) 59 1 0) 58 2 ((zdg B 2 : Nat) : Int)) 59 2 0) hl))) rfl ⟨by decide, by decide⟩ ⟨by decide, by decide⟩ (by show ¬ 3 < 3; decide) ?_
  refine zH_ret (v := none) rfl (fun q => absurd q (by decide)) ?_
  refine ⟨rfl, _, rfl, ?_⟩
  simp only [zRwP, zup_at]
  refine ⟨fun c h1 h2 h3 => ?_, by simp, by simp, by simp, fun j h1 h2 h3 => by simp [h1, h2, h3], fun i hi => ?_, fun i hi => ?_⟩
  · funext k; simp [zup_at, h1, h2, h3]
  · rcases (show i = 0 ∨ i = 1 ∨ i = 2 by omega) with rfl | rfl | rfl <;> simp
  · rcases (show i = 0 ∨ i = 1 ∨ i = 2 by omega) with rfl | rfl | rfl <;> simp
theorem zWI_same {h g : Nat → Nat → Int} {p L B W HE R nH : Nat} (h1 : g W = h W) (h2 : g HE = h HE) (h3 : ∀ i : Nat, i ≤ nH → g (R + i) = h (R + i)) (hc : ∀ c : Nat, 12 ≤ c → c < 20 → g c = h c) (hp : p ≤ 6) (hW : zWI h p L B W HE R nH) : zWI g p L B W HE R nH := by
  obtain ⟨k, e1, e2, e3, e4⟩ := hW
  refine ⟨k, by rw [h1]; exact e1, e2, fun i hi => by rw [h2]; exact e3 i hi, fun i hi s hs => ?_⟩
  rw [hc 18 (by decide) (by decide)] at hs
  rw [h3 i (by omega), hc 19 (by decide) (by decide), h2, e4 i hi s hs]
  exact (zWf_same hc i (fun j hj => ⟨rfl, by have := e3 j (by omega); omega⟩) _).symm
theorem zWI_new {h g : Nat → Nat → Int} {p L B W HE R nH n pp : Nat} (hS : zSI h p L) (hW : zWI h p L B W HE R nH) (hn : n < nH) (hk : (n : Int) ≤ h W 4) (hpp : pp < p) (hd : 20 < W ∧ W < R ∧ R + nH < HE)
    (f1 : ∀ c : Nat, c ≠ W → c ≠ HE → c ≠ R + (n + 1) → g c = h c) (f2 : g W 4 = (n : Int) + 1) (f4 : g HE n = (pp : Int)) (f5 : ∀ j : Nat, j ≠ n → g HE j = h HE j) (f6 : ∀ j : Nat, (j : Int) < h 18 2 → g (R + (n + 1)) j = zAf h L (R + n) (Int.toNat (h 19 j)) pp) : zWI g p L B W HE R nH := by
  have hp6 := hS.2.1
  have hW0 := hW
  obtain ⟨k, e1, e2, e3, e4⟩ := hW
  have hc : ∀ c : Nat, 12 ≤ c → c < 20 → g c = h c := fun c h1 h2 => f1 c (by omega) (by omega) (by omega)
  have hpl : ∀ j : Nat, j < n → Int.toNat (g HE j) = Int.toNat (h HE j) ∧ Int.toNat (g HE j) < 8 := fun j hj => by
    rw [f5 j (by omega)]
    have := e3 j (by omega)
    exact ⟨rfl, by omega⟩
  refine ⟨n + 1, by rw [f2]; rfl, by omega, fun i hi => ?_, fun i hi s hs => ?_⟩
  · by_cases q : i = n
    · rw [q, f4]; omega
    · rw [f5 i q]; exact e3 i (by omega)
  · rw [hc 18 (by decide) (by decide)] at hs
    rw [hc 19 (by decide) (by decide)]
    obtain ⟨X, hX, hXs, hXl, eX, -⟩ := hS.2.2.2.2.2.2 s hs
    by_cases q : i = n + 1
    · rw [q, f6 s hs, eX, Int.toNat_natCast, zAf_W hS hW0 e1 (by omega : n ≤ k) hXs hpp]
      show _ = zm3 L _
      congr 1
      funext l
      rw [zWf_same hc n hpl]
      dsimp only
      rw [f4, Int.toNat_natCast, hc (12 + pp) (by omega) (by omega)]
    · rw [f1 (R + i) (by omega) (by omega) (by omega), e4 i (by omega) s hs]
      exact (zWf_same hc i (fun j hj => hpl j (by omega)) _).symm
/-- rows are small -/
theorem zWI_b {h : Nat → Nat → Int} {p L B W HE R nH n k : Nat} (hS : zSI h p L) (hT : zTD h p) (hBs : zSb p L B = true) (hW : zWI h p L B W HE R nH) (hk : h W 4 = (k : Int)) (hn : n ≤ k) (hn20 : nH ≤ 20) : ∀ s : Nat, (s : Int) < h 18 2 → 0 ≤ h (R + n) s ∧ h (R + n) s ≤ 100000 := by
  intro s hs
  obtain ⟨k', e1, e2, e3, e4⟩ := hW
  obtain rfl : k' = k := by omega
  obtain ⟨X, hX, hXs, hXl, eX, -⟩ := hS.2.2.2.2.2.2 s hs
  rw [e4 n hn s hs, eX, Int.toNat_natCast]
  have := zWf_b hS.2.1 hS.1 hT hBs (pl := fun j => Int.toNat (h HE j)) n (fun i hi => by have := e3 i (by omega); omega) X hXs
  omega
