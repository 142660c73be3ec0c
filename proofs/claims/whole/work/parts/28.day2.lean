/-! A day: beginning, hearing, sending, taking back. -/
theorem zup_at {h : Nat → Nat → Int} {a k : Nat} {v : Int} {b j : Nat} : zup h a k v b j = if b = a ∧ j = k then v else h b j := by
  unfold zup
  by_cases h1 : b = a
  · rw [if_pos h1]
    by_cases h2 : j = k
    · rw [if_pos h2, if_pos ⟨h1, h2⟩]
    · rw [if_neg h2, if_neg (fun q => h2 q.2)]
  · rw [if_neg h1, if_neg (fun q => h1 q.1)]
def zRwP (h g : Nat → Nat → Int) (DY SP SU B : Nat) : Prop := (∀ c : Nat, c ≠ DY → c ≠ SP → c ≠ SU → g c = h c) ∧ g DY 4 = 0 ∧ g DY 7 = 0 ∧ g DY 6 = -1 ∧ (∀ j : Nat, j ≠ 4 → j ≠ 7 → j ≠ 6 → g DY j = h DY j) ∧ (∀ i : Nat, i < 3 → g SP i = ((zdg B i : Nat) : Int)) ∧ ∀ i : Nat, i < 3 → g SU i = 0
set_option maxRecDepth 100000 in
set_option maxHeartbeats 4000000 in
theorem p_rewindD {d : Nat} {h hl : Nat → Nat → Int} {B : Nat} (hBl : B < 512) (hB : h 21 5 = (B : Int)) : zQ (d + 2) 14 [.inr (.inr (some 21))] (zs h hl) (fun r σ' => r = none ∧ ∃ g : Nat → Nat → Int, σ' = zs g hl ∧ zRwP h g 21 40 41 B) := by
  refine zQ_of (Nat.le_of_ble_eq_true rfl) ?_
  show zH (d + 1) 14 (0, [some (.inr (.inr (some 21))), none], [], (zs h hl)) _
  refine zH_go 13 (c' := (19, [some (.inr (.inr (some 21))), some (.inl 0)], [.inl 3, .inl 0], (zs (zup (zup (zup h 21 4 0) 21 7 0) 21 6 (-1)) hl))) rfl ?_
  refine zH_bf (x := 0) (y := 3) (k := .ge) (c1 := (49, [some (.inr (.inr (some 21))), some (.inl 0)], [], (zs (zup (zup (zup h 21 4 0) 21 7 0) 21 6 (-1)) hl))) (c2 := (22, [some (.inr (.inr (some 21))), some (.inl 0)], [], (zs (zup (zup (zup h 21 4 0) 21 7 0) 21 6 (-1)) hl))) rfl ⟨by decide, by decide⟩ ⟨by decide, by decide⟩ (by show ¬ (¬ 0 < 3); decide) ?_
  refine zH_go 5 (c' := (31, [some (.inr (.inr (some 21))), some (.inl 0)], [.inl (h 21 5), .inl 0, .inr (.inr (some 40))], (zs (zup (zup (zup h 21 4 0) 21 7 0) 21 6 (-1)) hl))) rfl ?_
  rw [hB]
  refine zH_go 1 (c' := (32, [some (.inr (.inr (some 21))), some (.inl 0)], [.inl 0, .inl (B : Int), .inl 0, .inr (.inr (some 40))], (zs (zup (zup (zup h 21 4 0) 21 7 0) 21 6 (-1)) hl))) rfl ?_
  refine zH_call (M' := 100) (as := [.inl (B : Int), .inl 0]) (T := [.inl 0, .inr (.inr (some 40))]) rfl (p_digit (n := B) (i := 0) (by omega) (by decide)) (fun r σ' p_1 => ?_)
  obtain ⟨rfl, rfl⟩ := p_1
  show zH _ _ (35, [some (.inr (.inr (some 21))), some (.inl 0)], [.inl ((zdg B 0 : Nat) : Int), .inl 0, .inr (.inr (some 40))], (zs (zup (zup (zup h 21 4 0) 21 7 0) 21 6 (-1)) hl)) _
  refine zH_np (P := 0 ≤ 0 ∧ 0 < ((3 : Nat) : Int)) (c' := (36, [some (.inr (.inr (some 21))), some (.inl 0)], [], (zs (zup (zup (zup (zup h 21 4 0) 21 7 0) 21 6 (-1)) 40 0 ((zdg B 0 : Nat) : Int)) hl))) rfl ⟨by decide, by decide⟩ ?_
  refine zH_go 4 (c' := (42, [some (.inr (.inr (some 21))), some (.inl 0)], [.inl 0, .inl 0, .inr (.inr (some 41))], (zs (zup (zup (zup (zup h 21 4 0) 21 7 0) 21 6 (-1)) 40 0 ((zdg B 0 : Nat) : Int)) hl))) rfl ?_
  refine zH_np (P := 0 ≤ 0 ∧ 0 < ((3 : Nat) : Int)) (c' := (43, [some (.inr (.inr (some 21))), some (.inl 0)], [], (zs (zup (zup (zup (zup (zup h 21 4 0) 21 7 0) 21 6 (-1)) 40 0 ((zdg B 0 : Nat) : Int)) 41 0 0) hl))) rfl ⟨by decide, by decide⟩ ?_
  refine zH_go 4 (c' := (19, [some (.inr (.inr (some 21))), some (.inl 1)], [.inl 3, .inl 1], (zs (zup (zup (zup (zup (zup h 21 4 0) 21 7 0) 21 6 (-1)) 40 0 ((zdg B 0 : Nat) : Int)) 41 0 0) hl))) rfl ?_
  refine zH_bf (x := 1) (y := 3) (k := .ge) (c1 := (49, [some (.inr (.inr (some 21))), some (.inl 1)], [], (zs (zup (zup (zup (zup (zup h 21 4 0) 21 7 0) 21 6 (-1)) 40 0 ((zdg B 0 : Nat) : Int)) 41 0 0) hl))) (c2 := (22, [some (.inr (.inr (some 21))), some (.inl 1)], [], (zs (zup (zup (zup (zup (zup h 21 4 0) 21 7 0) 21 6 (-1)) 40 0 ((zdg B 0 : Nat) : Int)) 41 0 0) hl))) rfl ⟨by decide, by decide⟩ ⟨by decide, by decide⟩ (by show ¬ (¬ 1 < 3); decide) ?_
  refine zH_go 5 (c' := (31, [some (.inr (.inr (some 21))), some (.inl 1)], [.inl (h 21 5), .inl 1, .inr (.inr (some 40))], (zs (zup (zup (zup (zup (zup h 21 4 0) 21 7 0) 21 6 (-1)) 40 0 ((zdg B 0 : Nat) : Int)) 41 0 0) hl))) rfl ?_
  rw [hB]
  refine zH_go 1 (c' := (32, [some (.inr (.inr (some 21))), some (.inl 1)], [.inl 1, .inl (B : Int), .inl 1, .inr (.inr (some 40))], (zs (zup (zup (zup (zup (zup h 21 4 0) 21 7 0) 21 6 (-1)) 40 0 ((zdg B 0 : Nat) : Int)) 41 0 0) hl))) rfl ?_
  refine zH_call (M' := 100) (as := [.inl (B : Int), .inl 1]) (T := [.inl 1, .inr (.inr (some 40))]) rfl (p_digit (n := B) (i := 1) (by omega) (by decide)) (fun r σ' p_2 => ?_)
  obtain ⟨rfl, rfl⟩ := p_2
  show zH _ _ (35, [some (.inr (.inr (some 21))), some (.inl 1)], [.inl ((zdg B 1 : Nat) : Int), .inl 1, .inr (.inr (some 40))], (zs (zup (zup (zup (zup (zup h 21 4 0) 21 7 0) 21 6 (-1)) 40 0 ((zdg B 0 : Nat) : Int)) 41 0 0) hl)) _
  refine zH_np (P := 0 ≤ 1 ∧ 1 < ((3 : Nat) : Int)) (c' := (36, [some (.inr (.inr (some 21))), some (.inl 1)], [], (zs (zup (zup (zup (zup (zup (zup h 21 4 0) 21 7 0) 21 6 (-1)) 40 0 ((zdg B 0 : Nat) : Int)) 41 0 0) 40 1 ((zdg B 1 : Nat) : Int)) hl))) rfl ⟨by decide, by decide⟩ ?_
  refine zH_go 4 (c' := (42, [some (.inr (.inr (some 21))), some (.inl 1)], [.inl 0, .inl 1, .inr (.inr (some 41))], (zs (zup (zup (zup (zup (zup (zup h 21 4 0) 21 7 0) 21 6 (-1)) 40 0 ((zdg B 0 : Nat) : Int)) 41 0 0) 40 1 ((zdg B 1 : Nat) : Int)) hl))) rfl ?_
  refine zH_np (P := 0 ≤ 1 ∧ 1 < ((3 : Nat) : Int)) (c' := (43, [some (.inr (.inr (some 21))), some (.inl 1)], [], (zs (zup (zup (zup (zup (zup (zup (zup h 21 4 0) 21 7 0) 21 6 (-1)) 40 0 ((zdg B 0 : Nat) : Int)) 41 0 0) 40 1 ((zdg B 1 : Nat) : Int)) 41 1 0) hl))) rfl ⟨by decide, by decide⟩ ?_
  refine zH_go 4 (c' := (19, [some (.inr (.inr (some 21))), some (.inl 2)], [.inl 3, .inl 2], (zs (zup (zup (zup (zup (zup (zup (zup h 21 4 0) 21 7 0) 21 6 (-1)) 40 0 ((zdg B 0 : Nat) : Int)) 41 0 0) 40 1 ((zdg B 1 : Nat) : Int)) 41 1 0) hl))) rfl ?_
  refine zH_bf (x := 2) (y := 3) (k := .ge) (c1 := (49, [some (.inr (.inr (some 21))), some (.inl 2)], [], (zs (zup (zup (zup (zup (zup (zup (zup h 21 4 0) 21 7 0) 21 6 (-1)) 40 0 ((zdg B 0 : Nat) : Int)) 41 0 0) 40 1 ((zdg B 1 : Nat) : Int)) 41 1 0) hl))) (c2 := (22, [some (.inr (.inr (some 21))), some (.inl 2)], [], (zs (zup (zup (zup (zup (zup (zup (zup h 21 4 0) 21 7 0) 21 6 (-1)) 40 0 ((zdg B 0 : Nat) : Int)) 41 0 0) 40 1 ((zdg B 1 : Nat) : Int)) 41 1 0) hl))) rfl ⟨by decide, by decide⟩ ⟨by decide, by decide⟩ (by show ¬ (¬ 2 < 3); decide) ?_
  refine zH_go 5 (c' := (31, [some (.inr (.inr (some 21))), some (.inl 2)], [.inl (h 21 5), .inl 2, .inr (.inr (some 40))], (zs (zup (zup (zup (zup (zup (zup (zup h 21 4 0) 21 7 0) 21 6 (-1)) 40 0 ((zdg B 0 : Nat) : Int)) 41 0 0) 40 1 ((zdg B 1 : Nat) : Int)) 41 1 0) hl))) rfl ?_
  rw [hB]
  refine zH_go 1 (c' := (32, [some (.inr (.inr (some 21))), some (.inl 2)], [.inl 2, .inl (B : Int), .inl 2, .inr (.inr (some 40))], (zs (zup (zup (zup (zup (zup (zup (zup h 21 4 0) 21 7 0) 21 6 (-1)) 40 0 ((zdg B 0 : Nat) : Int)) 41 0 0) 40 1 ((zdg B 1 : Nat) : Int)) 41 1 0) hl))) rfl ?_
  refine zH_call (M' := 100) (as := [.inl (B : Int), .inl 2]) (T := [.inl 2, .inr (.inr (some 40))]) rfl (p_digit (n := B) (i := 2) (by omega) (by decide)) (fun r σ' p_3 => ?_)
  obtain ⟨rfl, rfl⟩ := p_3
  show zH _ _ (35, [some (.inr (.inr (some 21))), some (.inl 2)], [.inl ((zdg B 2 : Nat) : Int), .inl 2, .inr (.inr (some 40))], (zs (zup (zup (zup (zup (zup (zup (zup h 21 4 0) 21 7 0) 21 6 (-1)) 40 0 ((zdg B 0 : Nat) : Int)) 41 0 0) 40 1 ((zdg B 1 : Nat) : Int)) 41 1 0) hl)) _
  refine zH_np (P := 0 ≤ 2 ∧ 2 < ((3 : Nat) : Int)) (c' := (36, [some (.inr (.inr (some 21))), some (.inl 2)], [], (zs (zup (zup (zup (zup (zup (zup (zup (zup h 21 4 0) 21 7 0) 21 6 (-1)) 40 0 ((zdg B 0 : Nat) : Int)) 41 0 0) 40 1 ((zdg B 1 : Nat) : Int)) 41 1 0) 40 2 ((zdg B 2 : Nat) : Int)) hl))) rfl ⟨by decide, by decide⟩ ?_
  refine zH_go 4 (c' := (42, [some (.inr (.inr (some 21))), some (.inl 2)], [.inl 0, .inl 2, .inr (.inr (some 41))], (zs (zup (zup (zup (zup (zup (zup (zup (zup h 21 4 0) 21 7 0) 21 6 (-1)) 40 0 ((zdg B 0 : Nat) : Int)) 41 0 0) 40 1 ((zdg B 1 : Nat) : Int)) 41 1 0) 40 2 ((zdg B 2 : Nat) : Int)) hl))) rfl ?_
  refine zH_np (P := 0 ≤ 2 ∧ 2 < ((3 : Nat) : Int)) (c' := (43, [some (.inr (.inr (some 21))), some (.inl 2)], [], (zs (zup (zup (zup (zup (zup (zup (zup (zup (zup h 21 4 0) 21 7 0) 21 6 (-1)) 40 0 ((zdg B 0 : Nat) : Int)) 41 0 0) 40 1 ((zdg B 1 : Nat) : Int)) 41 1 0) 40 2 ((zdg B 2 : Nat) : Int)) 41 2 0) hl))) rfl ⟨by decide, by decide⟩ ?_
  refine zH_go 4 (c' := (19, [some (.inr (.inr (some 21))), some (.inl 3)], [.inl 3, .inl 3], (zs (zup (zup (zup (zup (zup (zup (zup (zup (zup h 21 4 0) 21 7 0) 21 6 (-1)) 40 0 ((zdg B 0 : Nat) : Int)) 41 0 0) 40 1 ((zdg B 1 : Nat) : Int)) 41 1 0) 40 2 ((zdg B 2 : Nat) : Int)) 41 2 0) hl))) rfl ?_
  refine zH_bt (x := 3) (y := 3) (k := .ge) (c1 := (49, [some (.inr (.inr (some 21))), some (.inl 3)], [], (zs (zup (zup (zup (zup (zup (zup (zup (zup (zup h 21 4 0) 21 7 0) 21 6 (-1)) 40 0 ((zdg B 0 : Nat) : Int)) 41 0 0) 40 1 ((zdg B 1 : Nat) : Int)) 41 1 0) 40 2 ((zdg B 2 : Nat) : Int)) 41 2 0) hl))) (c2 := (22, [some (.inr (.inr (some 21))), some (.inl 3)], [], (zs (zup (zup (zup (zup (zup (zup (zup (zup (zup h 21 4 0) 21 7 0) 21 6 (-1)) 40 0 ((zdg B 0 : Nat) : Int)) 41 0 0) 40 1 ((zdg B 1 : Nat) : Int)) 41 1 0) 40 2 ((zdg B 2 : Nat) : Int)) 41 2 0) hl))) rfl ⟨by decide, by decide⟩ ⟨by decide, by decide⟩ (by show ¬ 3 < 3; decide) ?_
  refine zH_ret (v := none) rfl (fun q => absurd q (by decide)) ?_
  refine ⟨rfl, _, rfl, ?_⟩
  simp only [zRwP, zup_at]
  refine ⟨fun c h1 h2 h3 => ?_, by simp, by simp, by simp, fun j h1 h2 h3 => by simp [h1, h2, h3], fun i hi => ?_, fun i hi => ?_⟩
  · funext k; simp [zup_at, h1, h2, h3]
  · rcases (show i = 0 ∨ i = 1 ∨ i = 2 by omega) with rfl | rfl | rfl <;> simp
  · rcases (show i = 0 ∨ i = 1 ∨ i = 2 by omega) with rfl | rfl | rfl <;> simp
set_option maxRecDepth 100000 in
set_option maxHeartbeats 4000000 in
theorem p_rewindT {d : Nat} {h hl : Nat → Nat → Int} {B : Nat} (hBl : B < 512) (hB : h 48 5 = (B : Int)) : zQ (d + 2) 14 [.inr (.inr (some 48))] (zs h hl) (fun r σ' => r = none ∧ ∃ g : Nat → Nat → Int, σ' = zs g hl ∧ zRwP h g 48 58 59 B) := by
  refine zQ_of (Nat.le_of_ble_eq_true rfl) ?_
  show zH (d + 1) 14 (0, [some (.inr (.inr (some 48))), none], [], (zs h hl)) _
  refine zH_go 13 (c' := (19, [some (.inr (.inr (some 48))), some (.inl 0)], [.inl 3, .inl 0], (zs (zup (zup (zup h 48 4 0) 48 7 0) 48 6 (-1)) hl))) rfl ?_
  refine zH_bf (x := 0) (y := 3) (k := .ge) (c1 := (49, [some (.inr (.inr (some 48))), some (.inl 0)], [], (zs (zup (zup (zup h 48 4 0) 48 7 0) 48 6 (-1)) hl))) (c2 := (22, [some (.inr (.inr (some 48))), some (.inl 0)], [], (zs (zup (zup (zup h 48 4 0) 48 7 0) 48 6 (-1)) hl))) rfl ⟨by decide, by decide⟩ ⟨by decide, by decide⟩ (by show ¬ (¬ 0 < 3); decide) ?_
  refine zH_go 5 (c' := (31, [some (.inr (.inr (some 48))), some (.inl 0)], [.inl (h 48 5), .inl 0, .inr (.inr (some 58))], (zs (zup (zup (zup h 48 4 0) 48 7 0) 48 6 (-1)) hl))) rfl ?_
  rw [hB]
  refine zH_go 1 (c' := (32, [some (.inr (.inr (some 48))), some (.inl 0)], [.inl 0, .inl (B : Int), .inl 0, .inr (.inr (some 58))], (zs (zup (zup (zup h 48 4 0) 48 7 0) 48 6 (-1)) hl))) rfl ?_
  refine zH_call (M' := 100) (as := [.inl (B : Int), .inl 0]) (T := [.inl 0, .inr (.inr (some 58))]) rfl (p_digit (n := B) (i := 0) (by omega) (by decide)) (fun r σ' p_1 => ?_)
  obtain ⟨rfl, rfl⟩ := p_1
  show zH _ _ (35, [some (.inr (.inr (some 48))), some (.inl 0)], [.inl ((zdg B 0 : Nat) : Int), .inl 0, .inr (.inr (some 58))], (zs (zup (zup (zup h 48 4 0) 48 7 0) 48 6 (-1)) hl)) _
  refine zH_np (P := 0 ≤ 0 ∧ 0 < ((3 : Nat) : Int)) (c' := (36, [some (.inr (.inr (some 48))), some (.inl 0)], [], (zs (zup (zup (zup (zup h 48 4 0) 48 7 0) 48 6 (-1)) 58 0 ((zdg B 0 : Nat) : Int)) hl))) rfl ⟨by decide, by decide⟩ ?_
  refine zH_go 4 (c' := (42, [some (.inr (.inr (some 48))), some (.inl 0)], [.inl 0, .inl 0, .inr (.inr (some 59))], (zs (zup (zup (zup (zup h 48 4 0) 48 7 0) 48 6 (-1)) 58 0 ((zdg B 0 : Nat) : Int)) hl))) rfl ?_
  refine zH_np (P := 0 ≤ 0 ∧ 0 < ((3 : Nat) : Int)) (c' := (43, [some (.inr (.inr (some 48))), some (.inl 0)], [], (zs (zup (zup (zup (zup (zup h 48 4 0) 48 7 0) 48 6 (-1)) 58 0 ((zdg B 0 : Nat) : Int)) 59 0 0) hl))) rfl ⟨by decide, by decide⟩ ?_
  refine zH_go 4 (c' := (19, [some (.inr (.inr (some 48))), some (.inl 1)], [.inl 3, .inl 1], (zs (zup (zup (zup (zup (zup h 48 4 0) 48 7 0) 48 6 (-1)) 58 0 ((zdg B 0 : Nat) : Int)) 59 0 0) hl))) rfl ?_
  refine zH_bf (x := 1) (y := 3) (k := .ge) (c1 := (49, [some (.inr (.inr (some 48))), some (.inl 1)], [], (zs (zup (zup (zup (zup (zup h 48 4 0) 48 7 0) 48 6 (-1)) 58 0 ((zdg B 0 : Nat) : Int)) 59 0 0) hl))) (c2 := (22, [some (.inr (.inr (some 48))), some (.inl 1)], [], (zs (zup (zup (zup (zup (zup h 48 4 0) 48 7 0) 48 6 (-1)) 58 0 ((zdg B 0 : Nat) : Int)) 59 0 0) hl))) rfl ⟨by decide, by decide⟩ ⟨by decide, by decide⟩ (by show ¬ (¬ 1 < 3); decide) ?_
  refine zH_go 5 (c' := (31, [some (.inr (.inr (some 48))), some (.inl 1)], [.inl (h 48 5), .inl 1, .inr (.inr (some 58))], (zs (zup (zup (zup (zup (zup h 48 4 0) 48 7 0) 48 6 (-1)) 58 0 ((zdg B 0 : Nat) : Int)) 59 0 0) hl))) rfl ?_
  rw [hB]
  refine zH_go 1 (c' := (32, [some (.inr (.inr (some 48))), some (.inl 1)], [.inl 1, .inl (B : Int), .inl 1, .inr (.inr (some 58))], (zs (zup (zup (zup (zup (zup h 48 4 0) 48 7 0) 48 6 (-1)) 58 0 ((zdg B 0 : Nat) : Int)) 59 0 0) hl))) rfl ?_
  refine zH_call (M' := 100) (as := [.inl (B : Int), .inl 1]) (T := [.inl 1, .inr (.inr (some 58))]) rfl (p_digit (n := B) (i := 1) (by omega) (by decide)) (fun r σ' p_2 => ?_)
  obtain ⟨rfl, rfl⟩ := p_2
  show zH _ _ (35, [some (.inr (.inr (some 48))), some (.inl 1)], [.inl ((zdg B 1 : Nat) : Int), .inl 1, .inr (.inr (some 58))], (zs (zup (zup (zup (zup (zup h 48 4 0) 48 7 0) 48 6 (-1)) 58 0 ((zdg B 0 : Nat) : Int)) 59 0 0) hl)) _
  refine zH_np (P := 0 ≤ 1 ∧ 1 < ((3 : Nat) : Int)) (c' := (36, [some (.inr (.inr (some 48))), some (.inl 1)], [], (zs (zup (zup (zup (zup (zup (zup h 48 4 0) 48 7 0) 48 6 (-1)) 58 0 ((zdg B 0 : Nat) : Int)) 59 0 0) 58 1 ((zdg B 1 : Nat) : Int)) hl))) rfl ⟨by decide, by decide⟩ ?_
  refine zH_go 4 (c' := (42, [some (.inr (.inr (some 48))), some (.inl 1)], [.inl 0, .inl 1, .inr (.inr (some 59))], (zs (zup (zup (zup (zup (zup (zup h 48 4 0) 48 7 0) 48 6 (-1)) 58 0 ((zdg B 0 : Nat) : Int)) 59 0 0) 58 1 ((zdg B 1 : Nat) : Int)) hl))) rfl ?_
  refine zH_np (P := 0 ≤ 1 ∧ 1 < ((3 : Nat) : Int)) (c' := (43, [some (.inr (.inr (some 48))), some (.inl 1)], [], (zs (zup (zup (zup (zup (zup (zup (zup h 48 4 0) 48 7 0) 48 6 (-1)) 58 0 ((zdg B 0 : Nat) : Int)) 59 0 0) 58 1 ((zdg B 1 : Nat) : Int)) 59 1 0) hl))) rfl ⟨by decide, by decide⟩ ?_
  refine zH_go 4 (c' := (19, [some (.inr (.inr (some 48))), some (.inl 2)], [.inl 3, .inl 2], (zs (zup (zup (zup (zup (zup (zup (zup h 48 4 0) 48 7 0) 48 6 (-1)) 58 0 ((zdg B 0 : Nat) : Int)) 59 0 0) 58 1 ((zdg B 1 : Nat) : Int)) 59 1 0) hl))) rfl ?_
  refine zH_bf (x := 2) (y := 3) (k := .ge) (c1 := (49, [some (.inr (.inr (some 48))), some (.inl 2)], [], (zs (zup (zup (zup (zup (zup (zup (zup h 48 4 0) 48 7 0) 48 6 (-1)) 58 0 ((zdg B 0 : Nat) : Int)) 59 0 0) 58 1 ((zdg B 1 : Nat) : Int)) 59 1 0) hl))) (c2 := (22, [some (.inr (.inr (some 48))), some (.inl 2)], [], (zs (zup (zup (zup (zup (zup (zup (zup h 48 4 0) 48 7 0) 48 6 (-1)) 58 0 ((zdg B 0 : Nat) : Int)) 59 0 0) 58 1 ((zdg B 1 : Nat) : Int)) 59 1 0) hl))) rfl ⟨by decide, by decide⟩ ⟨by decide, by decide⟩ (by show ¬ (¬ 2 < 3); decide) ?_
  refine zH_go 5 (c' := (31, [some (.inr (.inr (some 48))), some (.inl 2)], [.inl (h 48 5), .inl 2, .inr (.inr (some 58))], (zs (zup (zup (zup (zup (zup (zup (zup h 48 4 0) 48 7 0) 48 6 (-1)) 58 0 ((zdg B 0 : Nat) : Int)) 59 0 0) 58 1 ((zdg B 1 : Nat) : Int)) 59 1 0) hl))) rfl ?_
  rw [hB]
  refine zH_go 1 (c' := (32, [some (.inr (.inr (some 48))), some (.inl 2)], [.inl 2, .inl (B : Int), .inl 2, .inr (.inr (some 58))], (zs (zup (zup (zup (zup (zup (zup (zup h 48 4 0) 48 7 0) 48 6 (-1)) 58 0 ((zdg B 0 : Nat) : Int)) 59 0 0) 58 1 ((zdg B 1 : Nat) : Int)) 59 1 0) hl))) rfl ?_
  refine zH_call (M' := 100) (as := [.inl (B : Int), .inl 2]) (T := [.inl 2, .inr (.inr (some 58))]) rfl (p_digit (n := B) (i := 2) (by omega) (by decide)) (fun r σ' p_3 => ?_)
  obtain ⟨rfl, rfl⟩ := p_3
  show zH _ _ (35, [some (.inr (.inr (some 48))), some (.inl 2)], [.inl ((zdg B 2 : Nat) : Int), .inl 2, .inr (.inr (some 58))], (zs (zup (zup (zup (zup (zup (zup (zup h 48 4 0) 48 7 0) 48 6 (-1)) 58 0 ((zdg B 0 : Nat) : Int)) 59 0 0) 58 1 ((zdg B 1 : Nat) : Int)) 59 1 0) hl)) _
  refine zH_np (P := 0 ≤ 2 ∧ 2 < ((3 : Nat) : Int)) (c' := (36, [some (.inr (.inr (some 48))), some (.inl 2)], [], (zs (zup (zup (zup (zup (zup (zup (zup (zup h 48 4 0) 48 7 0) 48 6 (-1)) 58 0 ((zdg B 0 : Nat) : Int)) 59 0 0) 58 1 ((zdg B 1 : Nat) : Int)) 59 1 0) 58 2 ((zdg B 2 : Nat) : Int)) hl))) rfl ⟨by decide, by decide⟩ ?_
  refine zH_go 4 (c' := (42, [some (.inr (.inr (some 48))), some (.inl 2)], [.inl 0, .inl 2, .inr (.inr (some 59))], (zs (zup (zup (zup (zup (zup (zup (zup (zup h 48 4 0) 48 7 0) 48 6 (-1)) 58 0 ((zdg B 0 : Nat) : Int)) 59 0 0) 58 1 ((zdg B 1 : Nat) : Int)) 59 1 0) 58 2 ((zdg B 2 : Nat) : Int)) hl))) rfl ?_
  refine zH_np (P := 0 ≤ 2 ∧ 2 < ((3 : Nat) : Int)) (c' := (43, [some (.inr (.inr (some 48))), some (.inl 2)], [], (zs (zup (zup (zup (zup (zup (zup (zup (zup (zup h 48 4 0) 48 7 0) 48 6 (-1)) 58 0 ((zdg B 0 : Nat) : Int)) 59 0 0) 58 1 ((zdg B 1 : Nat) : Int)) 59 1 0) 58 2 ((zdg B 2 : Nat) : Int)) 59 2 0) hl))) rfl ⟨by decide, by decide⟩ ?_
  refine zH_go 4 (c' := (19, [some (.inr (.inr (some 48))), some (.inl 3)], [.inl 3, .inl 3], (zs (zup (zup (zup (zup (zup (zup (zup (zup (zup h 48 4 0) 48 7 0) 48 6 (-1)) 58 0 ((zdg B 0 : Nat) : Int)) 59 0 0) 58 1 ((zdg B 1 : Nat) : Int)) 59 1 0) 58 2 ((zdg B 2 : Nat) : Int)) 59 2 0) hl))) rfl ?_
  refine zH_bt (x := 3) (y := 3) (k := .ge) (c1 := (49, [some (.inr (.inr (some 48))), some (.inl 3)], [], (zs (zup (zup (zup (zup (zup (zup (zup (zup (zup h 48 4 0) 48 7 0) 48 6 (-1)) 58 0 ((zdg B 0 : Nat) : Int)) 59 0 0) 58 1 ((zdg B 1 : Nat) : Int)) 59 1 0) 58 2 ((zdg B 2 : Nat) : Int)) 59 2 0) hl))) (c2 := (22, [some (.inr (.inr (some 48))), some (.inl 3)], [], (zs (zup (zup (zup (zup (zup (zup (zup (zup (zup h 48 4 0) 48 7 0) 48 6 (-1)) 58 0 ((zdg B 0 : Nat) : Int)) 59 0 0) 58 1 ((zdg B 1 : Nat) : Int)) 59 1 0) 58 2 ((zdg B 2 : Nat) : Int)) 59 2 0) hl))) rfl ⟨by decide, by decide⟩ ⟨by decide, by decide⟩ (by show ¬ 3 < 3; decide) ?_
  refine zH_ret (v := none) rfl (fun q => absurd q (by decide)) ?_
  refine ⟨rfl, _, rfl, ?_⟩
  simp only [zRwP, zup_at]
  refine ⟨fun c h1 h2 h3 => ?_, by simp, by simp, by simp, fun j h1 h2 h3 => by simp [h1, h2, h3], fun i hi => ?_, fun i hi => ?_⟩
  · funext k; simp [zup_at, h1, h2, h3]
  · rcases (show i = 0 ∨ i = 1 ∨ i = 2 by omega) with rfl | rfl | rfl <;> simp
  · rcases (show i = 0 ∨ i = 1 ∨ i = 2 by omega) with rfl | rfl | rfl <;> simp
