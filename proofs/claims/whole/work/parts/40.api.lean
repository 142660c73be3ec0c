/-! LadderCalls: what needs no day. -/
set_option maxRecDepth 100000 in
set_option maxHeartbeats 4000000 in
theorem p_isBook {d : Nat} {h hl : Nat → Nat → Int} {x : Int} (hx : zr x) : zQ (d + 1) 92 [.inl x] (zs h hl) (zB (0 ≤ x ∧ x < 3) (zs h hl)) := by
  refine zQ_of (Nat.le_of_ble_eq_true rfl) ?_
  show zH d 92 (0, [some (.inl x)], [], (zs h hl)) _
  refine zH_go 1 (c' := (1, [some (.inl x)], [.inl x], (zs h hl))) rfl ?_
  refine zH_br (x := x) (y := 0) (k := .lt) (c1 := (13, [some (.inl x)], [], (zs h hl))) (c2 := (4, [some (.inl x)], [], (zs h hl))) rfl (by first | assumption | (unfold zr; omega)) ⟨by decide, by decide⟩ (fun (b_1 : x < 0) => ?_) (fun (b_1 : ¬ (x < 0)) => ?_)
  · refine zH_go 1 (c' := (14, [some (.inl x)], [.inl 0], (zs h hl))) rfl ?_
    refine zH_ret (v := some (.inl 0)) rfl (fun _ => by first | exact Or.inl rfl | exact Or.inr rfl) ?_
    exact Or.inr ⟨rfl, by omega, rfl⟩
  · refine zH_go 2 (c' := (6, [some (.inl x)], [.inl 3, .inl x], (zs h hl))) rfl ?_
    refine zH_br (x := x) (y := 3) (k := .ge) (c1 := (13, [some (.inl x)], [], (zs h hl))) (c2 := (9, [some (.inl x)], [], (zs h hl))) rfl (by first | assumption | (unfold zr; omega)) ⟨by decide, by decide⟩ (fun (b_2 : ¬ x < 3) => ?_) (fun (b_2 : ¬ (¬ x < 3)) => ?_)
    · refine zH_go 1 (c' := (14, [some (.inl x)], [.inl 0], (zs h hl))) rfl ?_
      refine zH_ret (v := some (.inl 0)) rfl (fun _ => by first | exact Or.inl rfl | exact Or.inr rfl) ?_
      exact Or.inr ⟨rfl, by omega, rfl⟩
    · refine zH_go 2 (c' := (14, [some (.inl x)], [.inl 1], (zs h hl))) rfl ?_
      refine zH_ret (v := some (.inl 1)) rfl (fun _ => by first | exact Or.inl rfl | exact Or.inr rfl) ?_
      exact Or.inl ⟨rfl, by omega, rfl⟩
set_option maxRecDepth 100000 in
set_option maxHeartbeats 4000000 in
theorem p_found {d : Nat} {h hl : Nat → Nat → Int} {x : Int} (hx : zr x) : zQ (d + 1) 93 [.inr (.inr (some 2)), .inl x] (zs h hl) (fun r σ' => r = some (.inl (if x = 0 then 1 else x)) ∧ σ' = zs (zup h 2 8 x) hl) := by
  refine zQ_of (Nat.le_of_ble_eq_true rfl) ?_
  show zH d 93 (0, [some (.inr (.inr (some 2))), some (.inl x)], [], (zs h hl)) _
  refine zH_go 4 (c' := (6, [some (.inr (.inr (some 2))), some (.inl x)], [.inl x], (zs (zup h 2 8 x) hl))) rfl ?_
  refine zH_br (x := x) (y := 0) (k := .eq) (c1 := (13, [some (.inr (.inr (some 2))), some (.inl x)], [], (zs (zup h 2 8 x) hl))) (c2 := (9, [some (.inr (.inr (some 2))), some (.inl x)], [], (zs (zup h 2 8 x) hl))) rfl (by first | assumption | (unfold zr; omega)) ⟨by decide, by decide⟩ (fun (b_1 : x = 0) => ?_) (fun (b_1 : ¬ (x = 0)) => ?_)
  · refine zH_go 1 (c' := (14, [some (.inr (.inr (some 2))), some (.inl x)], [.inl 1], (zs (zup h 2 8 x) hl))) rfl ?_
    refine zH_ret (v := some (.inl 1)) rfl (fun q => absurd q (by decide)) ?_
    exact ⟨congrArg (fun z => some (Sum.inl z)) (by first | rw [if_pos (by omega)] | rw [if_neg (by omega)]), rfl⟩
  · refine zH_go 2 (c' := (14, [some (.inr (.inr (some 2))), some (.inl x)], [.inl x], (zs (zup h 2 8 x) hl))) rfl ?_
    refine zH_ret (v := some (.inl x)) rfl (fun q => absurd q (by decide)) ?_
    exact ⟨congrArg (fun z => some (Sum.inl z)) (by first | rw [if_pos (by omega)] | rw [if_neg (by omega)]), rfl⟩
set_option maxRecDepth 100000 in
set_option maxHeartbeats 4000000 in
theorem p_trace {d : Nat} {h hl : Nat → Nat → Int}  : zQ (d + 1) 98 [.inr (.inr (some 2))] (zs h hl) (fun r σ' => r = some (.inr (.inl (hl 81 0))) ∧ σ' = zs h hl) := by
  refine zQ_of (Nat.le_of_ble_eq_true rfl) ?_
  show zH d 98 (0, [some (.inr (.inr (some 2)))], [], (zs h hl)) _
  refine zH_go 3 (c' := (7, [some (.inr (.inr (some 2)))], [.inr (.inl (hl 81 0))], (zs h hl))) rfl ?_
  refine zH_ret (v := some (.inr (.inl (hl 81 0)))) rfl (fun q => absurd q (by decide)) ?_
  exact ⟨rfl, rfl⟩
set_option maxRecDepth 100000 in
set_option maxHeartbeats 4000000 in
theorem p_status {d : Nat} {h hl : Nat → Nat → Int}  : zQ (d + 1) 99 [.inr (.inr (some 2))] (zs h hl) (zI1 (h 2 8) (zs h hl)) := by
  refine zQ_of (Nat.le_of_ble_eq_true rfl) ?_
  show zH d 99 (0, [some (.inr (.inr (some 2)))], [], (zs h hl)) _
  refine zH_go 2 (c' := (4, [some (.inr (.inr (some 2)))], [.inl (h 2 8)], (zs h hl))) rfl ?_
  refine zH_ret (v := some (.inl (h 2 8))) rfl (fun q => absurd q (by decide)) ?_
  exact ⟨rfl, rfl⟩
set_option maxRecDepth 100000 in
set_option maxHeartbeats 4000000 in
theorem p_rule {d : Nat} {h hl : Nat → Nat → Int} {k : Int} (hk : zr k) : zQ (d + 1) 69 [.inr (.inr (some 2)), .inl k] (zs h hl) (fun r σ' => (¬ (0 ≤ k ∧ k ≤ 3) ∧ r = some (.inl (-1)) ∧ σ' = zs h hl) ∨ ((0 ≤ k ∧ k ≤ 3) ∧ r = some (.inl (h 2 7)) ∧ σ' = zs (zup h 2 7 k) hl)) := by
  refine zQ_of (Nat.le_of_ble_eq_true rfl) ?_
  show zH d 69 (0, [some (.inr (.inr (some 2))), some (.inl k), none], [], (zs h hl)) _
  refine zH_go 1 (c' := (1, [some (.inr (.inr (some 2))), some (.inl k), none], [.inl k], (zs h hl))) rfl ?_
  refine zH_br (x := k) (y := 0) (k := .lt) (c1 := (9, [some (.inr (.inr (some 2))), some (.inl k), none], [], (zs h hl))) (c2 := (4, [some (.inr (.inr (some 2))), some (.inl k), none], [], (zs h hl))) rfl (by first | assumption | (unfold zr; omega)) ⟨by decide, by decide⟩ (fun (b_1 : k < 0) => ?_) (fun (b_1 : ¬ (k < 0)) => ?_)
  · refine zH_go 1 (c' := (10, [some (.inr (.inr (some 2))), some (.inl k), none], [.inl (-1)], (zs h hl))) rfl ?_
    refine zH_ret (v := some (.inl (-1))) rfl (fun q => absurd q (by decide)) ?_
    exact Or.inl ⟨by omega, rfl, rfl⟩
  · refine zH_go 2 (c' := (6, [some (.inr (.inr (some 2))), some (.inl k), none], [.inl 3, .inl k], (zs h hl))) rfl ?_
    refine zH_br (x := k) (y := 3) (k := .le) (c1 := (11, [some (.inr (.inr (some 2))), some (.inl k), none], [], (zs h hl))) (c2 := (9, [some (.inr (.inr (some 2))), some (.inl k), none], [], (zs h hl))) rfl (by first | assumption | (unfold zr; omega)) ⟨by decide, by decide⟩ (fun (b_2 : ¬ 3 < k) => ?_) (fun (b_2 : ¬ (¬ 3 < k)) => ?_)
    · refine zH_go 7 (c' := (22, [some (.inr (.inr (some 2))), some (.inl k), some (.inl (h 2 7))], [.inl (h 2 7)], (zs (zup h 2 7 k) hl))) rfl ?_
      refine zH_ret (v := some (.inl (h 2 7))) rfl (fun q => absurd q (by decide)) ?_
      exact Or.inr ⟨by omega, rfl, rfl⟩
    · refine zH_go 1 (c' := (10, [some (.inr (.inr (some 2))), some (.inl k), none], [.inl (-1)], (zs h hl))) rfl ?_
      refine zH_ret (v := some (.inl (-1))) rfl (fun q => absurd q (by decide)) ?_
      exact Or.inl ⟨by omega, rfl, rfl⟩
set_option maxRecDepth 100000 in
set_option maxHeartbeats 4000000 in
theorem p_place {d : Nat} {h hl : Nat → Nat → Int} (hP : 0 ≤ h 3 0 ∧ h 3 0 ≤ 6) (hon : zr (h 21 3)) : zQ (d + 2) 62 [.inr (.inr (some 2))] (zs h hl) (fun r σ' => (0 < h 21 3 ∧ r = some (.inl (-2)) ∧ σ' = zs h hl) ∨ (¬ 0 < h 21 3 ∧ 6 ≤ h 3 0 ∧ r = some (.inl (-3)) ∧ σ' = zs h hl) ∨ (¬ 0 < h 21 3 ∧ h 3 0 < 6 ∧ r = some (.inl (h 3 0)) ∧ σ' = zs (zup h 3 0 (h 3 0 + 1)) hl)) := by
  refine zQ_of (Nat.le_of_ble_eq_true rfl) ?_
  show zH (d + 1) 62 (0, [some (.inr (.inr (some 2)))], [], (zs h hl)) _
  refine zH_go 2 (c' := (4, [some (.inr (.inr (some 2)))], [.inr (.inr (some 21))], (zs h hl))) rfl ?_
  refine zH_call (M' := 12) (as := [.inr (.inr (some 21))]) (T := []) rfl (p_isOnD hon) (fun r σ' p_1 => ?_)
  rcases p_1 with ⟨rfl, b_2, rfl⟩ | ⟨rfl, b_2, rfl⟩
  · show zH _ _ (7, [some (.inr (.inr (some 2)))], [.inl 1], (zs h hl)) _
    refine zH_bf (x := 1) (y := 0) (k := .eq) (c1 := (13, [some (.inr (.inr (some 2)))], [], (zs h hl))) (c2 := (10, [some (.inr (.inr (some 2)))], [], (zs h hl))) rfl ⟨by decide, by decide⟩ ⟨by decide, by decide⟩ (by show ¬ (1 = 0); decide) ?_
    refine zH_go 1 (c' := (12, [some (.inr (.inr (some 2)))], [.inl (-2)], (zs h hl))) rfl ?_
    refine zH_ret (v := some (.inl (-2))) rfl (fun q => absurd q (by decide)) ?_
    exact Or.inl ⟨by assumption, rfl, rfl⟩
  · show zH _ _ (7, [some (.inr (.inr (some 2)))], [.inl 0], (zs h hl)) _
    refine zH_bt (x := 0) (y := 0) (k := .eq) (c1 := (13, [some (.inr (.inr (some 2)))], [], (zs h hl))) (c2 := (10, [some (.inr (.inr (some 2)))], [], (zs h hl))) rfl ⟨by decide, by decide⟩ ⟨by decide, by decide⟩ (by show 0 = 0; decide) ?_
    refine zH_go 4 (c' := (22, [some (.inr (.inr (some 2)))], [.inl 6, .inl (h 3 0)], (zs h hl))) rfl ?_
    refine zH_br (x := (h 3 0)) (y := 6) (k := .lt) (c1 := (28, [some (.inr (.inr (some 2)))], [], (zs h hl))) (c2 := (25, [some (.inr (.inr (some 2)))], [], (zs h hl))) rfl (by first | assumption | (unfold zr; omega)) ⟨by decide, by decide⟩ (fun (b_3 : (h 3 0) < 6) => ?_) (fun (b_3 : ¬ ((h 3 0) < 6)) => ?_)
    · refine zH_go 2 (c' := (32, [some (.inr (.inr (some 2)))], [.inr (.inr (some 3))], (zs h hl))) rfl ?_
      refine zH_call (M' := 50) (as := [.inr (.inr (some 3))]) (T := []) rfl (p_addPlace hP) (fun r σ' p_4 => ?_)
      obtain ⟨rfl, rfl⟩ := p_4
      show zH _ _ (35, [some (.inr (.inr (some 2)))], [.inl (h 3 0)], (zs (zup h 3 0 (h 3 0 + 1)) hl)) _
      refine zH_ret (v := some (.inl (h 3 0))) rfl (fun q => absurd q (by decide)) ?_
      exact Or.inr (Or.inr ⟨by assumption, by omega, rfl, rfl⟩)
    · refine zH_go 1 (c' := (27, [some (.inr (.inr (some 2)))], [.inl (-3)], (zs h hl))) rfl ?_
      refine zH_ret (v := some (.inl (-3))) rfl (fun q => absurd q (by decide)) ?_
      exact Or.inr (Or.inl ⟨by assumption, by omega, rfl, rfl⟩)
/-- two PLACES -/
def zPl2 (h : Nat → Nat → Int) (a b : Int) : Prop := (0 ≤ a ∧ a < h 3 0) ∧ 0 ≤ b ∧ b < h 3 0
set_option maxRecDepth 100000 in
set_option maxHeartbeats 4000000 in
theorem p_apart {d : Nat} {h hl : Nat → Nat → Int} {a b : Int} (ha : zr a) (hb : zr b) (hB : zTB h) (hP : 0 ≤ h 3 0 ∧ h 3 0 ≤ 6) : zQ (d + 2) 64 [.inr (.inr (some 2)), .inl a, .inl b] (zs h hl) (fun r σ' => (¬ zPl2 h a b ∧ r = some (.inl (-1)) ∧ σ' = zs h hl) ∨ (zPl2 h a b ∧ 1000000 ≤ h (12 + Int.toNat a) (Int.toNat b) ∧ r = some (.inl (-9)) ∧ σ' = zs h hl) ∨ (zPl2 h a b ∧ h (12 + Int.toNat a) (Int.toNat b) < 1000000 ∧ r = some (.inl (h (12 + Int.toNat a) (Int.toNat b))) ∧ σ' = zs h hl)) := by
  refine zQ_of (Nat.le_of_ble_eq_true rfl) ?_
  show zH (d + 1) 64 (0, [some (.inr (.inr (some 2))), some (.inl a), some (.inl b), none], [], (zs h hl)) _
  refine zH_go 3 (c' := (5, [some (.inr (.inr (some 2))), some (.inl a), some (.inl b), none], [.inl a, .inr (.inr (some 3))], (zs h hl))) rfl ?_
  refine zH_call (M' := 48) (as := [.inr (.inr (some 3)), .inl a]) (T := []) rfl (p_has (by first | assumption | (unfold zr; omega)) hP) (fun r σ' p_1 => ?_)
  rcases p_1 with ⟨rfl, b_2, rfl⟩ | ⟨rfl, b_2, rfl⟩
  · show zH _ _ (8, [some (.inr (.inr (some 2))), some (.inl a), some (.inl b), none], [.inl 1], (zs h hl)) _
    refine zH_bf (x := 1) (y := 0) (k := .eq) (c1 := (22, [some (.inr (.inr (some 2))), some (.inl a), some (.inl b), none], [], (zs h hl))) (c2 := (11, [some (.inr (.inr (some 2))), some (.inl a), some (.inl b), none], [], (zs h hl))) rfl ⟨by decide, by decide⟩ ⟨by decide, by decide⟩ (by show ¬ (1 = 0); decide) ?_
    refine zH_go 3 (c' := (16, [some (.inr (.inr (some 2))), some (.inl a), some (.inl b), none], [.inl b, .inr (.inr (some 3))], (zs h hl))) rfl ?_
    refine zH_call (M' := 48) (as := [.inr (.inr (some 3)), .inl b]) (T := []) rfl (p_has (by first | assumption | (unfold zr; omega)) hP) (fun r σ' p_3 => ?_)
    rcases p_3 with ⟨rfl, b_4, rfl⟩ | ⟨rfl, b_4, rfl⟩
    · show zH _ _ (19, [some (.inr (.inr (some 2))), some (.inl a), some (.inl b), none], [.inl 1], (zs h hl)) _
      refine zH_bt (x := 1) (y := 0) (k := .ne) (c1 := (24, [some (.inr (.inr (some 2))), some (.inl a), some (.inl b), none], [], (zs h hl))) (c2 := (22, [some (.inr (.inr (some 2))), some (.inl a), some (.inl b), none], [], (zs h hl))) rfl ⟨by decide, by decide⟩ ⟨by decide, by decide⟩ (by show ¬ 1 = 0; decide) ?_
      refine zH_go 4 (c' := (30, [some (.inr (.inr (some 2))), some (.inl a), some (.inl b), none], [.inl b, .inl a, .inr (.inr (some 3))], (zs h hl))) rfl ?_
      obtain ⟨x, rfl⟩ := Int.eq_ofNat_of_zero_le (show 0 ≤ a by omega)
      obtain ⟨y, rfl⟩ := Int.eq_ofNat_of_zero_le (show 0 ≤ b by omega)
      have hxy := hB x y (by omega) (by omega)
      refine zH_call (M' := 52) (as := [.inr (.inr (some 3)), .inl (x : Int), .inl (y : Int)]) (T := []) rfl (p_gap (a := x) (b := y) (by omega) (by omega)) (fun r σ' p_5 => ?_)
      obtain ⟨rfl, rfl⟩ := p_5
      show zH _ _ (33, [some (.inr (.inr (some 2))), some (.inl (x : Int)), some (.inl (y : Int)), none], [.inl (h (12 + x) y)], (zs h hl)) _
      refine zH_go 3 (c' := (37, [some (.inr (.inr (some 2))), some (.inl (x : Int)), some (.inl (y : Int)), some (.inl (h (12 + x) y))], [.inl 1000000, .inl (h (12 + x) y)], (zs h hl))) rfl ?_
      refine zH_br (x := (h (12 + x) y)) (y := 1000000) (k := .ge) (c1 := (44, [some (.inr (.inr (some 2))), some (.inl (x : Int)), some (.inl (y : Int)), some (.inl (h (12 + x) y))], [], (zs h hl))) (c2 := (40, [some (.inr (.inr (some 2))), some (.inl (x : Int)), some (.inl (y : Int)), some (.inl (h (12 + x) y))], [], (zs h hl))) rfl (by first | assumption | (unfold zr; omega)) ⟨by decide, by decide⟩ (fun (b_6 : ¬ (h (12 + x) y) < 1000000) => ?_) (fun (b_6 : ¬ (¬ (h (12 + x) y) < 1000000)) => ?_)
      · refine zH_go 1 (c' := (46, [some (.inr (.inr (some 2))), some (.inl (x : Int)), some (.inl (y : Int)), some (.inl (h (12 + x) y))], [.inl (-9)], (zs h hl))) rfl ?_
        refine zH_ret (v := some (.inl (-9))) rfl (fun q => absurd q (by decide)) ?_
        exact Or.inr (Or.inl ⟨by unfold zPl2; omega, by rw [Int.toNat_natCast, Int.toNat_natCast]; omega, rfl, rfl⟩)
      · refine zH_go 2 (c' := (46, [some (.inr (.inr (some 2))), some (.inl (x : Int)), some (.inl (y : Int)), some (.inl (h (12 + x) y))], [.inl (h (12 + x) y)], (zs h hl))) rfl ?_
        refine zH_ret (v := some (.inl (h (12 + x) y))) rfl (fun q => absurd q (by decide)) ?_
        exact Or.inr (Or.inr ⟨by unfold zPl2; omega, by rw [Int.toNat_natCast, Int.toNat_natCast]; omega, rfl, rfl⟩)
    · show zH _ _ (19, [some (.inr (.inr (some 2))), some (.inl a), some (.inl b), none], [.inl 0], (zs h hl)) _
      refine zH_bf (x := 0) (y := 0) (k := .ne) (c1 := (24, [some (.inr (.inr (some 2))), some (.inl a), some (.inl b), none], [], (zs h hl))) (c2 := (22, [some (.inr (.inr (some 2))), some (.inl a), some (.inl b), none], [], (zs h hl))) rfl ⟨by decide, by decide⟩ ⟨by decide, by decide⟩ (by show ¬ (¬ 0 = 0); decide) ?_
      refine zH_go 1 (c' := (23, [some (.inr (.inr (some 2))), some (.inl a), some (.inl b), none], [.inl (-1)], (zs h hl))) rfl ?_
      refine zH_ret (v := some (.inl (-1))) rfl (fun q => absurd q (by decide)) ?_
      exact Or.inl ⟨by unfold zPl2; omega, rfl, rfl⟩
  · show zH _ _ (8, [some (.inr (.inr (some 2))), some (.inl a), some (.inl b), none], [.inl 0], (zs h hl)) _
    refine zH_bt (x := 0) (y := 0) (k := .eq) (c1 := (22, [some (.inr (.inr (some 2))), some (.inl a), some (.inl b), none], [], (zs h hl))) (c2 := (11, [some (.inr (.inr (some 2))), some (.inl a), some (.inl b), none], [], (zs h hl))) rfl ⟨by decide, by decide⟩ ⟨by decide, by decide⟩ (by show 0 = 0; decide) ?_
    refine zH_go 1 (c' := (23, [some (.inr (.inr (some 2))), some (.inl a), some (.inl b), none], [.inl (-1)], (zs h hl))) rfl ?_
    refine zH_ret (v := some (.inl (-1))) rfl (fun q => absurd q (by decide)) ?_
    exact Or.inl ⟨by unfold zPl2; omega, rfl, rfl⟩
