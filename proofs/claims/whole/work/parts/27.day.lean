/-! A day: reads. -/
/-- a LADDER stands there -/
def zCov (L : Nat) (sp : Nat → Nat) (pp : Nat) : Prop := ∃ i : Nat, i < L ∧ sp i = pp
def zStn (L : Nat) (sp : Nat → Nat) : Nat := if L = 1 then zwd 0 0 (sp 0) else if L = 2 then zwd (zwd 0 0 (sp 0)) 1 (sp 1) else zwd (zwd (zwd 0 0 (sp 0)) 1 (sp 1)) 2 (sp 2)
set_option maxRecDepth 100000 in
set_option maxHeartbeats 4000000 in
theorem p_isOnD {d : Nat} {h hl : Nat → Nat → Int} (hr : zr (h 21 3)) : zQ (d + 1) 12 [.inr (.inr (some 21))] (zs h hl) (zB (0 < h 21 3) (zs h hl)) := by
  refine zQ_of (Nat.le_of_ble_eq_true rfl) ?_
  show zH d 12 (0, [some (.inr (.inr (some 21)))], [], (zs h hl)) _
  refine zH_go 2 (c' := (4, [some (.inr (.inr (some 21)))], [.inl (h 21 3)], (zs h hl))) rfl ?_
  refine zH_br (x := (h 21 3)) (y := 0) (k := .le) (c1 := (11, [some (.inr (.inr (some 21)))], [], (zs h hl))) (c2 := (7, [some (.inr (.inr (some 21)))], [], (zs h hl))) rfl (by first | assumption | (unfold zr; omega)) ⟨by decide, by decide⟩ (fun (b_1 : ¬ 0 < (h 21 3)) => ?_) (fun (b_1 : ¬ (¬ 0 < (h 21 3))) => ?_)
  · refine zH_go 1 (c' := (12, [some (.inr (.inr (some 21)))], [.inl 0], (zs h hl))) rfl ?_
    refine zH_ret (v := some (.inl 0)) rfl (fun _ => by first | exact Or.inl rfl | exact Or.inr rfl) ?_
    exact Or.inr ⟨rfl, by omega, rfl⟩
  · refine zH_go 2 (c' := (12, [some (.inr (.inr (some 21)))], [.inl 1], (zs h hl))) rfl ?_
    refine zH_ret (v := some (.inl 1)) rfl (fun _ => by first | exact Or.inl rfl | exact Or.inr rfl) ?_
    exact Or.inl ⟨rfl, by omega, rfl⟩
set_option maxRecDepth 100000 in
set_option maxHeartbeats 4000000 in
theorem p_farD {d : Nat} {h hl : Nat → Nat → Int} {l : Nat} (hl3 : l < 3) : zQ (d + 1) 20 [.inr (.inr (some 21)), .inl (l : Int)] (zs h hl) (zI1 (h 39 l) (zs h hl)) := by
  refine zQ_of (Nat.le_of_ble_eq_true rfl) ?_
  show zH d 20 (0, [some (.inr (.inr (some 21))), some (.inl (l : Int))], [], (zs h hl)) _
  refine zH_go 1 (c' := (1, [some (.inr (.inr (some 21))), some (.inl (l : Int))], [.inl (l : Int)], (zs h hl))) rfl ?_
  refine zH_br (x := (l : Int)) (y := 0) (k := .lt) (c1 := (18, [some (.inr (.inr (some 21))), some (.inl (l : Int))], [], (zs h hl))) (c2 := (4, [some (.inr (.inr (some 21))), some (.inl (l : Int))], [], (zs h hl))) rfl (by first | assumption | (unfold zr; omega)) ⟨by decide, by decide⟩ (fun (b_1 : (l : Int) < 0) => ?_) (fun (b_1 : ¬ ((l : Int) < 0)) => ?_)
  · refine zH_go 1 (c' := (20, [some (.inr (.inr (some 21))), some (.inl (l : Int))], [.inl 1000000], (zs h hl))) rfl ?_
    exfalso
    omega
  · refine zH_go 2 (c' := (6, [some (.inr (.inr (some 21))), some (.inl (l : Int))], [.inl 3, .inl (l : Int)], (zs h hl))) rfl ?_
    refine zH_br (x := (l : Int)) (y := 3) (k := .ge) (c1 := (18, [some (.inr (.inr (some 21))), some (.inl (l : Int))], [], (zs h hl))) (c2 := (9, [some (.inr (.inr (some 21))), some (.inl (l : Int))], [], (zs h hl))) rfl (by first | assumption | (unfold zr; omega)) ⟨by decide, by decide⟩ (fun (b_2 : ¬ (l : Int) < 3) => ?_) (fun (b_2 : ¬ (¬ (l : Int) < 3)) => ?_)
    · refine zH_go 1 (c' := (20, [some (.inr (.inr (some 21))), some (.inl (l : Int))], [.inl 1000000], (zs h hl))) rfl ?_
      exfalso
      omega
    · refine zH_go 3 (c' := (14, [some (.inr (.inr (some 21))), some (.inl (l : Int))], [.inl (l : Int), .inr (.inr (some 39))], (zs h hl))) rfl ?_
      refine zH_np (P := 0 ≤ (l : Int) ∧ (l : Int) < ((3 : Nat) : Int)) (c' := (15, [some (.inr (.inr (some 21))), some (.inl (l : Int))], [.inl (h 39 l)], (zs h hl))) rfl ⟨by omega, by omega⟩ ?_
      refine zH_go 1 (c' := (20, [some (.inr (.inr (some 21))), some (.inl (l : Int))], [.inl (h 39 l)], (zs h hl))) rfl ?_
      refine zH_ret (v := some (.inl (h 39 l))) rfl (fun q => absurd q (by decide)) ?_
      exact ⟨rfl, rfl⟩
set_option maxRecDepth 100000 in
set_option maxHeartbeats 4000000 in
theorem p_walkedD {d : Nat} {h hl : Nat → Nat → Int} {l : Nat} (hl3 : l < 3) : zQ (d + 1) 21 [.inr (.inr (some 21)), .inl (l : Int)] (zs h hl) (zI1 (h 41 l) (zs h hl)) := by
  refine zQ_of (Nat.le_of_ble_eq_true rfl) ?_
  show zH d 21 (0, [some (.inr (.inr (some 21))), some (.inl (l : Int))], [], (zs h hl)) _
  refine zH_go 1 (c' := (1, [some (.inr (.inr (some 21))), some (.inl (l : Int))], [.inl (l : Int)], (zs h hl))) rfl ?_
  refine zH_br (x := (l : Int)) (y := 0) (k := .lt) (c1 := (18, [some (.inr (.inr (some 21))), some (.inl (l : Int))], [], (zs h hl))) (c2 := (4, [some (.inr (.inr (some 21))), some (.inl (l : Int))], [], (zs h hl))) rfl (by first | assumption | (unfold zr; omega)) ⟨by decide, by decide⟩ (fun (b_1 : (l : Int) < 0) => ?_) (fun (b_1 : ¬ ((l : Int) < 0)) => ?_)
  · refine zH_go 1 (c' := (19, [some (.inr (.inr (some 21))), some (.inl (l : Int))], [.inl 0], (zs h hl))) rfl ?_
    exfalso
    omega
  · refine zH_go 2 (c' := (6, [some (.inr (.inr (some 21))), some (.inl (l : Int))], [.inl 3, .inl (l : Int)], (zs h hl))) rfl ?_
    refine zH_br (x := (l : Int)) (y := 3) (k := .ge) (c1 := (18, [some (.inr (.inr (some 21))), some (.inl (l : Int))], [], (zs h hl))) (c2 := (9, [some (.inr (.inr (some 21))), some (.inl (l : Int))], [], (zs h hl))) rfl (by first | assumption | (unfold zr; omega)) ⟨by decide, by decide⟩ (fun (b_2 : ¬ (l : Int) < 3) => ?_) (fun (b_2 : ¬ (¬ (l : Int) < 3)) => ?_)
    · refine zH_go 1 (c' := (19, [some (.inr (.inr (some 21))), some (.inl (l : Int))], [.inl 0], (zs h hl))) rfl ?_
      exfalso
      omega
    · refine zH_go 3 (c' := (14, [some (.inr (.inr (some 21))), some (.inl (l : Int))], [.inl (l : Int), .inr (.inr (some 41))], (zs h hl))) rfl ?_
      refine zH_np (P := 0 ≤ (l : Int) ∧ (l : Int) < ((3 : Nat) : Int)) (c' := (15, [some (.inr (.inr (some 21))), some (.inl (l : Int))], [.inl (h 41 l)], (zs h hl))) rfl ⟨by omega, by omega⟩ ?_
      refine zH_go 1 (c' := (19, [some (.inr (.inr (some 21))), some (.inl (l : Int))], [.inl (h 41 l)], (zs h hl))) rfl ?_
      refine zH_ret (v := some (.inl (h 41 l))) rfl (fun q => absurd q (by decide)) ?_
      exact ⟨rfl, rfl⟩
set_option maxRecDepth 100000 in
set_option maxHeartbeats 4000000 in
theorem p_paidD {d : Nat} {h hl : Nat → Nat → Int}  : zQ (d + 1) 22 [.inr (.inr (some 21))] (zs h hl) (zI1 (h 41 0 + h 41 1 + h 41 2) (zs h hl)) := by
  refine zQ_of (Nat.le_of_ble_eq_true rfl) ?_
  show zH d 22 (0, [some (.inr (.inr (some 21))), none, none], [], (zs h hl)) _
  refine zH_go 6 (c' := (6, [some (.inr (.inr (some 21))), some (.inl 0), some (.inl 0)], [.inl 3, .inl 0], (zs h hl))) rfl ?_
  refine zH_bf (x := 0) (y := 3) (k := .ge) (c1 := (24, [some (.inr (.inr (some 21))), some (.inl 0), some (.inl 0)], [], (zs h hl))) (c2 := (9, [some (.inr (.inr (some 21))), some (.inl 0), some (.inl 0)], [], (zs h hl))) rfl ⟨by decide, by decide⟩ ⟨by decide, by decide⟩ (by show ¬ (¬ 0 < 3); decide) ?_
  refine zH_go 4 (c' := (15, [some (.inr (.inr (some 21))), some (.inl 0), some (.inl 0)], [.inl 0, .inr (.inr (some 41)), .inl 0], (zs h hl))) rfl ?_
  refine zH_np (P := 0 ≤ 0 ∧ 0 < ((3 : Nat) : Int)) (c' := (16, [some (.inr (.inr (some 21))), some (.inl 0), some (.inl 0)], [.inl (h 41 0), .inl 0], (zs h hl))) rfl ⟨by decide, by decide⟩ ?_
  refine zH_go 6 (c' := (6, [some (.inr (.inr (some 21))), some (.inl (0 + (h 41 0))), some (.inl 1)], [.inl 3, .inl 1], (zs h hl))) rfl ?_
  refine zH_bf (x := 1) (y := 3) (k := .ge) (c1 := (24, [some (.inr (.inr (some 21))), some (.inl (0 + (h 41 0))), some (.inl 1)], [], (zs h hl))) (c2 := (9, [some (.inr (.inr (some 21))), some (.inl (0 + (h 41 0))), some (.inl 1)], [], (zs h hl))) rfl ⟨by decide, by decide⟩ ⟨by decide, by decide⟩ (by show ¬ (¬ 1 < 3); decide) ?_
  refine zH_go 4 (c' := (15, [some (.inr (.inr (some 21))), some (.inl (0 + (h 41 0))), some (.inl 1)], [.inl 1, .inr (.inr (some 41)), .inl (0 + (h 41 0))], (zs h hl))) rfl ?_
  refine zH_np (P := 0 ≤ 1 ∧ 1 < ((3 : Nat) : Int)) (c' := (16, [some (.inr (.inr (some 21))), some (.inl (0 + (h 41 0))), some (.inl 1)], [.inl (h 41 1), .inl (0 + (h 41 0))], (zs h hl))) rfl ⟨by decide, by decide⟩ ?_
  refine zH_go 6 (c' := (6, [some (.inr (.inr (some 21))), some (.inl ((0 + (h 41 0)) + (h 41 1))), some (.inl 2)], [.inl 3, .inl 2], (zs h hl))) rfl ?_
  refine zH_bf (x := 2) (y := 3) (k := .ge) (c1 := (24, [some (.inr (.inr (some 21))), some (.inl ((0 + (h 41 0)) + (h 41 1))), some (.inl 2)], [], (zs h hl))) (c2 := (9, [some (.inr (.inr (some 21))), some (.inl ((0 + (h 41 0)) + (h 41 1))), some (.inl 2)], [], (zs h hl))) rfl ⟨by decide, by decide⟩ ⟨by decide, by decide⟩ (by show ¬ (¬ 2 < 3); decide) ?_
  refine zH_go 4 (c' := (15, [some (.inr (.inr (some 21))), some (.inl ((0 + (h 41 0)) + (h 41 1))), some (.inl 2)], [.inl 2, .inr (.inr (some 41)), .inl ((0 + (h 41 0)) + (h 41 1))], (zs h hl))) rfl ?_
  refine zH_np (P := 0 ≤ 2 ∧ 2 < ((3 : Nat) : Int)) (c' := (16, [some (.inr (.inr (some 21))), some (.inl ((0 + (h 41 0)) + (h 41 1))), some (.inl 2)], [.inl (h 41 2), .inl ((0 + (h 41 0)) + (h 41 1))], (zs h hl))) rfl ⟨by decide, by decide⟩ ?_
  refine zH_go 6 (c' := (6, [some (.inr (.inr (some 21))), some (.inl (((0 + (h 41 0)) + (h 41 1)) + (h 41 2))), some (.inl 3)], [.inl 3, .inl 3], (zs h hl))) rfl ?_
  refine zH_bt (x := 3) (y := 3) (k := .ge) (c1 := (24, [some (.inr (.inr (some 21))), some (.inl (((0 + (h 41 0)) + (h 41 1)) + (h 41 2))), some (.inl 3)], [], (zs h hl))) (c2 := (9, [some (.inr (.inr (some 21))), some (.inl (((0 + (h 41 0)) + (h 41 1)) + (h 41 2))), some (.inl 3)], [], (zs h hl))) rfl ⟨by decide, by decide⟩ ⟨by decide, by decide⟩ (by show ¬ 3 < 3; decide) ?_
  refine zH_go 1 (c' := (25, [some (.inr (.inr (some 21))), some (.inl (((0 + (h 41 0)) + (h 41 1)) + (h 41 2))), some (.inl 3)], [.inl (((0 + (h 41 0)) + (h 41 1)) + (h 41 2))], (zs h hl))) rfl ?_
  refine zH_ret (v := some (.inl (((0 + (h 41 0)) + (h 41 1)) + (h 41 2)))) rfl (fun q => absurd q (by decide)) ?_
  exact ⟨congrArg (fun z => some (Sum.inl z)) (by omega), rfl⟩
set_option maxRecDepth 100000 in
set_option maxHeartbeats 4000000 in
theorem p_placeOfD {d : Nat} {h hl : Nat → Nat → Int} {i : Nat} (hi : i < 12) (hn : (i : Int) < h 21 4) (hc : h 21 4 ≤ 1000) : zQ (d + 1) 23 [.inr (.inr (some 21)), .inl (i : Int)] (zs h hl) (zI1 (h 42 i) (zs h hl)) := by
  refine zQ_of (Nat.le_of_ble_eq_true rfl) ?_
  show zH d 23 (0, [some (.inr (.inr (some 21))), some (.inl (i : Int))], [], (zs h hl)) _
  refine zH_go 1 (c' := (1, [some (.inr (.inr (some 21))), some (.inl (i : Int))], [.inl (i : Int)], (zs h hl))) rfl ?_
  refine zH_br (x := (i : Int)) (y := 0) (k := .lt) (c1 := (30, [some (.inr (.inr (some 21))), some (.inl (i : Int))], [], (zs h hl))) (c2 := (4, [some (.inr (.inr (some 21))), some (.inl (i : Int))], [], (zs h hl))) rfl (by first | assumption | (unfold zr; omega)) ⟨by decide, by decide⟩ (fun (b_1 : (i : Int) < 0) => ?_) (fun (b_1 : ¬ ((i : Int) < 0)) => ?_)
  · refine zH_go 1 (c' := (31, [some (.inr (.inr (some 21))), some (.inl (i : Int))], [.inl 0], (zs h hl))) rfl ?_
    exfalso
    omega
  · refine zH_go 3 (c' := (9, [some (.inr (.inr (some 21))), some (.inl (i : Int))], [.inl (h 21 4), .inl (i : Int)], (zs h hl))) rfl ?_
    refine zH_br (x := (i : Int)) (y := (h 21 4)) (k := .ge) (c1 := (30, [some (.inr (.inr (some 21))), some (.inl (i : Int))], [], (zs h hl))) (c2 := (12, [some (.inr (.inr (some 21))), some (.inl (i : Int))], [], (zs h hl))) rfl (by first | assumption | (unfold zr; omega)) (by first | assumption | (unfold zr; omega)) (fun (b_2 : ¬ (i : Int) < (h 21 4)) => ?_) (fun (b_2 : ¬ (¬ (i : Int) < (h 21 4))) => ?_)
    · refine zH_go 1 (c' := (31, [some (.inr (.inr (some 21))), some (.inl (i : Int))], [.inl 0], (zs h hl))) rfl ?_
      exfalso
      omega
    · refine zH_go 4 (c' := (18, [some (.inr (.inr (some 21))), some (.inl (i : Int))], [.inl 12, .inl (i : Int)], (zs h hl))) rfl ?_
      refine zH_br (x := (i : Int)) (y := 12) (k := .ge) (c1 := (30, [some (.inr (.inr (some 21))), some (.inl (i : Int))], [], (zs h hl))) (c2 := (21, [some (.inr (.inr (some 21))), some (.inl (i : Int))], [], (zs h hl))) rfl (by first | assumption | (unfold zr; omega)) ⟨by decide, by decide⟩ (fun (b_3 : ¬ (i : Int) < 12) => ?_) (fun (b_3 : ¬ (¬ (i : Int) < 12)) => ?_)
      · refine zH_go 1 (c' := (31, [some (.inr (.inr (some 21))), some (.inl (i : Int))], [.inl 0], (zs h hl))) rfl ?_
        exfalso
        omega
      · refine zH_go 3 (c' := (26, [some (.inr (.inr (some 21))), some (.inl (i : Int))], [.inl (i : Int), .inr (.inr (some 42))], (zs h hl))) rfl ?_
        refine zH_np (P := 0 ≤ (i : Int) ∧ (i : Int) < ((12 : Nat) : Int)) (c' := (27, [some (.inr (.inr (some 21))), some (.inl (i : Int))], [.inl (h 42 i)], (zs h hl))) rfl ⟨by omega, by omega⟩ ?_
        refine zH_go 1 (c' := (31, [some (.inr (.inr (some 21))), some (.inl (i : Int))], [.inl (h 42 i)], (zs h hl))) rfl ?_
        refine zH_ret (v := some (.inl (h 42 i))) rfl (fun q => absurd q (by decide)) ?_
        exact ⟨rfl, rfl⟩
set_option maxRecDepth 100000 in
set_option maxHeartbeats 4000000 in
theorem p_covD1 {d : Nat} {h hl : Nat → Nat → Int} {pp : Nat} (hpp : pp < 8) {sp : Nat → Nat} (hL : h 21 3 = 1) (hsp : ∀ i : Nat, i < 1 → h 40 i = ((sp i : Nat) : Int)) (hs6 : ∀ i : Nat, i < 1 → sp i < 6) : zQ (d + 1) 25 [.inr (.inr (some 21)), .inl (pp : Int)] (zs h hl) (zB (zCov 1 sp pp) (zs h hl)) := by
  have s0 := hsp 0 (by decide)
  have t0 := hs6 0 (by decide)
  refine zQ_of (Nat.le_of_ble_eq_true rfl) ?_
  show zH d 25 (0, [some (.inr (.inr (some 21))), some (.inl (pp : Int)), none], [], (zs h hl)) _
  refine zH_go 5 (c' := (7, [some (.inr (.inr (some 21))), some (.inl (pp : Int)), some (.inl 0)], [.inl (h 21 3), .inl 0], (zs h hl))) rfl ?_
  rw [hL]
  refine zH_bf (x := 0) (y := 1) (k := .ge) (c1 := (33, [some (.inr (.inr (some 21))), some (.inl (pp : Int)), some (.inl 0)], [], (zs h hl))) (c2 := (10, [some (.inr (.inr (some 21))), some (.inl (pp : Int)), some (.inl 0)], [], (zs h hl))) rfl ⟨by decide, by decide⟩ ⟨by decide, by decide⟩ (by show ¬ (¬ 0 < 1); decide) ?_
  refine zH_go 2 (c' := (12, [some (.inr (.inr (some 21))), some (.inl (pp : Int)), some (.inl 0)], [.inl 3, .inl 0], (zs h hl))) rfl ?_
  refine zH_bf (x := 0) (y := 3) (k := .ge) (c1 := (33, [some (.inr (.inr (some 21))), some (.inl (pp : Int)), some (.inl 0)], [], (zs h hl))) (c2 := (15, [some (.inr (.inr (some 21))), some (.inl (pp : Int)), some (.inl 0)], [], (zs h hl))) rfl ⟨by decide, by decide⟩ ⟨by decide, by decide⟩ (by show ¬ (¬ 0 < 3); decide) ?_
  refine zH_go 3 (c' := (20, [some (.inr (.inr (some 21))), some (.inl (pp : Int)), some (.inl 0)], [.inl 0, .inr (.inr (some 40))], (zs h hl))) rfl ?_
  refine zH_np (P := 0 ≤ 0 ∧ 0 < ((3 : Nat) : Int)) (c' := (21, [some (.inr (.inr (some 21))), some (.inl (pp : Int)), some (.inl 0)], [.inl (h 40 0)], (zs h hl))) rfl ⟨by decide, by decide⟩ ?_
  rw [s0]
  refine zH_go 1 (c' := (22, [some (.inr (.inr (some 21))), some (.inl (pp : Int)), some (.inl 0)], [.inl (pp : Int), .inl ((sp 0 : Nat) : Int)], (zs h hl))) rfl ?_
  refine zH_br (x := ((sp 0 : Nat) : Int)) (y := (pp : Int)) (k := .ne) (c1 := (27, [some (.inr (.inr (some 21))), some (.inl (pp : Int)), some (.inl 0)], [], (zs h hl))) (c2 := (25, [some (.inr (.inr (some 21))), some (.inl (pp : Int)), some (.inl 0)], [], (zs h hl))) rfl (by first | assumption | (unfold zr; omega)) (by first | assumption | (unfold zr; omega)) (fun (b_1 : ¬ ((sp 0 : Nat) : Int) = (pp : Int)) => ?_) (fun (b_1 : ¬ (¬ ((sp 0 : Nat) : Int) = (pp : Int))) => ?_)
  · refine zH_go 5 (c' := (7, [some (.inr (.inr (some 21))), some (.inl (pp : Int)), some (.inl 1)], [.inl (h 21 3), .inl 1], (zs h hl))) rfl ?_
    rw [hL]
    refine zH_bt (x := 1) (y := 1) (k := .ge) (c1 := (33, [some (.inr (.inr (some 21))), some (.inl (pp : Int)), some (.inl 1)], [], (zs h hl))) (c2 := (10, [some (.inr (.inr (some 21))), some (.inl (pp : Int)), some (.inl 1)], [], (zs h hl))) rfl ⟨by decide, by decide⟩ ⟨by decide, by decide⟩ (by show ¬ 1 < 1; decide) ?_
    refine zH_go 1 (c' := (34, [some (.inr (.inr (some 21))), some (.inl (pp : Int)), some (.inl 1)], [.inl 0], (zs h hl))) rfl ?_
    refine zH_ret (v := some (.inl 0)) rfl (fun _ => by first | exact Or.inl rfl | exact Or.inr rfl) ?_
    refine Or.inr ⟨rfl, fun ⟨i, q1, q2⟩ => ?_, rfl⟩
    rcases (show i = 0 by omega) with rfl <;> omega
  · refine zH_go 1 (c' := (26, [some (.inr (.inr (some 21))), some (.inl (pp : Int)), some (.inl 0)], [.inl 1], (zs h hl))) rfl ?_
    refine zH_ret (v := some (.inl 1)) rfl (fun _ => by first | exact Or.inl rfl | exact Or.inr rfl) ?_
    exact Or.inl ⟨rfl, ⟨0, by decide, by omega⟩, rfl⟩
set_option maxRecDepth 100000 in
set_option maxHeartbeats 4000000 in
theorem p_stnD1 {d : Nat} {h hl : Nat → Nat → Int} {sp : Nat → Nat} (hL : h 21 3 = 1) (hsp : ∀ i : Nat, i < 1 → h 40 i = ((sp i : Nat) : Int)) (hs6 : ∀ i : Nat, i < 1 → sp i < 6) : zQ (d + 2) 19 [.inr (.inr (some 21))] (zs h hl) (zI1 ((zStn 1 sp : Nat) : Int) (zs h hl)) := by
  have s0 := hsp 0 (by decide)
  have t0 := hs6 0 (by decide)
  have w0 := zwd_lt 0 (by decide) 0 (by decide) (sp 0) (by omega)
  refine zQ_of (Nat.le_of_ble_eq_true rfl) ?_
  show zH (d + 1) 19 (0, [some (.inr (.inr (some 21))), none, none], [], (zs h hl)) _
  refine zH_go 7 (c' := (9, [some (.inr (.inr (some 21))), some (.inl 0), some (.inl 0)], [.inl (h 21 3), .inl 0], (zs h hl))) rfl ?_
  rw [hL]
  refine zH_bf (x := 0) (y := 1) (k := .ge) (c1 := (35, [some (.inr (.inr (some 21))), some (.inl 0), some (.inl 0)], [], (zs h hl))) (c2 := (12, [some (.inr (.inr (some 21))), some (.inl 0), some (.inl 0)], [], (zs h hl))) rfl ⟨by decide, by decide⟩ ⟨by decide, by decide⟩ (by show ¬ (¬ 0 < 1); decide) ?_
  refine zH_go 2 (c' := (14, [some (.inr (.inr (some 21))), some (.inl 0), some (.inl 0)], [.inl 3, .inl 0], (zs h hl))) rfl ?_
  refine zH_bf (x := 0) (y := 3) (k := .ge) (c1 := (35, [some (.inr (.inr (some 21))), some (.inl 0), some (.inl 0)], [], (zs h hl))) (c2 := (17, [some (.inr (.inr (some 21))), some (.inl 0), some (.inl 0)], [], (zs h hl))) rfl ⟨by decide, by decide⟩ ⟨by decide, by decide⟩ (by show ¬ (¬ 0 < 3); decide) ?_
  refine zH_go 5 (c' := (24, [some (.inr (.inr (some 21))), some (.inl 0), some (.inl 0)], [.inl 0, .inr (.inr (some 40)), .inl 0, .inl 0], (zs h hl))) rfl ?_
  refine zH_np (P := 0 ≤ 0 ∧ 0 < ((3 : Nat) : Int)) (c' := (25, [some (.inr (.inr (some 21))), some (.inl 0), some (.inl 0)], [.inl (h 40 0), .inl 0, .inl 0], (zs h hl))) rfl ⟨by decide, by decide⟩ ?_
  rw [s0]
  refine zH_call (M' := 101) (as := [.inl 0, .inl 0, .inl ((sp 0 : Nat) : Int)]) (T := []) rfl (p_withDigit (n := 0) (i := 0) (v := sp 0) (by omega) (by decide) (by omega)) (fun r σ' p_1 => ?_)
  obtain ⟨rfl, rfl⟩ := p_1
  show zH _ _ (28, [some (.inr (.inr (some 21))), some (.inl 0), some (.inl 0)], [.inl ((zwd 0 0 (sp 0) : Nat) : Int)], (zs h hl)) _
  refine zH_go 6 (c' := (9, [some (.inr (.inr (some 21))), some (.inl ((zwd 0 0 (sp 0) : Nat) : Int)), some (.inl 1)], [.inl (h 21 3), .inl 1], (zs h hl))) rfl ?_
  rw [hL]
  refine zH_bt (x := 1) (y := 1) (k := .ge) (c1 := (35, [some (.inr (.inr (some 21))), some (.inl ((zwd 0 0 (sp 0) : Nat) : Int)), some (.inl 1)], [], (zs h hl))) (c2 := (12, [some (.inr (.inr (some 21))), some (.inl ((zwd 0 0 (sp 0) : Nat) : Int)), some (.inl 1)], [], (zs h hl))) rfl ⟨by decide, by decide⟩ ⟨by decide, by decide⟩ (by show ¬ 1 < 1; decide) ?_
  refine zH_go 1 (c' := (36, [some (.inr (.inr (some 21))), some (.inl ((zwd 0 0 (sp 0) : Nat) : Int)), some (.inl 1)], [.inl ((zwd 0 0 (sp 0) : Nat) : Int)], (zs h hl))) rfl ?_
  refine zH_ret (v := some (.inl ((zwd 0 0 (sp 0) : Nat) : Int))) rfl (fun q => absurd q (by decide)) ?_
  refine ⟨congrArg (fun z => some (Sum.inl z)) ?_, rfl⟩
  unfold zStn
  rw [if_pos rfl]
set_option maxRecDepth 100000 in
set_option maxHeartbeats 4000000 in
theorem p_covD2 {d : Nat} {h hl : Nat → Nat → Int} {pp : Nat} (hpp : pp < 8) {sp : Nat → Nat} (hL : h 21 3 = 2) (hsp : ∀ i : Nat, i < 2 → h 40 i = ((sp i : Nat) : Int)) (hs6 : ∀ i : Nat, i < 2 → sp i < 6) : zQ (d + 1) 25 [.inr (.inr (some 21)), .inl (pp : Int)] (zs h hl) (zB (zCov 2 sp pp) (zs h hl)) := by
  have s0 := hsp 0 (by decide)
  have s1 := hsp 1 (by decide)
  have t0 := hs6 0 (by decide)
  have t1 := hs6 1 (by decide)
  refine zQ_of (Nat.le_of_ble_eq_true rfl) ?_
  show zH d 25 (0, [some (.inr (.inr (some 21))), some (.inl (pp : Int)), none], [], (zs h hl)) _
  refine zH_go 5 (c' := (7, [some (.inr (.inr (some 21))), some (.inl (pp : Int)), some (.inl 0)], [.inl (h 21 3), .inl 0], (zs h hl))) rfl ?_
  rw [hL]
  refine zH_bf (x := 0) (y := 2) (k := .ge) (c1 := (33, [some (.inr (.inr (some 21))), some (.inl (pp : Int)), some (.inl 0)], [], (zs h hl))) (c2 := (10, [some (.inr (.inr (some 21))), some (.inl (pp : Int)), some (.inl 0)], [], (zs h hl))) rfl ⟨by decide, by decide⟩ ⟨by decide, by decide⟩ (by show ¬ (¬ 0 < 2); decide) ?_
  refine zH_go 2 (c' := (12, [some (.inr (.inr (some 21))), some (.inl (pp : Int)), some (.inl 0)], [.inl 3, .inl 0], (zs h hl))) rfl ?_
  refine zH_bf (x := 0) (y := 3) (k := .ge) (c1 := (33, [some (.inr (.inr (some 21))), some (.inl (pp : Int)), some (.inl 0)], [], (zs h hl))) (c2 := (15, [some (.inr (.inr (some 21))), some (.inl (pp : Int)), some (.inl 0)], [], (zs h hl))) rfl ⟨by decide, by decide⟩ ⟨by decide, by decide⟩ (by show ¬ (¬ 0 < 3); decide) ?_
  refine zH_go 3 (c' := (20, [some (.inr (.inr (some 21))), some (.inl (pp : Int)), some (.inl 0)], [.inl 0, .inr (.inr (some 40))], (zs h hl))) rfl ?_
  refine zH_np (P := 0 ≤ 0 ∧ 0 < ((3 : Nat) : Int)) (c' := (21, [some (.inr (.inr (some 21))), some (.inl (pp : Int)), some (.inl 0)], [.inl (h 40 0)], (zs h hl))) rfl ⟨by decide, by decide⟩ ?_
  rw [s0]
  refine zH_go 1 (c' := (22, [some (.inr (.inr (some 21))), some (.inl (pp : Int)), some (.inl 0)], [.inl (pp : Int), .inl ((sp 0 : Nat) : Int)], (zs h hl))) rfl ?_
  refine zH_br (x := ((sp 0 : Nat) : Int)) (y := (pp : Int)) (k := .ne) (c1 := (27, [some (.inr (.inr (some 21))), some (.inl (pp : Int)), some (.inl 0)], [], (zs h hl))) (c2 := (25, [some (.inr (.inr (some 21))), some (.inl (pp : Int)), some (.inl 0)], [], (zs h hl))) rfl (by first | assumption | (unfold zr; omega)) (by first | assumption | (unfold zr; omega)) (fun (b_1 : ¬ ((sp 0 : Nat) : Int) = (pp : Int)) => ?_) (fun (b_1 : ¬ (¬ ((sp 0 : Nat) : Int) = (pp : Int))) => ?_)
  · refine zH_go 5 (c' := (7, [some (.inr (.inr (some 21))), some (.inl (pp : Int)), some (.inl 1)], [.inl (h 21 3), .inl 1], (zs h hl))) rfl ?_
    rw [hL]
    refine zH_bf (x := 1) (y := 2) (k := .ge) (c1 := (33, [some (.inr (.inr (some 21))), some (.inl (pp : Int)), some (.inl 1)], [], (zs h hl))) (c2 := (10, [some (.inr (.inr (some 21))), some (.inl (pp : Int)), some (.inl 1)], [], (zs h hl))) rfl ⟨by decide, by decide⟩ ⟨by decide, by decide⟩ (by show ¬ (¬ 1 < 2); decide) ?_
    refine zH_go 2 (c' := (12, [some (.inr (.inr (some 21))), some (.inl (pp : Int)), some (.inl 1)], [.inl 3, .inl 1], (zs h hl))) rfl ?_
    refine zH_bf (x := 1) (y := 3) (k := .ge) (c1 := (33, [some (.inr (.inr (some 21))), some (.inl (pp : Int)), some (.inl 1)], [], (zs h hl))) (c2 := (15, [some (.inr (.inr (some 21))), some (.inl (pp : Int)), some (.inl 1)], [], (zs h hl))) rfl ⟨by decide, by decide⟩ ⟨by decide, by decide⟩ (by show ¬ (¬ 1 < 3); decide) ?_
    refine zH_go 3 (c' := (20, [some (.inr (.inr (some 21))), some (.inl (pp : Int)), some (.inl 1)], [.inl 1, .inr (.inr (some 40))], (zs h hl))) rfl ?_
    refine zH_np (P := 0 ≤ 1 ∧ 1 < ((3 : Nat) : Int)) (c' := (21, [some (.inr (.inr (some 21))), some (.inl (pp : Int)), some (.inl 1)], [.inl (h 40 1)], (zs h hl))) rfl ⟨by decide, by decide⟩ ?_
    rw [s1]
    refine zH_go 1 (c' := (22, [some (.inr (.inr (some 21))), some (.inl (pp : Int)), some (.inl 1)], [.inl (pp : Int), .inl ((sp 1 : Nat) : Int)], (zs h hl))) rfl ?_
    refine zH_br (x := ((sp 1 : Nat) : Int)) (y := (pp : Int)) (k := .ne) (c1 := (27, [some (.inr (.inr (some 21))), some (.inl (pp : Int)), some (.inl 1)], [], (zs h hl))) (c2 := (25, [some (.inr (.inr (some 21))), some (.inl (pp : Int)), some (.inl 1)], [], (zs h hl))) rfl (by first | assumption | (unfold zr; omega)) (by first | assumption | (unfold zr; omega)) (fun (b_2 : ¬ ((sp 1 : Nat) : Int) = (pp : Int)) => ?_) (fun (b_2 : ¬ (¬ ((sp 1 : Nat) : Int) = (pp : Int))) => ?_)
    · refine zH_go 5 (c' := (7, [some (.inr (.inr (some 21))), some (.inl (pp : Int)), some (.inl 2)], [.inl (h 21 3), .inl 2], (zs h hl))) rfl ?_
      rw [hL]
      refine zH_bt (x := 2) (y := 2) (k := .ge) (c1 := (33, [some (.inr (.inr (some 21))), some (.inl (pp : Int)), some (.inl 2)], [], (zs h hl))) (c2 := (10, [some (.inr (.inr (some 21))), some (.inl (pp : Int)), some (.inl 2)], [], (zs h hl))) rfl ⟨by decide, by decide⟩ ⟨by decide, by decide⟩ (by show ¬ 2 < 2; decide) ?_
      refine zH_go 1 (c' := (34, [some (.inr (.inr (some 21))), some (.inl (pp : Int)), some (.inl 2)], [.inl 0], (zs h hl))) rfl ?_
      refine zH_ret (v := some (.inl 0)) rfl (fun _ => by first | exact Or.inl rfl | exact Or.inr rfl) ?_
      refine Or.inr ⟨rfl, fun ⟨i, q1, q2⟩ => ?_, rfl⟩
      rcases (show i = 0 ∨ i = 1 by omega) with rfl | rfl <;> omega
    · refine zH_go 1 (c' := (26, [some (.inr (.inr (some 21))), some (.inl (pp : Int)), some (.inl 1)], [.inl 1], (zs h hl))) rfl ?_
      refine zH_ret (v := some (.inl 1)) rfl (fun _ => by first | exact Or.inl rfl | exact Or.inr rfl) ?_
      exact Or.inl ⟨rfl, ⟨1, by decide, by omega⟩, rfl⟩
  · refine zH_go 1 (c' := (26, [some (.inr (.inr (some 21))), some (.inl (pp : Int)), some (.inl 0)], [.inl 1], (zs h hl))) rfl ?_
    refine zH_ret (v := some (.inl 1)) rfl (fun _ => by first | exact Or.inl rfl | exact Or.inr rfl) ?_
    exact Or.inl ⟨rfl, ⟨0, by decide, by omega⟩, rfl⟩
set_option maxRecDepth 100000 in
set_option maxHeartbeats 4000000 in
theorem p_stnD2 {d : Nat} {h hl : Nat → Nat → Int} {sp : Nat → Nat} (hL : h 21 3 = 2) (hsp : ∀ i : Nat, i < 2 → h 40 i = ((sp i : Nat) : Int)) (hs6 : ∀ i : Nat, i < 2 → sp i < 6) : zQ (d + 2) 19 [.inr (.inr (some 21))] (zs h hl) (zI1 ((zStn 2 sp : Nat) : Int) (zs h hl)) := by
  have s0 := hsp 0 (by decide)
  have s1 := hsp 1 (by decide)
  have t0 := hs6 0 (by decide)
  have t1 := hs6 1 (by decide)
  have w0 := zwd_lt 0 (by decide) 0 (by decide) (sp 0) (by omega)
  have w1 := zwd_lt _ w0 1 (by decide) (sp 1) (by omega)
  refine zQ_of (Nat.le_of_ble_eq_true rfl) ?_
  show zH (d + 1) 19 (0, [some (.inr (.inr (some 21))), none, none], [], (zs h hl)) _
  refine zH_go 7 (c' := (9, [some (.inr (.inr (some 21))), some (.inl 0), some (.inl 0)], [.inl (h 21 3), .inl 0], (zs h hl))) rfl ?_
  rw [hL]
  refine zH_bf (x := 0) (y := 2) (k := .ge) (c1 := (35, [some (.inr (.inr (some 21))), some (.inl 0), some (.inl 0)], [], (zs h hl))) (c2 := (12, [some (.inr (.inr (some 21))), some (.inl 0), some (.inl 0)], [], (zs h hl))) rfl ⟨by decide, by decide⟩ ⟨by decide, by decide⟩ (by show ¬ (¬ 0 < 2); decide) ?_
  refine zH_go 2 (c' := (14, [some (.inr (.inr (some 21))), some (.inl 0), some (.inl 0)], [.inl 3, .inl 0], (zs h hl))) rfl ?_
  refine zH_bf (x := 0) (y := 3) (k := .ge) (c1 := (35, [some (.inr (.inr (some 21))), some (.inl 0), some (.inl 0)], [], (zs h hl))) (c2 := (17, [some (.inr (.inr (some 21))), some (.inl 0), some (.inl 0)], [], (zs h hl))) rfl ⟨by decide, by decide⟩ ⟨by decide, by decide⟩ (by show ¬ (¬ 0 < 3); decide) ?_
  refine zH_go 5 (c' := (24, [some (.inr (.inr (some 21))), some (.inl 0), some (.inl 0)], [.inl 0, .inr (.inr (some 40)), .inl 0, .inl 0], (zs h hl))) rfl ?_
  refine zH_np (P := 0 ≤ 0 ∧ 0 < ((3 : Nat) : Int)) (c' := (25, [some (.inr (.inr (some 21))), some (.inl 0), some (.inl 0)], [.inl (h 40 0), .inl 0, .inl 0], (zs h hl))) rfl ⟨by decide, by decide⟩ ?_
  rw [s0]
  refine zH_call (M' := 101) (as := [.inl 0, .inl 0, .inl ((sp 0 : Nat) : Int)]) (T := []) rfl (p_withDigit (n := 0) (i := 0) (v := sp 0) (by omega) (by decide) (by omega)) (fun r σ' p_1 => ?_)
  obtain ⟨rfl, rfl⟩ := p_1
  show zH _ _ (28, [some (.inr (.inr (some 21))), some (.inl 0), some (.inl 0)], [.inl ((zwd 0 0 (sp 0) : Nat) : Int)], (zs h hl)) _
  refine zH_go 6 (c' := (9, [some (.inr (.inr (some 21))), some (.inl ((zwd 0 0 (sp 0) : Nat) : Int)), some (.inl 1)], [.inl (h 21 3), .inl 1], (zs h hl))) rfl ?_
  rw [hL]
  refine zH_bf (x := 1) (y := 2) (k := .ge) (c1 := (35, [some (.inr (.inr (some 21))), some (.inl ((zwd 0 0 (sp 0) : Nat) : Int)), some (.inl 1)], [], (zs h hl))) (c2 := (12, [some (.inr (.inr (some 21))), some (.inl ((zwd 0 0 (sp 0) : Nat) : Int)), some (.inl 1)], [], (zs h hl))) rfl ⟨by decide, by decide⟩ ⟨by decide, by decide⟩ (by show ¬ (¬ 1 < 2); decide) ?_
  refine zH_go 2 (c' := (14, [some (.inr (.inr (some 21))), some (.inl ((zwd 0 0 (sp 0) : Nat) : Int)), some (.inl 1)], [.inl 3, .inl 1], (zs h hl))) rfl ?_
  refine zH_bf (x := 1) (y := 3) (k := .ge) (c1 := (35, [some (.inr (.inr (some 21))), some (.inl ((zwd 0 0 (sp 0) : Nat) : Int)), some (.inl 1)], [], (zs h hl))) (c2 := (17, [some (.inr (.inr (some 21))), some (.inl ((zwd 0 0 (sp 0) : Nat) : Int)), some (.inl 1)], [], (zs h hl))) rfl ⟨by decide, by decide⟩ ⟨by decide, by decide⟩ (by show ¬ (¬ 1 < 3); decide) ?_
  refine zH_go 5 (c' := (24, [some (.inr (.inr (some 21))), some (.inl ((zwd 0 0 (sp 0) : Nat) : Int)), some (.inl 1)], [.inl 1, .inr (.inr (some 40)), .inl 1, .inl ((zwd 0 0 (sp 0) : Nat) : Int)], (zs h hl))) rfl ?_
  refine zH_np (P := 0 ≤ 1 ∧ 1 < ((3 : Nat) : Int)) (c' := (25, [some (.inr (.inr (some 21))), some (.inl ((zwd 0 0 (sp 0) : Nat) : Int)), some (.inl 1)], [.inl (h 40 1), .inl 1, .inl ((zwd 0 0 (sp 0) : Nat) : Int)], (zs h hl))) rfl ⟨by decide, by decide⟩ ?_
  rw [s1]
  refine zH_call (M' := 101) (as := [.inl ((zwd 0 0 (sp 0) : Nat) : Int), .inl 1, .inl ((sp 1 : Nat) : Int)]) (T := []) rfl (p_withDigit (n := zwd 0 0 (sp 0)) (i := 1) (v := sp 1) (by omega) (by decide) (by omega)) (fun r σ' p_2 => ?_)
  obtain ⟨rfl, rfl⟩ := p_2
  show zH _ _ (28, [some (.inr (.inr (some 21))), some (.inl ((zwd 0 0 (sp 0) : Nat) : Int)), some (.inl 1)], [.inl ((zwd (zwd 0 0 (sp 0)) 1 (sp 1) : Nat) : Int)], (zs h hl)) _
  refine zH_go 6 (c' := (9, [some (.inr (.inr (some 21))), some (.inl ((zwd (zwd 0 0 (sp 0)) 1 (sp 1) : Nat) : Int)), some (.inl 2)], [.inl (h 21 3), .inl 2], (zs h hl))) rfl ?_
  rw [hL]
  refine zH_bt (x := 2) (y := 2) (k := .ge) (c1 := (35, [some (.inr (.inr (some 21))), some (.inl ((zwd (zwd 0 0 (sp 0)) 1 (sp 1) : Nat) : Int)), some (.inl 2)], [], (zs h hl))) (c2 := (12, [some (.inr (.inr (some 21))), some (.inl ((zwd (zwd 0 0 (sp 0)) 1 (sp 1) : Nat) : Int)), some (.inl 2)], [], (zs h hl))) rfl ⟨by decide, by decide⟩ ⟨by decide, by decide⟩ (by show ¬ 2 < 2; decide) ?_
  refine zH_go 1 (c' := (36, [some (.inr (.inr (some 21))), some (.inl ((zwd (zwd 0 0 (sp 0)) 1 (sp 1) : Nat) : Int)), some (.inl 2)], [.inl ((zwd (zwd 0 0 (sp 0)) 1 (sp 1) : Nat) : Int)], (zs h hl))) rfl ?_
  refine zH_ret (v := some (.inl ((zwd (zwd 0 0 (sp 0)) 1 (sp 1) : Nat) : Int))) rfl (fun q => absurd q (by decide)) ?_
  refine ⟨congrArg (fun z => some (Sum.inl z)) ?_, rfl⟩
  unfold zStn
  rw [if_neg (by decide), if_pos rfl]
set_option maxRecDepth 100000 in
set_option maxHeartbeats 4000000 in
theorem p_covD3 {d : Nat} {h hl : Nat → Nat → Int} {pp : Nat} (hpp : pp < 8) {sp : Nat → Nat} (hL : h 21 3 = 3) (hsp : ∀ i : Nat, i < 3 → h 40 i = ((sp i : Nat) : Int)) (hs6 : ∀ i : Nat, i < 3 → sp i < 6) : zQ (d + 1) 25 [.inr (.inr (some 21)), .inl (pp : Int)] (zs h hl) (zB (zCov 3 sp pp) (zs h hl)) := by
  have s0 := hsp 0 (by decide)
  have s1 := hsp 1 (by decide)
  have s2 := hsp 2 (by decide)
  have t0 := hs6 0 (by decide)
  have t1 := hs6 1 (by decide)
  have t2 := hs6 2 (by decide)
  refine zQ_of (Nat.le_of_ble_eq_true rfl) ?_
  show zH d 25 (0, [some (.inr (.inr (some 21))), some (.inl (pp : Int)), none], [], (zs h hl)) _
  refine zH_go 5 (c' := (7, [some (.inr (.inr (some 21))), some (.inl (pp : Int)), some (.inl 0)], [.inl (h 21 3), .inl 0], (zs h hl))) rfl ?_
  rw [hL]
  refine zH_bf (x := 0) (y := 3) (k := .ge) (c1 := (33, [some (.inr (.inr (some 21))), some (.inl (pp : Int)), some (.inl 0)], [], (zs h hl))) (c2 := (10, [some (.inr (.inr (some 21))), some (.inl (pp : Int)), some (.inl 0)], [], (zs h hl))) rfl ⟨by decide, by decide⟩ ⟨by decide, by decide⟩ (by show ¬ (¬ 0 < 3); decide) ?_
  refine zH_go 2 (c' := (12, [some (.inr (.inr (some 21))), some (.inl (pp : Int)), some (.inl 0)], [.inl 3, .inl 0], (zs h hl))) rfl ?_
  refine zH_bf (x := 0) (y := 3) (k := .ge) (c1 := (33, [some (.inr (.inr (some 21))), some (.inl (pp : Int)), some (.inl 0)], [], (zs h hl))) (c2 := (15, [some (.inr (.inr (some 21))), some (.inl (pp : Int)), some (.inl 0)], [], (zs h hl))) rfl ⟨by decide, by decide⟩ ⟨by decide, by decide⟩ (by show ¬ (¬ 0 < 3); decide) ?_
  refine zH_go 3 (c' := (20, [some (.inr (.inr (some 21))), some (.inl (pp : Int)), some (.inl 0)], [.inl 0, .inr (.inr (some 40))], (zs h hl))) rfl ?_
  refine zH_np (P := 0 ≤ 0 ∧ 0 < ((3 : Nat) : Int)) (c' := (21, [some (.inr (.inr (some 21))), some (.inl (pp : Int)), some (.inl 0)], [.inl (h 40 0)], (zs h hl))) rfl ⟨by decide, by decide⟩ ?_
  rw [s0]
  refine zH_go 1 (c' := (22, [some (.inr (.inr (some 21))), some (.inl (pp : Int)), some (.inl 0)], [.inl (pp : Int), .inl ((sp 0 : Nat) : Int)], (zs h hl))) rfl ?_
  refine zH_br (x := ((sp 0 : Nat) : Int)) (y := (pp : Int)) (k := .ne) (c1 := (27, [some (.inr (.inr (some 21))), some (.inl (pp : Int)), some (.inl 0)], [], (zs h hl))) (c2 := (25, [some (.inr (.inr (some 21))), some (.inl (pp : Int)), some (.inl 0)], [], (zs h hl))) rfl (by first | assumption | (unfold zr; omega)) (by first | assumption | (unfold zr; omega)) (fun (b_1 : ¬ ((sp 0 : Nat) : Int) = (pp : Int)) => ?_) (fun (b_1 : ¬ (¬ ((sp 0 : Nat) : Int) = (pp : Int))) => ?_)
  · refine zH_go 5 (c' := (7, [some (.inr (.inr (some 21))), some (.inl (pp : Int)), some (.inl 1)], [.inl (h 21 3), .inl 1], (zs h hl))) rfl ?_
    rw [hL]
    refine zH_bf (x := 1) (y := 3) (k := .ge) (c1 := (33, [some (.inr (.inr (some 21))), some (.inl (pp : Int)), some (.inl 1)], [], (zs h hl))) (c2 := (10, [some (.inr (.inr (some 21))), some (.inl (pp : Int)), some (.inl 1)], [], (zs h hl))) rfl ⟨by decide, by decide⟩ ⟨by decide, by decide⟩ (by show ¬ (¬ 1 < 3); decide) ?_
    refine zH_go 2 (c' := (12, [some (.inr (.inr (some 21))), some (.inl (pp : Int)), some (.inl 1)], [.inl 3, .inl 1], (zs h hl))) rfl ?_
    refine zH_bf (x := 1) (y := 3) (k := .ge) (c1 := (33, [some (.inr (.inr (some 21))), some (.inl (pp : Int)), some (.inl 1)], [], (zs h hl))) (c2 := (15, [some (.inr (.inr (some 21))), some (.inl (pp : Int)), some (.inl 1)], [], (zs h hl))) rfl ⟨by decide, by decide⟩ ⟨by decide, by decide⟩ (by show ¬ (¬ 1 < 3); decide) ?_
    refine zH_go 3 (c' := (20, [some (.inr (.inr (some 21))), some (.inl (pp : Int)), some (.inl 1)], [.inl 1, .inr (.inr (some 40))], (zs h hl))) rfl ?_
    refine zH_np (P := 0 ≤ 1 ∧ 1 < ((3 : Nat) : Int)) (c' := (21, [some (.inr (.inr (some 21))), some (.inl (pp : Int)), some (.inl 1)], [.inl (h 40 1)], (zs h hl))) rfl ⟨by decide, by decide⟩ ?_
    rw [s1]
    refine zH_go 1 (c' := (22, [some (.inr (.inr (some 21))), some (.inl (pp : Int)), some (.inl 1)], [.inl (pp : Int), .inl ((sp 1 : Nat) : Int)], (zs h hl))) rfl ?_
    refine zH_br (x := ((sp 1 : Nat) : Int)) (y := (pp : Int)) (k := .ne) (c1 := (27, [some (.inr (.inr (some 21))), some (.inl (pp : Int)), some (.inl 1)], [], (zs h hl))) (c2 := (25, [some (.inr (.inr (some 21))), some (.inl (pp : Int)), some (.inl 1)], [], (zs h hl))) rfl (by first | assumption | (unfold zr; omega)) (by first | assumption | (unfold zr; omega)) (fun (b_2 : ¬ ((sp 1 : Nat) : Int) = (pp : Int)) => ?_) (fun (b_2 : ¬ (¬ ((sp 1 : Nat) : Int) = (pp : Int))) => ?_)
    · refine zH_go 5 (c' := (7, [some (.inr (.inr (some 21))), some (.inl (pp : Int)), some (.inl 2)], [.inl (h 21 3), .inl 2], (zs h hl))) rfl ?_
      rw [hL]
      refine zH_bf (x := 2) (y := 3) (k := .ge) (c1 := (33, [some (.inr (.inr (some 21))), some (.inl (pp : Int)), some (.inl 2)], [], (zs h hl))) (c2 := (10, [some (.inr (.inr (some 21))), some (.inl (pp : Int)), some (.inl 2)], [], (zs h hl))) rfl ⟨by decide, by decide⟩ ⟨by decide, by decide⟩ (by show ¬ (¬ 2 < 3); decide) ?_
      refine zH_go 2 (c' := (12, [some (.inr (.inr (some 21))), some (.inl (pp : Int)), some (.inl 2)], [.inl 3, .inl 2], (zs h hl))) rfl ?_
      refine zH_bf (x := 2) (y := 3) (k := .ge) (c1 := (33, [some (.inr (.inr (some 21))), some (.inl (pp : Int)), some (.inl 2)], [], (zs h hl))) (c2 := (15, [some (.inr (.inr (some 21))), some (.inl (pp : Int)), some (.inl 2)], [], (zs h hl))) rfl ⟨by decide, by decide⟩ ⟨by decide, by decide⟩ (by show ¬ (¬ 2 < 3); decide) ?_
      refine zH_go 3 (c' := (20, [some (.inr (.inr (some 21))), some (.inl (pp : Int)), some (.inl 2)], [.inl 2, .inr (.inr (some 40))], (zs h hl))) rfl ?_
      refine zH_np (P := 0 ≤ 2 ∧ 2 < ((3 : Nat) : Int)) (c' := (21, [some (.inr (.inr (some 21))), some (.inl (pp : Int)), some (.inl 2)], [.inl (h 40 2)], (zs h hl))) rfl ⟨by decide, by decide⟩ ?_
      rw [s2]
      refine zH_go 1 (c' := (22, [some (.inr (.inr (some 21))), some (.inl (pp : Int)), some (.inl 2)], [.inl (pp : Int), .inl ((sp 2 : Nat) : Int)], (zs h hl))) rfl ?_
      refine zH_br (x := ((sp 2 : Nat) : Int)) (y := (pp : Int)) (k := .ne) (c1 := (27, [some (.inr (.inr (some 21))), some (.inl (pp : Int)), some (.inl 2)], [], (zs h hl))) (c2 := (25, [some (.inr (.inr (some 21))), some (.inl (pp : Int)), some (.inl 2)], [], (zs h hl))) rfl (by first | assumption | (unfold zr; omega)) (by first | assumption | (unfold zr; omega)) (fun (b_3 : ¬ ((sp 2 : Nat) : Int) = (pp : Int)) => ?_) (fun (b_3 : ¬ (¬ ((sp 2 : Nat) : Int) = (pp : Int))) => ?_)
      · refine zH_go 5 (c' := (7, [some (.inr (.inr (some 21))), some (.inl (pp : Int)), some (.inl 3)], [.inl (h 21 3), .inl 3], (zs h hl))) rfl ?_
        rw [hL]
        refine zH_bt (x := 3) (y := 3) (k := .ge) (c1 := (33, [some (.inr (.inr (some 21))), some (.inl (pp : Int)), some (.inl 3)], [], (zs h hl))) (c2 := (10, [some (.inr (.inr (some 21))), some (.inl (pp : Int)), some (.inl 3)], [], (zs h hl))) rfl ⟨by decide, by decide⟩ ⟨by decide, by decide⟩ (by show ¬ 3 < 3; decide) ?_
        refine zH_go 1 (c' := (34, [some (.inr (.inr (some 21))), some (.inl (pp : Int)), some (.inl 3)], [.inl 0], (zs h hl))) rfl ?_
        refine zH_ret (v := some (.inl 0)) rfl (fun _ => by first | exact Or.inl rfl | exact Or.inr rfl) ?_
        refine Or.inr ⟨rfl, fun ⟨i, q1, q2⟩ => ?_, rfl⟩
        rcases (show i = 0 ∨ i = 1 ∨ i = 2 by omega) with rfl | rfl | rfl <;> omega
      · refine zH_go 1 (c' := (26, [some (.inr (.inr (some 21))), some (.inl (pp : Int)), some (.inl 2)], [.inl 1], (zs h hl))) rfl ?_
        refine zH_ret (v := some (.inl 1)) rfl (fun _ => by first | exact Or.inl rfl | exact Or.inr rfl) ?_
        exact Or.inl ⟨rfl, ⟨2, by decide, by omega⟩, rfl⟩
    · refine zH_go 1 (c' := (26, [some (.inr (.inr (some 21))), some (.inl (pp : Int)), some (.inl 1)], [.inl 1], (zs h hl))) rfl ?_
      refine zH_ret (v := some (.inl 1)) rfl (fun _ => by first | exact Or.inl rfl | exact Or.inr rfl) ?_
      exact Or.inl ⟨rfl, ⟨1, by decide, by omega⟩, rfl⟩
  · refine zH_go 1 (c' := (26, [some (.inr (.inr (some 21))), some (.inl (pp : Int)), some (.inl 0)], [.inl 1], (zs h hl))) rfl ?_
    refine zH_ret (v := some (.inl 1)) rfl (fun _ => by first | exact Or.inl rfl | exact Or.inr rfl) ?_
    exact Or.inl ⟨rfl, ⟨0, by decide, by omega⟩, rfl⟩
set_option maxRecDepth 100000 in
set_option maxHeartbeats 4000000 in
theorem p_stnD3 {d : Nat} {h hl : Nat → Nat → Int} {sp : Nat → Nat} (hL : h 21 3 = 3) (hsp : ∀ i : Nat, i < 3 → h 40 i = ((sp i : Nat) : Int)) (hs6 : ∀ i : Nat, i < 3 → sp i < 6) : zQ (d + 2) 19 [.inr (.inr (some 21))] (zs h hl) (zI1 ((zStn 3 sp : Nat) : Int) (zs h hl)) := by
  have s0 := hsp 0 (by decide)
  have s1 := hsp 1 (by decide)
  have s2 := hsp 2 (by decide)
  have t0 := hs6 0 (by decide)
  have t1 := hs6 1 (by decide)
  have t2 := hs6 2 (by decide)
  have w0 := zwd_lt 0 (by decide) 0 (by decide) (sp 0) (by omega)
  have w1 := zwd_lt _ w0 1 (by decide) (sp 1) (by omega)
  refine zQ_of (Nat.le_of_ble_eq_true rfl) ?_
  show zH (d + 1) 19 (0, [some (.inr (.inr (some 21))), none, none], [], (zs h hl)) _
  refine zH_go 7 (c' := (9, [some (.inr (.inr (some 21))), some (.inl 0), some (.inl 0)], [.inl (h 21 3), .inl 0], (zs h hl))) rfl ?_
  rw [hL]
  refine zH_bf (x := 0) (y := 3) (k := .ge) (c1 := (35, [some (.inr (.inr (some 21))), some (.inl 0), some (.inl 0)], [], (zs h hl))) (c2 := (12, [some (.inr (.inr (some 21))), some (.inl 0), some (.inl 0)], [], (zs h hl))) rfl ⟨by decide, by decide⟩ ⟨by decide, by decide⟩ (by show ¬ (¬ 0 < 3); decide) ?_
  refine zH_go 2 (c' := (14, [some (.inr (.inr (some 21))), some (.inl 0), some (.inl 0)], [.inl 3, .inl 0], (zs h hl))) rfl ?_
  refine zH_bf (x := 0) (y := 3) (k := .ge) (c1 := (35, [some (.inr (.inr (some 21))), some (.inl 0), some (.inl 0)], [], (zs h hl))) (c2 := (17, [some (.inr (.inr (some 21))), some (.inl 0), some (.inl 0)], [], (zs h hl))) rfl ⟨by decide, by decide⟩ ⟨by decide, by decide⟩ (by show ¬ (¬ 0 < 3); decide) ?_
  refine zH_go 5 (c' := (24, [some (.inr (.inr (some 21))), some (.inl 0), some (.inl 0)], [.inl 0, .inr (.inr (some 40)), .inl 0, .inl 0], (zs h hl))) rfl ?_
  refine zH_np (P := 0 ≤ 0 ∧ 0 < ((3 : Nat) : Int)) (c' := (25, [some (.inr (.inr (some 21))), some (.inl 0), some (.inl 0)], [.inl (h 40 0), .inl 0, .inl 0], (zs h hl))) rfl ⟨by decide, by decide⟩ ?_
  rw [s0]
  refine zH_call (M' := 101) (as := [.inl 0, .inl 0, .inl ((sp 0 : Nat) : Int)]) (T := []) rfl (p_withDigit (n := 0) (i := 0) (v := sp 0) (by omega) (by decide) (by omega)) (fun r σ' p_1 => ?_)
  obtain ⟨rfl, rfl⟩ := p_1
  show zH _ _ (28, [some (.inr (.inr (some 21))), some (.inl 0), some (.inl 0)], [.inl ((zwd 0 0 (sp 0) : Nat) : Int)], (zs h hl)) _
  refine zH_go 6 (c' := (9, [some (.inr (.inr (some 21))), some (.inl ((zwd 0 0 (sp 0) : Nat) : Int)), some (.inl 1)], [.inl (h 21 3), .inl 1], (zs h hl))) rfl ?_
  rw [hL]
  refine zH_bf (x := 1) (y := 3) (k := .ge) (c1 := (35, [some (.inr (.inr (some 21))), some (.inl ((zwd 0 0 (sp 0) : Nat) : Int)), some (.inl 1)], [], (zs h hl))) (c2 := (12, [some (.inr (.inr (some 21))), some (.inl ((zwd 0 0 (sp 0) : Nat) : Int)), some (.inl 1)], [], (zs h hl))) rfl ⟨by decide, by decide⟩ ⟨by decide, by decide⟩ (by show ¬ (¬ 1 < 3); decide) ?_
  refine zH_go 2 (c' := (14, [some (.inr (.inr (some 21))), some (.inl ((zwd 0 0 (sp 0) : Nat) : Int)), some (.inl 1)], [.inl 3, .inl 1], (zs h hl))) rfl ?_
  refine zH_bf (x := 1) (y := 3) (k := .ge) (c1 := (35, [some (.inr (.inr (some 21))), some (.inl ((zwd 0 0 (sp 0) : Nat) : Int)), some (.inl 1)], [], (zs h hl))) (c2 := (17, [some (.inr (.inr (some 21))), some (.inl ((zwd 0 0 (sp 0) : Nat) : Int)), some (.inl 1)], [], (zs h hl))) rfl ⟨by decide, by decide⟩ ⟨by decide, by decide⟩ (by show ¬ (¬ 1 < 3); decide) ?_
  refine zH_go 5 (c' := (24, [some (.inr (.inr (some 21))), some (.inl ((zwd 0 0 (sp 0) : Nat) : Int)), some (.inl 1)], [.inl 1, .inr (.inr (some 40)), .inl 1, .inl ((zwd 0 0 (sp 0) : Nat) : Int)], (zs h hl))) rfl ?_
  refine zH_np (P := 0 ≤ 1 ∧ 1 < ((3 : Nat) : Int)) (c' := (25, [some (.inr (.inr (some 21))), some (.inl ((zwd 0 0 (sp 0) : Nat) : Int)), some (.inl 1)], [.inl (h 40 1), .inl 1, .inl ((zwd 0 0 (sp 0) : Nat) : Int)], (zs h hl))) rfl ⟨by decide, by decide⟩ ?_
  rw [s1]
  refine zH_call (M' := 101) (as := [.inl ((zwd 0 0 (sp 0) : Nat) : Int), .inl 1, .inl ((sp 1 : Nat) : Int)]) (T := []) rfl (p_withDigit (n := zwd 0 0 (sp 0)) (i := 1) (v := sp 1) (by omega) (by decide) (by omega)) (fun r σ' p_2 => ?_)
  obtain ⟨rfl, rfl⟩ := p_2
  show zH _ _ (28, [some (.inr (.inr (some 21))), some (.inl ((zwd 0 0 (sp 0) : Nat) : Int)), some (.inl 1)], [.inl ((zwd (zwd 0 0 (sp 0)) 1 (sp 1) : Nat) : Int)], (zs h hl)) _
  refine zH_go 6 (c' := (9, [some (.inr (.inr (some 21))), some (.inl ((zwd (zwd 0 0 (sp 0)) 1 (sp 1) : Nat) : Int)), some (.inl 2)], [.inl (h 21 3), .inl 2], (zs h hl))) rfl ?_
  rw [hL]
  refine zH_bf (x := 2) (y := 3) (k := .ge) (c1 := (35, [some (.inr (.inr (some 21))), some (.inl ((zwd (zwd 0 0 (sp 0)) 1 (sp 1) : Nat) : Int)), some (.inl 2)], [], (zs h hl))) (c2 := (12, [some (.inr (.inr (some 21))), some (.inl ((zwd (zwd 0 0 (sp 0)) 1 (sp 1) : Nat) : Int)), some (.inl 2)], [], (zs h hl))) rfl ⟨by decide, by decide⟩ ⟨by decide, by decide⟩ (by show ¬ (¬ 2 < 3); decide) ?_
  refine zH_go 2 (c' := (14, [some (.inr (.inr (some 21))), some (.inl ((zwd (zwd 0 0 (sp 0)) 1 (sp 1) : Nat) : Int)), some (.inl 2)], [.inl 3, .inl 2], (zs h hl))) rfl ?_
  refine zH_bf (x := 2) (y := 3) (k := .ge) (c1 := (35, [some (.inr (.inr (some 21))), some (.inl ((zwd (zwd 0 0 (sp 0)) 1 (sp 1) : Nat) : Int)), some (.inl 2)], [], (zs h hl))) (c2 := (17, [some (.inr (.inr (some 21))), some (.inl ((zwd (zwd 0 0 (sp 0)) 1 (sp 1) : Nat) : Int)), some (.inl 2)], [], (zs h hl))) rfl ⟨by decide, by decide⟩ ⟨by decide, by decide⟩ (by show ¬ (¬ 2 < 3); decide) ?_
  refine zH_go 5 (c' := (24, [some (.inr (.inr (some 21))), some (.inl ((zwd (zwd 0 0 (sp 0)) 1 (sp 1) : Nat) : Int)), some (.inl 2)], [.inl 2, .inr (.inr (some 40)), .inl 2, .inl ((zwd (zwd 0 0 (sp 0)) 1 (sp 1) : Nat) : Int)], (zs h hl))) rfl ?_
  refine zH_np (P := 0 ≤ 2 ∧ 2 < ((3 : Nat) : Int)) (c' := (25, [some (.inr (.inr (some 21))), some (.inl ((zwd (zwd 0 0 (sp 0)) 1 (sp 1) : Nat) : Int)), some (.inl 2)], [.inl (h 40 2), .inl 2, .inl ((zwd (zwd 0 0 (sp 0)) 1 (sp 1) : Nat) : Int)], (zs h hl))) rfl ⟨by decide, by decide⟩ ?_
  rw [s2]
  refine zH_call (M' := 101) (as := [.inl ((zwd (zwd 0 0 (sp 0)) 1 (sp 1) : Nat) : Int), .inl 2, .inl ((sp 2 : Nat) : Int)]) (T := []) rfl (p_withDigit (n := zwd (zwd 0 0 (sp 0)) 1 (sp 1)) (i := 2) (v := sp 2) (by omega) (by decide) (by omega)) (fun r σ' p_3 => ?_)
  obtain ⟨rfl, rfl⟩ := p_3
  show zH _ _ (28, [some (.inr (.inr (some 21))), some (.inl ((zwd (zwd 0 0 (sp 0)) 1 (sp 1) : Nat) : Int)), some (.inl 2)], [.inl ((zwd (zwd (zwd 0 0 (sp 0)) 1 (sp 1)) 2 (sp 2) : Nat) : Int)], (zs h hl)) _
  refine zH_go 6 (c' := (9, [some (.inr (.inr (some 21))), some (.inl ((zwd (zwd (zwd 0 0 (sp 0)) 1 (sp 1)) 2 (sp 2) : Nat) : Int)), some (.inl 3)], [.inl (h 21 3), .inl 3], (zs h hl))) rfl ?_
  rw [hL]
  refine zH_bt (x := 3) (y := 3) (k := .ge) (c1 := (35, [some (.inr (.inr (some 21))), some (.inl ((zwd (zwd (zwd 0 0 (sp 0)) 1 (sp 1)) 2 (sp 2) : Nat) : Int)), some (.inl 3)], [], (zs h hl))) (c2 := (12, [some (.inr (.inr (some 21))), some (.inl ((zwd (zwd (zwd 0 0 (sp 0)) 1 (sp 1)) 2 (sp 2) : Nat) : Int)), some (.inl 3)], [], (zs h hl))) rfl ⟨by decide, by decide⟩ ⟨by decide, by decide⟩ (by show ¬ 3 < 3; decide) ?_
  refine zH_go 1 (c' := (36, [some (.inr (.inr (some 21))), some (.inl ((zwd (zwd (zwd 0 0 (sp 0)) 1 (sp 1)) 2 (sp 2) : Nat) : Int)), some (.inl 3)], [.inl ((zwd (zwd (zwd 0 0 (sp 0)) 1 (sp 1)) 2 (sp 2) : Nat) : Int)], (zs h hl))) rfl ?_
  refine zH_ret (v := some (.inl ((zwd (zwd (zwd 0 0 (sp 0)) 1 (sp 1)) 2 (sp 2) : Nat) : Int))) rfl (fun q => absurd q (by decide)) ?_
  refine ⟨congrArg (fun z => some (Sum.inl z)) ?_, rfl⟩
  unfold zStn
  rw [if_neg (by decide), if_neg (by decide)]
theorem p_covD {d : Nat} {h hl : Nat → Nat → Int} {pp : Nat} (hpp : pp < 8) {L : Nat} {sp : Nat → Nat} (hL3 : 1 ≤ L ∧ L ≤ 3) (hL : h 21 3 = (L : Int)) (hsp : ∀ i : Nat, i < L → h 40 i = ((sp i : Nat) : Int)) (hs6 : ∀ i : Nat, i < L → sp i < 6) : zQ (d + 1) 25 [.inr (.inr (some 21)), .inl (pp : Int)] (zs h hl) (zB (zCov L sp pp) (zs h hl)) := by
  rcases (show L = 1 ∨ L = 2 ∨ L = 3 by omega) with rfl | rfl | rfl
  · exact p_covD1 hpp hL hsp hs6
  · exact p_covD2 hpp hL hsp hs6
  · exact p_covD3 hpp hL hsp hs6
theorem p_stnD {d : Nat} {h hl : Nat → Nat → Int} {L : Nat} {sp : Nat → Nat} (hL3 : 1 ≤ L ∧ L ≤ 3) (hL : h 21 3 = (L : Int)) (hsp : ∀ i : Nat, i < L → h 40 i = ((sp i : Nat) : Int)) (hs6 : ∀ i : Nat, i < L → sp i < 6) : zQ (d + 2) 19 [.inr (.inr (some 21))] (zs h hl) (zI1 ((zStn L sp : Nat) : Int) (zs h hl)) := by
  rcases (show L = 1 ∨ L = 2 ∨ L = 3 by omega) with rfl | rfl | rfl
  · exact p_stnD1 hL hsp hs6
  · exact p_stnD2 hL hsp hs6
  · exact p_stnD3 hL hsp hs6
set_option maxRecDepth 100000 in
set_option maxHeartbeats 4000000 in
theorem p_isOnT {d : Nat} {h hl : Nat → Nat → Int} (hr : zr (h 48 3)) : zQ (d + 1) 12 [.inr (.inr (some 48))] (zs h hl) (zB (0 < h 48 3) (zs h hl)) := by
  refine zQ_of (Nat.le_of_ble_eq_true rfl) ?_
  show zH d 12 (0, [some (.inr (.inr (some 48)))], [], (zs h hl)) _
  refine zH_go 2 (c' := (4, [some (.inr (.inr (some 48)))], [.inl (h 48 3)], (zs h hl))) rfl ?_
  refine zH_br (x := (h 48 3)) (y := 0) (k := .le) (c1 := (11, [some (.inr (.inr (some 48)))], [], (zs h hl))) (c2 := (7, [some (.inr (.inr (some 48)))], [], (zs h hl))) rfl (by first | assumption | (unfold zr; omega)) ⟨by decide, by decide⟩ (fun (b_1 : ¬ 0 < (h 48 3)) => ?_) (fun (b_1 : ¬ (¬ 0 < (h 48 3))) => ?_)
  · refine zH_go 1 (c' := (12, [some (.inr (.inr (some 48)))], [.inl 0], (zs h hl))) rfl ?_
    refine zH_ret (v := some (.inl 0)) rfl (fun _ => by first | exact Or.inl rfl | exact Or.inr rfl) ?_
    exact Or.inr ⟨rfl, by omega, rfl⟩
  · refine zH_go 2 (c' := (12, [some (.inr (.inr (some 48)))], [.inl 1], (zs h hl))) rfl ?_
    refine zH_ret (v := some (.inl 1)) rfl (fun _ => by first | exact Or.inl rfl | exact Or.inr rfl) ?_
    exact Or.inl ⟨rfl, by omega, rfl⟩
set_option maxRecDepth 100000 in
set_option maxHeartbeats 4000000 in
theorem p_farT {d : Nat} {h hl : Nat → Nat → Int} {l : Nat} (hl3 : l < 3) : zQ (d + 1) 20 [.inr (.inr (some 48)), .inl (l : Int)] (zs h hl) (zI1 (h 57 l) (zs h hl)) := by
  refine zQ_of (Nat.le_of_ble_eq_true rfl) ?_
  show zH d 20 (0, [some (.inr (.inr (some 48))), some (.inl (l : Int))], [], (zs h hl)) _
  refine zH_go 1 (c' := (1, [some (.inr (.inr (some 48))), some (.inl (l : Int))], [.inl (l : Int)], (zs h hl))) rfl ?_
  refine zH_br (x := (l : Int)) (y := 0) (k := .lt) (c1 := (18, [some (.inr (.inr (some 48))), some (.inl (l : Int))], [], (zs h hl))) (c2 := (4, [some (.inr (.inr (some 48))), some (.inl (l : Int))], [], (zs h hl))) rfl (by first | assumption | (unfold zr; omega)) ⟨by decide, by decide⟩ (fun (b_1 : (l : Int) < 0) => ?_) (fun (b_1 : ¬ ((l : Int) < 0)) => ?_)
  · refine zH_go 1 (c' := (20, [some (.inr (.inr (some 48))), some (.inl (l : Int))], [.inl 1000000], (zs h hl))) rfl ?_
    exfalso
    omega
  · refine zH_go 2 (c' := (6, [some (.inr (.inr (some 48))), some (.inl (l : Int))], [.inl 3, .inl (l : Int)], (zs h hl))) rfl ?_
    refine zH_br (x := (l : Int)) (y := 3) (k := .ge) (c1 := (18, [some (.inr (.inr (some 48))), some (.inl (l : Int))], [], (zs h hl))) (c2 := (9, [some (.inr (.inr (some 48))), some (.inl (l : Int))], [], (zs h hl))) rfl (by first | assumption | (unfold zr; omega)) ⟨by decide, by decide⟩ (fun (b_2 : ¬ (l : Int) < 3) => ?_) (fun (b_2 : ¬ (¬ (l : Int) < 3)) => ?_)
    · refine zH_go 1 (c' := (20, [some (.inr (.inr (some 48))), some (.inl (l : Int))], [.inl 1000000], (zs h hl))) rfl ?_
      exfalso
      omega
    · refine zH_go 3 (c' := (14, [some (.inr (.inr (some 48))), some (.inl (l : Int))], [.inl (l : Int), .inr (.inr (some 57))], (zs h hl))) rfl ?_
      refine zH_np (P := 0 ≤ (l : Int) ∧ (l : Int) < ((3 : Nat) : Int)) (c' := (15, [some (.inr (.inr (some 48))), some (.inl (l : Int))], [.inl (h 57 l)], (zs h hl))) rfl ⟨by omega, by omega⟩ ?_
      refine zH_go 1 (c' := (20, [some (.inr (.inr (some 48))), some (.inl (l : Int))], [.inl (h 57 l)], (zs h hl))) rfl ?_
      refine zH_ret (v := some (.inl (h 57 l))) rfl (fun q => absurd q (by decide)) ?_
      exact ⟨rfl, rfl⟩
set_option maxRecDepth 100000 in
set_option maxHeartbeats 4000000 in
theorem p_walkedT {d : Nat} {h hl : Nat → Nat → Int} {l : Nat} (hl3 : l < 3) : zQ (d + 1) 21 [.inr (.inr (some 48)), .inl (l : Int)] (zs h hl) (zI1 (h 59 l) (zs h hl)) := by
  refine zQ_of (Nat.le_of_ble_eq_true rfl) ?_
  show zH d 21 (0, [some (.inr (.inr (some 48))), some (.inl (l : Int))], [], (zs h hl)) _
  refine zH_go 1 (c' := (1, [some (.inr (.inr (some 48))), some (.inl (l : Int))], [.inl (l : Int)], (zs h hl))) rfl ?_
  refine zH_br (x := (l : Int)) (y := 0) (k := .lt) (c1 := (18, [some (.inr (.inr (some 48))), some (.inl (l : Int))], [], (zs h hl))) (c2 := (4, [some (.inr (.inr (some 48))), some (.inl (l : Int))], [], (zs h hl))) rfl (by first | assumption | (unfold zr; omega)) ⟨by decide, by decide⟩ (fun (b_1 : (l : Int) < 0) => ?_) (fun (b_1 : ¬ ((l : Int) < 0)) => ?_)
  · refine zH_go 1 (c' := (19, [some (.inr (.inr (some 48))), some (.inl (l : Int))], [.inl 0], (zs h hl))) rfl ?_
    exfalso
    omega
  · refine zH_go 2 (c' := (6, [some (.inr (.inr (some 48))), some (.inl (l : Int))], [.inl 3, .inl (l : Int)], (zs h hl))) rfl ?_
    refine zH_br (x := (l : Int)) (y := 3) (k := .ge) (c1 := (18, [some (.inr (.inr (some 48))), some (.inl (l : Int))], [], (zs h hl))) (c2 := (9, [some (.inr (.inr (some 48))), some (.inl (l : Int))], [], (zs h hl))) rfl (by first | assumption | (unfold zr; omega)) ⟨by decide, by decide⟩ (fun (b_2 : ¬ (l : Int) < 3) => ?_) (fun (b_2 : ¬ (¬ (l : Int) < 3)) => ?_)
    · refine zH_go 1 (c' := (19, [some (.inr (.inr (some 48))), some (.inl (l : Int))], [.inl 0], (zs h hl))) rfl ?_
      exfalso
      omega
    · refine zH_go 3 (c' := (14, [some (.inr (.inr (some 48))), some (.inl (l : Int))], [.inl (l : Int), .inr (.inr (some 59))], (zs h hl))) rfl ?_
      refine zH_np (P := 0 ≤ (l : Int) ∧ (l : Int) < ((3 : Nat) : Int)) (c' := (15, [some (.inr (.inr (some 48))), some (.inl (l : Int))], [.inl (h 59 l)], (zs h hl))) rfl ⟨by omega, by omega⟩ ?_
      refine zH_go 1 (c' := (19, [some (.inr (.inr (some 48))), some (.inl (l : Int))], [.inl (h 59 l)], (zs h hl))) rfl ?_
      refine zH_ret (v := some (.inl (h 59 l))) rfl (fun q => absurd q (by decide)) ?_
      exact ⟨rfl, rfl⟩
set_option maxRecDepth 100000 in
set_option maxHeartbeats 4000000 in
theorem p_paidT {d : Nat} {h hl : Nat → Nat → Int}  : zQ (d + 1) 22 [.inr (.inr (some 48))] (zs h hl) (zI1 (h 59 0 + h 59 1 + h 59 2) (zs h hl)) := by
  refine zQ_of (Nat.le_of_ble_eq_true rfl) ?_
  show zH d 22 (0, [some (.inr (.inr (some 48))), none, none], [], (zs h hl)) _
  refine zH_go 6 (c' := (6, [some (.inr (.inr (some 48))), some (.inl 0), some (.inl 0)], [.inl 3, .inl 0], (zs h hl))) rfl ?_
  refine zH_bf (x := 0) (y := 3) (k := .ge) (c1 := (24, [some (.inr (.inr (some 48))), some (.inl 0), some (.inl 0)], [], (zs h hl))) (c2 := (9, [some (.inr (.inr (some 48))), some (.inl 0), some (.inl 0)], [], (zs h hl))) rfl ⟨by decide, by decide⟩ ⟨by decide, by decide⟩ (by show ¬ (¬ 0 < 3); decide) ?_
  refine zH_go 4 (c' := (15, [some (.inr (.inr (some 48))), some (.inl 0), some (.inl 0)], [.inl 0, .inr (.inr (some 59)), .inl 0], (zs h hl))) rfl ?_
  refine zH_np (P := 0 ≤ 0 ∧ 0 < ((3 : Nat) : Int)) (c' := (16, [some (.inr (.inr (some 48))), some (.inl 0), some (.inl 0)], [.inl (h 59 0), .inl 0], (zs h hl))) rfl ⟨by decide, by decide⟩ ?_
  refine zH_go 6 (c' := (6, [some (.inr (.inr (some 48))), some (.inl (0 + (h 59 0))), some (.inl 1)], [.inl 3, .inl 1], (zs h hl))) rfl ?_
  refine zH_bf (x := 1) (y := 3) (k := .ge) (c1 := (24, [some (.inr (.inr (some 48))), some (.inl (0 + (h 59 0))), some (.inl 1)], [], (zs h hl))) (c2 := (9, [some (.inr (.inr (some 48))), some (.inl (0 + (h 59 0))), some (.inl 1)], [], (zs h hl))) rfl ⟨by decide, by decide⟩ ⟨by decide, by decide⟩ (by show ¬ (¬ 1 < 3); decide) ?_
  refine zH_go 4 (c' := (15, [some (.inr (.inr (some 48))), some (.inl (0 + (h 59 0))), some (.inl 1)], [.inl 1, .inr (.inr (some 59)), .inl (0 + (h 59 0))], (zs h hl))) rfl ?_
  refine zH_np (P := 0 ≤ 1 ∧ 1 < ((3 : Nat) : Int)) (c' := (16, [some (.inr (.inr (some 48))), some (.inl (0 + (h 59 0))), some (.inl 1)], [.inl (h 59 1), .inl (0 + (h 59 0))], (zs h hl))) rfl ⟨by decide, by decide⟩ ?_
  refine zH_go 6 (c' := (6, [some (.inr (.inr (some 48))), some (.inl ((0 + (h 59 0)) + (h 59 1))), some (.inl 2)], [.inl 3, .inl 2], (zs h hl))) rfl ?_
  refine zH_bf (x := 2) (y := 3) (k := .ge) (c1 := (24, [some (.inr (.inr (some 48))), some (.inl ((0 + (h 59 0)) + (h 59 1))), some (.inl 2)], [], (zs h hl))) (c2 := (9, [some (.inr (.inr (some 48))), some (.inl ((0 + (h 59 0)) + (h 59 1))), some (.inl 2)], [], (zs h hl))) rfl ⟨by decide, by decide⟩ ⟨by decide, by decide⟩ (by show ¬ (¬ 2 < 3); decide) ?_
  refine zH_go 4 (c' := (15, [some (.inr (.inr (some 48))), some (.inl ((0 + (h 59 0)) + (h 59 1))), some (.inl 2)], [.inl 2, .inr (.inr (some 59)), .inl ((0 + (h 59 0)) + (h 59 1))], (zs h hl))) rfl ?_
  refine zH_np (P := 0 ≤ 2 ∧ 2 < ((3 : Nat) : Int)) (c' := (16, [some (.inr (.inr (some 48))), some (.inl ((0 + (h 59 0)) + (h 59 1))), some (.inl 2)], [.inl (h 59 2), .inl ((0 + (h 59 0)) + (h 59 1))], (zs h hl))) rfl ⟨by decide, by decide⟩ ?_
  refine zH_go 6 (c' := (6, [some (.inr (.inr (some 48))), some (.inl (((0 + (h 59 0)) + (h 59 1)) + (h 59 2))), some (.inl 3)], [.inl 3, .inl 3], (zs h hl))) rfl ?_
  refine zH_bt (x := 3) (y := 3) (k := .ge) (c1 := (24, [some (.inr (.inr (some 48))), some (.inl (((0 + (h 59 0)) + (h 59 1)) + (h 59 2))), some (.inl 3)], [], (zs h hl))) (c2 := (9, [some (.inr (.inr (some 48))), some (.inl (((0 + (h 59 0)) + (h 59 1)) + (h 59 2))), some (.inl 3)], [], (zs h hl))) rfl ⟨by decide, by decide⟩ ⟨by decide, by decide⟩ (by show ¬ 3 < 3; decide) ?_
  refine zH_go 1 (c' := (25, [some (.inr (.inr (some 48))), some (.inl (((0 + (h 59 0)) + (h 59 1)) + (h 59 2))), some (.inl 3)], [.inl (((0 + (h 59 0)) + (h 59 1)) + (h 59 2))], (zs h hl))) rfl ?_
  refine zH_ret (v := some (.inl (((0 + (h 59 0)) + (h 59 1)) + (h 59 2)))) rfl (fun q => absurd q (by decide)) ?_
  exact ⟨congrArg (fun z => some (Sum.inl z)) (by omega), rfl⟩
set_option maxRecDepth 100000 in
set_option maxHeartbeats 4000000 in
theorem p_placeOfT {d : Nat} {h hl : Nat → Nat → Int} {i : Nat} (hi : i < 3) (hn : (i : Int) < h 48 4) (hc : h 48 4 ≤ 1000) : zQ (d + 1) 23 [.inr (.inr (some 48)), .inl (i : Int)] (zs h hl) (zI1 (h 60 i) (zs h hl)) := by
  refine zQ_of (Nat.le_of_ble_eq_true rfl) ?_
  show zH d 23 (0, [some (.inr (.inr (some 48))), some (.inl (i : Int))], [], (zs h hl)) _
  refine zH_go 1 (c' := (1, [some (.inr (.inr (some 48))), some (.inl (i : Int))], [.inl (i : Int)], (zs h hl))) rfl ?_
  refine zH_br (x := (i : Int)) (y := 0) (k := .lt) (c1 := (30, [some (.inr (.inr (some 48))), some (.inl (i : Int))], [], (zs h hl))) (c2 := (4, [some (.inr (.inr (some 48))), some (.inl (i : Int))], [], (zs h hl))) rfl (by first | assumption | (unfold zr; omega)) ⟨by decide, by decide⟩ (fun (b_1 : (i : Int) < 0) => ?_) (fun (b_1 : ¬ ((i : Int) < 0)) => ?_)
  · refine zH_go 1 (c' := (31, [some (.inr (.inr (some 48))), some (.inl (i : Int))], [.inl 0], (zs h hl))) rfl ?_
    exfalso
    omega
  · refine zH_go 3 (c' := (9, [some (.inr (.inr (some 48))), some (.inl (i : Int))], [.inl (h 48 4), .inl (i : Int)], (zs h hl))) rfl ?_
    refine zH_br (x := (i : Int)) (y := (h 48 4)) (k := .ge) (c1 := (30, [some (.inr (.inr (some 48))), some (.inl (i : Int))], [], (zs h hl))) (c2 := (12, [some (.inr (.inr (some 48))), some (.inl (i : Int))], [], (zs h hl))) rfl (by first | assumption | (unfold zr; omega)) (by first | assumption | (unfold zr; omega)) (fun (b_2 : ¬ (i : Int) < (h 48 4)) => ?_) (fun (b_2 : ¬ (¬ (i : Int) < (h 48 4))) => ?_)
    · refine zH_go 1 (c' := (31, [some (.inr (.inr (some 48))), some (.inl (i : Int))], [.inl 0], (zs h hl))) rfl ?_
      exfalso
      omega
    · refine zH_go 4 (c' := (18, [some (.inr (.inr (some 48))), some (.inl (i : Int))], [.inl 3, .inl (i : Int)], (zs h hl))) rfl ?_
      refine zH_br (x := (i : Int)) (y := 3) (k := .ge) (c1 := (30, [some (.inr (.inr (some 48))), some (.inl (i : Int))], [], (zs h hl))) (c2 := (21, [some (.inr (.inr (some 48))), some (.inl (i : Int))], [], (zs h hl))) rfl (by first | assumption | (unfold zr; omega)) ⟨by decide, by decide⟩ (fun (b_3 : ¬ (i : Int) < 3) => ?_) (fun (b_3 : ¬ (¬ (i : Int) < 3)) => ?_)
      · refine zH_go 1 (c' := (31, [some (.inr (.inr (some 48))), some (.inl (i : Int))], [.inl 0], (zs h hl))) rfl ?_
        exfalso
        omega
      · refine zH_go 3 (c' := (26, [some (.inr (.inr (some 48))), some (.inl (i : Int))], [.inl (i : Int), .inr (.inr (some 60))], (zs h hl))) rfl ?_
        refine zH_np (P := 0 ≤ (i : Int) ∧ (i : Int) < ((3 : Nat) : Int)) (c' := (27, [some (.inr (.inr (some 48))), some (.inl (i : Int))], [.inl (h 60 i)], (zs h hl))) rfl ⟨by omega, by omega⟩ ?_
        refine zH_go 1 (c' := (31, [some (.inr (.inr (some 48))), some (.inl (i : Int))], [.inl (h 60 i)], (zs h hl))) rfl ?_
        refine zH_ret (v := some (.inl (h 60 i))) rfl (fun q => absurd q (by decide)) ?_
        exact ⟨rfl, rfl⟩
set_option maxRecDepth 100000 in
set_option maxHeartbeats 4000000 in
theorem p_covT1 {d : Nat} {h hl : Nat → Nat → Int} {pp : Nat} (hpp : pp < 8) {sp : Nat → Nat} (hL : h 48 3 = 1) (hsp : ∀ i : Nat, i < 1 → h 58 i = ((sp i : Nat) : Int)) (hs6 : ∀ i : Nat, i < 1 → sp i < 6) : zQ (d + 1) 25 [.inr (.inr (some 48)), .inl (pp : Int)] (zs h hl) (zB (zCov 1 sp pp) (zs h hl)) := by
  have s0 := hsp 0 (by decide)
  have t0 := hs6 0 (by decide)
  refine zQ_of (Nat.le_of_ble_eq_true rfl) ?_
  show zH d 25 (0, [some (.inr (.inr (some 48))), some (.inl (pp : Int)), none], [], (zs h hl)) _
  refine zH_go 5 (c' := (7, [some (.inr (.inr (some 48))), some (.inl (pp : Int)), some (.inl 0)], [.inl (h 48 3), .inl 0], (zs h hl))) rfl ?_
  rw [hL]
  refine zH_bf (x := 0) (y := 1) (k := .ge) (c1 := (33, [some (.inr (.inr (some 48))), some (.inl (pp : Int)), some (.inl 0)], [], (zs h hl))) (c2 := (10, [some (.inr (.inr (some 48))), some (.inl (pp : Int)), some (.inl 0)], [], (zs h hl))) rfl ⟨by decide, by decide⟩ ⟨by decide, by decide⟩ (by show ¬ (¬ 0 < 1); decide) ?_
  refine zH_go 2 (c' := (12, [some (.inr (.inr (some 48))), some (.inl (pp : Int)), some (.inl 0)], [.inl 3, .inl 0], (zs h hl))) rfl ?_
  refine zH_bf (x := 0) (y := 3) (k := .ge) (c1 := (33, [some (.inr (.inr (some 48))), some (.inl (pp : Int)), some (.inl 0)], [], (zs h hl))) (c2 := (15, [some (.inr (.inr (some 48))), some (.inl (pp : Int)), some (.inl 0)], [], (zs h hl))) rfl ⟨by decide, by decide⟩ ⟨by decide, by decide⟩ (by show ¬ (¬ 0 < 3); decide) ?_
  refine zH_go 3 (c' := (20, [some (.inr (.inr (some 48))), some (.inl (pp : Int)), some (.inl 0)], [.inl 0, .inr (.inr (some 58))], (zs h hl))) rfl ?_
  refine zH_np (P := 0 ≤ 0 ∧ 0 < ((3 : Nat) : Int)) (c' := (21, [some (.inr (.inr (some 48))), some (.inl (pp : Int)), some (.inl 0)], [.inl (h 58 0)], (zs h hl))) rfl ⟨by decide, by decide⟩ ?_
  rw [s0]
  refine zH_go 1 (c' := (22, [some (.inr (.inr (some 48))), some (.inl (pp : Int)), some (.inl 0)], [.inl (pp : Int), .inl ((sp 0 : Nat) : Int)], (zs h hl))) rfl ?_
  refine zH_br (x := ((sp 0 : Nat) : Int)) (y := (pp : Int)) (k := .ne) (c1 := (27, [some (.inr (.inr (some 48))), some (.inl (pp : Int)), some (.inl 0)], [], (zs h hl))) (c2 := (25, [some (.inr (.inr (some 48))), some (.inl (pp : Int)), some (.inl 0)], [], (zs h hl))) rfl (by first | assumption | (unfold zr; omega)) (by first | assumption | (unfold zr; omega)) (fun (b_1 : ¬ ((sp 0 : Nat) : Int) = (pp : Int)) => ?_) (fun (b_1 : ¬ (¬ ((sp 0 : Nat) : Int) = (pp : Int))) => ?_)
  · refine zH_go 5 (c' := (7, [some (.inr (.inr (some 48))), some (.inl (pp : Int)), some (.inl 1)], [.inl (h 48 3), .inl 1], (zs h hl))) rfl ?_
    rw [hL]
    refine zH_bt (x := 1) (y := 1) (k := .ge) (c1 := (33, [some (.inr (.inr (some 48))), some (.inl (pp : Int)), some (.inl 1)], [], (zs h hl))) (c2 := (10, [some (.inr (.inr (some 48))), some (.inl (pp : Int)), some (.inl 1)], [], (zs h hl))) rfl ⟨by decide, by decide⟩ ⟨by decide, by decide⟩ (by show ¬ 1 < 1; decide) ?_
    refine zH_go 1 (c' := (34, [some (.inr (.inr (some 48))), some (.inl (pp : Int)), some (.inl 1)], [.inl 0], (zs h hl))) rfl ?_
    refine zH_ret (v := some (.inl 0)) rfl (fun _ => by first | exact Or.inl rfl | exact Or.inr rfl) ?_
    refine Or.inr ⟨rfl, fun ⟨i, q1, q2⟩ => ?_, rfl⟩
    rcases (show i = 0 by omega) with rfl <;> omega
  · refine zH_go 1 (c' := (26, [some (.inr (.inr (some 48))), some (.inl (pp : Int)), some (.inl 0)], [.inl 1], (zs h hl))) rfl ?_
    refine zH_ret (v := some (.inl 1)) rfl (fun _ => by first | exact Or.inl rfl | exact Or.inr rfl) ?_
    exact Or.inl ⟨rfl, ⟨0, by decide, by omega⟩, rfl⟩
set_option maxRecDepth 100000 in
set_option maxHeartbeats 4000000 in
theorem p_stnT1 {d : Nat} {h hl : Nat → Nat → Int} {sp : Nat → Nat} (hL : h 48 3 = 1) (hsp : ∀ i : Nat, i < 1 → h 58 i = ((sp i : Nat) : Int)) (hs6 : ∀ i : Nat, i < 1 → sp i < 6) : zQ (d + 2) 19 [.inr (.inr (some 48))] (zs h hl) (zI1 ((zStn 1 sp : Nat) : Int) (zs h hl)) := by
  have s0 := hsp 0 (by decide)
  have t0 := hs6 0 (by decide)
  have w0 := zwd_lt 0 (by decide) 0 (by decide) (sp 0) (by omega)
  refine zQ_of (Nat.le_of_ble_eq_true rfl) ?_
  show zH (d + 1) 19 (0, [some (.inr (.inr (some 48))), none, none], [], (zs h hl)) _
  refine zH_go 7 (c' := (9, [some (.inr (.inr (some 48))), some (.inl 0), some (.inl 0)], [.inl (h 48 3), .inl 0], (zs h hl))) rfl ?_
  rw [hL]
  refine zH_bf (x := 0) (y := 1) (k := .ge) (c1 := (35, [some (.inr (.inr (some 48))), some (.inl 0), some (.inl 0)], [], (zs h hl))) (c2 := (12, [some (.inr (.inr (some 48))), some (.inl 0), some (.inl 0)], [], (zs h hl))) rfl ⟨by decide, by decide⟩ ⟨by decide, by decide⟩ (by show ¬ (¬ 0 < 1); decide) ?_
  refine zH_go 2 (c' := (14, [some (.inr (.inr (some 48))), some (.inl 0), some (.inl 0)], [.inl 3, .inl 0], (zs h hl))) rfl ?_
  refine zH_bf (x := 0) (y := 3) (k := .ge) (c1 := (35, [some (.inr (.inr (some 48))), some (.inl 0), some (.inl 0)], [], (zs h hl))) (c2 := (17, [some (.inr (.inr (some 48))), some (.inl 0), some (.inl 0)], [], (zs h hl))) rfl ⟨by decide, by decide⟩ ⟨by decide, by decide⟩ (by show ¬ (¬ 0 < 3); decide) ?_
  refine zH_go 5 (c' := (24, [some (.inr (.inr (some 48))), some (.inl 0), some (.inl 0)], [.inl 0, .inr (.inr (some 58)), .inl 0, .inl 0], (zs h hl))) rfl ?_
  refine zH_np (P := 0 ≤ 0 ∧ 0 < ((3 : Nat) : Int)) (c' := (25, [some (.inr (.inr (some 48))), some (.inl 0), some (.inl 0)], [.inl (h 58 0), .inl 0, .inl 0], (zs h hl))) rfl ⟨by decide, by decide⟩ ?_
  rw [s0]
  refine zH_call (M' := 101) (as := [.inl 0, .inl 0, .inl ((sp 0 : Nat) : Int)]) (T := []) rfl (p_withDigit (n := 0) (i := 0) (v := sp 0) (by omega) (by decide) (by omega)) (fun r σ' p_1 => ?_)
  obtain ⟨rfl, rfl⟩ := p_1
  show zH _ _ (28, [some (.inr (.inr (some 48))), some (.inl 0), some (.inl 0)], [.inl ((zwd 0 0 (sp 0) : Nat) : Int)], (zs h hl)) _
  refine zH_go 6 (c' := (9, [some (.inr (.inr (some 48))), some (.inl ((zwd 0 0 (sp 0) : Nat) : Int)), some (.inl 1)], [.inl (h 48 3), .inl 1], (zs h hl))) rfl ?_
  rw [hL]
  refine zH_bt (x := 1) (y := 1) (k := .ge) (c1 := (35, [some (.inr (.inr (some 48))), some (.inl ((zwd 0 0 (sp 0) : Nat) : Int)), some (.inl 1)], [], (zs h hl))) (c2 := (12, [some (.inr (.inr (some 48))), some (.inl ((zwd 0 0 (sp 0) : Nat) : Int)), some (.inl 1)], [], (zs h hl))) rfl ⟨by decide, by decide⟩ ⟨by decide, by decide⟩ (by show ¬ 1 < 1; decide) ?_
  refine zH_go 1 (c' := (36, [some (.inr (.inr (some 48))), some (.inl ((zwd 0 0 (sp 0) : Nat) : Int)), some (.inl 1)], [.inl ((zwd 0 0 (sp 0) : Nat) : Int)], (zs h hl))) rfl ?_
  refine zH_ret (v := some (.inl ((zwd 0 0 (sp 0) : Nat) : Int))) rfl (fun q => absurd q (by decide)) ?_
  refine ⟨congrArg (fun z => some (Sum.inl z)) ?_, rfl⟩
  unfold zStn
  rw [if_pos rfl]
set_option maxRecDepth 100000 in
set_option maxHeartbeats 4000000 in
theorem p_covT2 {d : Nat} {h hl : Nat → Nat → Int} {pp : Nat} (hpp : pp < 8) {sp : Nat → Nat} (hL : h 48 3 = 2) (hsp : ∀ i : Nat, i < 2 → h 58 i = ((sp i : Nat) : Int)) (hs6 : ∀ i : Nat, i < 2 → sp i < 6) : zQ (d + 1) 25 [.inr (.inr (some 48)), .inl (pp : Int)] (zs h hl) (zB (zCov 2 sp pp) (zs h hl)) := by
  have s0 := hsp 0 (by decide)
  have s1 := hsp 1 (by decide)
  have t0 := hs6 0 (by decide)
  have t1 := hs6 1 (by decide)
  refine zQ_of (Nat.le_of_ble_eq_true rfl) ?_
  show zH d 25 (0, [some (.inr (.inr (some 48))), some (.inl (pp : Int)), none], [], (zs h hl)) _
  refine zH_go 5 (c' := (7, [some (.inr (.inr (some 48))), some (.inl (pp : Int)), some (.inl 0)], [.inl (h 48 3), .inl 0], (zs h hl))) rfl ?_
  rw [hL]
  refine zH_bf (x := 0) (y := 2) (k := .ge) (c1 := (33, [some (.inr (.inr (some 48))), some (.inl (pp : Int)), some (.inl 0)], [], (zs h hl))) (c2 := (10, [some (.inr (.inr (some 48))), some (.inl (pp : Int)), some (.inl 0)], [], (zs h hl))) rfl ⟨by decide, by decide⟩ ⟨by decide, by decide⟩ (by show ¬ (¬ 0 < 2); decide) ?_
  refine zH_go 2 (c' := (12, [some (.inr (.inr (some 48))), some (.inl (pp : Int)), some (.inl 0)], [.inl 3, .inl 0], (zs h hl))) rfl ?_
  refine zH_bf (x := 0) (y := 3) (k := .ge) (c1 := (33, [some (.inr (.inr (some 48))), some (.inl (pp : Int)), some (.inl 0)], [], (zs h hl))) (c2 := (15, [some (.inr (.inr (some 48))), some (.inl (pp : Int)), some (.inl 0)], [], (zs h hl))) rfl ⟨by decide, by decide⟩ ⟨by decide, by decide⟩ (by show ¬ (¬ 0 < 3); decide) ?_
  refine zH_go 3 (c' := (20, [some (.inr (.inr (some 48))), some (.inl (pp : Int)), some (.inl 0)], [.inl 0, .inr (.inr (some 58))], (zs h hl))) rfl ?_
  refine zH_np (P := 0 ≤ 0 ∧ 0 < ((3 : Nat) : Int)) (c' := (21, [some (.inr (.inr (some 48))), some (.inl (pp : Int)), some (.inl 0)], [.inl (h 58 0)], (zs h hl))) rfl ⟨by decide, by decide⟩ ?_
  rw [s0]
  refine zH_go 1 (c' := (22, [some (.inr (.inr (some 48))), some (.inl (pp : Int)), some (.inl 0)], [.inl (pp : Int), .inl ((sp 0 : Nat) : Int)], (zs h hl))) rfl ?_
  refine zH_br (x := ((sp 0 : Nat) : Int)) (y := (pp : Int)) (k := .ne) (c1 := (27, [some (.inr (.inr (some 48))), some (.inl (pp : Int)), some (.inl 0)], [], (zs h hl))) (c2 := (25, [some (.inr (.inr (some 48))), some (.inl (pp : Int)), some (.inl 0)], [], (zs h hl))) rfl (by first | assumption | (unfold zr; omega)) (by first | assumption | (unfold zr; omega)) (fun (b_1 : ¬ ((sp 0 : Nat) : Int) = (pp : Int)) => ?_) (fun (b_1 : ¬ (¬ ((sp 0 : Nat) : Int) = (pp : Int))) => ?_)
  · refine zH_go 5 (c' := (7, [some (.inr (.inr (some 48))), some (.inl (pp : Int)), some (.inl 1)], [.inl (h 48 3), .inl 1], (zs h hl))) rfl ?_
    rw [hL]
    refine zH_bf (x := 1) (y := 2) (k := .ge) (c1 := (33, [some (.inr (.inr (some 48))), some (.inl (pp : Int)), some (.inl 1)], [], (zs h hl))) (c2 := (10, [some (.inr (.inr (some 48))), some (.inl (pp : Int)), some (.inl 1)], [], (zs h hl))) rfl ⟨by decide, by decide⟩ ⟨by decide, by decide⟩ (by show ¬ (¬ 1 < 2); decide) ?_
    refine zH_go 2 (c' := (12, [some (.inr (.inr (some 48))), some (.inl (pp : Int)), some (.inl 1)], [.inl 3, .inl 1], (zs h hl))) rfl ?_
    refine zH_bf (x := 1) (y := 3) (k := .ge) (c1 := (33, [some (.inr (.inr (some 48))), some (.inl (pp : Int)), some (.inl 1)], [], (zs h hl))) (c2 := (15, [some (.inr (.inr (some 48))), some (.inl (pp : Int)), some (.inl 1)], [], (zs h hl))) rfl ⟨by decide, by decide⟩ ⟨by decide, by decide⟩ (by show ¬ (¬ 1 < 3); decide) ?_
    refine zH_go 3 (c' := (20, [some (.inr (.inr (some 48))), some (.inl (pp : Int)), some (.inl 1)], [.inl 1, .inr (.inr (some 58))], (zs h hl))) rfl ?_
    refine zH_np (P := 0 ≤ 1 ∧ 1 < ((3 : Nat) : Int)) (c' := (21, [some (.inr (.inr (some 48))), some (.inl (pp : Int)), some (.inl 1)], [.inl (h 58 1)], (zs h hl))) rfl ⟨by decide, by decide⟩ ?_
    rw [s1]
    refine zH_go 1 (c' := (22, [some (.inr (.inr (some 48))), some (.inl (pp : Int)), some (.inl 1)], [.inl (pp : Int), .inl ((sp 1 : Nat) : Int)], (zs h hl))) rfl ?_
    refine zH_br (x := ((sp 1 : Nat) : Int)) (y := (pp : Int)) (k := .ne) (c1 := (27, [some (.inr (.inr (some 48))), some (.inl (pp : Int)), some (.inl 1)], [], (zs h hl))) (c2 := (25, [some (.inr (.inr (some 48))), some (.inl (pp : Int)), some (.inl 1)], [], (zs h hl))) rfl (by first | assumption | (unfold zr; omega)) (by first | assumption | (unfold zr; omega)) (fun (b_2 : ¬ ((sp 1 : Nat) : Int) = (pp : Int)) => ?_) (fun (b_2 : ¬ (¬ ((sp 1 : Nat) : Int) = (pp : Int))) => ?_)
    · refine zH_go 5 (c' := (7, [some (.inr (.inr (some 48))), some (.inl (pp : Int)), some (.inl 2)], [.inl (h 48 3), .inl 2], (zs h hl))) rfl ?_
      rw [hL]
      refine zH_bt (x := 2) (y := 2) (k := .ge) (c1 := (33, [some (.inr (.inr (some 48))), some (.inl (pp : Int)), some (.inl 2)], [], (zs h hl))) (c2 := (10, [some (.inr (.inr (some 48))), some (.inl (pp : Int)), some (.inl 2)], [], (zs h hl))) rfl ⟨by decide, by decide⟩ ⟨by decide, by decide⟩ (by show ¬ 2 < 2; decide) ?_
      refine zH_go 1 (c' := (34, [some (.inr (.inr (some 48))), some (.inl (pp : Int)), some (.inl 2)], [.inl 0], (zs h hl))) rfl ?_
      refine zH_ret (v := some (.inl 0)) rfl (fun _ => by first | exact Or.inl rfl | exact Or.inr rfl) ?_
      refine Or.inr ⟨rfl, fun ⟨i, q1, q2⟩ => ?_, rfl⟩
      rcases (show i = 0 ∨ i = 1 by omega) with rfl | rfl <;> omega
    · refine zH_go 1 (c' := (26, [some (.inr (.inr (some 48))), some (.inl (pp : Int)), some (.inl 1)], [.inl 1], (zs h hl))) rfl ?_
      refine zH_ret (v := some (.inl 1)) rfl (fun _ => by first | exact Or.inl rfl | exact Or.inr rfl) ?_
      exact Or.inl ⟨rfl, ⟨1, by decide, by omega⟩, rfl⟩
  · refine zH_go 1 (c' := (26, [some (.inr (.inr (some 48))), some (.inl (pp : Int)), some (.inl 0)], [.inl 1], (zs h hl))) rfl ?_
    refine zH_ret (v := some (.inl 1)) rfl (fun _ => by first | exact Or.inl rfl | exact Or.inr rfl) ?_
    exact Or.inl ⟨rfl, ⟨0, by decide, by omega⟩, rfl⟩
set_option maxRecDepth 100000 in
set_option maxHeartbeats 4000000 in
theorem p_stnT2 {d : Nat} {h hl : Nat → Nat → Int} {sp : Nat → Nat} (hL : h 48 3 = 2) (hsp : ∀ i : Nat, i < 2 → h 58 i = ((sp i : Nat) : Int)) (hs6 : ∀ i : Nat, i < 2 → sp i < 6) : zQ (d + 2) 19 [.inr (.inr (some 48))] (zs h hl) (zI1 ((zStn 2 sp : Nat) : Int) (zs h hl)) := by
  have s0 := hsp 0 (by decide)
  have s1 := hsp 1 (by decide)
  have t0 := hs6 0 (by decide)
  have t1 := hs6 1 (by decide)
  have w0 := zwd_lt 0 (by decide) 0 (by decide) (sp 0) (by omega)
  have w1 := zwd_lt _ w0 1 (by decide) (sp 1) (by omega)
  refine zQ_of (Nat.le_of_ble_eq_true rfl) ?_
  show zH (d + 1) 19 (0, [some (.inr (.inr (some 48))), none, none], [], (zs h hl)) _
  refine zH_go 7 (c' := (9, [some (.inr (.inr (some 48))), some (.inl 0), some (.inl 0)], [.inl (h 48 3), .inl 0], (zs h hl))) rfl ?_
  rw [hL]
  refine zH_bf (x := 0) (y := 2) (k := .ge) (c1 := (35, [some (.inr (.inr (some 48))), some (.inl 0), some (.inl 0)], [], (zs h hl))) (c2 := (12, [some (.inr (.inr (some 48))), some (.inl 0), some (.inl 0)], [], (zs h hl))) rfl ⟨by decide, by decide⟩ ⟨by decide, by decide⟩ (by show ¬ (¬ 0 < 2); decide) ?_
  refine zH_go 2 (c' := (14, [some (.inr (.inr (some 48))), some (.inl 0), some (.inl 0)], [.inl 3, .inl 0], (zs h hl))) rfl ?_
  refine zH_bf (x := 0) (y := 3) (k := .ge) (c1 := (35, [some (.inr (.inr (some 48))), some (.inl 0), some (.inl 0)], [], (zs h hl))) (c2 := (17, [some (.inr (.inr (some 48))), some (.inl 0), some (.inl 0)], [], (zs h hl))) rfl ⟨by decide, by decide⟩ ⟨by decide, by decide⟩ (by show ¬ (¬ 0 < 3); decide) ?_
  refine zH_go 5 (c' := (24, [some (.inr (.inr (some 48))), some (.inl 0), some (.inl 0)], [.inl 0, .inr (.inr (some 58)), .inl 0, .inl 0], (zs h hl))) rfl ?_
  refine zH_np (P := 0 ≤ 0 ∧ 0 < ((3 : Nat) : Int)) (c' := (25, [some (.inr (.inr (some 48))), some (.inl 0), some (.inl 0)], [.inl (h 58 0), .inl 0, .inl 0], (zs h hl))) rfl ⟨by decide, by decide⟩ ?_
  rw [s0]
  refine zH_call (M' := 101) (as := [.inl 0, .inl 0, .inl ((sp 0 : Nat) : Int)]) (T := []) rfl (p_withDigit (n := 0) (i := 0) (v := sp 0) (by omega) (by decide) (by omega)) (fun r σ' p_1 => ?_)
  obtain ⟨rfl, rfl⟩ := p_1
  show zH _ _ (28, [some (.inr (.inr (some 48))), some (.inl 0), some (.inl 0)], [.inl ((zwd 0 0 (sp 0) : Nat) : Int)], (zs h hl)) _
  refine zH_go 6 (c' := (9, [some (.inr (.inr (some 48))), some (.inl ((zwd 0 0 (sp 0) : Nat) : Int)), some (.inl 1)], [.inl (h 48 3), .inl 1], (zs h hl))) rfl ?_
  rw [hL]
  refine zH_bf (x := 1) (y := 2) (k := .ge) (c1 := (35, [some (.inr (.inr (some 48))), some (.inl ((zwd 0 0 (sp 0) : Nat) : Int)), some (.inl 1)], [], (zs h hl))) (c2 := (12, [some (.inr (.inr (some 48))), some (.inl ((zwd 0 0 (sp 0) : Nat) : Int)), some (.inl 1)], [], (zs h hl))) rfl ⟨by decide, by decide⟩ ⟨by decide, by decide⟩ (by show ¬ (¬ 1 < 2); decide) ?_
  refine zH_go 2 (c' := (14, [some (.inr (.inr (some 48))), some (.inl ((zwd 0 0 (sp 0) : Nat) : Int)), some (.inl 1)], [.inl 3, .inl 1], (zs h hl))) rfl ?_
  refine zH_bf (x := 1) (y := 3) (k := .ge) (c1 := (35, [some (.inr (.inr (some 48))), some (.inl ((zwd 0 0 (sp 0) : Nat) : Int)), some (.inl 1)], [], (zs h hl))) (c2 := (17, [some (.inr (.inr (some 48))), some (.inl ((zwd 0 0 (sp 0) : Nat) : Int)), some (.inl 1)], [], (zs h hl))) rfl ⟨by decide, by decide⟩ ⟨by decide, by decide⟩ (by show ¬ (¬ 1 < 3); decide) ?_
  refine zH_go 5 (c' := (24, [some (.inr (.inr (some 48))), some (.inl ((zwd 0 0 (sp 0) : Nat) : Int)), some (.inl 1)], [.inl 1, .inr (.inr (some 58)), .inl 1, .inl ((zwd 0 0 (sp 0) : Nat) : Int)], (zs h hl))) rfl ?_
  refine zH_np (P := 0 ≤ 1 ∧ 1 < ((3 : Nat) : Int)) (c' := (25, [some (.inr (.inr (some 48))), some (.inl ((zwd 0 0 (sp 0) : Nat) : Int)), some (.inl 1)], [.inl (h 58 1), .inl 1, .inl ((zwd 0 0 (sp 0) : Nat) : Int)], (zs h hl))) rfl ⟨by decide, by decide⟩ ?_
  rw [s1]
  refine zH_call (M' := 101) (as := [.inl ((zwd 0 0 (sp 0) : Nat) : Int), .inl 1, .inl ((sp 1 : Nat) : Int)]) (T := []) rfl (p_withDigit (n := zwd 0 0 (sp 0)) (i := 1) (v := sp 1) (by omega) (by decide) (by omega)) (fun r σ' p_2 => ?_)
  obtain ⟨rfl, rfl⟩ := p_2
  show zH _ _ (28, [some (.inr (.inr (some 48))), some (.inl ((zwd 0 0 (sp 0) : Nat) : Int)), some (.inl 1)], [.inl ((zwd (zwd 0 0 (sp 0)) 1 (sp 1) : Nat) : Int)], (zs h hl)) _
  refine zH_go 6 (c' := (9, [some (.inr (.inr (some 48))), some (.inl ((zwd (zwd 0 0 (sp 0)) 1 (sp 1) : Nat) : Int)), some (.inl 2)], [.inl (h 48 3), .inl 2], (zs h hl))) rfl ?_
  rw [hL]
  refine zH_bt (x := 2) (y := 2) (k := .ge) (c1 := (35, [some (.inr (.inr (some 48))), some (.inl ((zwd (zwd 0 0 (sp 0)) 1 (sp 1) : Nat) : Int)), some (.inl 2)], [], (zs h hl))) (c2 := (12, [some (.inr (.inr (some 48))), some (.inl ((zwd (zwd 0 0 (sp 0)) 1 (sp 1) : Nat) : Int)), some (.inl 2)], [], (zs h hl))) rfl ⟨by decide, by decide⟩ ⟨by decide, by decide⟩ (by show ¬ 2 < 2; decide) ?_
  refine zH_go 1 (c' := (36, [some (.inr (.inr (some 48))), some (.inl ((zwd (zwd 0 0 (sp 0)) 1 (sp 1) : Nat) : Int)), some (.inl 2)], [.inl ((zwd (zwd 0 0 (sp 0)) 1 (sp 1) : Nat) : Int)], (zs h hl))) rfl ?_
  refine zH_ret (v := some (.inl ((zwd (zwd 0 0 (sp 0)) 1 (sp 1) : Nat) : Int))) rfl (fun q => absurd q (by decide)) ?_
  refine ⟨congrArg (fun z => some (Sum.inl z)) ?_, rfl⟩
  unfold zStn
  rw [if_neg (by decide), if_pos rfl]
set_option maxRecDepth 100000 in
set_option maxHeartbeats 4000000 in
theorem p_covT3 {d : Nat} {h hl : Nat → Nat → Int} {pp : Nat} (hpp : pp < 8) {sp : Nat → Nat} (hL : h 48 3 = 3) (hsp : ∀ i : Nat, i < 3 → h 58 i = ((sp i : Nat) : Int)) (hs6 : ∀ i : Nat, i < 3 → sp i < 6) : zQ (d + 1) 25 [.inr (.inr (some 48)), .inl (pp : Int)] (zs h hl) (zB (zCov 3 sp pp) (zs h hl)) := by
  have s0 := hsp 0 (by decide)
  have s1 := hsp 1 (by decide)
  have s2 := hsp 2 (by decide)
  have t0 := hs6 0 (by decide)
  have t1 := hs6 1 (by decide)
  have t2 := hs6 2 (by decide)
  refine zQ_of (Nat.le_of_ble_eq_true rfl) ?_
  show zH d 25 (0, [some (.inr (.inr (some 48))), some (.inl (pp : Int)), none], [], (zs h hl)) _
  refine zH_go 5 (c' := (7, [some (.inr (.inr (some 48))), some (.inl (pp : Int)), some (.inl 0)], [.inl (h 48 3), .inl 0], (zs h hl))) rfl ?_
  rw [hL]
  refine zH_bf (x := 0) (y := 3) (k := .ge) (c1 := (33, [some (.inr (.inr (some 48))), some (.inl (pp : Int)), some (.inl 0)], [], (zs h hl))) (c2 := (10, [some (.inr (.inr (some 48))), some (.inl (pp : Int)), some (.inl 0)], [], (zs h hl))) rfl ⟨by decide, by decide⟩ ⟨by decide, by decide⟩ (by show ¬ (¬ 0 < 3); decide) ?_
  refine zH_go 2 (c' := (12, [some (.inr (.inr (some 48))), some (.inl (pp : Int)), some (.inl 0)], [.inl 3, .inl 0], (zs h hl))) rfl ?_
  refine zH_bf (x := 0) (y := 3) (k := .ge) (c1 := (33, [some (.inr (.inr (some 48))), some (.inl (pp : Int)), some (.inl 0)], [], (zs h hl))) (c2 := (15, [some (.inr (.inr (some 48))), some (.inl (pp : Int)), some (.inl 0)], [], (zs h hl))) rfl ⟨by decide, by decide⟩ ⟨by decide, by decide⟩ (by show ¬ (¬ 0 < 3); decide) ?_
  refine zH_go 3 (c' := (20, [some (.inr (.inr (some 48))), some (.inl (pp : Int)), some (.inl 0)], [.inl 0, .inr (.inr (some 58))], (zs h hl))) rfl ?_
  refine zH_np (P := 0 ≤ 0 ∧ 0 < ((3 : Nat) : Int)) (c' := (21, [some (.inr (.inr (some 48))), some (.inl (pp : Int)), some (.inl 0)], [.inl (h 58 0)], (zs h hl))) rfl ⟨by decide, by decide⟩ ?_
  rw [s0]
  refine zH_go 1 (c' := (22, [some (.inr (.inr (some 48))), some (.inl (pp : Int)), some (.inl 0)], [.inl (pp : Int), .inl ((sp 0 : Nat) : Int)], (zs h hl))) rfl ?_
  refine zH_br (x := ((sp 0 : Nat) : Int)) (y := (pp : Int)) (k := .ne) (c1 := (27, [some (.inr (.inr (some 48))), some (.inl (pp : Int)), some (.inl 0)], [], (zs h hl))) (c2 := (25, [some (.inr (.inr (some 48))), some (.inl (pp : Int)), some (.inl 0)], [], (zs h hl))) rfl (by first | assumption | (unfold zr; omega)) (by first | assumption | (unfold zr; omega)) (fun (b_1 : ¬ ((sp 0 : Nat) : Int) = (pp : Int)) => ?_) (fun (b_1 : ¬ (¬ ((sp 0 : Nat) : Int) = (pp : Int))) => ?_)
  · refine zH_go 5 (c' := (7, [some (.inr (.inr (some 48))), some (.inl (pp : Int)), some (.inl 1)], [.inl (h 48 3), .inl 1], (zs h hl))) rfl ?_
    rw [hL]
    refine zH_bf (x := 1) (y := 3) (k := .ge) (c1 := (33, [some (.inr (.inr (some 48))), some (.inl (pp : Int)), some (.inl 1)], [], (zs h hl))) (c2 := (10, [some (.inr (.inr (some 48))), some (.inl (pp : Int)), some (.inl 1)], [], (zs h hl))) rfl ⟨by decide, by decide⟩ ⟨by decide, by decide⟩ (by show ¬ (¬ 1 < 3); decide) ?_
    refine zH_go 2 (c' := (12, [some (.inr (.inr (some 48))), some (.inl (pp : Int)), some (.inl 1)], [.inl 3, .inl 1], (zs h hl))) rfl ?_
    refine zH_bf (x := 1) (y := 3) (k := .ge) (c1 := (33, [some (.inr (.inr (some 48))), some (.inl (pp : Int)), some (.inl 1)], [], (zs h hl))) (c2 := (15, [some (.inr (.inr (some 48))), some (.inl (pp : Int)), some (.inl 1)], [], (zs h hl))) rfl ⟨by decide, by decide⟩ ⟨by decide, by decide⟩ (by show ¬ (¬ 1 < 3); decide) ?_
    refine zH_go 3 (c' := (20, [some (.inr (.inr (some 48))), some (.inl (pp : Int)), some (.inl 1)], [.inl 1, .inr (.inr (some 58))], (zs h hl))) rfl ?_
    refine zH_np (P := 0 ≤ 1 ∧ 1 < ((3 : Nat) : Int)) (c' := (21, [some (.inr (.inr (some 48))), some (.inl (pp : Int)), some (.inl 1)], [.inl (h 58 1)], (zs h hl))) rfl ⟨by decide, by decide⟩ ?_
    rw [s1]
    refine zH_go 1 (c' := (22, [some (.inr (.inr (some 48))), some (.inl (pp : Int)), some (.inl 1)], [.inl (pp : Int), .inl ((sp 1 : Nat) : Int)], (zs h hl))) rfl ?_
    refine zH_br (x := ((sp 1 : Nat) : Int)) (y := (pp : Int)) (k := .ne) (c1 := (27, [some (.inr (.inr (some 48))), some (.inl (pp : Int)), some (.inl 1)], [], (zs h hl))) (c2 := (25, [some (.inr (.inr (some 48))), some (.inl (pp : Int)), some (.inl 1)], [], (zs h hl))) rfl (by first | assumption | (unfold zr; omega)) (by first | assumption | (unfold zr; omega)) (fun (b_2 : ¬ ((sp 1 : Nat) : Int) = (pp : Int)) => ?_) (fun (b_2 : ¬ (¬ ((sp 1 : Nat) : Int) = (pp : Int))) => ?_)
    · refine zH_go 5 (c' := (7, [some (.inr (.inr (some 48))), some (.inl (pp : Int)), some (.inl 2)], [.inl (h 48 3), .inl 2], (zs h hl))) rfl ?_
      rw [hL]
      refine zH_bf (x := 2) (y := 3) (k := .ge) (c1 := (33, [some (.inr (.inr (some 48))), some (.inl (pp : Int)), some (.inl 2)], [], (zs h hl))) (c2 := (10, [some (.inr (.inr (some 48))), some (.inl (pp : Int)), some (.inl 2)], [], (zs h hl))) rfl ⟨by decide, by decide⟩ ⟨by decide, by decide⟩ (by show ¬ (¬ 2 < 3); decide) ?_
      refine zH_go 2 (c' := (12, [some (.inr (.inr (some 48))), some (.inl (pp : Int)), some (.inl 2)], [.inl 3, .inl 2], (zs h hl))) rfl ?_
      refine zH_bf (x := 2) (y := 3) (k := .ge) (c1 := (33, [some (.inr (.inr (some 48))), some (.inl (pp : Int)), some (.inl 2)], [], (zs h hl))) (c2 := (15, [some (.inr (.inr (some 48))), some (.inl (pp : Int)), some (.inl 2)], [], (zs h hl))) rfl ⟨by decide, by decide⟩ ⟨by decide, by decide⟩ (by show ¬ (¬ 2 < 3); decide) ?_
      refine zH_go 3 (c' := (20, [some (.inr (.inr (some 48))), some (.inl (pp : Int)), some (.inl 2)], [.inl 2, .inr (.inr (some 58))], (zs h hl))) rfl ?_
      refine zH_np (P := 0 ≤ 2 ∧ 2 < ((3 : Nat) : Int)) (c' := (21, [some (.inr (.inr (some 48))), some (.inl (pp : Int)), some (.inl 2)], [.inl (h 58 2)], (zs h hl))) rfl ⟨by decide, by decide⟩ ?_
      rw [s2]
      refine zH_go 1 (c' := (22, [some (.inr (.inr (some 48))), some (.inl (pp : Int)), some (.inl 2)], [.inl (pp : Int), .inl ((sp 2 : Nat) : Int)], (zs h hl))) rfl ?_
      refine zH_br (x := ((sp 2 : Nat) : Int)) (y := (pp : Int)) (k := .ne) (c1 := (27, [some (.inr (.inr (some 48))), some (.inl (pp : Int)), some (.inl 2)], [], (zs h hl))) (c2 := (25, [some (.inr (.inr (some 48))), some (.inl (pp : Int)), some (.inl 2)], [], (zs h hl))) rfl (by first | assumption | (unfold zr; omega)) (by first | assumption | (unfold zr; omega)) (fun (b_3 : ¬ ((sp 2 : Nat) : Int) = (pp : Int)) => ?_) (fun (b_3 : ¬ (¬ ((sp 2 : Nat) : Int) = (pp : Int))) => ?_)
      · refine zH_go 5 (c' := (7, [some (.inr (.inr (some 48))), some (.inl (pp : Int)), some (.inl 3)], [.inl (h 48 3), .inl 3], (zs h hl))) rfl ?_
        rw [hL]
        refine zH_bt (x := 3) (y := 3) (k := .ge) (c1 := (33, [some (.inr (.inr (some 48))), some (.inl (pp : Int)), some (.inl 3)], [], (zs h hl))) (c2 := (10, [some (.inr (.inr (some 48))), some (.inl (pp : Int)), some (.inl 3)], [], (zs h hl))) rfl ⟨by decide, by decide⟩ ⟨by decide, by decide⟩ (by show ¬ 3 < 3; decide) ?_
        refine zH_go 1 (c' := (34, [some (.inr (.inr (some 48))), some (.inl (pp : Int)), some (.inl 3)], [.inl 0], (zs h hl))) rfl ?_
        refine zH_ret (v := some (.inl 0)) rfl (fun _ => by first | exact Or.inl rfl | exact Or.inr rfl) ?_
        refine Or.inr ⟨rfl, fun ⟨i, q1, q2⟩ => ?_, rfl⟩
        rcases (show i = 0 ∨ i = 1 ∨ i = 2 by omega) with rfl | rfl | rfl <;> omega
      · refine zH_go 1 (c' := (26, [some (.inr (.inr (some 48))), some (.inl (pp : Int)), some (.inl 2)], [.inl 1], (zs h hl))) rfl ?_
        refine zH_ret (v := some (.inl 1)) rfl (fun _ => by first | exact Or.inl rfl | exact Or.inr rfl) ?_
        exact Or.inl ⟨rfl, ⟨2, by decide, by omega⟩, rfl⟩
    · refine zH_go 1 (c' := (26, [some (.inr (.inr (some 48))), some (.inl (pp : Int)), some (.inl 1)], [.inl 1], (zs h hl))) rfl ?_
      refine zH_ret (v := some (.inl 1)) rfl (fun _ => by first | exact Or.inl rfl | exact Or.inr rfl) ?_
      exact Or.inl ⟨rfl, ⟨1, by decide, by omega⟩, rfl⟩
  · refine zH_go 1 (c' := (26, [some (.inr (.inr (some 48))), some (.inl (pp : Int)), some (.inl 0)], [.inl 1], (zs h hl))) rfl ?_
    refine zH_ret (v := some (.inl 1)) rfl (fun _ => by first | exact Or.inl rfl | exact Or.inr rfl) ?_
    exact Or.inl ⟨rfl, ⟨0, by decide, by omega⟩, rfl⟩
set_option maxRecDepth 100000 in
set_option maxHeartbeats 4000000 in
theorem p_stnT3 {d : Nat} {h hl : Nat → Nat → Int} {sp : Nat → Nat} (hL : h 48 3 = 3) (hsp : ∀ i : Nat, i < 3 → h 58 i = ((sp i : Nat) : Int)) (hs6 : ∀ i : Nat, i < 3 → sp i < 6) : zQ (d + 2) 19 [.inr (.inr (some 48))] (zs h hl) (zI1 ((zStn 3 sp : Nat) : Int) (zs h hl)) := by
  have s0 := hsp 0 (by decide)
  have s1 := hsp 1 (by decide)
  have s2 := hsp 2 (by decide)
  have t0 := hs6 0 (by decide)
  have t1 := hs6 1 (by decide)
  have t2 := hs6 2 (by decide)
  have w0 := zwd_lt 0 (by decide) 0 (by decide) (sp 0) (by omega)
  have w1 := zwd_lt _ w0 1 (by decide) (sp 1) (by omega)
  refine zQ_of (Nat.le_of_ble_eq_true rfl) ?_
  show zH (d + 1) 19 (0, [some (.inr (.inr (some 48))), none, none], [], (zs h hl)) _
  refine zH_go 7 (c' := (9, [some (.inr (.inr (some 48))), some (.inl 0), some (.inl 0)], [.inl (h 48 3), .inl 0], (zs h hl))) rfl ?_
  rw [hL]
  refine zH_bf (x := 0) (y := 3) (k := .ge) (c1 := (35, [some (.inr (.inr (some 48))), some (.inl 0), some (.inl 0)], [], (zs h hl))) (c2 := (12, [some (.inr (.inr (some 48))), some (.inl 0), some (.inl 0)], [], (zs h hl))) rfl ⟨by decide, by decide⟩ ⟨by decide, by decide⟩ (by show ¬ (¬ 0 < 3); decide) ?_
  refine zH_go 2 (c' := (14, [some (.inr (.inr (some 48))), some (.inl 0), some (.inl 0)], [.inl 3, .inl 0], (zs h hl))) rfl ?_
  refine zH_bf (x := 0) (y := 3) (k := .ge) (c1 := (35, [some (.inr (.inr (some 48))), some (.inl 0), some (.inl 0)], [], (zs h hl))) (c2 := (17, [some (.inr (.inr (some 48))), some (.inl 0), some (.inl 0)], [], (zs h hl))) rfl ⟨by decide, by decide⟩ ⟨by decide, by decide⟩ (by show ¬ (¬ 0 < 3); decide) ?_
  refine zH_go 5 (c' := (24, [some (.inr (.inr (some 48))), some (.inl 0), some (.inl 0)], [.inl 0, .inr (.inr (some 58)), .inl 0, .inl 0], (zs h hl))) rfl ?_
  refine zH_np (P := 0 ≤ 0 ∧ 0 < ((3 : Nat) : Int)) (c' := (25, [some (.inr (.inr (some 48))), some (.inl 0), some (.inl 0)], [.inl (h 58 0), .inl 0, .inl 0], (zs h hl))) rfl ⟨by decide, by decide⟩ ?_
  rw [s0]
  refine zH_call (M' := 101) (as := [.inl 0, .inl 0, .inl ((sp 0 : Nat) : Int)]) (T := []) rfl (p_withDigit (n := 0) (i := 0) (v := sp 0) (by omega) (by decide) (by omega)) (fun r σ' p_1 => ?_)
  obtain ⟨rfl, rfl⟩ := p_1
  show zH _ _ (28, [some (.inr (.inr (some 48))), some (.inl 0), some (.inl 0)], [.inl ((zwd 0 0 (sp 0) : Nat) : Int)], (zs h hl)) _
  refine zH_go 6 (c' := (9, [some (.inr (.inr (some 48))), some (.inl ((zwd 0 0 (sp 0) : Nat) : Int)), some (.inl 1)], [.inl (h 48 3), .inl 1], (zs h hl))) rfl ?_
  rw [hL]
  refine zH_bf (x := 1) (y := 3) (k := .ge) (c1 := (35, [some (.inr (.inr (some 48))), some (.inl ((zwd 0 0 (sp 0) : Nat) : Int)), some (.inl 1)], [], (zs h hl))) (c2 := (12, [some (.inr (.inr (some 48))), some (.inl ((zwd 0 0 (sp 0) : Nat) : Int)), some (.inl 1)], [], (zs h hl))) rfl ⟨by decide, by decide⟩ ⟨by decide, by decide⟩ (by show ¬ (¬ 1 < 3); decide) ?_
  refine zH_go 2 (c' := (14, [some (.inr (.inr (some 48))), some (.inl ((zwd 0 0 (sp 0) : Nat) : Int)), some (.inl 1)], [.inl 3, .inl 1], (zs h hl))) rfl ?_
  refine zH_bf (x := 1) (y := 3) (k := .ge) (c1 := (35, [some (.inr (.inr (some 48))), some (.inl ((zwd 0 0 (sp 0) : Nat) : Int)), some (.inl 1)], [], (zs h hl))) (c2 := (17, [some (.inr (.inr (some 48))), some (.inl ((zwd 0 0 (sp 0) : Nat) : Int)), some (.inl 1)], [], (zs h hl))) rfl ⟨by decide, by decide⟩ ⟨by decide, by decide⟩ (by show ¬ (¬ 1 < 3); decide) ?_
  refine zH_go 5 (c' := (24, [some (.inr (.inr (some 48))), some (.inl ((zwd 0 0 (sp 0) : Nat) : Int)), some (.inl 1)], [.inl 1, .inr (.inr (some 58)), .inl 1, .inl ((zwd 0 0 (sp 0) : Nat) : Int)], (zs h hl))) rfl ?_
  refine zH_np (P := 0 ≤ 1 ∧ 1 < ((3 : Nat) : Int)) (c' := (25, [some (.inr (.inr (some 48))), some (.inl ((zwd 0 0 (sp 0) : Nat) : Int)), some (.inl 1)], [.inl (h 58 1), .inl 1, .inl ((zwd 0 0 (sp 0) : Nat) : Int)], (zs h hl))) rfl ⟨by decide, by decide⟩ ?_
  rw [s1]
  refine zH_call (M' := 101) (as := [.inl ((zwd 0 0 (sp 0) : Nat) : Int), .inl 1, .inl ((sp 1 : Nat) : Int)]) (T := []) rfl (p_withDigit (n := zwd 0 0 (sp 0)) (i := 1) (v := sp 1) (by omega) (by decide) (by omega)) (fun r σ' p_2 => ?_)
  obtain ⟨rfl, rfl⟩ := p_2
  show zH _ _ (28, [some (.inr (.inr (some 48))), some (.inl ((zwd 0 0 (sp 0) : Nat) : Int)), some (.inl 1)], [.inl ((zwd (zwd 0 0 (sp 0)) 1 (sp 1) : Nat) : Int)], (zs h hl)) _
  refine zH_go 6 (c' := (9, [some (.inr (.inr (some 48))), some (.inl ((zwd (zwd 0 0 (sp 0)) 1 (sp 1) : Nat) : Int)), some (.inl 2)], [.inl (h 48 3), .inl 2], (zs h hl))) rfl ?_
  rw [hL]
  refine zH_bf (x := 2) (y := 3) (k := .ge) (c1 := (35, [some (.inr (.inr (some 48))), some (.inl ((zwd (zwd 0 0 (sp 0)) 1 (sp 1) : Nat) : Int)), some (.inl 2)], [], (zs h hl))) (c2 := (12, [some (.inr (.inr (some 48))), some (.inl ((zwd (zwd 0 0 (sp 0)) 1 (sp 1) : Nat) : Int)), some (.inl 2)], [], (zs h hl))) rfl ⟨by decide, by decide⟩ ⟨by decide, by decide⟩ (by show ¬ (¬ 2 < 3); decide) ?_
  refine zH_go 2 (c' := (14, [some (.inr (.inr (some 48))), some (.inl ((zwd (zwd 0 0 (sp 0)) 1 (sp 1) : Nat) : Int)), some (.inl 2)], [.inl 3, .inl 2], (zs h hl))) rfl ?_
  refine zH_bf (x := 2) (y := 3) (k := .ge) (c1 := (35, [some (.inr (.inr (some 48))), some (.inl ((zwd (zwd 0 0 (sp 0)) 1 (sp 1) : Nat) : Int)), some (.inl 2)], [], (zs h hl))) (c2 := (17, [some (.inr (.inr (some 48))), some (.inl ((zwd (zwd 0 0 (sp 0)) 1 (sp 1) : Nat) : Int)), some (.inl 2)], [], (zs h hl))) rfl ⟨by decide, by decide⟩ ⟨by decide, by decide⟩ (by show ¬ (¬ 2 < 3); decide) ?_
  refine zH_go 5 (c' := (24, [some (.inr (.inr (some 48))), some (.inl ((zwd (zwd 0 0 (sp 0)) 1 (sp 1) : Nat) : Int)), some (.inl 2)], [.inl 2, .inr (.inr (some 58)), .inl 2, .inl ((zwd (zwd 0 0 (sp 0)) 1 (sp 1) : Nat) : Int)], (zs h hl))) rfl ?_
  refine zH_np (P := 0 ≤ 2 ∧ 2 < ((3 : Nat) : Int)) (c' := (25, [some (.inr (.inr (some 48))), some (.inl ((zwd (zwd 0 0 (sp 0)) 1 (sp 1) : Nat) : Int)), some (.inl 2)], [.inl (h 58 2), .inl 2, .inl ((zwd (zwd 0 0 (sp 0)) 1 (sp 1) : Nat) : Int)], (zs h hl))) rfl ⟨by decide, by decide⟩ ?_
  rw [s2]
  refine zH_call (M' := 101) (as := [.inl ((zwd (zwd 0 0 (sp 0)) 1 (sp 1) : Nat) : Int), .inl 2, .inl ((sp 2 : Nat) : Int)]) (T := []) rfl (p_withDigit (n := zwd (zwd 0 0 (sp 0)) 1 (sp 1)) (i := 2) (v := sp 2) (by omega) (by decide) (by omega)) (fun r σ' p_3 => ?_)
  obtain ⟨rfl, rfl⟩ := p_3
  show zH _ _ (28, [some (.inr (.inr (some 48))), some (.inl ((zwd (zwd 0 0 (sp 0)) 1 (sp 1) : Nat) : Int)), some (.inl 2)], [.inl ((zwd (zwd (zwd 0 0 (sp 0)) 1 (sp 1)) 2 (sp 2) : Nat) : Int)], (zs h hl)) _
  refine zH_go 6 (c' := (9, [some (.inr (.inr (some 48))), some (.inl ((zwd (zwd (zwd 0 0 (sp 0)) 1 (sp 1)) 2 (sp 2) : Nat) : Int)), some (.inl 3)], [.inl (h 48 3), .inl 3], (zs h hl))) rfl ?_
  rw [hL]
  refine zH_bt (x := 3) (y := 3) (k := .ge) (c1 := (35, [some (.inr (.inr (some 48))), some (.inl ((zwd (zwd (zwd 0 0 (sp 0)) 1 (sp 1)) 2 (sp 2) : Nat) : Int)), some (.inl 3)], [], (zs h hl))) (c2 := (12, [some (.inr (.inr (some 48))), some (.inl ((zwd (zwd (zwd 0 0 (sp 0)) 1 (sp 1)) 2 (sp 2) : Nat) : Int)), some (.inl 3)], [], (zs h hl))) rfl ⟨by decide, by decide⟩ ⟨by decide, by decide⟩ (by show ¬ 3 < 3; decide) ?_
  refine zH_go 1 (c' := (36, [some (.inr (.inr (some 48))), some (.inl ((zwd (zwd (zwd 0 0 (sp 0)) 1 (sp 1)) 2 (sp 2) : Nat) : Int)), some (.inl 3)], [.inl ((zwd (zwd (zwd 0 0 (sp 0)) 1 (sp 1)) 2 (sp 2) : Nat) : Int)], (zs h hl))) rfl ?_
  refine zH_ret (v := some (.inl ((zwd (zwd (zwd 0 0 (sp 0)) 1 (sp 1)) 2 (sp 2) : Nat) : Int))) rfl (fun q => absurd q (by decide)) ?_
  refine ⟨congrArg (fun z => some (Sum.inl z)) ?_, rfl⟩
  unfold zStn
  rw [if_neg (by decide), if_neg (by decide)]
theorem p_covT {d : Nat} {h hl : Nat → Nat → Int} {pp : Nat} (hpp : pp < 8) {L : Nat} {sp : Nat → Nat} (hL3 : 1 ≤ L ∧ L ≤ 3) (hL : h 48 3 = (L : Int)) (hsp : ∀ i : Nat, i < L → h 58 i = ((sp i : Nat) : Int)) (hs6 : ∀ i : Nat, i < L → sp i < 6) : zQ (d + 1) 25 [.inr (.inr (some 48)), .inl (pp : Int)] (zs h hl) (zB (zCov L sp pp) (zs h hl)) := by
  rcases (show L = 1 ∨ L = 2 ∨ L = 3 by omega) with rfl | rfl | rfl
  · exact p_covT1 hpp hL hsp hs6
  · exact p_covT2 hpp hL hsp hs6
  · exact p_covT3 hpp hL hsp hs6
theorem p_stnT {d : Nat} {h hl : Nat → Nat → Int} {L : Nat} {sp : Nat → Nat} (hL3 : 1 ≤ L ∧ L ≤ 3) (hL : h 48 3 = (L : Int)) (hsp : ∀ i : Nat, i < L → h 58 i = ((sp i : Nat) : Int)) (hs6 : ∀ i : Nat, i < L → sp i < 6) : zQ (d + 2) 19 [.inr (.inr (some 48))] (zs h hl) (zI1 ((zStn L sp : Nat) : Int) (zs h hl)) := by
  rcases (show L = 1 ∨ L = 2 ∨ L = 3 by omega) with rfl | rfl | rfl
  · exact p_stnT1 hL hsp hs6
  · exact p_stnT2 hL hsp hs6
  · exact p_stnT3 hL hsp hs6
