/-! Town: reads. -/
set_option maxRecDepth 100000 in
set_option maxHeartbeats 4000000 in
theorem p_has {d : Nat} {h hl : Nat → Nat → Int} {x : Int} (hx : zr x) (hP : 0 ≤ h 3 0 ∧ h 3 0 ≤ 6) : zQ (d + 1) 48 [.inr (.inr (some 3)), .inl x] (zs h hl) (zB (0 ≤ x ∧ x < h 3 0 ∧ x < 6) (zs h hl)) := by
  refine zQ_of (Nat.le_of_ble_eq_true rfl) ?_
  show zH d 48 (0, [some (.inr (.inr (some 3))), some (.inl x)], [], (zs h hl)) _
  refine zH_go 1 (c' := (1, [some (.inr (.inr (some 3))), some (.inl x)], [.inl x], (zs h hl))) rfl ?_
  refine zH_br (x := x) (y := 0) (k := .lt) (c1 := (22, [some (.inr (.inr (some 3))), some (.inl x)], [], (zs h hl))) (c2 := (4, [some (.inr (.inr (some 3))), some (.inl x)], [], (zs h hl))) rfl (by first | assumption | (unfold zr; omega)) ⟨by decide, by decide⟩ (fun (b_1 : x < 0) => ?_) (fun (b_1 : ¬ (x < 0)) => ?_)
  · refine zH_go 1 (c' := (23, [some (.inr (.inr (some 3))), some (.inl x)], [.inl 0], (zs h hl))) rfl ?_
    refine zH_ret (v := some (.inl 0)) rfl (fun _ => by first | exact Or.inl rfl | exact Or.inr rfl) ?_
    exact Or.inr ⟨rfl, by omega, rfl⟩
  · refine zH_go 3 (c' := (9, [some (.inr (.inr (some 3))), some (.inl x)], [.inl (h 3 0), .inl x], (zs h hl))) rfl ?_
    refine zH_br (x := x) (y := (h 3 0)) (k := .ge) (c1 := (22, [some (.inr (.inr (some 3))), some (.inl x)], [], (zs h hl))) (c2 := (12, [some (.inr (.inr (some 3))), some (.inl x)], [], (zs h hl))) rfl (by first | assumption | (unfold zr; omega)) (by first | assumption | (unfold zr; omega)) (fun (b_2 : ¬ x < (h 3 0)) => ?_) (fun (b_2 : ¬ (¬ x < (h 3 0))) => ?_)
    · refine zH_go 1 (c' := (23, [some (.inr (.inr (some 3))), some (.inl x)], [.inl 0], (zs h hl))) rfl ?_
      refine zH_ret (v := some (.inl 0)) rfl (fun _ => by first | exact Or.inl rfl | exact Or.inr rfl) ?_
      exact Or.inr ⟨rfl, by omega, rfl⟩
    · refine zH_go 2 (c' := (15, [some (.inr (.inr (some 3))), some (.inl x)], [.inl 6, .inl x], (zs h hl))) rfl ?_
      refine zH_br (x := x) (y := 6) (k := .ge) (c1 := (22, [some (.inr (.inr (some 3))), some (.inl x)], [], (zs h hl))) (c2 := (18, [some (.inr (.inr (some 3))), some (.inl x)], [], (zs h hl))) rfl (by first | assumption | (unfold zr; omega)) ⟨by decide, by decide⟩ (fun (b_3 : ¬ x < 6) => ?_) (fun (b_3 : ¬ (¬ x < 6)) => ?_)
      · refine zH_go 1 (c' := (23, [some (.inr (.inr (some 3))), some (.inl x)], [.inl 0], (zs h hl))) rfl ?_
        refine zH_ret (v := some (.inl 0)) rfl (fun _ => by first | exact Or.inl rfl | exact Or.inr rfl) ?_
        exact Or.inr ⟨rfl, by omega, rfl⟩
      · refine zH_go 2 (c' := (23, [some (.inr (.inr (some 3))), some (.inl x)], [.inl 1], (zs h hl))) rfl ?_
        refine zH_ret (v := some (.inl 1)) rfl (fun _ => by first | exact Or.inl rfl | exact Or.inr rfl) ?_
        exact Or.inl ⟨rfl, by omega, rfl⟩
set_option maxRecDepth 100000 in
set_option maxHeartbeats 4000000 in
theorem p_gap {d : Nat} {h hl : Nat → Nat → Int} {a b : Nat} (ha : a < 6) (hb : b < 6) : zQ (d + 1) 52 [.inr (.inr (some 3)), .inl (a : Int), .inl (b : Int)] (zs h hl) (zI1 (h (12 + a) b) (zs h hl)) := by
  refine zQ_of (Nat.le_of_ble_eq_true rfl) ?_
  show zH d 52 (0, [some (.inr (.inr (some 3))), some (.inl (a : Int)), some (.inl (b : Int))], [], (zs h hl)) _
  refine zH_go 1 (c' := (1, [some (.inr (.inr (some 3))), some (.inl (a : Int)), some (.inl (b : Int))], [.inl (a : Int)], (zs h hl))) rfl ?_
  refine zH_br (x := (a : Int)) (y := 0) (k := .lt) (c1 := (20, [some (.inr (.inr (some 3))), some (.inl (a : Int)), some (.inl (b : Int))], [], (zs h hl))) (c2 := (4, [some (.inr (.inr (some 3))), some (.inl (a : Int)), some (.inl (b : Int))], [], (zs h hl))) rfl (by first | assumption | (unfold zr; omega)) ⟨by decide, by decide⟩ (fun (b_1 : (a : Int) < 0) => ?_) (fun (b_1 : ¬ ((a : Int) < 0)) => ?_)
  · refine zH_go 1 (c' := (22, [some (.inr (.inr (some 3))), some (.inl (a : Int)), some (.inl (b : Int))], [.inl 1000000], (zs h hl))) rfl ?_
    exact absurd (show (0:Int) ≤ (a:Int) ∧ (0:Int) ≤ (b:Int) by omega) (by omega)
  · refine zH_go 2 (c' := (7, [some (.inr (.inr (some 3))), some (.inl (a : Int)), some (.inl (b : Int))], [.inl 6, .inl (a : Int)], (zs h hl))) rfl ?_
    refine zH_br (x := (a : Int)) (y := 6) (k := .ge) (c1 := (20, [some (.inr (.inr (some 3))), some (.inl (a : Int)), some (.inl (b : Int))], [], (zs h hl))) (c2 := (10, [some (.inr (.inr (some 3))), some (.inl (a : Int)), some (.inl (b : Int))], [], (zs h hl))) rfl (by first | assumption | (unfold zr; omega)) ⟨by decide, by decide⟩ (fun (b_2 : ¬ (a : Int) < 6) => ?_) (fun (b_2 : ¬ (¬ (a : Int) < 6)) => ?_)
    · refine zH_go 1 (c' := (22, [some (.inr (.inr (some 3))), some (.inl (a : Int)), some (.inl (b : Int))], [.inl 1000000], (zs h hl))) rfl ?_
      exact absurd (show (0:Int) ≤ (a:Int) ∧ (0:Int) ≤ (b:Int) by omega) (by omega)
    · refine zH_go 1 (c' := (11, [some (.inr (.inr (some 3))), some (.inl (a : Int)), some (.inl (b : Int))], [.inl (b : Int)], (zs h hl))) rfl ?_
      refine zH_br (x := (b : Int)) (y := 0) (k := .lt) (c1 := (20, [some (.inr (.inr (some 3))), some (.inl (a : Int)), some (.inl (b : Int))], [], (zs h hl))) (c2 := (14, [some (.inr (.inr (some 3))), some (.inl (a : Int)), some (.inl (b : Int))], [], (zs h hl))) rfl (by first | assumption | (unfold zr; omega)) ⟨by decide, by decide⟩ (fun (b_3 : (b : Int) < 0) => ?_) (fun (b_3 : ¬ ((b : Int) < 0)) => ?_)
      · refine zH_go 1 (c' := (22, [some (.inr (.inr (some 3))), some (.inl (a : Int)), some (.inl (b : Int))], [.inl 1000000], (zs h hl))) rfl ?_
        exact absurd (show (0:Int) ≤ (a:Int) ∧ (0:Int) ≤ (b:Int) by omega) (by omega)
      · refine zH_go 2 (c' := (17, [some (.inr (.inr (some 3))), some (.inl (a : Int)), some (.inl (b : Int))], [.inl 6, .inl (b : Int)], (zs h hl))) rfl ?_
        refine zH_br (x := (b : Int)) (y := 6) (k := .lt) (c1 := (23, [some (.inr (.inr (some 3))), some (.inl (a : Int)), some (.inl (b : Int))], [], (zs h hl))) (c2 := (20, [some (.inr (.inr (some 3))), some (.inl (a : Int)), some (.inl (b : Int))], [], (zs h hl))) rfl (by first | assumption | (unfold zr; omega)) ⟨by decide, by decide⟩ (fun (b_4 : (b : Int) < 6) => ?_) (fun (b_4 : ¬ ((b : Int) < 6)) => ?_)
        · refine zH_go 3 (c' := (28, [some (.inr (.inr (some 3))), some (.inl (a : Int)), some (.inl (b : Int))], [.inl (a : Int), .inr (.inr (some 11))], (zs h hl))) rfl ?_
          refine zH_aal (A := 11) (n := 6) (b := 12 + a) rfl rfl (by omega) (by omega) (zhr_11 (by omega)) ?_
          show zH _ _ (29, [some (.inr (.inr (some 3))), some (.inl (a : Int)), some (.inl (b : Int))], [.inr (.inr (some (12 + a)))], (zs h hl)) _
          refine zH_go 1 (c' := (30, [some (.inr (.inr (some 3))), some (.inl (a : Int)), some (.inl (b : Int))], [.inl (b : Int), .inr (.inr (some (12 + a)))], (zs h hl))) rfl ?_
          refine zH_ial rfl (n := 6) (zsh_11 (by omega)) (by omega) (by omega) ?_
          show zH _ _ (31, [some (.inr (.inr (some 3))), some (.inl (a : Int)), some (.inl (b : Int))], [.inl (h (12 + a) b)], (zs h hl)) _
          refine zH_ret (v := some (.inl (h (12 + a) b))) rfl (fun q => absurd q (by decide)) ?_
          exact ⟨rfl, rfl⟩
        · refine zH_go 1 (c' := (22, [some (.inr (.inr (some 3))), some (.inl (a : Int)), some (.inl (b : Int))], [.inl 1000000], (zs h hl))) rfl ?_
          exact absurd (show (0:Int) ≤ (a:Int) ∧ (0:Int) ≤ (b:Int) by omega) (by omega)
