/-! Town: digits, places, distances. -/
set_option maxRecDepth 100000 in
set_option maxHeartbeats 4000000 in
theorem p_digit {d : Nat} {h hl : Nat → Nat → Int} {n i : Nat} (hn : n < 512) (hi : i < 3) : zQ (d + 1) 100 [.inl (n : Int), .inl (i : Int)] (zs h hl) (zI1 ((zdg n i : Nat) : Int) (zs h hl)) := by
  refine zQ_of (Nat.le_of_ble_eq_true rfl) ?_
  show zH d 100 (0, [some (.inl (n : Int)), some (.inl (i : Int))], [], (zs h hl)) _
  refine zH_go 7 (c' := (8, [some (.inl (n : Int)), some (.inl (i : Int))], [.inl (zand (zshr (n : Int) (3 * (i : Int))) 7)], (zs h hl))) rfl ?_
  refine zH_ret (v := some (.inl (zand (zshr (n : Int) (3 * (i : Int))) 7))) rfl (fun q => absurd q (by decide)) ?_
  exact ⟨congrArg (fun z => some (Sum.inl z)) (zdigit_ok n hn i hi), rfl⟩
set_option maxRecDepth 100000 in
set_option maxHeartbeats 4000000 in
theorem p_withDigit {d : Nat} {h hl : Nat → Nat → Int} {n i v : Nat} (hn : n < 512) (hi : i < 3) (hv : v < 8) : zQ (d + 1) 101 [.inl (n : Int), .inl (i : Int), .inl (v : Int)] (zs h hl) (zI1 ((zwd n i v : Nat) : Int) (zs h hl)) := by
  refine zQ_of (Nat.le_of_ble_eq_true rfl) ?_
  show zH d 101 (0, [some (.inl (n : Int)), some (.inl (i : Int)), some (.inl (v : Int))], [], (zs h hl)) _
  refine zH_go 15 (c' := (16, [some (.inl (n : Int)), some (.inl (i : Int)), some (.inl (v : Int))], [.inl (zor (zand (n : Int) (zxor (zshl 7 (3 * (i : Int))) (-1))) (zshl (v : Int) (3 * (i : Int))))], (zs h hl))) rfl ?_
  refine zH_ret (v := some (.inl (zor (zand (n : Int) (zxor (zshl 7 (3 * (i : Int))) (-1))) (zshl (v : Int) (3 * (i : Int)))))) rfl (fun q => absurd q (by decide)) ?_
  exact ⟨congrArg (fun z => some (Sum.inl z)) (zwdig_ok n hn i hi v hv), rfl⟩
set_option maxRecDepth 100000 in
set_option maxHeartbeats 4000000 in
theorem p_has {d : Nat} {h hl : Nat → Nat → Int} {x : Int} (hx : zr x) (hP : 0 ≤ h 3 0 ∧ h 3 0 ≤ 6) : zQ (d + 1) 48 [.inr (.inr (some 3)), .inl x] (zs h hl) (zB (0 ≤ x ∧ x < h 3 0 ∧ x < 6) (zs h hl)) := by
  refine zQ_of (Nat.le_of_ble_eq_true rfl) ?_
  show zH d 48 (0, [some (.inr (.inr (some 3))), some (.inl x)], [], (zs h hl)) _
  refine zH_go 1 (c' := (1, [some (.inr (.inr (some 3))), some (.inl x)], [.inl x], (zs h hl))) rfl ?_
  refine zH_br (x := x) (y := 0) (k := .lt) (c1 := (22, [some (.inr (.inr (some 3))), some (.inl x)], [], (zs h hl))) (c2 := (4, [some (.inr (.inr (some 3))), some (.inl x)], [], (zs h hl))) rfl (by first | assumption | (unfold zr; omega)) ⟨by decide, by decide⟩ (fun (b_1 : x < 0) => ?_) (fun (b_1 : ¬ (x < 0)) => ?_)
  · refine zH_go 1 (c' := (23, [some (.inr (.inr (some 3))), some (.inl x)], [.inl 0], (zs h hl))) rfl ?_
    refine zH_ret (v := some (.inl 0)) rfl (fun _ => by first | exact Or.inl rfl | exact Or.inr rfl) ?_
    exact Or.inr ⟨rfl, by omega, rfl⟩
  · refine zH_go 3 (c' := (9, [some (.inr (.inr (some 3))), some (.inl x)], [.inl (h 3 0), .inl x], (zs h hl))) rfl ?_
    refine zH_br (x := x) (y := (h 3 0)) (k := .ge) (c1 := (22, [some (.inr (.inr (some 3))), some (.inl x)], [], (zs h hl))) (c2 := (12, [some (.inr (.inr (some 3))), some (.inl x)], [], (zs h hl))) rfl (by first | assumption | (unfold zr; omega)) (by first | assumption | (unfold zr; omega)) (fun (b_2 : ¬ x < (h 3 0)) => ?_) (fun (b_2 : ¬ (¬ x < (h 3 0))) => ?_)
    · refine zH_go 1 (c' := (23, [some (.inr (.inr (some 3))), some (.inl x)], [.inl 0], (zs h hl))) rfl ?_
      refine zH_ret (v := some (.inl 0)) rfl (fun _ => by first | exact Or.inl rfl | exact Or.inr rfl) ?_
      exact Or.inr ⟨rfl, by omega, rfl⟩
    · refine zH_go 2 (c' := (15, [some (.inr (.inr (some 3))), some (.inl x)], [.inl 6, .inl x], (zs h hl))) rfl ?_
      refine zH_br (x := x) (y := 6) (k := .ge) (c1 := (22, [some (.inr (.inr (some 3))), some (.inl x)], [], (zs h hl))) (c2 := (18, [some (.inr (.inr (some 3))), some (.inl x)], [], (zs h hl))) rfl (by first | assumption | (unfold zr; omega)) ⟨by decide, by decide⟩ (fun (b_3 : ¬ x < 6) => ?_) (fun (b_3 : ¬ (¬ x < 6)) => ?_)
      · refine zH_go 1 (c' := (23, [some (.inr (.inr (some 3))), some (.inl x)], [.inl 0], (zs h hl))) rfl ?_
        refine zH_ret (v := some (.inl 0)) rfl (fun _ => by first | exact Or.inl rfl | exact Or.inr rfl) ?_
        exact Or.inr ⟨rfl, by omega, rfl⟩
      · refine zH_go 2 (c' := (23, [some (.inr (.inr (some 3))), some (.inl x)], [.inl 1], (zs h hl))) rfl ?_
        refine zH_ret (v := some (.inl 1)) rfl (fun _ => by first | exact Or.inl rfl | exact Or.inr rfl) ?_
        exact Or.inl ⟨rfl, by omega, rfl⟩
set_option maxRecDepth 100000 in
set_option maxHeartbeats 4000000 in
theorem p_gap {d : Nat} {h hl : Nat → Nat → Int} {a b : Nat} (ha : a < 6) (hb : b < 6) : zQ (d + 1) 52 [.inr (.inr (some 3)), .inl (a : Int), .inl (b : Int)] (zs h hl) (zI1 (h (12 + a) b) (zs h hl)) := by
  refine zQ_of (Nat.le_of_ble_eq_true rfl) ?_
  show zH d 52 (0, [some (.inr (.inr (some 3))), some (.inl (a : Int)), some (.inl (b : Int))], [], (zs h hl)) _
  refine zH_go 1 (c' := (1, [some (.inr (.inr (some 3))), some (.inl (a : Int)), some (.inl (b : Int))], [.inl (a : Int)], (zs h hl))) rfl ?_
  refine zH_br (x := (a : Int)) (y := 0) (k := .lt) (c1 := (20, [some (.inr (.inr (some 3))), some (.inl (a : Int)), some (.inl (b : Int))], [], (zs h hl))) (c2 := (4, [some (.inr (.inr (some 3))), some (.inl (a : Int)), some (.inl (b : Int))], [], (zs h hl))) rfl (by first | assumption | (unfold zr; omega)) ⟨by decide, by decide⟩ (fun (b_1 : (a : Int) < 0) => ?_) (fun (b_1 : ¬ ((a : Int) < 0)) => ?_)
  · refine zH_go 1 (c' := (22, [some (.inr (.inr (some 3))), some (.inl (a : Int)), some (.inl (b : Int))], [.inl 1000000], (zs h hl))) rfl ?_
    exfalso; omega
  · refine zH_go 2 (c' := (7, [some (.inr (.inr (some 3))), some (.inl (a : Int)), some (.inl (b : Int))], [.inl 6, .inl (a : Int)], (zs h hl))) rfl ?_
    refine zH_br (x := (a : Int)) (y := 6) (k := .ge) (c1 := (20, [some (.inr (.inr (some 3))), some (.inl (a : Int)), some (.inl (b : Int))], [], (zs h hl))) (c2 := (10, [some (.inr (.inr (some 3))), some (.inl (a : Int)), some (.inl (b : Int))], [], (zs h hl))) rfl (by first | assumption | (unfold zr; omega)) ⟨by decide, by decide⟩ (fun (b_2 : ¬ (a : Int) < 6) => ?_) (fun (b_2 : ¬ (¬ (a : Int) < 6)) => ?_)
    · refine zH_go 1 (c' := (22, [some (.inr (.inr (some 3))), some (.inl (a : Int)), some (.inl (b : Int))], [.inl 1000000], (zs h hl))) rfl ?_
      exfalso; omega
    · refine zH_go 1 (c' := (11, [some (.inr (.inr (some 3))), some (.inl (a : Int)), some (.inl (b : Int))], [.inl (b : Int)], (zs h hl))) rfl ?_
      refine zH_br (x := (b : Int)) (y := 0) (k := .lt) (c1 := (20, [some (.inr (.inr (some 3))), some (.inl (a : Int)), some (.inl (b : Int))], [], (zs h hl))) (c2 := (14, [some (.inr (.inr (some 3))), some (.inl (a : Int)), some (.inl (b : Int))], [], (zs h hl))) rfl (by first | assumption | (unfold zr; omega)) ⟨by decide, by decide⟩ (fun (b_3 : (b : Int) < 0) => ?_) (fun (b_3 : ¬ ((b : Int) < 0)) => ?_)
      · refine zH_go 1 (c' := (22, [some (.inr (.inr (some 3))), some (.inl (a : Int)), some (.inl (b : Int))], [.inl 1000000], (zs h hl))) rfl ?_
        exfalso; omega
      · refine zH_go 2 (c' := (17, [some (.inr (.inr (some 3))), some (.inl (a : Int)), some (.inl (b : Int))], [.inl 6, .inl (b : Int)], (zs h hl))) rfl ?_
        refine zH_br (x := (b : Int)) (y := 6) (k := .lt) (c1 := (23, [some (.inr (.inr (some 3))), some (.inl (a : Int)), some (.inl (b : Int))], [], (zs h hl))) (c2 := (20, [some (.inr (.inr (some 3))), some (.inl (a : Int)), some (.inl (b : Int))], [], (zs h hl))) rfl (by first | assumption | (unfold zr; omega)) ⟨by decide, by decide⟩ (fun (b_4 : (b : Int) < 6) => ?_) (fun (b_4 : ¬ ((b : Int) < 6)) => ?_)
        · refine zH_go 3 (c' := (28, [some (.inr (.inr (some 3))), some (.inl (a : Int)), some (.inl (b : Int))], [.inl (a : Int), .inr (.inr (some 11))], (zs h hl))) rfl ?_
          refine zH_aal (A := 11) (n := 6) (b := 12 + a) rfl rfl (by omega) (by omega) (zhr_11 (by omega)) ?_
          show zH _ _ (29, [some (.inr (.inr (some 3))), some (.inl (a : Int)), some (.inl (b : Int))], [.inr (.inr (some (12 + a)))], (zs h hl)) _
          refine zH_go 1 (c' := (30, [some (.inr (.inr (some 3))), some (.inl (a : Int)), some (.inl (b : Int))], [.inl (b : Int), .inr (.inr (some (12 + a)))], (zs h hl))) rfl ?_
          refine zH_ial rfl (n := 6) (zsh_11 (by omega)) (by omega) (by omega) ?_
          show zH _ _ (31, [some (.inr (.inr (some 3))), some (.inl (a : Int)), some (.inl (b : Int))], [.inl (h (12 + a) b)], (zs h hl)) _
          refine zH_ret (v := some (.inl (h (12 + a) b))) rfl (fun q => absurd q (by decide)) ?_
          exact ⟨rfl, rfl⟩
        · refine zH_go 1 (c' := (22, [some (.inr (.inr (some 3))), some (.inl (a : Int)), some (.inl (b : Int))], [.inl 1000000], (zs h hl))) rfl ?_
          exfalso; omega
/-- a number that tells a STAND of L LADDERS at P PLACES -/
def zStd (P : Int) (L : Nat) (x : Int) : Prop := 0 ≤ x ∧ x < ((8 ^ L : Nat) : Int) ∧ ∀ i : Nat, i < L → ((zdg x.toNat i : Nat) : Int) < P
set_option maxRecDepth 100000 in
set_option maxHeartbeats 4000000 in
theorem p_hasAll1 {d : Nat} {h hl : Nat → Nat → Int} {x : Int} (hx : zr x) (hP : 0 ≤ h 3 0 ∧ h 3 0 ≤ 6) : zQ (d + 2) 49 [.inr (.inr (some 3)), .inl x, .inl 1] (zs h hl) (zB (zStd (h 3 0) 1 x) (zs h hl)) := by
  have hx2 : -2147483648 ≤ x ∧ x ≤ 2147483647 := hx
  have hs : zshr x 3 = x / 8 := zshr_k hx 3 3 (by decide)
  refine zQ_of (Nat.le_of_ble_eq_true rfl) ?_
  show zH (d + 1) 49 (0, [some (.inr (.inr (some 3))), some (.inl x), some (.inl 1), none], [], (zs h hl)) _
  refine zH_go 1 (c' := (1, [some (.inr (.inr (some 3))), some (.inl x), some (.inl 1), none], [.inl x], (zs h hl))) rfl ?_
  refine zH_br (x := x) (y := 0) (k := .lt) (c1 := (12, [some (.inr (.inr (some 3))), some (.inl x), some (.inl 1), none], [], (zs h hl))) (c2 := (4, [some (.inr (.inr (some 3))), some (.inl x), some (.inl 1), none], [], (zs h hl))) rfl (by first | assumption | (unfold zr; omega)) ⟨by decide, by decide⟩ (fun (b_1 : x < 0) => ?_) (fun (b_1 : ¬ (x < 0)) => ?_)
  · refine zH_go 1 (c' := (13, [some (.inr (.inr (some 3))), some (.inl x), some (.inl 1), none], [.inl 0], (zs h hl))) rfl ?_
    refine zH_ret (v := some (.inl 0)) rfl (fun _ => by first | exact Or.inl rfl | exact Or.inr rfl) ?_
    refine Or.inr ⟨rfl, fun q => ?_, rfl⟩
    have q1 := q.1
    have q2 := q.2.1
    omega
  · refine zH_go 5 (c' := (9, [some (.inr (.inr (some 3))), some (.inl x), some (.inl 1), none], [.inl (zshr x 3)], (zs h hl))) rfl ?_
    refine zH_br (x := (zshr x 3)) (y := 0) (k := .eq) (c1 := (14, [some (.inr (.inr (some 3))), some (.inl x), some (.inl 1), none], [], (zs h hl))) (c2 := (12, [some (.inr (.inr (some 3))), some (.inl x), some (.inl 1), none], [], (zs h hl))) rfl (by first | assumption | (unfold zr; omega)) ⟨by decide, by decide⟩ (fun (b_2 : (zshr x 3) = 0) => ?_) (fun (b_2 : ¬ ((zshr x 3) = 0)) => ?_)
    · obtain ⟨n, rfl⟩ := Int.eq_ofNat_of_zero_le (show 0 ≤ x by omega)
      have hn : n < 512 := by omega
      have g0 := zdg_lt n 0
      show zH _ _ (14, [some (.inr (.inr (some 3))), some (.inl (n : Int)), some (.inl 1), none], [], (zs h hl)) _
      refine zH_go 4 (c' := (18, [some (.inr (.inr (some 3))), some (.inl (n : Int)), some (.inl 1), some (.inl 0)], [.inl 1, .inl 0], (zs h hl))) rfl ?_
      refine zH_bf (x := 0) (y := 1) (k := .ge) (c1 := (41, [some (.inr (.inr (some 3))), some (.inl (n : Int)), some (.inl 1), some (.inl 0)], [], (zs h hl))) (c2 := (21, [some (.inr (.inr (some 3))), some (.inl (n : Int)), some (.inl 1), some (.inl 0)], [], (zs h hl))) rfl ⟨by decide, by decide⟩ ⟨by decide, by decide⟩ (by show ¬ (¬ 0 < 1); decide) ?_
      refine zH_go 3 (c' := (24, [some (.inr (.inr (some 3))), some (.inl (n : Int)), some (.inl 1), some (.inl 0)], [.inl 0, .inl (n : Int), .inr (.inr (some 3))], (zs h hl))) rfl ?_
      refine zH_call (M' := 100) (as := [.inl (n : Int), .inl 0]) (T := [.inr (.inr (some 3))]) rfl (p_digit (n := n) (i := 0) hn (by decide)) (fun r σ' p_3 => ?_)
      obtain ⟨rfl, rfl⟩ := p_3
      show zH _ _ (27, [some (.inr (.inr (some 3))), some (.inl (n : Int)), some (.inl 1), some (.inl 0)], [.inl ((zdg n 0 : Nat) : Int), .inr (.inr (some 3))], (zs h hl)) _
      refine zH_call (M' := 48) (as := [.inr (.inr (some 3)), .inl ((zdg n 0 : Nat) : Int)]) (T := []) rfl (p_has (by first | assumption | (unfold zr; omega)) hP) (fun r σ' p_4 => ?_)
      rcases p_4 with ⟨rfl, b_5, rfl⟩ | ⟨rfl, b_5, rfl⟩
      · show zH _ _ (30, [some (.inr (.inr (some 3))), some (.inl (n : Int)), some (.inl 1), some (.inl 0)], [.inl 1], (zs h hl)) _
        refine zH_bt (x := 1) (y := 0) (k := .ne) (c1 := (35, [some (.inr (.inr (some 3))), some (.inl (n : Int)), some (.inl 1), some (.inl 0)], [], (zs h hl))) (c2 := (33, [some (.inr (.inr (some 3))), some (.inl (n : Int)), some (.inl 1), some (.inl 0)], [], (zs h hl))) rfl ⟨by decide, by decide⟩ ⟨by decide, by decide⟩ (by show ¬ 1 = 0; decide) ?_
        refine zH_go 4 (c' := (18, [some (.inr (.inr (some 3))), some (.inl (n : Int)), some (.inl 1), some (.inl 1)], [.inl 1, .inl 1], (zs h hl))) rfl ?_
        refine zH_bt (x := 1) (y := 1) (k := .ge) (c1 := (41, [some (.inr (.inr (some 3))), some (.inl (n : Int)), some (.inl 1), some (.inl 1)], [], (zs h hl))) (c2 := (21, [some (.inr (.inr (some 3))), some (.inl (n : Int)), some (.inl 1), some (.inl 1)], [], (zs h hl))) rfl ⟨by decide, by decide⟩ ⟨by decide, by decide⟩ (by show ¬ 1 < 1; decide) ?_
        refine zH_go 1 (c' := (42, [some (.inr (.inr (some 3))), some (.inl (n : Int)), some (.inl 1), some (.inl 1)], [.inl 1], (zs h hl))) rfl ?_
        refine zH_ret (v := some (.inl 1)) rfl (fun _ => by first | exact Or.inl rfl | exact Or.inr rfl) ?_
        exact Or.inl ⟨rfl, ⟨by omega, by omega, fun i hi => by
          rw [Int.toNat_natCast]
          rcases (show i = 0 by omega) with rfl <;> omega⟩, rfl⟩
      · show zH _ _ (30, [some (.inr (.inr (some 3))), some (.inl (n : Int)), some (.inl 1), some (.inl 0)], [.inl 0], (zs h hl)) _
        refine zH_bf (x := 0) (y := 0) (k := .ne) (c1 := (35, [some (.inr (.inr (some 3))), some (.inl (n : Int)), some (.inl 1), some (.inl 0)], [], (zs h hl))) (c2 := (33, [some (.inr (.inr (some 3))), some (.inl (n : Int)), some (.inl 1), some (.inl 0)], [], (zs h hl))) rfl ⟨by decide, by decide⟩ ⟨by decide, by decide⟩ (by show ¬ (¬ 0 = 0); decide) ?_
        refine zH_go 1 (c' := (34, [some (.inr (.inr (some 3))), some (.inl (n : Int)), some (.inl 1), some (.inl 0)], [.inl 0], (zs h hl))) rfl ?_
        refine zH_ret (v := some (.inl 0)) rfl (fun _ => by first | exact Or.inl rfl | exact Or.inr rfl) ?_
        refine Or.inr ⟨rfl, fun q => ?_, rfl⟩
        have hq := q.2.2
        rw [Int.toNat_natCast] at hq
        have q0 := hq 0 (by decide)
        omega
    · refine zH_go 1 (c' := (13, [some (.inr (.inr (some 3))), some (.inl x), some (.inl 1), none], [.inl 0], (zs h hl))) rfl ?_
      refine zH_ret (v := some (.inl 0)) rfl (fun _ => by first | exact Or.inl rfl | exact Or.inr rfl) ?_
      refine Or.inr ⟨rfl, fun q => ?_, rfl⟩
      have q1 := q.1
      have q2 := q.2.1
      omega
set_option maxRecDepth 100000 in
set_option maxHeartbeats 4000000 in
theorem p_hasAll2 {d : Nat} {h hl : Nat → Nat → Int} {x : Int} (hx : zr x) (hP : 0 ≤ h 3 0 ∧ h 3 0 ≤ 6) : zQ (d + 2) 49 [.inr (.inr (some 3)), .inl x, .inl 2] (zs h hl) (zB (zStd (h 3 0) 2 x) (zs h hl)) := by
  have hx2 : -2147483648 ≤ x ∧ x ≤ 2147483647 := hx
  have hs : zshr x 6 = x / 64 := zshr_k hx 6 6 (by decide)
  refine zQ_of (Nat.le_of_ble_eq_true rfl) ?_
  show zH (d + 1) 49 (0, [some (.inr (.inr (some 3))), some (.inl x), some (.inl 2), none], [], (zs h hl)) _
  refine zH_go 1 (c' := (1, [some (.inr (.inr (some 3))), some (.inl x), some (.inl 2), none], [.inl x], (zs h hl))) rfl ?_
  refine zH_br (x := x) (y := 0) (k := .lt) (c1 := (12, [some (.inr (.inr (some 3))), some (.inl x), some (.inl 2), none], [], (zs h hl))) (c2 := (4, [some (.inr (.inr (some 3))), some (.inl x), some (.inl 2), none], [], (zs h hl))) rfl (by first | assumption | (unfold zr; omega)) ⟨by decide, by decide⟩ (fun (b_1 : x < 0) => ?_) (fun (b_1 : ¬ (x < 0)) => ?_)
  · refine zH_go 1 (c' := (13, [some (.inr (.inr (some 3))), some (.inl x), some (.inl 2), none], [.inl 0], (zs h hl))) rfl ?_
    refine zH_ret (v := some (.inl 0)) rfl (fun _ => by first | exact Or.inl rfl | exact Or.inr rfl) ?_
    refine Or.inr ⟨rfl, fun q => ?_, rfl⟩
    have q1 := q.1
    have q2 := q.2.1
    omega
  · refine zH_go 5 (c' := (9, [some (.inr (.inr (some 3))), some (.inl x), some (.inl 2), none], [.inl (zshr x 6)], (zs h hl))) rfl ?_
    refine zH_br (x := (zshr x 6)) (y := 0) (k := .eq) (c1 := (14, [some (.inr (.inr (some 3))), some (.inl x), some (.inl 2), none], [], (zs h hl))) (c2 := (12, [some (.inr (.inr (some 3))), some (.inl x), some (.inl 2), none], [], (zs h hl))) rfl (by first | assumption | (unfold zr; omega)) ⟨by decide, by decide⟩ (fun (b_2 : (zshr x 6) = 0) => ?_) (fun (b_2 : ¬ ((zshr x 6) = 0)) => ?_)
    · obtain ⟨n, rfl⟩ := Int.eq_ofNat_of_zero_le (show 0 ≤ x by omega)
      have hn : n < 512 := by omega
      have g0 := zdg_lt n 0
      have g1 := zdg_lt n 1
      show zH _ _ (14, [some (.inr (.inr (some 3))), some (.inl (n : Int)), some (.inl 2), none], [], (zs h hl)) _
      refine zH_go 4 (c' := (18, [some (.inr (.inr (some 3))), some (.inl (n : Int)), some (.inl 2), some (.inl 0)], [.inl 2, .inl 0], (zs h hl))) rfl ?_
      refine zH_bf (x := 0) (y := 2) (k := .ge) (c1 := (41, [some (.inr (.inr (some 3))), some (.inl (n : Int)), some (.inl 2), some (.inl 0)], [], (zs h hl))) (c2 := (21, [some (.inr (.inr (some 3))), some (.inl (n : Int)), some (.inl 2), some (.inl 0)], [], (zs h hl))) rfl ⟨by decide, by decide⟩ ⟨by decide, by decide⟩ (by show ¬ (¬ 0 < 2); decide) ?_
      refine zH_go 3 (c' := (24, [some (.inr (.inr (some 3))), some (.inl (n : Int)), some (.inl 2), some (.inl 0)], [.inl 0, .inl (n : Int), .inr (.inr (some 3))], (zs h hl))) rfl ?_
      refine zH_call (M' := 100) (as := [.inl (n : Int), .inl 0]) (T := [.inr (.inr (some 3))]) rfl (p_digit (n := n) (i := 0) hn (by decide)) (fun r σ' p_3 => ?_)
      obtain ⟨rfl, rfl⟩ := p_3
      show zH _ _ (27, [some (.inr (.inr (some 3))), some (.inl (n : Int)), some (.inl 2), some (.inl 0)], [.inl ((zdg n 0 : Nat) : Int), .inr (.inr (some 3))], (zs h hl)) _
      refine zH_call (M' := 48) (as := [.inr (.inr (some 3)), .inl ((zdg n 0 : Nat) : Int)]) (T := []) rfl (p_has (by first | assumption | (unfold zr; omega)) hP) (fun r σ' p_4 => ?_)
      rcases p_4 with ⟨rfl, b_5, rfl⟩ | ⟨rfl, b_5, rfl⟩
      · show zH _ _ (30, [some (.inr (.inr (some 3))), some (.inl (n : Int)), some (.inl 2), some (.inl 0)], [.inl 1], (zs h hl)) _
        refine zH_bt (x := 1) (y := 0) (k := .ne) (c1 := (35, [some (.inr (.inr (some 3))), some (.inl (n : Int)), some (.inl 2), some (.inl 0)], [], (zs h hl))) (c2 := (33, [some (.inr (.inr (some 3))), some (.inl (n : Int)), some (.inl 2), some (.inl 0)], [], (zs h hl))) rfl ⟨by decide, by decide⟩ ⟨by decide, by decide⟩ (by show ¬ 1 = 0; decide) ?_
        refine zH_go 4 (c' := (18, [some (.inr (.inr (some 3))), some (.inl (n : Int)), some (.inl 2), some (.inl 1)], [.inl 2, .inl 1], (zs h hl))) rfl ?_
        refine zH_bf (x := 1) (y := 2) (k := .ge) (c1 := (41, [some (.inr (.inr (some 3))), some (.inl (n : Int)), some (.inl 2), some (.inl 1)], [], (zs h hl))) (c2 := (21, [some (.inr (.inr (some 3))), some (.inl (n : Int)), some (.inl 2), some (.inl 1)], [], (zs h hl))) rfl ⟨by decide, by decide⟩ ⟨by decide, by decide⟩ (by show ¬ (¬ 1 < 2); decide) ?_
        refine zH_go 3 (c' := (24, [some (.inr (.inr (some 3))), some (.inl (n : Int)), some (.inl 2), some (.inl 1)], [.inl 1, .inl (n : Int), .inr (.inr (some 3))], (zs h hl))) rfl ?_
        refine zH_call (M' := 100) (as := [.inl (n : Int), .inl 1]) (T := [.inr (.inr (some 3))]) rfl (p_digit (n := n) (i := 1) hn (by decide)) (fun r σ' p_6 => ?_)
        obtain ⟨rfl, rfl⟩ := p_6
        show zH _ _ (27, [some (.inr (.inr (some 3))), some (.inl (n : Int)), some (.inl 2), some (.inl 1)], [.inl ((zdg n 1 : Nat) : Int), .inr (.inr (some 3))], (zs h hl)) _
        refine zH_call (M' := 48) (as := [.inr (.inr (some 3)), .inl ((zdg n 1 : Nat) : Int)]) (T := []) rfl (p_has (by first | assumption | (unfold zr; omega)) hP) (fun r σ' p_7 => ?_)
        rcases p_7 with ⟨rfl, b_8, rfl⟩ | ⟨rfl, b_8, rfl⟩
        · show zH _ _ (30, [some (.inr (.inr (some 3))), some (.inl (n : Int)), some (.inl 2), some (.inl 1)], [.inl 1], (zs h hl)) _
          refine zH_bt (x := 1) (y := 0) (k := .ne) (c1 := (35, [some (.inr (.inr (some 3))), some (.inl (n : Int)), some (.inl 2), some (.inl 1)], [], (zs h hl))) (c2 := (33, [some (.inr (.inr (some 3))), some (.inl (n : Int)), some (.inl 2), some (.inl 1)], [], (zs h hl))) rfl ⟨by decide, by decide⟩ ⟨by decide, by decide⟩ (by show ¬ 1 = 0; decide) ?_
          refine zH_go 4 (c' := (18, [some (.inr (.inr (some 3))), some (.inl (n : Int)), some (.inl 2), some (.inl 2)], [.inl 2, .inl 2], (zs h hl))) rfl ?_
          refine zH_bt (x := 2) (y := 2) (k := .ge) (c1 := (41, [some (.inr (.inr (some 3))), some (.inl (n : Int)), some (.inl 2), some (.inl 2)], [], (zs h hl))) (c2 := (21, [some (.inr (.inr (some 3))), some (.inl (n : Int)), some (.inl 2), some (.inl 2)], [], (zs h hl))) rfl ⟨by decide, by decide⟩ ⟨by decide, by decide⟩ (by show ¬ 2 < 2; decide) ?_
          refine zH_go 1 (c' := (42, [some (.inr (.inr (some 3))), some (.inl (n : Int)), some (.inl 2), some (.inl 2)], [.inl 1], (zs h hl))) rfl ?_
          refine zH_ret (v := some (.inl 1)) rfl (fun _ => by first | exact Or.inl rfl | exact Or.inr rfl) ?_
          exact Or.inl ⟨rfl, ⟨by omega, by omega, fun i hi => by
            rw [Int.toNat_natCast]
            rcases (show i = 0 ∨ i = 1 by omega) with rfl | rfl <;> omega⟩, rfl⟩
        · show zH _ _ (30, [some (.inr (.inr (some 3))), some (.inl (n : Int)), some (.inl 2), some (.inl 1)], [.inl 0], (zs h hl)) _
          refine zH_bf (x := 0) (y := 0) (k := .ne) (c1 := (35, [some (.inr (.inr (some 3))), some (.inl (n : Int)), some (.inl 2), some (.inl 1)], [], (zs h hl))) (c2 := (33, [some (.inr (.inr (some 3))), some (.inl (n : Int)), some (.inl 2), some (.inl 1)], [], (zs h hl))) rfl ⟨by decide, by decide⟩ ⟨by decide, by decide⟩ (by show ¬ (¬ 0 = 0); decide) ?_
          refine zH_go 1 (c' := (34, [some (.inr (.inr (some 3))), some (.inl (n : Int)), some (.inl 2), some (.inl 1)], [.inl 0], (zs h hl))) rfl ?_
          refine zH_ret (v := some (.inl 0)) rfl (fun _ => by first | exact Or.inl rfl | exact Or.inr rfl) ?_
          refine Or.inr ⟨rfl, fun q => ?_, rfl⟩
          have hq := q.2.2
          rw [Int.toNat_natCast] at hq
          have q0 := hq 0 (by decide)
          have q1 := hq 1 (by decide)
          omega
      · show zH _ _ (30, [some (.inr (.inr (some 3))), some (.inl (n : Int)), some (.inl 2), some (.inl 0)], [.inl 0], (zs h hl)) _
        refine zH_bf (x := 0) (y := 0) (k := .ne) (c1 := (35, [some (.inr (.inr (some 3))), some (.inl (n : Int)), some (.inl 2), some (.inl 0)], [], (zs h hl))) (c2 := (33, [some (.inr (.inr (some 3))), some (.inl (n : Int)), some (.inl 2), some (.inl 0)], [], (zs h hl))) rfl ⟨by decide, by decide⟩ ⟨by decide, by decide⟩ (by show ¬ (¬ 0 = 0); decide) ?_
        refine zH_go 1 (c' := (34, [some (.inr (.inr (some 3))), some (.inl (n : Int)), some (.inl 2), some (.inl 0)], [.inl 0], (zs h hl))) rfl ?_
        refine zH_ret (v := some (.inl 0)) rfl (fun _ => by first | exact Or.inl rfl | exact Or.inr rfl) ?_
        refine Or.inr ⟨rfl, fun q => ?_, rfl⟩
        have hq := q.2.2
        rw [Int.toNat_natCast] at hq
        have q0 := hq 0 (by decide)
        have q1 := hq 1 (by decide)
        omega
    · refine zH_go 1 (c' := (13, [some (.inr (.inr (some 3))), some (.inl x), some (.inl 2), none], [.inl 0], (zs h hl))) rfl ?_
      refine zH_ret (v := some (.inl 0)) rfl (fun _ => by first | exact Or.inl rfl | exact Or.inr rfl) ?_
      refine Or.inr ⟨rfl, fun q => ?_, rfl⟩
      have q1 := q.1
      have q2 := q.2.1
      omega
set_option maxRecDepth 100000 in
set_option maxHeartbeats 4000000 in
theorem p_hasAll3 {d : Nat} {h hl : Nat → Nat → Int} {x : Int} (hx : zr x) (hP : 0 ≤ h 3 0 ∧ h 3 0 ≤ 6) : zQ (d + 2) 49 [.inr (.inr (some 3)), .inl x, .inl 3] (zs h hl) (zB (zStd (h 3 0) 3 x) (zs h hl)) := by
  have hx2 : -2147483648 ≤ x ∧ x ≤ 2147483647 := hx
  have hs : zshr x 9 = x / 512 := zshr_k hx 9 9 (by decide)
  refine zQ_of (Nat.le_of_ble_eq_true rfl) ?_
  show zH (d + 1) 49 (0, [some (.inr (.inr (some 3))), some (.inl x), some (.inl 3), none], [], (zs h hl)) _
  refine zH_go 1 (c' := (1, [some (.inr (.inr (some 3))), some (.inl x), some (.inl 3), none], [.inl x], (zs h hl))) rfl ?_
  refine zH_br (x := x) (y := 0) (k := .lt) (c1 := (12, [some (.inr (.inr (some 3))), some (.inl x), some (.inl 3), none], [], (zs h hl))) (c2 := (4, [some (.inr (.inr (some 3))), some (.inl x), some (.inl 3), none], [], (zs h hl))) rfl (by first | assumption | (unfold zr; omega)) ⟨by decide, by decide⟩ (fun (b_1 : x < 0) => ?_) (fun (b_1 : ¬ (x < 0)) => ?_)
  · refine zH_go 1 (c' := (13, [some (.inr (.inr (some 3))), some (.inl x), some (.inl 3), none], [.inl 0], (zs h hl))) rfl ?_
    refine zH_ret (v := some (.inl 0)) rfl (fun _ => by first | exact Or.inl rfl | exact Or.inr rfl) ?_
    refine Or.inr ⟨rfl, fun q => ?_, rfl⟩
    have q1 := q.1
    have q2 := q.2.1
    omega
  · refine zH_go 5 (c' := (9, [some (.inr (.inr (some 3))), some (.inl x), some (.inl 3), none], [.inl (zshr x 9)], (zs h hl))) rfl ?_
    refine zH_br (x := (zshr x 9)) (y := 0) (k := .eq) (c1 := (14, [some (.inr (.inr (some 3))), some (.inl x), some (.inl 3), none], [], (zs h hl))) (c2 := (12, [some (.inr (.inr (some 3))), some (.inl x), some (.inl 3), none], [], (zs h hl))) rfl (by first | assumption | (unfold zr; omega)) ⟨by decide, by decide⟩ (fun (b_2 : (zshr x 9) = 0) => ?_) (fun (b_2 : ¬ ((zshr x 9) = 0)) => ?_)
    · obtain ⟨n, rfl⟩ := Int.eq_ofNat_of_zero_le (show 0 ≤ x by omega)
      have hn : n < 512 := by omega
      have g0 := zdg_lt n 0
      have g1 := zdg_lt n 1
      have g2 := zdg_lt n 2
      show zH _ _ (14, [some (.inr (.inr (some 3))), some (.inl (n : Int)), some (.inl 3), none], [], (zs h hl)) _
      refine zH_go 4 (c' := (18, [some (.inr (.inr (some 3))), some (.inl (n : Int)), some (.inl 3), some (.inl 0)], [.inl 3, .inl 0], (zs h hl))) rfl ?_
      refine zH_bf (x := 0) (y := 3) (k := .ge) (c1 := (41, [some (.inr (.inr (some 3))), some (.inl (n : Int)), some (.inl 3), some (.inl 0)], [], (zs h hl))) (c2 := (21, [some (.inr (.inr (some 3))), some (.inl (n : Int)), some (.inl 3), some (.inl 0)], [], (zs h hl))) rfl ⟨by decide, by decide⟩ ⟨by decide, by decide⟩ (by show ¬ (¬ 0 < 3); decide) ?_
      refine zH_go 3 (c' := (24, [some (.inr (.inr (some 3))), some (.inl (n : Int)), some (.inl 3), some (.inl 0)], [.inl 0, .inl (n : Int), .inr (.inr (some 3))], (zs h hl))) rfl ?_
      refine zH_call (M' := 100) (as := [.inl (n : Int), .inl 0]) (T := [.inr (.inr (some 3))]) rfl (p_digit (n := n) (i := 0) hn (by decide)) (fun r σ' p_3 => ?_)
      obtain ⟨rfl, rfl⟩ := p_3
      show zH _ _ (27, [some (.inr (.inr (some 3))), some (.inl (n : Int)), some (.inl 3), some (.inl 0)], [.inl ((zdg n 0 : Nat) : Int), .inr (.inr (some 3))], (zs h hl)) _
      refine zH_call (M' := 48) (as := [.inr (.inr (some 3)), .inl ((zdg n 0 : Nat) : Int)]) (T := []) rfl (p_has (by first | assumption | (unfold zr; omega)) hP) (fun r σ' p_4 => ?_)
      rcases p_4 with ⟨rfl, b_5, rfl⟩ | ⟨rfl, b_5, rfl⟩
      · show zH _ _ (30, [some (.inr (.inr (some 3))), some (.inl (n : Int)), some (.inl 3), some (.inl 0)], [.inl 1], (zs h hl)) _
        refine zH_bt (x := 1) (y := 0) (k := .ne) (c1 := (35, [some (.inr (.inr (some 3))), some (.inl (n : Int)), some (.inl 3), some (.inl 0)], [], (zs h hl))) (c2 := (33, [some (.inr (.inr (some 3))), some (.inl (n : Int)), some (.inl 3), some (.inl 0)], [], (zs h hl))) rfl ⟨by decide, by decide⟩ ⟨by decide, by decide⟩ (by show ¬ 1 = 0; decide) ?_
        refine zH_go 4 (c' := (18, [some (.inr (.inr (some 3))), some (.inl (n : Int)), some (.inl 3), some (.inl 1)], [.inl 3, .inl 1], (zs h hl))) rfl ?_
        refine zH_bf (x := 1) (y := 3) (k := .ge) (c1 := (41, [some (.inr (.inr (some 3))), some (.inl (n : Int)), some (.inl 3), some (.inl 1)], [], (zs h hl))) (c2 := (21, [some (.inr (.inr (some 3))), some (.inl (n : Int)), some (.inl 3), some (.inl 1)], [], (zs h hl))) rfl ⟨by decide, by decide⟩ ⟨by decide, by decide⟩ (by show ¬ (¬ 1 < 3); decide) ?_
        refine zH_go 3 (c' := (24, [some (.inr (.inr (some 3))), some (.inl (n : Int)), some (.inl 3), some (.inl 1)], [.inl 1, .inl (n : Int), .inr (.inr (some 3))], (zs h hl))) rfl ?_
        refine zH_call (M' := 100) (as := [.inl (n : Int), .inl 1]) (T := [.inr (.inr (some 3))]) rfl (p_digit (n := n) (i := 1) hn (by decide)) (fun r σ' p_6 => ?_)
        obtain ⟨rfl, rfl⟩ := p_6
        show zH _ _ (27, [some (.inr (.inr (some 3))), some (.inl (n : Int)), some (.inl 3), some (.inl 1)], [.inl ((zdg n 1 : Nat) : Int), .inr (.inr (some 3))], (zs h hl)) _
        refine zH_call (M' := 48) (as := [.inr (.inr (some 3)), .inl ((zdg n 1 : Nat) : Int)]) (T := []) rfl (p_has (by first | assumption | (unfold zr; omega)) hP) (fun r σ' p_7 => ?_)
        rcases p_7 with ⟨rfl, b_8, rfl⟩ | ⟨rfl, b_8, rfl⟩
        · show zH _ _ (30, [some (.inr (.inr (some 3))), some (.inl (n : Int)), some (.inl 3), some (.inl 1)], [.inl 1], (zs h hl)) _
          refine zH_bt (x := 1) (y := 0) (k := .ne) (c1 := (35, [some (.inr (.inr (some 3))), some (.inl (n : Int)), some (.inl 3), some (.inl 1)], [], (zs h hl))) (c2 := (33, [some (.inr (.inr (some 3))), some (.inl (n : Int)), some (.inl 3), some (.inl 1)], [], (zs h hl))) rfl ⟨by decide, by decide⟩ ⟨by decide, by decide⟩ (by show ¬ 1 = 0; decide) ?_
          refine zH_go 4 (c' := (18, [some (.inr (.inr (some 3))), some (.inl (n : Int)), some (.inl 3), some (.inl 2)], [.inl 3, .inl 2], (zs h hl))) rfl ?_
          refine zH_bf (x := 2) (y := 3) (k := .ge) (c1 := (41, [some (.inr (.inr (some 3))), some (.inl (n : Int)), some (.inl 3), some (.inl 2)], [], (zs h hl))) (c2 := (21, [some (.inr (.inr (some 3))), some (.inl (n : Int)), some (.inl 3), some (.inl 2)], [], (zs h hl))) rfl ⟨by decide, by decide⟩ ⟨by decide, by decide⟩ (by show ¬ (¬ 2 < 3); decide) ?_
          refine zH_go 3 (c' := (24, [some (.inr (.inr (some 3))), some (.inl (n : Int)), some (.inl 3), some (.inl 2)], [.inl 2, .inl (n : Int), .inr (.inr (some 3))], (zs h hl))) rfl ?_
          refine zH_call (M' := 100) (as := [.inl (n : Int), .inl 2]) (T := [.inr (.inr (some 3))]) rfl (p_digit (n := n) (i := 2) hn (by decide)) (fun r σ' p_9 => ?_)
          obtain ⟨rfl, rfl⟩ := p_9
          show zH _ _ (27, [some (.inr (.inr (some 3))), some (.inl (n : Int)), some (.inl 3), some (.inl 2)], [.inl ((zdg n 2 : Nat) : Int), .inr (.inr (some 3))], (zs h hl)) _
          refine zH_call (M' := 48) (as := [.inr (.inr (some 3)), .inl ((zdg n 2 : Nat) : Int)]) (T := []) rfl (p_has (by first | assumption | (unfold zr; omega)) hP) (fun r σ' p_10 => ?_)
          rcases p_10 with ⟨rfl, b_11, rfl⟩ | ⟨rfl, b_11, rfl⟩
          · show zH _ _ (30, [some (.inr (.inr (some 3))), some (.inl (n : Int)), some (.inl 3), some (.inl 2)], [.inl 1], (zs h hl)) _
            refine zH_bt (x := 1) (y := 0) (k := .ne) (c1 := (35, [some (.inr (.inr (some 3))), some (.inl (n : Int)), some (.inl 3), some (.inl 2)], [], (zs h hl))) (c2 := (33, [some (.inr (.inr (some 3))), some (.inl (n : Int)), some (.inl 3), some (.inl 2)], [], (zs h hl))) rfl ⟨by decide, by decide⟩ ⟨by decide, by decide⟩ (by show ¬ 1 = 0; decide) ?_
            refine zH_go 4 (c' := (18, [some (.inr (.inr (some 3))), some (.inl (n : Int)), some (.inl 3), some (.inl 3)], [.inl 3, .inl 3], (zs h hl))) rfl ?_
            refine zH_bt (x := 3) (y := 3) (k := .ge) (c1 := (41, [some (.inr (.inr (some 3))), some (.inl (n : Int)), some (.inl 3), some (.inl 3)], [], (zs h hl))) (c2 := (21, [some (.inr (.inr (some 3))), some (.inl (n : Int)), some (.inl 3), some (.inl 3)], [], (zs h hl))) rfl ⟨by decide, by decide⟩ ⟨by decide, by decide⟩ (by show ¬ 3 < 3; decide) ?_
            refine zH_go 1 (c' := (42, [some (.inr (.inr (some 3))), some (.inl (n : Int)), some (.inl 3), some (.inl 3)], [.inl 1], (zs h hl))) rfl ?_
            refine zH_ret (v := some (.inl 1)) rfl (fun _ => by first | exact Or.inl rfl | exact Or.inr rfl) ?_
            exact Or.inl ⟨rfl, ⟨by omega, by omega, fun i hi => by
              rw [Int.toNat_natCast]
              rcases (show i = 0 ∨ i = 1 ∨ i = 2 by omega) with rfl | rfl | rfl <;> omega⟩, rfl⟩
          · show zH _ _ (30, [some (.inr (.inr (some 3))), some (.inl (n : Int)), some (.inl 3), some (.inl 2)], [.inl 0], (zs h hl)) _
            refine zH_bf (x := 0) (y := 0) (k := .ne) (c1 := (35, [some (.inr (.inr (some 3))), some (.inl (n : Int)), some (.inl 3), some (.inl 2)], [], (zs h hl))) (c2 := (33, [some (.inr (.inr (some 3))), some (.inl (n : Int)), some (.inl 3), some (.inl 2)], [], (zs h hl))) rfl ⟨by decide, by decide⟩ ⟨by decide, by decide⟩ (by show ¬ (¬ 0 = 0); decide) ?_
            refine zH_go 1 (c' := (34, [some (.inr (.inr (some 3))), some (.inl (n : Int)), some (.inl 3), some (.inl 2)], [.inl 0], (zs h hl))) rfl ?_
            refine zH_ret (v := some (.inl 0)) rfl (fun _ => by first | exact Or.inl rfl | exact Or.inr rfl) ?_
            refine Or.inr ⟨rfl, fun q => ?_, rfl⟩
            have hq := q.2.2
            rw [Int.toNat_natCast] at hq
            have q0 := hq 0 (by decide)
            have q1 := hq 1 (by decide)
            have q2 := hq 2 (by decide)
            omega
        · show zH _ _ (30, [some (.inr (.inr (some 3))), some (.inl (n : Int)), some (.inl 3), some (.inl 1)], [.inl 0], (zs h hl)) _
          refine zH_bf (x := 0) (y := 0) (k := .ne) (c1 := (35, [some (.inr (.inr (some 3))), some (.inl (n : Int)), some (.inl 3), some (.inl 1)], [], (zs h hl))) (c2 := (33, [some (.inr (.inr (some 3))), some (.inl (n : Int)), some (.inl 3), some (.inl 1)], [], (zs h hl))) rfl ⟨by decide, by decide⟩ ⟨by decide, by decide⟩ (by show ¬ (¬ 0 = 0); decide) ?_
          refine zH_go 1 (c' := (34, [some (.inr (.inr (some 3))), some (.inl (n : Int)), some (.inl 3), some (.inl 1)], [.inl 0], (zs h hl))) rfl ?_
          refine zH_ret (v := some (.inl 0)) rfl (fun _ => by first | exact Or.inl rfl | exact Or.inr rfl) ?_
          refine Or.inr ⟨rfl, fun q => ?_, rfl⟩
          have hq := q.2.2
          rw [Int.toNat_natCast] at hq
          have q0 := hq 0 (by decide)
          have q1 := hq 1 (by decide)
          have q2 := hq 2 (by decide)
          omega
      · show zH _ _ (30, [some (.inr (.inr (some 3))), some (.inl (n : Int)), some (.inl 3), some (.inl 0)], [.inl 0], (zs h hl)) _
        refine zH_bf (x := 0) (y := 0) (k := .ne) (c1 := (35, [some (.inr (.inr (some 3))), some (.inl (n : Int)), some (.inl 3), some (.inl 0)], [], (zs h hl))) (c2 := (33, [some (.inr (.inr (some 3))), some (.inl (n : Int)), some (.inl 3), some (.inl 0)], [], (zs h hl))) rfl ⟨by decide, by decide⟩ ⟨by decide, by decide⟩ (by show ¬ (¬ 0 = 0); decide) ?_
        refine zH_go 1 (c' := (34, [some (.inr (.inr (some 3))), some (.inl (n : Int)), some (.inl 3), some (.inl 0)], [.inl 0], (zs h hl))) rfl ?_
        refine zH_ret (v := some (.inl 0)) rfl (fun _ => by first | exact Or.inl rfl | exact Or.inr rfl) ?_
        refine Or.inr ⟨rfl, fun q => ?_, rfl⟩
        have hq := q.2.2
        rw [Int.toNat_natCast] at hq
        have q0 := hq 0 (by decide)
        have q1 := hq 1 (by decide)
        have q2 := hq 2 (by decide)
        omega
    · refine zH_go 1 (c' := (13, [some (.inr (.inr (some 3))), some (.inl x), some (.inl 3), none], [.inl 0], (zs h hl))) rfl ?_
      refine zH_ret (v := some (.inl 0)) rfl (fun _ => by first | exact Or.inl rfl | exact Or.inr rfl) ?_
      refine Or.inr ⟨rfl, fun q => ?_, rfl⟩
      have q1 := q.1
      have q2 := q.2.1
      omega
