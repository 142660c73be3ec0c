/-! Town: places, the next place of a way, torn or not, a road more. -/
/-- the town's numbers are small -/
def zTB (h : Nat → Nat → Int) : Prop := ∀ i j : Nat, i < 6 → j < 6 → 0 ≤ h (12 + i) j ∧ h (12 + i) j ≤ 1000000 ∧ 0 ≤ h (5 + i) j ∧ h (5 + i) j ≤ 1000000
def zNext (h : Nat → Nat → Int) (a b : Nat) (r : Int) : Prop := (a = b ∧ r = (b : Int)) ∨ (a ≠ b ∧ 1000000 ≤ h (12 + a) b ∧ r = -9) ∨ (a ≠ b ∧ h (12 + a) b < 1000000 ∧ ((∃ c : Nat, c < 6 ∧ r = (c : Int) ∧ h (5 + a) c + h (12 + c) b = h (12 + a) b ∧ ∀ c' : Nat, c' < c → h (5 + a) c' + h (12 + c') b ≠ h (12 + a) b) ∨ (r = -9 ∧ ∀ c' : Nat, c' < 6 → h (5 + a) c' + h (12 + c') b ≠ h (12 + a) b)))
set_option maxRecDepth 100000 in
set_option maxHeartbeats 4000000 in
theorem p_addPlace {d : Nat} {h hl : Nat → Nat → Int} (hP : 0 ≤ h 3 0 ∧ h 3 0 ≤ 6) : zQ (d + 1) 50 [.inr (.inr (some 3))] (zs h hl) (fun r σ' => r = some (.inl (h 3 0)) ∧ σ' = zs (zup h 3 0 (h 3 0 + 1)) hl) := by
  refine zQ_of (Nat.le_of_ble_eq_true rfl) ?_
  show zH d 50 (0, [some (.inr (.inr (some 3)))], [], (zs h hl)) _
  refine zH_go 10 (c' := (16, [some (.inr (.inr (some 3)))], [.inl (((h 3 0) + 1) - 1)], (zs (zup h 3 0 ((h 3 0) + 1)) hl))) rfl ?_
  refine zH_ret (v := some (.inl (((h 3 0) + 1) - 1))) rfl (fun q => absurd q (by decide)) ?_
  exact ⟨congrArg (fun z => some (Sum.inl z)) (by omega), rfl⟩
set_option maxRecDepth 100000 in
set_option maxHeartbeats 4000000 in
theorem p_next {d : Nat} {h hl : Nat → Nat → Int} {a b : Nat} (ha : a < 6) (hb : b < 6) (ha2 : (a : Int) < h 3 0) (hP : 0 ≤ h 3 0 ∧ h 3 0 ≤ 6) (hB : zTB h) : zQ (d + 2) 53 [.inr (.inr (some 3)), .inl (a : Int), .inl (b : Int)] (zs h hl) (fun r σ' => ∃ x : Int, zNext h a b x ∧ r = some (.inl x) ∧ σ' = zs h hl) := by
  have t := hB a b ha hb
  have t0 := hB 0 b (by decide) hb
  have t1 := hB 1 b (by decide) hb
  have t2 := hB 2 b (by decide) hb
  have t3 := hB 3 b (by decide) hb
  have t4 := hB 4 b (by decide) hb
  have t5 := hB 5 b (by decide) hb
  have u0 := hB a 0 ha (by decide)
  have u1 := hB a 1 ha (by decide)
  have u2 := hB a 2 ha (by decide)
  have u3 := hB a 3 ha (by decide)
  have u4 := hB a 4 ha (by decide)
  have u5 := hB a 5 ha (by decide)
  have t0 : 0 ≤ h 12 b ∧ h 12 b ≤ 1000000 := ⟨t0.1, t0.2.1⟩
  have t1 : 0 ≤ h 13 b ∧ h 13 b ≤ 1000000 := ⟨t1.1, t1.2.1⟩
  have t2 : 0 ≤ h 14 b ∧ h 14 b ≤ 1000000 := ⟨t2.1, t2.2.1⟩
  have t3 : 0 ≤ h 15 b ∧ h 15 b ≤ 1000000 := ⟨t3.1, t3.2.1⟩
  have t4 : 0 ≤ h 16 b ∧ h 16 b ≤ 1000000 := ⟨t4.1, t4.2.1⟩
  have t5 : 0 ≤ h 17 b ∧ h 17 b ≤ 1000000 := ⟨t5.1, t5.2.1⟩
  refine zQ_of (Nat.le_of_ble_eq_true rfl) ?_
  show zH (d + 1) 53 (0, [some (.inr (.inr (some 3))), some (.inl (a : Int)), some (.inl (b : Int)), none, none], [], (zs h hl)) _
  refine zH_go 2 (c' := (2, [some (.inr (.inr (some 3))), some (.inl (a : Int)), some (.inl (b : Int)), none, none], [.inl (b : Int), .inl (a : Int)], (zs h hl))) rfl ?_
  refine zH_br (x := (a : Int)) (y := (b : Int)) (k := .ne) (c1 := (7, [some (.inr (.inr (some 3))), some (.inl (a : Int)), some (.inl (b : Int)), none, none], [], (zs h hl))) (c2 := (5, [some (.inr (.inr (some 3))), some (.inl (a : Int)), some (.inl (b : Int)), none, none], [], (zs h hl))) rfl (by first | assumption | (unfold zr; omega)) (by first | assumption | (unfold zr; omega)) (fun (b_1 : ¬ (a : Int) = (b : Int)) => ?_) (fun (b_1 : ¬ (¬ (a : Int) = (b : Int))) => ?_)
  · refine zH_go 3 (c' := (10, [some (.inr (.inr (some 3))), some (.inl (a : Int)), some (.inl (b : Int)), none, none], [.inl (b : Int), .inl (a : Int), .inr (.inr (some 3))], (zs h hl))) rfl ?_
    refine zH_call (M' := 52) (as := [.inr (.inr (some 3)), .inl (a : Int), .inl (b : Int)]) (T := []) rfl (p_gap (a := a) (b := b) ha hb) (fun r σ' p_2 => ?_)
    obtain ⟨rfl, rfl⟩ := p_2
    show zH _ _ (13, [some (.inr (.inr (some 3))), some (.inl (a : Int)), some (.inl (b : Int)), none, none], [.inl (h (12 + a) b)], (zs h hl)) _
    refine zH_go 3 (c' := (17, [some (.inr (.inr (some 3))), some (.inl (a : Int)), some (.inl (b : Int)), some (.inl (h (12 + a) b)), none], [.inl 1000000, .inl (h (12 + a) b)], (zs h hl))) rfl ?_
    refine zH_br (x := (h (12 + a) b)) (y := 1000000) (k := .ge) (c1 := (28, [some (.inr (.inr (some 3))), some (.inl (a : Int)), some (.inl (b : Int)), some (.inl (h (12 + a) b)), none], [], (zs h hl))) (c2 := (20, [some (.inr (.inr (some 3))), some (.inl (a : Int)), some (.inl (b : Int)), some (.inl (h (12 + a) b)), none], [], (zs h hl))) rfl (by first | assumption | (unfold zr; omega)) ⟨by decide, by decide⟩ (fun (b_3 : ¬ (h (12 + a) b) < 1000000) => ?_) (fun (b_3 : ¬ (¬ (h (12 + a) b) < 1000000)) => ?_)
    · refine zH_go 1 (c' := (30, [some (.inr (.inr (some 3))), some (.inl (a : Int)), some (.inl (b : Int)), some (.inl (h (12 + a) b)), none], [.inl (-9)], (zs h hl))) rfl ?_
      refine zH_ret (v := some (.inl (-9))) rfl (fun q => absurd q (by decide)) ?_
      first | exact ⟨_, Or.inr (Or.inl ⟨by omega, by omega, rfl⟩), rfl, rfl⟩ | (exfalso; omega)
    · refine zH_go 2 (c' := (22, [some (.inr (.inr (some 3))), some (.inl (a : Int)), some (.inl (b : Int)), some (.inl (h (12 + a) b)), none], [.inl (a : Int), .inr (.inr (some 3))], (zs h hl))) rfl ?_
      refine zH_call (M' := 48) (as := [.inr (.inr (some 3)), .inl (a : Int)]) (T := []) rfl (p_has (by first | assumption | (unfold zr; omega)) hP) (fun r σ' p_4 => ?_)
      rcases p_4 with ⟨rfl, b_5, rfl⟩ | ⟨rfl, b_5, rfl⟩
      · show zH _ _ (25, [some (.inr (.inr (some 3))), some (.inl (a : Int)), some (.inl (b : Int)), some (.inl (h (12 + a) b)), none], [.inl 1], (zs h hl)) _
        refine zH_bt (x := 1) (y := 0) (k := .ne) (c1 := (31, [some (.inr (.inr (some 3))), some (.inl (a : Int)), some (.inl (b : Int)), some (.inl (h (12 + a) b)), none], [], (zs h hl))) (c2 := (28, [some (.inr (.inr (some 3))), some (.inl (a : Int)), some (.inl (b : Int)), some (.inl (h (12 + a) b)), none], [], (zs h hl))) rfl ⟨by decide, by decide⟩ ⟨by decide, by decide⟩ (by show ¬ 1 = 0; decide) ?_
        refine zH_go 4 (c' := (38, [some (.inr (.inr (some 3))), some (.inl (a : Int)), some (.inl (b : Int)), some (.inl (h (12 + a) b)), some (.inl 0)], [.inl 6, .inl 0], (zs h hl))) rfl ?_
        refine zH_bf (x := 0) (y := 6) (k := .ge) (c1 := (71, [some (.inr (.inr (some 3))), some (.inl (a : Int)), some (.inl (b : Int)), some (.inl (h (12 + a) b)), some (.inl 0)], [], (zs h hl))) (c2 := (41, [some (.inr (.inr (some 3))), some (.inl (a : Int)), some (.inl (b : Int)), some (.inl (h (12 + a) b)), some (.inl 0)], [], (zs h hl))) rfl ⟨by decide, by decide⟩ ⟨by decide, by decide⟩ (by show ¬ (¬ 0 < 6); decide) ?_
        refine zH_go 3 (c' := (46, [some (.inr (.inr (some 3))), some (.inl (a : Int)), some (.inl (b : Int)), some (.inl (h (12 + a) b)), some (.inl 0)], [.inl (a : Int), .inr (.inr (some 4))], (zs h hl))) rfl ?_
        refine zH_aal (A := 4) (n := 6) (b := 5 + a) rfl rfl (by omega) (by omega) (zhr_4 (by omega)) ?_
        show zH _ _ (47, [some (.inr (.inr (some 3))), some (.inl (a : Int)), some (.inl (b : Int)), some (.inl (h (12 + a) b)), some (.inl 0)], [.inr (.inr (some (5 + a)))], (zs h hl)) _
        refine zH_go 1 (c' := (49, [some (.inr (.inr (some 3))), some (.inl (a : Int)), some (.inl (b : Int)), some (.inl (h (12 + a) b)), some (.inl 0)], [.inl 0, .inr (.inr (some (5 + a)))], (zs h hl))) rfl ?_
        refine zH_ial rfl (n := 6) (zsh_4 (by omega)) (by omega) (by omega) ?_
        show zH _ _ (50, [some (.inr (.inr (some 3))), some (.inl (a : Int)), some (.inl (b : Int)), some (.inl (h (12 + a) b)), some (.inl 0)], [.inl (h (5 + a) 0)], (zs h hl)) _
        refine zH_go 3 (c' := (54, [some (.inr (.inr (some 3))), some (.inl (a : Int)), some (.inl (b : Int)), some (.inl (h (12 + a) b)), some (.inl 0)], [.inl (b : Int), .inl 0, .inr (.inr (some 3)), .inl (h (5 + a) 0)], (zs h hl))) rfl ?_
        refine zH_call (M' := 52) (as := [.inr (.inr (some 3)), .inl 0, .inl (b : Int)]) (T := [.inl (h (5 + a) 0)]) rfl (p_gap (a := 0) (b := b) (by decide) hb) (fun r σ' p_6 => ?_)
        obtain ⟨rfl, rfl⟩ := p_6
        show zH _ _ (57, [some (.inr (.inr (some 3))), some (.inl (a : Int)), some (.inl (b : Int)), some (.inl (h (12 + a) b)), some (.inl 0)], [.inl (h 12 b), .inl (h (5 + a) 0)], (zs h hl)) _
        refine zH_go 2 (c' := (59, [some (.inr (.inr (some 3))), some (.inl (a : Int)), some (.inl (b : Int)), some (.inl (h (12 + a) b)), some (.inl 0)], [.inl (h (12 + a) b), .inl ((h (5 + a) 0) + (h 12 b))], (zs h hl))) rfl ?_
        refine zH_br (x := ((h (5 + a) 0) + (h 12 b))) (y := (h (12 + a) b)) (k := .ne) (c1 := (65, [some (.inr (.inr (some 3))), some (.inl (a : Int)), some (.inl (b : Int)), some (.inl (h (12 + a) b)), some (.inl 0)], [], (zs h hl))) (c2 := (62, [some (.inr (.inr (some 3))), some (.inl (a : Int)), some (.inl (b : Int)), some (.inl (h (12 + a) b)), some (.inl 0)], [], (zs h hl))) rfl (by first | assumption | (unfold zr; omega)) (by first | assumption | (unfold zr; omega)) (fun (b_7 : ¬ ((h (5 + a) 0) + (h 12 b)) = (h (12 + a) b)) => ?_) (fun (b_7 : ¬ (¬ ((h (5 + a) 0) + (h 12 b)) = (h (12 + a) b))) => ?_)
        · refine zH_go 4 (c' := (38, [some (.inr (.inr (some 3))), some (.inl (a : Int)), some (.inl (b : Int)), some (.inl (h (12 + a) b)), some (.inl 1)], [.inl 6, .inl 1], (zs h hl))) rfl ?_
          refine zH_bf (x := 1) (y := 6) (k := .ge) (c1 := (71, [some (.inr (.inr (some 3))), some (.inl (a : Int)), some (.inl (b : Int)), some (.inl (h (12 + a) b)), some (.inl 1)], [], (zs h hl))) (c2 := (41, [some (.inr (.inr (some 3))), some (.inl (a : Int)), some (.inl (b : Int)), some (.inl (h (12 + a) b)), some (.inl 1)], [], (zs h hl))) rfl ⟨by decide, by decide⟩ ⟨by decide, by decide⟩ (by show ¬ (¬ 1 < 6); decide) ?_
          refine zH_go 3 (c' := (46, [some (.inr (.inr (some 3))), some (.inl (a : Int)), some (.inl (b : Int)), some (.inl (h (12 + a) b)), some (.inl 1)], [.inl (a : Int), .inr (.inr (some 4))], (zs h hl))) rfl ?_
          refine zH_aal (A := 4) (n := 6) (b := 5 + a) rfl rfl (by omega) (by omega) (zhr_4 (by omega)) ?_
          show zH _ _ (47, [some (.inr (.inr (some 3))), some (.inl (a : Int)), some (.inl (b : Int)), some (.inl (h (12 + a) b)), some (.inl 1)], [.inr (.inr (some (5 + a)))], (zs h hl)) _
          refine zH_go 1 (c' := (49, [some (.inr (.inr (some 3))), some (.inl (a : Int)), some (.inl (b : Int)), some (.inl (h (12 + a) b)), some (.inl 1)], [.inl 1, .inr (.inr (some (5 + a)))], (zs h hl))) rfl ?_
          refine zH_ial rfl (n := 6) (zsh_4 (by omega)) (by omega) (by omega) ?_
          show zH _ _ (50, [some (.inr (.inr (some 3))), some (.inl (a : Int)), some (.inl (b : Int)), some (.inl (h (12 + a) b)), some (.inl 1)], [.inl (h (5 + a) 1)], (zs h hl)) _
          refine zH_go 3 (c' := (54, [some (.inr (.inr (some 3))), some (.inl (a : Int)), some (.inl (b : Int)), some (.inl (h (12 + a) b)), some (.inl 1)], [.inl (b : Int), .inl 1, .inr (.inr (some 3)), .inl (h (5 + a) 1)], (zs h hl))) rfl ?_
          refine zH_call (M' := 52) (as := [.inr (.inr (some 3)), .inl 1, .inl (b : Int)]) (T := [.inl (h (5 + a) 1)]) rfl (p_gap (a := 1) (b := b) (by decide) hb) (fun r σ' p_8 => ?_)
          obtain ⟨rfl, rfl⟩ := p_8
          show zH _ _ (57, [some (.inr (.inr (some 3))), some (.inl (a : Int)), some (.inl (b : Int)), some (.inl (h (12 + a) b)), some (.inl 1)], [.inl (h 13 b), .inl (h (5 + a) 1)], (zs h hl)) _
          refine zH_go 2 (c' := (59, [some (.inr (.inr (some 3))), some (.inl (a : Int)), some (.inl (b : Int)), some (.inl (h (12 + a) b)), some (.inl 1)], [.inl (h (12 + a) b), .inl ((h (5 + a) 1) + (h 13 b))], (zs h hl))) rfl ?_
          refine zH_br (x := ((h (5 + a) 1) + (h 13 b))) (y := (h (12 + a) b)) (k := .ne) (c1 := (65, [some (.inr (.inr (some 3))), some (.inl (a : Int)), some (.inl (b : Int)), some (.inl (h (12 + a) b)), some (.inl 1)], [], (zs h hl))) (c2 := (62, [some (.inr (.inr (some 3))), some (.inl (a : Int)), some (.inl (b : Int)), some (.inl (h (12 + a) b)), some (.inl 1)], [], (zs h hl))) rfl (by first | assumption | (unfold zr; omega)) (by first | assumption | (unfold zr; omega)) (fun (b_9 : ¬ ((h (5 + a) 1) + (h 13 b)) = (h (12 + a) b)) => ?_) (fun (b_9 : ¬ (¬ ((h (5 + a) 1) + (h 13 b)) = (h (12 + a) b))) => ?_)
          · refine zH_go 4 (c' := (38, [some (.inr (.inr (some 3))), some (.inl (a : Int)), some (.inl (b : Int)), some (.inl (h (12 + a) b)), some (.inl 2)], [.inl 6, .inl 2], (zs h hl))) rfl ?_
            refine zH_bf (x := 2) (y := 6) (k := .ge) (c1 := (71, [some (.inr (.inr (some 3))), some (.inl (a : Int)), some (.inl (b : Int)), some (.inl (h (12 + a) b)), some (.inl 2)], [], (zs h hl))) (c2 := (41, [some (.inr (.inr (some 3))), some (.inl (a : Int)), some (.inl (b : Int)), some (.inl (h (12 + a) b)), some (.inl 2)], [], (zs h hl))) rfl ⟨by decide, by decide⟩ ⟨by decide, by decide⟩ (by show ¬ (¬ 2 < 6); decide) ?_
            refine zH_go 3 (c' := (46, [some (.inr (.inr (some 3))), some (.inl (a : Int)), some (.inl (b : Int)), some (.inl (h (12 + a) b)), some (.inl 2)], [.inl (a : Int), .inr (.inr (some 4))], (zs h hl))) rfl ?_
            refine zH_aal (A := 4) (n := 6) (b := 5 + a) rfl rfl (by omega) (by omega) (zhr_4 (by omega)) ?_
            show zH _ _ (47, [some (.inr (.inr (some 3))), some (.inl (a : Int)), some (.inl (b : Int)), some (.inl (h (12 + a) b)), some (.inl 2)], [.inr (.inr (some (5 + a)))], (zs h hl)) _
            refine zH_go 1 (c' := (49, [some (.inr (.inr (some 3))), some (.inl (a : Int)), some (.inl (b : Int)), some (.inl (h (12 + a) b)), some (.inl 2)], [.inl 2, .inr (.inr (some (5 + a)))], (zs h hl))) rfl ?_
            refine zH_ial rfl (n := 6) (zsh_4 (by omega)) (by omega) (by omega) ?_
            show zH _ _ (50, [some (.inr (.inr (some 3))), some (.inl (a : Int)), some (.inl (b : Int)), some (.inl (h (12 + a) b)), some (.inl 2)], [.inl (h (5 + a) 2)], (zs h hl)) _
            refine zH_go 3 (c' := (54, [some (.inr (.inr (some 3))), some (.inl (a : Int)), some (.inl (b : Int)), some (.inl (h (12 + a) b)), some (.inl 2)], [.inl (b : Int), .inl 2, .inr (.inr (some 3)), .inl (h (5 + a) 2)], (zs h hl))) rfl ?_
            refine zH_call (M' := 52) (as := [.inr (.inr (some 3)), .inl 2, .inl (b : Int)]) (T := [.inl (h (5 + a) 2)]) rfl (p_gap (a := 2) (b := b) (by decide) hb) (fun r σ' p_10 => ?_)
            obtain ⟨rfl, rfl⟩ := p_10
            show zH _ _ (57, [some (.inr (.inr (some 3))), some (.inl (a : Int)), some (.inl (b : Int)), some (.inl (h (12 + a) b)), some (.inl 2)], [.inl (h 14 b), .inl (h (5 + a) 2)], (zs h hl)) _
            refine zH_go 2 (c' := (59, [some (.inr (.inr (some 3))), some (.inl (a : Int)), some (.inl (b : Int)), some (.inl (h (12 + a) b)), some (.inl 2)], [.inl (h (12 + a) b), .inl ((h (5 + a) 2) + (h 14 b))], (zs h hl))) rfl ?_
            refine zH_br (x := ((h (5 + a) 2) + (h 14 b))) (y := (h (12 + a) b)) (k := .ne) (c1 := (65, [some (.inr (.inr (some 3))), some (.inl (a : Int)), some (.inl (b : Int)), some (.inl (h (12 + a) b)), some (.inl 2)], [], (zs h hl))) (c2 := (62, [some (.inr (.inr (some 3))), some (.inl (a : Int)), some (.inl (b : Int)), some (.inl (h (12 + a) b)), some (.inl 2)], [], (zs h hl))) rfl (by first | assumption | (unfold zr; omega)) (by first | assumption | (unfold zr; omega)) (fun (b_11 : ¬ ((h (5 + a) 2) + (h 14 b)) = (h (12 + a) b)) => ?_) (fun (b_11 : ¬ (¬ ((h (5 + a) 2) + (h 14 b)) = (h (12 + a) b))) => ?_)
            · refine zH_go 4 (c' := (38, [some (.inr (.inr (some 3))), some (.inl (a : Int)), some (.inl (b : Int)), some (.inl (h (12 + a) b)), some (.inl 3)], [.inl 6, .inl 3], (zs h hl))) rfl ?_
              refine zH_bf (x := 3) (y := 6) (k := .ge) (c1 := (71, [some (.inr (.inr (some 3))), some (.inl (a : Int)), some (.inl (b : Int)), some (.inl (h (12 + a) b)), some (.inl 3)], [], (zs h hl))) (c2 := (41, [some (.inr (.inr (some 3))), some (.inl (a : Int)), some (.inl (b : Int)), some (.inl (h (12 + a) b)), some (.inl 3)], [], (zs h hl))) rfl ⟨by decide, by decide⟩ ⟨by decide, by decide⟩ (by show ¬ (¬ 3 < 6); decide) ?_
              refine zH_go 3 (c' := (46, [some (.inr (.inr (some 3))), some (.inl (a : Int)), some (.inl (b : Int)), some (.inl (h (12 + a) b)), some (.inl 3)], [.inl (a : Int), .inr (.inr (some 4))], (zs h hl))) rfl ?_
              refine zH_aal (A := 4) (n := 6) (b := 5 + a) rfl rfl (by omega) (by omega) (zhr_4 (by omega)) ?_
              show zH _ _ (47, [some (.inr (.inr (some 3))), some (.inl (a : Int)), some (.inl (b : Int)), some (.inl (h (12 + a) b)), some (.inl 3)], [.inr (.inr (some (5 + a)))], (zs h hl)) _
              refine zH_go 1 (c' := (49, [some (.inr (.inr (some 3))), some (.inl (a : Int)), some (.inl (b : Int)), some (.inl (h (12 + a) b)), some (.inl 3)], [.inl 3, .inr (.inr (some (5 + a)))], (zs h hl))) rfl ?_
              refine zH_ial rfl (n := 6) (zsh_4 (by omega)) (by omega) (by omega) ?_
              show zH _ _ (50, [some (.inr (.inr (some 3))), some (.inl (a : Int)), some (.inl (b : Int)), some (.inl (h (12 + a) b)), some (.inl 3)], [.inl (h (5 + a) 3)], (zs h hl)) _
              refine zH_go 3 (c' := (54, [some (.inr (.inr (some 3))), some (.inl (a : Int)), some (.inl (b : Int)), some (.inl (h (12 + a) b)), some (.inl 3)], [.inl (b : Int), .inl 3, .inr (.inr (some 3)), .inl (h (5 + a) 3)], (zs h hl))) rfl ?_
              refine zH_call (M' := 52) (as := [.inr (.inr (some 3)), .inl 3, .inl (b : Int)]) (T := [.inl (h (5 + a) 3)]) rfl (p_gap (a := 3) (b := b) (by decide) hb) (fun r σ' p_12 => ?_)
              obtain ⟨rfl, rfl⟩ := p_12
              show zH _ _ (57, [some (.inr (.inr (some 3))), some (.inl (a : Int)), some (.inl (b : Int)), some (.inl (h (12 + a) b)), some (.inl 3)], [.inl (h 15 b), .inl (h (5 + a) 3)], (zs h hl)) _
              refine zH_go 2 (c' := (59, [some (.inr (.inr (some 3))), some (.inl (a : Int)), some (.inl (b : Int)), some (.inl (h (12 + a) b)), some (.inl 3)], [.inl (h (12 + a) b), .inl ((h (5 + a) 3) + (h 15 b))], (zs h hl))) rfl ?_
              refine zH_br (x := ((h (5 + a) 3) + (h 15 b))) (y := (h (12 + a) b)) (k := .ne) (c1 := (65, [some (.inr (.inr (some 3))), some (.inl (a : Int)), some (.inl (b : Int)), some (.inl (h (12 + a) b)), some (.inl 3)], [], (zs h hl))) (c2 := (62, [some (.inr (.inr (some 3))), some (.inl (a : Int)), some (.inl (b : Int)), some (.inl (h (12 + a) b)), some (.inl 3)], [], (zs h hl))) rfl (by first | assumption | (unfold zr; omega)) (by first | assumption | (unfold zr; omega)) (fun (b_13 : ¬ ((h (5 + a) 3) + (h 15 b)) = (h (12 + a) b)) => ?_) (fun (b_13 : ¬ (¬ ((h (5 + a) 3) + (h 15 b)) = (h (12 + a) b))) => ?_)
              · refine zH_go 4 (c' := (38, [some (.inr (.inr (some 3))), some (.inl (a : Int)), some (.inl (b : Int)), some (.inl (h (12 + a) b)), some (.inl 4)], [.inl 6, .inl 4], (zs h hl))) rfl ?_
                refine zH_bf (x := 4) (y := 6) (k := .ge) (c1 := (71, [some (.inr (.inr (some 3))), some (.inl (a : Int)), some (.inl (b : Int)), some (.inl (h (12 + a) b)), some (.inl 4)], [], (zs h hl))) (c2 := (41, [some (.inr (.inr (some 3))), some (.inl (a : Int)), some (.inl (b : Int)), some (.inl (h (12 + a) b)), some (.inl 4)], [], (zs h hl))) rfl ⟨by decide, by decide⟩ ⟨by decide, by decide⟩ (by show ¬ (¬ 4 < 6); decide) ?_
                refine zH_go 3 (c' := (46, [some (.inr (.inr (some 3))), some (.inl (a : Int)), some (.inl (b : Int)), some (.inl (h (12 + a) b)), some (.inl 4)], [.inl (a : Int), .inr (.inr (some 4))], (zs h hl))) rfl ?_
                refine zH_aal (A := 4) (n := 6) (b := 5 + a) rfl rfl (by omega) (by omega) (zhr_4 (by omega)) ?_
                show zH _ _ (47, [some (.inr (.inr (some 3))), some (.inl (a : Int)), some (.inl (b : Int)), some (.inl (h (12 + a) b)), some (.inl 4)], [.inr (.inr (some (5 + a)))], (zs h hl)) _
                refine zH_go 1 (c' := (49, [some (.inr (.inr (some 3))), some (.inl (a : Int)), some (.inl (b : Int)), some (.inl (h (12 + a) b)), some (.inl 4)], [.inl 4, .inr (.inr (some (5 + a)))], (zs h hl))) rfl ?_
                refine zH_ial rfl (n := 6) (zsh_4 (by omega)) (by omega) (by omega) ?_
                show zH _ _ (50, [some (.inr (.inr (some 3))), some (.inl (a : Int)), some (.inl (b : Int)), some (.inl (h (12 + a) b)), some (.inl 4)], [.inl (h (5 + a) 4)], (zs h hl)) _
                refine zH_go 3 (c' := (54, [some (.inr (.inr (some 3))), some (.inl (a : Int)), some (.inl (b : Int)), some (.inl (h (12 + a) b)), some (.inl 4)], [.inl (b : Int), .inl 4, .inr (.inr (some 3)), .inl (h (5 + a) 4)], (zs h hl))) rfl ?_
                refine zH_call (M' := 52) (as := [.inr (.inr (some 3)), .inl 4, .inl (b : Int)]) (T := [.inl (h (5 + a) 4)]) rfl (p_gap (a := 4) (b := b) (by decide) hb) (fun r σ' p_14 => ?_)
                obtain ⟨rfl, rfl⟩ := p_14
                show zH _ _ (57, [some (.inr (.inr (some 3))), some (.inl (a : Int)), some (.inl (b : Int)), some (.inl (h (12 + a) b)), some (.inl 4)], [.inl (h 16 b), .inl (h (5 + a) 4)], (zs h hl)) _
                refine zH_go 2 (c' := (59, [some (.inr (.inr (some 3))), some (.inl (a : Int)), some (.inl (b : Int)), some (.inl (h (12 + a) b)), some (.inl 4)], [.inl (h (12 + a) b), .inl ((h (5 + a) 4) + (h 16 b))], (zs h hl))) rfl ?_
                refine zH_br (x := ((h (5 + a) 4) + (h 16 b))) (y := (h (12 + a) b)) (k := .ne) (c1 := (65, [some (.inr (.inr (some 3))), some (.inl (a : Int)), some (.inl (b : Int)), some (.inl (h (12 + a) b)), some (.inl 4)], [], (zs h hl))) (c2 := (62, [some (.inr (.inr (some 3))), some (.inl (a : Int)), some (.inl (b : Int)), some (.inl (h (12 + a) b)), some (.inl 4)], [], (zs h hl))) rfl (by first | assumption | (unfold zr; omega)) (by first | assumption | (unfold zr; omega)) (fun (b_15 : ¬ ((h (5 + a) 4) + (h 16 b)) = (h (12 + a) b)) => ?_) (fun (b_15 : ¬ (¬ ((h (5 + a) 4) + (h 16 b)) = (h (12 + a) b))) => ?_)
                · refine zH_go 4 (c' := (38, [some (.inr (.inr (some 3))), some (.inl (a : Int)), some (.inl (b : Int)), some (.inl (h (12 + a) b)), some (.inl 5)], [.inl 6, .inl 5], (zs h hl))) rfl ?_
                  refine zH_bf (x := 5) (y := 6) (k := .ge) (c1 := (71, [some (.inr (.inr (some 3))), some (.inl (a : Int)), some (.inl (b : Int)), some (.inl (h (12 + a) b)), some (.inl 5)], [], (zs h hl))) (c2 := (41, [some (.inr (.inr (some 3))), some (.inl (a : Int)), some (.inl (b : Int)), some (.inl (h (12 + a) b)), some (.inl 5)], [], (zs h hl))) rfl ⟨by decide, by decide⟩ ⟨by decide, by decide⟩ (by show ¬ (¬ 5 < 6); decide) ?_
                  refine zH_go 3 (c' := (46, [some (.inr (.inr (some 3))), some (.inl (a : Int)), some (.inl (b : Int)), some (.inl (h (12 + a) b)), some (.inl 5)], [.inl (a : Int), .inr (.inr (some 4))], (zs h hl))) rfl ?_
                  refine zH_aal (A := 4) (n := 6) (b := 5 + a) rfl rfl (by omega) (by omega) (zhr_4 (by omega)) ?_
                  show zH _ _ (47, [some (.inr (.inr (some 3))), some (.inl (a : Int)), some (.inl (b : Int)), some (.inl (h (12 + a) b)), some (.inl 5)], [.inr (.inr (some (5 + a)))], (zs h hl)) _
                  refine zH_go 1 (c' := (49, [some (.inr (.inr (some 3))), some (.inl (a : Int)), some (.inl (b : Int)), some (.inl (h (12 + a) b)), some (.inl 5)], [.inl 5, .inr (.inr (some (5 + a)))], (zs h hl))) rfl ?_
                  refine zH_ial rfl (n := 6) (zsh_4 (by omega)) (by omega) (by omega) ?_
                  show zH _ _ (50, [some (.inr (.inr (some 3))), some (.inl (a : Int)), some (.inl (b : Int)), some (.inl (h (12 + a) b)), some (.inl 5)], [.inl (h (5 + a) 5)], (zs h hl)) _
                  refine zH_go 3 (c' := (54, [some (.inr (.inr (some 3))), some (.inl (a : Int)), some (.inl (b : Int)), some (.inl (h (12 + a) b)), some (.inl 5)], [.inl (b : Int), .inl 5, .inr (.inr (some 3)), .inl (h (5 + a) 5)], (zs h hl))) rfl ?_
                  refine zH_call (M' := 52) (as := [.inr (.inr (some 3)), .inl 5, .inl (b : Int)]) (T := [.inl (h (5 + a) 5)]) rfl (p_gap (a := 5) (b := b) (by decide) hb) (fun r σ' p_16 => ?_)
                  obtain ⟨rfl, rfl⟩ := p_16
                  show zH _ _ (57, [some (.inr (.inr (some 3))), some (.inl (a : Int)), some (.inl (b : Int)), some (.inl (h (12 + a) b)), some (.inl 5)], [.inl (h 17 b), .inl (h (5 + a) 5)], (zs h hl)) _
                  refine zH_go 2 (c' := (59, [some (.inr (.inr (some 3))), some (.inl (a : Int)), some (.inl (b : Int)), some (.inl (h (12 + a) b)), some (.inl 5)], [.inl (h (12 + a) b), .inl ((h (5 + a) 5) + (h 17 b))], (zs h hl))) rfl ?_
                  refine zH_br (x := ((h (5 + a) 5) + (h 17 b))) (y := (h (12 + a) b)) (k := .ne) (c1 := (65, [some (.inr (.inr (some 3))), some (.inl (a : Int)), some (.inl (b : Int)), some (.inl (h (12 + a) b)), some (.inl 5)], [], (zs h hl))) (c2 := (62, [some (.inr (.inr (some 3))), some (.inl (a : Int)), some (.inl (b : Int)), some (.inl (h (12 + a) b)), some (.inl 5)], [], (zs h hl))) rfl (by first | assumption | (unfold zr; omega)) (by first | assumption | (unfold zr; omega)) (fun (b_17 : ¬ ((h (5 + a) 5) + (h 17 b)) = (h (12 + a) b)) => ?_) (fun (b_17 : ¬ (¬ ((h (5 + a) 5) + (h 17 b)) = (h (12 + a) b))) => ?_)
                  · refine zH_go 4 (c' := (38, [some (.inr (.inr (some 3))), some (.inl (a : Int)), some (.inl (b : Int)), some (.inl (h (12 + a) b)), some (.inl 6)], [.inl 6, .inl 6], (zs h hl))) rfl ?_
                    refine zH_bt (x := 6) (y := 6) (k := .ge) (c1 := (71, [some (.inr (.inr (some 3))), some (.inl (a : Int)), some (.inl (b : Int)), some (.inl (h (12 + a) b)), some (.inl 6)], [], (zs h hl))) (c2 := (41, [some (.inr (.inr (some 3))), some (.inl (a : Int)), some (.inl (b : Int)), some (.inl (h (12 + a) b)), some (.inl 6)], [], (zs h hl))) rfl ⟨by decide, by decide⟩ ⟨by decide, by decide⟩ (by show ¬ 6 < 6; decide) ?_
                    refine zH_go 1 (c' := (73, [some (.inr (.inr (some 3))), some (.inl (a : Int)), some (.inl (b : Int)), some (.inl (h (12 + a) b)), some (.inl 6)], [.inl (-9)], (zs h hl))) rfl ?_
                    refine zH_ret (v := some (.inl (-9))) rfl (fun q => absurd q (by decide)) ?_
                    refine ⟨_, Or.inr (Or.inr ⟨by omega, by omega, Or.inr ⟨rfl, fun c hc => ?_⟩⟩), rfl, rfl⟩
                    rcases (show c = 0 ∨ c = 1 ∨ c = 2 ∨ c = 3 ∨ c = 4 ∨ c = 5 by omega) with rfl | rfl | rfl | rfl | rfl | rfl <;> assumption
                  · refine zH_go 1 (c' := (64, [some (.inr (.inr (some 3))), some (.inl (a : Int)), some (.inl (b : Int)), some (.inl (h (12 + a) b)), some (.inl 5)], [.inl 5], (zs h hl))) rfl ?_
                    refine zH_ret (v := some (.inl 5)) rfl (fun q => absurd q (by decide)) ?_
                    refine ⟨_, Or.inr (Or.inr ⟨by omega, by omega, Or.inl ⟨5, by decide, rfl, by show h (5 + a) 5 + h 17 b = h (12 + a) b; omega, fun c hc => ?_⟩⟩), rfl, rfl⟩
                    rcases (show c = 0 ∨ c = 1 ∨ c = 2 ∨ c = 3 ∨ c = 4 by omega) with rfl | rfl | rfl | rfl | rfl <;> assumption
                · refine zH_go 1 (c' := (64, [some (.inr (.inr (some 3))), some (.inl (a : Int)), some (.inl (b : Int)), some (.inl (h (12 + a) b)), some (.inl 4)], [.inl 4], (zs h hl))) rfl ?_
                  refine zH_ret (v := some (.inl 4)) rfl (fun q => absurd q (by decide)) ?_
                  refine ⟨_, Or.inr (Or.inr ⟨by omega, by omega, Or.inl ⟨4, by decide, rfl, by show h (5 + a) 4 + h 16 b = h (12 + a) b; omega, fun c hc => ?_⟩⟩), rfl, rfl⟩
                  rcases (show c = 0 ∨ c = 1 ∨ c = 2 ∨ c = 3 by omega) with rfl | rfl | rfl | rfl <;> assumption
              · refine zH_go 1 (c' := (64, [some (.inr (.inr (some 3))), some (.inl (a : Int)), some (.inl (b : Int)), some (.inl (h (12 + a) b)), some (.inl 3)], [.inl 3], (zs h hl))) rfl ?_
                refine zH_ret (v := some (.inl 3)) rfl (fun q => absurd q (by decide)) ?_
                refine ⟨_, Or.inr (Or.inr ⟨by omega, by omega, Or.inl ⟨3, by decide, rfl, by show h (5 + a) 3 + h 15 b = h (12 + a) b; omega, fun c hc => ?_⟩⟩), rfl, rfl⟩
                rcases (show c = 0 ∨ c = 1 ∨ c = 2 by omega) with rfl | rfl | rfl <;> assumption
            · refine zH_go 1 (c' := (64, [some (.inr (.inr (some 3))), some (.inl (a : Int)), some (.inl (b : Int)), some (.inl (h (12 + a) b)), some (.inl 2)], [.inl 2], (zs h hl))) rfl ?_
              refine zH_ret (v := some (.inl 2)) rfl (fun q => absurd q (by decide)) ?_
              refine ⟨_, Or.inr (Or.inr ⟨by omega, by omega, Or.inl ⟨2, by decide, rfl, by show h (5 + a) 2 + h 14 b = h (12 + a) b; omega, fun c hc => ?_⟩⟩), rfl, rfl⟩
              rcases (show c = 0 ∨ c = 1 by omega) with rfl | rfl <;> assumption
          · refine zH_go 1 (c' := (64, [some (.inr (.inr (some 3))), some (.inl (a : Int)), some (.inl (b : Int)), some (.inl (h (12 + a) b)), some (.inl 1)], [.inl 1], (zs h hl))) rfl ?_
            refine zH_ret (v := some (.inl 1)) rfl (fun q => absurd q (by decide)) ?_
            refine ⟨_, Or.inr (Or.inr ⟨by omega, by omega, Or.inl ⟨1, by decide, rfl, by show h (5 + a) 1 + h 13 b = h (12 + a) b; omega, fun c hc => ?_⟩⟩), rfl, rfl⟩
            rcases (show c = 0 by omega) with rfl <;> assumption
        · refine zH_go 1 (c' := (64, [some (.inr (.inr (some 3))), some (.inl (a : Int)), some (.inl (b : Int)), some (.inl (h (12 + a) b)), some (.inl 0)], [.inl 0], (zs h hl))) rfl ?_
          refine zH_ret (v := some (.inl 0)) rfl (fun q => absurd q (by decide)) ?_
          refine ⟨_, Or.inr (Or.inr ⟨by omega, by omega, Or.inl ⟨0, by decide, rfl, by show h (5 + a) 0 + h 12 b = h (12 + a) b; omega, fun c hc => ?_⟩⟩), rfl, rfl⟩
          exact absurd hc (Nat.not_lt_zero _)
      · show zH _ _ (25, [some (.inr (.inr (some 3))), some (.inl (a : Int)), some (.inl (b : Int)), some (.inl (h (12 + a) b)), none], [.inl 0], (zs h hl)) _
        refine zH_bf (x := 0) (y := 0) (k := .ne) (c1 := (31, [some (.inr (.inr (some 3))), some (.inl (a : Int)), some (.inl (b : Int)), some (.inl (h (12 + a) b)), none], [], (zs h hl))) (c2 := (28, [some (.inr (.inr (some 3))), some (.inl (a : Int)), some (.inl (b : Int)), some (.inl (h (12 + a) b)), none], [], (zs h hl))) rfl ⟨by decide, by decide⟩ ⟨by decide, by decide⟩ (by show ¬ (¬ 0 = 0); decide) ?_
        refine zH_go 1 (c' := (30, [some (.inr (.inr (some 3))), some (.inl (a : Int)), some (.inl (b : Int)), some (.inl (h (12 + a) b)), none], [.inl (-9)], (zs h hl))) rfl ?_
        refine zH_ret (v := some (.inl (-9))) rfl (fun q => absurd q (by decide)) ?_
        first | exact ⟨_, Or.inr (Or.inl ⟨by omega, by omega, rfl⟩), rfl, rfl⟩ | (exfalso; omega)
  · refine zH_go 1 (c' := (6, [some (.inr (.inr (some 3))), some (.inl (a : Int)), some (.inl (b : Int)), none, none], [.inl (b : Int)], (zs h hl))) rfl ?_
    refine zH_ret (v := some (.inl (b : Int))) rfl (fun q => absurd q (by decide)) ?_
    exact ⟨_, Or.inl ⟨by omega, rfl⟩, rfl, rfl⟩
/-- some PLACE has no way from PLACE 0 -/
def zTorn (h : Nat → Nat → Int) : Prop := ∃ i : Nat, 1 ≤ i ∧ (i : Int) < h 3 0 ∧ 1000000 ≤ h 12 i
set_option maxRecDepth 100000 in
set_option maxHeartbeats 4000000 in
theorem p_isTorn {d : Nat} {h hl : Nat → Nat → Int} (hP : 0 ≤ h 3 0 ∧ h 3 0 ≤ 6) (hB : zTB h) : zQ (d + 2) 54 [.inr (.inr (some 3))] (zs h hl) (zB (zTorn h) (zs h hl)) := by
  have t0 : 0 ≤ h 12 0 ∧ h 12 0 ≤ 1000000 := ⟨(hB 0 0 (by decide) (by decide)).1, (hB 0 0 (by decide) (by decide)).2.1⟩
  have t1 : 0 ≤ h 12 1 ∧ h 12 1 ≤ 1000000 := ⟨(hB 0 1 (by decide) (by decide)).1, (hB 0 1 (by decide) (by decide)).2.1⟩
  have t2 : 0 ≤ h 12 2 ∧ h 12 2 ≤ 1000000 := ⟨(hB 0 2 (by decide) (by decide)).1, (hB 0 2 (by decide) (by decide)).2.1⟩
  have t3 : 0 ≤ h 12 3 ∧ h 12 3 ≤ 1000000 := ⟨(hB 0 3 (by decide) (by decide)).1, (hB 0 3 (by decide) (by decide)).2.1⟩
  have t4 : 0 ≤ h 12 4 ∧ h 12 4 ≤ 1000000 := ⟨(hB 0 4 (by decide) (by decide)).1, (hB 0 4 (by decide) (by decide)).2.1⟩
  have t5 : 0 ≤ h 12 5 ∧ h 12 5 ≤ 1000000 := ⟨(hB 0 5 (by decide) (by decide)).1, (hB 0 5 (by decide) (by decide)).2.1⟩
  refine zQ_of (Nat.le_of_ble_eq_true rfl) ?_
  show zH (d + 1) 54 (0, [some (.inr (.inr (some 3))), none], [], (zs h hl)) _
  refine zH_go 5 (c' := (7, [some (.inr (.inr (some 3))), some (.inl 1)], [.inl (h 3 0), .inl 1], (zs h hl))) rfl ?_
  refine zH_br (x := 1) (y := (h 3 0)) (k := .ge) (c1 := (29, [some (.inr (.inr (some 3))), some (.inl 1)], [], (zs h hl))) (c2 := (10, [some (.inr (.inr (some 3))), some (.inl 1)], [], (zs h hl))) rfl ⟨by decide, by decide⟩ (by first | assumption | (unfold zr; omega)) (fun (b_1 : ¬ 1 < (h 3 0)) => ?_) (fun (b_1 : ¬ (¬ 1 < (h 3 0))) => ?_)
  · refine zH_go 1 (c' := (30, [some (.inr (.inr (some 3))), some (.inl 1)], [.inl 0], (zs h hl))) rfl ?_
    refine zH_ret (v := some (.inl 0)) rfl (fun _ => by first | exact Or.inl rfl | exact Or.inr rfl) ?_
    refine Or.inr ⟨rfl, fun ⟨i, q1, q2, q3⟩ => ?_, rfl⟩
    rcases (show i = 1 ∨ i = 2 ∨ i = 3 ∨ i = 4 ∨ i = 5 by omega) with rfl | rfl | rfl | rfl | rfl <;> omega
  · refine zH_go 3 (c' := (13, [some (.inr (.inr (some 3))), some (.inl 1)], [.inl 1, .inl 0, .inr (.inr (some 3))], (zs h hl))) rfl ?_
    refine zH_call (M' := 52) (as := [.inr (.inr (some 3)), .inl 0, .inl 1]) (T := []) rfl (p_gap (a := 0) (b := 1) (by decide) (by decide)) (fun r σ' p_2 => ?_)
    obtain ⟨rfl, rfl⟩ := p_2
    show zH _ _ (16, [some (.inr (.inr (some 3))), some (.inl 1)], [.inl (h 12 1)], (zs h hl)) _
    refine zH_go 1 (c' := (18, [some (.inr (.inr (some 3))), some (.inl 1)], [.inl 1000000, .inl (h 12 1)], (zs h hl))) rfl ?_
    refine zH_br (x := (h 12 1)) (y := 1000000) (k := .lt) (c1 := (23, [some (.inr (.inr (some 3))), some (.inl 1)], [], (zs h hl))) (c2 := (21, [some (.inr (.inr (some 3))), some (.inl 1)], [], (zs h hl))) rfl (by first | assumption | (unfold zr; omega)) ⟨by decide, by decide⟩ (fun (b_3 : (h 12 1) < 1000000) => ?_) (fun (b_3 : ¬ ((h 12 1) < 1000000)) => ?_)
    · refine zH_go 5 (c' := (7, [some (.inr (.inr (some 3))), some (.inl 2)], [.inl (h 3 0), .inl 2], (zs h hl))) rfl ?_
      refine zH_br (x := 2) (y := (h 3 0)) (k := .ge) (c1 := (29, [some (.inr (.inr (some 3))), some (.inl 2)], [], (zs h hl))) (c2 := (10, [some (.inr (.inr (some 3))), some (.inl 2)], [], (zs h hl))) rfl ⟨by decide, by decide⟩ (by first | assumption | (unfold zr; omega)) (fun (b_4 : ¬ 2 < (h 3 0)) => ?_) (fun (b_4 : ¬ (¬ 2 < (h 3 0))) => ?_)
      · refine zH_go 1 (c' := (30, [some (.inr (.inr (some 3))), some (.inl 2)], [.inl 0], (zs h hl))) rfl ?_
        refine zH_ret (v := some (.inl 0)) rfl (fun _ => by first | exact Or.inl rfl | exact Or.inr rfl) ?_
        refine Or.inr ⟨rfl, fun ⟨i, q1, q2, q3⟩ => ?_, rfl⟩
        rcases (show i = 1 ∨ i = 2 ∨ i = 3 ∨ i = 4 ∨ i = 5 by omega) with rfl | rfl | rfl | rfl | rfl <;> omega
      · refine zH_go 3 (c' := (13, [some (.inr (.inr (some 3))), some (.inl 2)], [.inl 2, .inl 0, .inr (.inr (some 3))], (zs h hl))) rfl ?_
        refine zH_call (M' := 52) (as := [.inr (.inr (some 3)), .inl 0, .inl 2]) (T := []) rfl (p_gap (a := 0) (b := 2) (by decide) (by decide)) (fun r σ' p_5 => ?_)
        obtain ⟨rfl, rfl⟩ := p_5
        show zH _ _ (16, [some (.inr (.inr (some 3))), some (.inl 2)], [.inl (h 12 2)], (zs h hl)) _
        refine zH_go 1 (c' := (18, [some (.inr (.inr (some 3))), some (.inl 2)], [.inl 1000000, .inl (h 12 2)], (zs h hl))) rfl ?_
        refine zH_br (x := (h 12 2)) (y := 1000000) (k := .lt) (c1 := (23, [some (.inr (.inr (some 3))), some (.inl 2)], [], (zs h hl))) (c2 := (21, [some (.inr (.inr (some 3))), some (.inl 2)], [], (zs h hl))) rfl (by first | assumption | (unfold zr; omega)) ⟨by decide, by decide⟩ (fun (b_6 : (h 12 2) < 1000000) => ?_) (fun (b_6 : ¬ ((h 12 2) < 1000000)) => ?_)
        · refine zH_go 5 (c' := (7, [some (.inr (.inr (some 3))), some (.inl 3)], [.inl (h 3 0), .inl 3], (zs h hl))) rfl ?_
          refine zH_br (x := 3) (y := (h 3 0)) (k := .ge) (c1 := (29, [some (.inr (.inr (some 3))), some (.inl 3)], [], (zs h hl))) (c2 := (10, [some (.inr (.inr (some 3))), some (.inl 3)], [], (zs h hl))) rfl ⟨by decide, by decide⟩ (by first | assumption | (unfold zr; omega)) (fun (b_7 : ¬ 3 < (h 3 0)) => ?_) (fun (b_7 : ¬ (¬ 3 < (h 3 0))) => ?_)
          · refine zH_go 1 (c' := (30, [some (.inr (.inr (some 3))), some (.inl 3)], [.inl 0], (zs h hl))) rfl ?_
            refine zH_ret (v := some (.inl 0)) rfl (fun _ => by first | exact Or.inl rfl | exact Or.inr rfl) ?_
            refine Or.inr ⟨rfl, fun ⟨i, q1, q2, q3⟩ => ?_, rfl⟩
            rcases (show i = 1 ∨ i = 2 ∨ i = 3 ∨ i = 4 ∨ i = 5 by omega) with rfl | rfl | rfl | rfl | rfl <;> omega
          · refine zH_go 3 (c' := (13, [some (.inr (.inr (some 3))), some (.inl 3)], [.inl 3, .inl 0, .inr (.inr (some 3))], (zs h hl))) rfl ?_
            refine zH_call (M' := 52) (as := [.inr (.inr (some 3)), .inl 0, .inl 3]) (T := []) rfl (p_gap (a := 0) (b := 3) (by decide) (by decide)) (fun r σ' p_8 => ?_)
            obtain ⟨rfl, rfl⟩ := p_8
            show zH _ _ (16, [some (.inr (.inr (some 3))), some (.inl 3)], [.inl (h 12 3)], (zs h hl)) _
            refine zH_go 1 (c' := (18, [some (.inr (.inr (some 3))), some (.inl 3)], [.inl 1000000, .inl (h 12 3)], (zs h hl))) rfl ?_
            refine zH_br (x := (h 12 3)) (y := 1000000) (k := .lt) (c1 := (23, [some (.inr (.inr (some 3))), some (.inl 3)], [], (zs h hl))) (c2 := (21, [some (.inr (.inr (some 3))), some (.inl 3)], [], (zs h hl))) rfl (by first | assumption | (unfold zr; omega)) ⟨by decide, by decide⟩ (fun (b_9 : (h 12 3) < 1000000) => ?_) (fun (b_9 : ¬ ((h 12 3) < 1000000)) => ?_)
            · refine zH_go 5 (c' := (7, [some (.inr (.inr (some 3))), some (.inl 4)], [.inl (h 3 0), .inl 4], (zs h hl))) rfl ?_
              refine zH_br (x := 4) (y := (h 3 0)) (k := .ge) (c1 := (29, [some (.inr (.inr (some 3))), some (.inl 4)], [], (zs h hl))) (c2 := (10, [some (.inr (.inr (some 3))), some (.inl 4)], [], (zs h hl))) rfl ⟨by decide, by decide⟩ (by first | assumption | (unfold zr; omega)) (fun (b_10 : ¬ 4 < (h 3 0)) => ?_) (fun (b_10 : ¬ (¬ 4 < (h 3 0))) => ?_)
              · refine zH_go 1 (c' := (30, [some (.inr (.inr (some 3))), some (.inl 4)], [.inl 0], (zs h hl))) rfl ?_
                refine zH_ret (v := some (.inl 0)) rfl (fun _ => by first | exact Or.inl rfl | exact Or.inr rfl) ?_
                refine Or.inr ⟨rfl, fun ⟨i, q1, q2, q3⟩ => ?_, rfl⟩
                rcases (show i = 1 ∨ i = 2 ∨ i = 3 ∨ i = 4 ∨ i = 5 by omega) with rfl | rfl | rfl | rfl | rfl <;> omega
              · refine zH_go 3 (c' := (13, [some (.inr (.inr (some 3))), some (.inl 4)], [.inl 4, .inl 0, .inr (.inr (some 3))], (zs h hl))) rfl ?_
                refine zH_call (M' := 52) (as := [.inr (.inr (some 3)), .inl 0, .inl 4]) (T := []) rfl (p_gap (a := 0) (b := 4) (by decide) (by decide)) (fun r σ' p_11 => ?_)
                obtain ⟨rfl, rfl⟩ := p_11
                show zH _ _ (16, [some (.inr (.inr (some 3))), some (.inl 4)], [.inl (h 12 4)], (zs h hl)) _
                refine zH_go 1 (c' := (18, [some (.inr (.inr (some 3))), some (.inl 4)], [.inl 1000000, .inl (h 12 4)], (zs h hl))) rfl ?_
                refine zH_br (x := (h 12 4)) (y := 1000000) (k := .lt) (c1 := (23, [some (.inr (.inr (some 3))), some (.inl 4)], [], (zs h hl))) (c2 := (21, [some (.inr (.inr (some 3))), some (.inl 4)], [], (zs h hl))) rfl (by first | assumption | (unfold zr; omega)) ⟨by decide, by decide⟩ (fun (b_12 : (h 12 4) < 1000000) => ?_) (fun (b_12 : ¬ ((h 12 4) < 1000000)) => ?_)
                · refine zH_go 5 (c' := (7, [some (.inr (.inr (some 3))), some (.inl 5)], [.inl (h 3 0), .inl 5], (zs h hl))) rfl ?_
                  refine zH_br (x := 5) (y := (h 3 0)) (k := .ge) (c1 := (29, [some (.inr (.inr (some 3))), some (.inl 5)], [], (zs h hl))) (c2 := (10, [some (.inr (.inr (some 3))), some (.inl 5)], [], (zs h hl))) rfl ⟨by decide, by decide⟩ (by first | assumption | (unfold zr; omega)) (fun (b_13 : ¬ 5 < (h 3 0)) => ?_) (fun (b_13 : ¬ (¬ 5 < (h 3 0))) => ?_)
                  · refine zH_go 1 (c' := (30, [some (.inr (.inr (some 3))), some (.inl 5)], [.inl 0], (zs h hl))) rfl ?_
                    refine zH_ret (v := some (.inl 0)) rfl (fun _ => by first | exact Or.inl rfl | exact Or.inr rfl) ?_
                    refine Or.inr ⟨rfl, fun ⟨i, q1, q2, q3⟩ => ?_, rfl⟩
                    rcases (show i = 1 ∨ i = 2 ∨ i = 3 ∨ i = 4 ∨ i = 5 by omega) with rfl | rfl | rfl | rfl | rfl <;> omega
                  · refine zH_go 3 (c' := (13, [some (.inr (.inr (some 3))), some (.inl 5)], [.inl 5, .inl 0, .inr (.inr (some 3))], (zs h hl))) rfl ?_
                    refine zH_call (M' := 52) (as := [.inr (.inr (some 3)), .inl 0, .inl 5]) (T := []) rfl (p_gap (a := 0) (b := 5) (by decide) (by decide)) (fun r σ' p_14 => ?_)
                    obtain ⟨rfl, rfl⟩ := p_14
                    show zH _ _ (16, [some (.inr (.inr (some 3))), some (.inl 5)], [.inl (h 12 5)], (zs h hl)) _
                    refine zH_go 1 (c' := (18, [some (.inr (.inr (some 3))), some (.inl 5)], [.inl 1000000, .inl (h 12 5)], (zs h hl))) rfl ?_
                    refine zH_br (x := (h 12 5)) (y := 1000000) (k := .lt) (c1 := (23, [some (.inr (.inr (some 3))), some (.inl 5)], [], (zs h hl))) (c2 := (21, [some (.inr (.inr (some 3))), some (.inl 5)], [], (zs h hl))) rfl (by first | assumption | (unfold zr; omega)) ⟨by decide, by decide⟩ (fun (b_15 : (h 12 5) < 1000000) => ?_) (fun (b_15 : ¬ ((h 12 5) < 1000000)) => ?_)
                    · refine zH_go 5 (c' := (7, [some (.inr (.inr (some 3))), some (.inl 6)], [.inl (h 3 0), .inl 6], (zs h hl))) rfl ?_
                      refine zH_br (x := 6) (y := (h 3 0)) (k := .ge) (c1 := (29, [some (.inr (.inr (some 3))), some (.inl 6)], [], (zs h hl))) (c2 := (10, [some (.inr (.inr (some 3))), some (.inl 6)], [], (zs h hl))) rfl ⟨by decide, by decide⟩ (by first | assumption | (unfold zr; omega)) (fun (b_16 : ¬ 6 < (h 3 0)) => ?_) (fun (b_16 : ¬ (¬ 6 < (h 3 0))) => ?_)
                      · refine zH_go 1 (c' := (30, [some (.inr (.inr (some 3))), some (.inl 6)], [.inl 0], (zs h hl))) rfl ?_
                        refine zH_ret (v := some (.inl 0)) rfl (fun _ => by first | exact Or.inl rfl | exact Or.inr rfl) ?_
                        refine Or.inr ⟨rfl, fun ⟨i, q1, q2, q3⟩ => ?_, rfl⟩
                        rcases (show i = 1 ∨ i = 2 ∨ i = 3 ∨ i = 4 ∨ i = 5 by omega) with rfl | rfl | rfl | rfl | rfl <;> omega
                      · exfalso
                        omega
                    · refine zH_go 1 (c' := (22, [some (.inr (.inr (some 3))), some (.inl 5)], [.inl 1], (zs h hl))) rfl ?_
                      refine zH_ret (v := some (.inl 1)) rfl (fun _ => by first | exact Or.inl rfl | exact Or.inr rfl) ?_
                      exact Or.inl ⟨rfl, ⟨5, by omega, by omega, by omega⟩, rfl⟩
                · refine zH_go 1 (c' := (22, [some (.inr (.inr (some 3))), some (.inl 4)], [.inl 1], (zs h hl))) rfl ?_
                  refine zH_ret (v := some (.inl 1)) rfl (fun _ => by first | exact Or.inl rfl | exact Or.inr rfl) ?_
                  exact Or.inl ⟨rfl, ⟨4, by omega, by omega, by omega⟩, rfl⟩
            · refine zH_go 1 (c' := (22, [some (.inr (.inr (some 3))), some (.inl 3)], [.inl 1], (zs h hl))) rfl ?_
              refine zH_ret (v := some (.inl 1)) rfl (fun _ => by first | exact Or.inl rfl | exact Or.inr rfl) ?_
              exact Or.inl ⟨rfl, ⟨3, by omega, by omega, by omega⟩, rfl⟩
        · refine zH_go 1 (c' := (22, [some (.inr (.inr (some 3))), some (.inl 2)], [.inl 1], (zs h hl))) rfl ?_
          refine zH_ret (v := some (.inl 1)) rfl (fun _ => by first | exact Or.inl rfl | exact Or.inr rfl) ?_
          exact Or.inl ⟨rfl, ⟨2, by omega, by omega, by omega⟩, rfl⟩
    · refine zH_go 1 (c' := (22, [some (.inr (.inr (some 3))), some (.inl 1)], [.inl 1], (zs h hl))) rfl ?_
      refine zH_ret (v := some (.inl 1)) rfl (fun _ => by first | exact Or.inl rfl | exact Or.inr rfl) ?_
      exact Or.inl ⟨rfl, ⟨1, by omega, by omega, by omega⟩, rfl⟩
