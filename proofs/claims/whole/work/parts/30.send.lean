/-! A day: a LADDER goes; it is taken back; beginning and end; what is told. -/
def zSendP (h g : Nat → Nat → Int) (n l : Nat) (kind : Int) (DY FA SP SU PL GO WA KI SB TB : Nat) : Prop := (∀ c : Nat, c ≠ DY → c ≠ SP → c ≠ SU → c ≠ PL → c ≠ GO → c ≠ WA → c ≠ KI → c ≠ SB → c ≠ TB → g c = h c) ∧ (g PL n = h DY 7 ∧ g GO n = (l : Int) ∧ g WA n = h FA l ∧ g KI n = kind ∧ g SB n = h SP l ∧ g TB n = h DY 6) ∧ (∀ j : Nat, j ≠ n → g PL j = h PL j ∧ g GO j = h GO j ∧ g WA j = h WA j ∧ g KI j = h KI j ∧ g SB j = h SB j ∧ g TB j = h TB j) ∧ (g DY 6 = if kind = 2 ∧ 0 < h FA l then (l : Int) else h DY 6) ∧ g DY 4 = (n : Int) + 1 ∧ (∀ j : Nat, j ≠ 4 → j ≠ 6 → g DY j = h DY j) ∧ (g SU l = h SU l + h FA l ∧ g SP l = h DY 7) ∧ ∀ j : Nat, j ≠ l → g SU j = h SU j ∧ g SP j = h SP j
def zBackP (h g : Nat → Nat → Int) (n l : Nat) (DY SP SU WA SB TB : Nat) : Prop := (∀ c : Nat, c ≠ DY → c ≠ SP → c ≠ SU → g c = h c) ∧ g DY 6 = h TB n ∧ g DY 4 = (n : Int) ∧ (∀ j : Nat, j ≠ 4 → j ≠ 6 → g DY j = h DY j) ∧ (g SU l = h SU l - h WA n ∧ g SP l = h SB n) ∧ ∀ j : Nat, j ≠ l → g SU j = h SU j ∧ g SP j = h SP j
set_option maxRecDepth 100000 in
set_option maxHeartbeats 4000000 in
theorem p_sendD {d : Nat} {h hl : Nat → Nat → Int} {n l : Nat} {kind : Int} (hl3 : l < 3) (hk : 0 ≤ kind ∧ kind ≤ 3) (hn : h 21 4 = (n : Int)) (hn2 : n < 12) (hf : zr (h 39 l)) : zQ (d + 2) 17 [.inr (.inr (some 21)), .inl (l : Int), .inl kind] (zs h hl) (fun r σ' => r = none ∧ ∃ g : Nat → Nat → Int, σ' = zs g hl ∧ zSendP h g n l kind 21 39 40 41 42 43 44 45 46 47) := by
  refine zQ_of (Nat.le_of_ble_eq_true rfl) ?_
  show zH (d + 1) 17 (0, [some (.inr (.inr (some 21))), some (.inl (l : Int)), some (.inl kind), none], [], (zs h hl)) _
  refine zH_go 2 (c' := (4, [some (.inr (.inr (some 21))), some (.inl (l : Int)), some (.inl kind), none], [.inl (h 21 4)], (zs h hl))) rfl ?_
  rw [hn]
  refine zH_br (x := (n : Int)) (y := 0) (k := .lt) (c1 := (28, [some (.inr (.inr (some 21))), some (.inl (l : Int)), some (.inl kind), none], [], (zs h hl))) (c2 := (7, [some (.inr (.inr (some 21))), some (.inl (l : Int)), some (.inl kind), none], [], (zs h hl))) rfl (by first | assumption | (unfold zr; omega)) ⟨by decide, by decide⟩ (fun (b_1 : (n : Int) < 0) => ?_) (fun (b_1 : ¬ ((n : Int) < 0)) => ?_)
  · exfalso
    omega
  · refine zH_go 2 (c' := (11, [some (.inr (.inr (some 21))), some (.inl (l : Int)), some (.inl kind), none], [.inl (h 21 4)], (zs h hl))) rfl ?_
    rw [hn]
    refine zH_go 3 (c' := (16, [some (.inr (.inr (some 21))), some (.inl (l : Int)), some (.inl kind), none], [.inl 12, .inl (n : Int)], (zs h hl))) rfl ?_
    refine zH_br (x := (n : Int)) (y := 12) (k := .ge) (c1 := (28, [some (.inr (.inr (some 21))), some (.inl (l : Int)), some (.inl kind), none], [], (zs h hl))) (c2 := (19, [some (.inr (.inr (some 21))), some (.inl (l : Int)), some (.inl kind), none], [], (zs h hl))) rfl (by first | assumption | (unfold zr; omega)) ⟨by decide, by decide⟩ (fun (b_2 : ¬ (n : Int) < 12) => ?_) (fun (b_2 : ¬ (¬ (n : Int) < 12)) => ?_)
    · exfalso
      omega
    · refine zH_go 1 (c' := (20, [some (.inr (.inr (some 21))), some (.inl (l : Int)), some (.inl kind), none], [.inl (l : Int)], (zs h hl))) rfl ?_
      refine zH_br (x := (l : Int)) (y := 0) (k := .lt) (c1 := (28, [some (.inr (.inr (some 21))), some (.inl (l : Int)), some (.inl kind), none], [], (zs h hl))) (c2 := (23, [some (.inr (.inr (some 21))), some (.inl (l : Int)), some (.inl kind), none], [], (zs h hl))) rfl (by first | assumption | (unfold zr; omega)) ⟨by decide, by decide⟩ (fun (b_3 : (l : Int) < 0) => ?_) (fun (b_3 : ¬ ((l : Int) < 0)) => ?_)
      · exfalso
        omega
      · refine zH_go 2 (c' := (25, [some (.inr (.inr (some 21))), some (.inl (l : Int)), some (.inl kind), none], [.inl 3, .inl (l : Int)], (zs h hl))) rfl ?_
        refine zH_br (x := (l : Int)) (y := 3) (k := .lt) (c1 := (29, [some (.inr (.inr (some 21))), some (.inl (l : Int)), some (.inl kind), none], [], (zs h hl))) (c2 := (28, [some (.inr (.inr (some 21))), some (.inl (l : Int)), some (.inl kind), none], [], (zs h hl))) rfl (by first | assumption | (unfold zr; omega)) ⟨by decide, by decide⟩ (fun (b_4 : (l : Int) < 3) => ?_) (fun (b_4 : ¬ ((l : Int) < 3)) => ?_)
        · refine zH_go 2 (c' := (31, [some (.inr (.inr (some 21))), some (.inl (l : Int)), some (.inl kind), none], [.inl (l : Int), .inr (.inr (some 21))], (zs h hl))) rfl ?_
          refine zH_call (M' := 20) (as := [.inr (.inr (some 21)), .inl (l : Int)]) (T := []) rfl (p_farD (l := l) hl3) (fun r σ' p_5 => ?_)
          obtain ⟨rfl, rfl⟩ := p_5
          show zH _ _ (34, [some (.inr (.inr (some 21))), some (.inl (l : Int)), some (.inl kind), none], [.inl (h 39 l)], (zs h hl)) _
          refine zH_go 5 (c' := (43, [some (.inr (.inr (some 21))), some (.inl (l : Int)), some (.inl kind), some (.inl (h 39 l))], [.inl (h 21 4), .inr (.inr (some 42))], (zs h hl))) rfl ?_
          rw [hn]
          refine zH_go 2 (c' := (47, [some (.inr (.inr (some 21))), some (.inl (l : Int)), some (.inl kind), some (.inl (h 39 l))], [.inl (h 21 7), .inl (n : Int), .inr (.inr (some 42))], (zs h hl))) rfl ?_
          refine zH_np (P := 0 ≤ (n : Int) ∧ (n : Int) < ((12 : Nat) : Int)) (c' := (48, [some (.inr (.inr (some 21))), some (.inl (l : Int)), some (.inl kind), some (.inl (h 39 l))], [], (zs (zup h 42 n (h 21 7)) hl))) rfl ⟨by omega, by omega⟩ ?_
          refine zH_go 4 (c' := (56, [some (.inr (.inr (some 21))), some (.inl (l : Int)), some (.inl kind), some (.inl (h 39 l))], [.inl (h 21 4), .inr (.inr (some 43))], (zs (zup h 42 n (h 21 7)) hl))) rfl ?_
          rw [hn]
          refine zH_go 1 (c' := (57, [some (.inr (.inr (some 21))), some (.inl (l : Int)), some (.inl kind), some (.inl (h 39 l))], [.inl (l : Int), .inl (n : Int), .inr (.inr (some 43))], (zs (zup h 42 n (h 21 7)) hl))) rfl ?_
          refine zH_np (P := 0 ≤ (n : Int) ∧ (n : Int) < ((12 : Nat) : Int)) (c' := (58, [some (.inr (.inr (some 21))), some (.inl (l : Int)), some (.inl kind), some (.inl (h 39 l))], [], (zs (zup (zup h 42 n (h 21 7)) 43 n (l : Int)) hl))) rfl ⟨by omega, by omega⟩ ?_
          refine zH_go 4 (c' := (66, [some (.inr (.inr (some 21))), some (.inl (l : Int)), some (.inl kind), some (.inl (h 39 l))], [.inl (h 21 4), .inr (.inr (some 44))], (zs (zup (zup h 42 n (h 21 7)) 43 n (l : Int)) hl))) rfl ?_
          rw [hn]
          refine zH_go 1 (c' := (67, [some (.inr (.inr (some 21))), some (.inl (l : Int)), some (.inl kind), some (.inl (h 39 l))], [.inl (h 39 l), .inl (n : Int), .inr (.inr (some 44))], (zs (zup (zup h 42 n (h 21 7)) 43 n (l : Int)) hl))) rfl ?_
          refine zH_np (P := 0 ≤ (n : Int) ∧ (n : Int) < ((12 : Nat) : Int)) (c' := (68, [some (.inr (.inr (some 21))), some (.inl (l : Int)), some (.inl kind), some (.inl (h 39 l))], [], (zs (zup (zup (zup h 42 n (h 21 7)) 43 n (l : Int)) 44 n (h 39 l)) hl))) rfl ⟨by omega, by omega⟩ ?_
          refine zH_go 4 (c' := (76, [some (.inr (.inr (some 21))), some (.inl (l : Int)), some (.inl kind), some (.inl (h 39 l))], [.inl (h 21 4), .inr (.inr (some 45))], (zs (zup (zup (zup h 42 n (h 21 7)) 43 n (l : Int)) 44 n (h 39 l)) hl))) rfl ?_
          rw [hn]
          refine zH_go 1 (c' := (77, [some (.inr (.inr (some 21))), some (.inl (l : Int)), some (.inl kind), some (.inl (h 39 l))], [.inl kind, .inl (n : Int), .inr (.inr (some 45))], (zs (zup (zup (zup h 42 n (h 21 7)) 43 n (l : Int)) 44 n (h 39 l)) hl))) rfl ?_
          refine zH_np (P := 0 ≤ (n : Int) ∧ (n : Int) < ((12 : Nat) : Int)) (c' := (78, [some (.inr (.inr (some 21))), some (.inl (l : Int)), some (.inl kind), some (.inl (h 39 l))], [], (zs (zup (zup (zup (zup h 42 n (h 21 7)) 43 n (l : Int)) 44 n (h 39 l)) 45 n kind) hl))) rfl ⟨by omega, by omega⟩ ?_
          refine zH_go 4 (c' := (86, [some (.inr (.inr (some 21))), some (.inl (l : Int)), some (.inl kind), some (.inl (h 39 l))], [.inl (h 21 4), .inr (.inr (some 46))], (zs (zup (zup (zup (zup h 42 n (h 21 7)) 43 n (l : Int)) 44 n (h 39 l)) 45 n kind) hl))) rfl ?_
          rw [hn]
          refine zH_go 3 (c' := (91, [some (.inr (.inr (some 21))), some (.inl (l : Int)), some (.inl kind), some (.inl (h 39 l))], [.inl (l : Int), .inr (.inr (some 40)), .inl (n : Int), .inr (.inr (some 46))], (zs (zup (zup (zup (zup h 42 n (h 21 7)) 43 n (l : Int)) 44 n (h 39 l)) 45 n kind) hl))) rfl ?_
          refine zH_np (P := 0 ≤ (l : Int) ∧ (l : Int) < ((3 : Nat) : Int)) (c' := (92, [some (.inr (.inr (some 21))), some (.inl (l : Int)), some (.inl kind), some (.inl (h 39 l))], [.inl (h 40 l), .inl (n : Int), .inr (.inr (some 46))], (zs (zup (zup (zup (zup h 42 n (h 21 7)) 43 n (l : Int)) 44 n (h 39 l)) 45 n kind) hl))) rfl ⟨by omega, by omega⟩ ?_
          refine zH_np (P := 0 ≤ (n : Int) ∧ (n : Int) < ((12 : Nat) : Int)) (c' := (93, [some (.inr (.inr (some 21))), some (.inl (l : Int)), some (.inl kind), some (.inl (h 39 l))], [], (zs (zup (zup (zup (zup (zup h 42 n (h 21 7)) 43 n (l : Int)) 44 n (h 39 l)) 45 n kind) 46 n (h 40 l)) hl))) rfl ⟨by omega, by omega⟩ ?_
          refine zH_go 4 (c' := (101, [some (.inr (.inr (some 21))), some (.inl (l : Int)), some (.inl kind), some (.inl (h 39 l))], [.inl (h 21 4), .inr (.inr (some 47))], (zs (zup (zup (zup (zup (zup h 42 n (h 21 7)) 43 n (l : Int)) 44 n (h 39 l)) 45 n kind) 46 n (h 40 l)) hl))) rfl ?_
          rw [hn]
          refine zH_go 2 (c' := (105, [some (.inr (.inr (some 21))), some (.inl (l : Int)), some (.inl kind), some (.inl (h 39 l))], [.inl (h 21 6), .inl (n : Int), .inr (.inr (some 47))], (zs (zup (zup (zup (zup (zup h 42 n (h 21 7)) 43 n (l : Int)) 44 n (h 39 l)) 45 n kind) 46 n (h 40 l)) hl))) rfl ?_
          refine zH_np (P := 0 ≤ (n : Int) ∧ (n : Int) < ((12 : Nat) : Int)) (c' := (106, [some (.inr (.inr (some 21))), some (.inl (l : Int)), some (.inl kind), some (.inl (h 39 l))], [], (zs (zup (zup (zup (zup (zup (zup h 42 n (h 21 7)) 43 n (l : Int)) 44 n (h 39 l)) 45 n kind) 46 n (h 40 l)) 47 n (h 21 6)) hl))) rfl ⟨by omega, by omega⟩ ?_
          refine zH_go 2 (c' := (108, [some (.inr (.inr (some 21))), some (.inl (l : Int)), some (.inl kind), some (.inl (h 39 l))], [.inl 2, .inl kind], (zs (zup (zup (zup (zup (zup (zup h 42 n (h 21 7)) 43 n (l : Int)) 44 n (h 39 l)) 45 n kind) 46 n (h 40 l)) 47 n (h 21 6)) hl))) rfl ?_
          refine zH_br (x := kind) (y := 2) (k := .ne) (c1 := (120, [some (.inr (.inr (some 21))), some (.inl (l : Int)), some (.inl kind), some (.inl (h 39 l))], [], (zs (zup (zup (zup (zup (zup (zup h 42 n (h 21 7)) 43 n (l : Int)) 44 n (h 39 l)) 45 n kind) 46 n (h 40 l)) 47 n (h 21 6)) hl))) (c2 := (111, [some (.inr (.inr (some 21))), some (.inl (l : Int)), some (.inl kind), some (.inl (h 39 l))], [], (zs (zup (zup (zup (zup (zup (zup h 42 n (h 21 7)) 43 n (l : Int)) 44 n (h 39 l)) 45 n kind) 46 n (h 40 l)) 47 n (h 21 6)) hl))) rfl (by first | assumption | (unfold zr; omega)) ⟨by decide, by decide⟩ (fun (b_6 : ¬ kind = 2) => ?_) (fun (b_6 : ¬ (¬ kind = 2)) => ?_)
          · refine zH_go 4 (c' := (126, [some (.inr (.inr (some 21))), some (.inl (l : Int)), some (.inl kind), some (.inl (h 39 l))], [.inl (l : Int), .inr (.inr (some 41)), .inl (l : Int), .inr (.inr (some 41))], (zs (zup (zup (zup (zup (zup (zup h 42 n (h 21 7)) 43 n (l : Int)) 44 n (h 39 l)) 45 n kind) 46 n (h 40 l)) 47 n (h 21 6)) hl))) rfl ?_
            refine zH_np (P := 0 ≤ (l : Int) ∧ (l : Int) < ((3 : Nat) : Int)) (c' := (127, [some (.inr (.inr (some 21))), some (.inl (l : Int)), some (.inl kind), some (.inl (h 39 l))], [.inl (h 41 l), .inl (l : Int), .inr (.inr (some 41))], (zs (zup (zup (zup (zup (zup (zup h 42 n (h 21 7)) 43 n (l : Int)) 44 n (h 39 l)) 45 n kind) 46 n (h 40 l)) 47 n (h 21 6)) hl))) rfl ⟨by omega, by omega⟩ ?_
            refine zH_go 2 (c' := (129, [some (.inr (.inr (some 21))), some (.inl (l : Int)), some (.inl kind), some (.inl (h 39 l))], [.inl ((h 41 l) + (h 39 l)), .inl (l : Int), .inr (.inr (some 41))], (zs (zup (zup (zup (zup (zup (zup h 42 n (h 21 7)) 43 n (l : Int)) 44 n (h 39 l)) 45 n kind) 46 n (h 40 l)) 47 n (h 21 6)) hl))) rfl ?_
            refine zH_np (P := 0 ≤ (l : Int) ∧ (l : Int) < ((3 : Nat) : Int)) (c' := (130, [some (.inr (.inr (some 21))), some (.inl (l : Int)), some (.inl kind), some (.inl (h 39 l))], [], (zs (zup (zup (zup (zup (zup (zup (zup h 42 n (h 21 7)) 43 n (l : Int)) 44 n (h 39 l)) 45 n kind) 46 n (h 40 l)) 47 n (h 21 6)) 41 l ((h 41 l) + (h 39 l))) hl))) rfl ⟨by omega, by omega⟩ ?_
            refine zH_go 5 (c' := (139, [some (.inr (.inr (some 21))), some (.inl (l : Int)), some (.inl kind), some (.inl (h 39 l))], [.inl (h 21 7), .inl (l : Int), .inr (.inr (some 40))], (zs (zup (zup (zup (zup (zup (zup (zup h 42 n (h 21 7)) 43 n (l : Int)) 44 n (h 39 l)) 45 n kind) 46 n (h 40 l)) 47 n (h 21 6)) 41 l ((h 41 l) + (h 39 l))) hl))) rfl ?_
            refine zH_np (P := 0 ≤ (l : Int) ∧ (l : Int) < ((3 : Nat) : Int)) (c' := (140, [some (.inr (.inr (some 21))), some (.inl (l : Int)), some (.inl kind), some (.inl (h 39 l))], [], (zs (zup (zup (zup (zup (zup (zup (zup (zup h 42 n (h 21 7)) 43 n (l : Int)) 44 n (h 39 l)) 45 n kind) 46 n (h 40 l)) 47 n (h 21 6)) 41 l ((h 41 l) + (h 39 l))) 40 l (h 21 7)) hl))) rfl ⟨by omega, by omega⟩ ?_
            refine zH_go 3 (c' := (145, [some (.inr (.inr (some 21))), some (.inl (l : Int)), some (.inl kind), some (.inl (h 39 l))], [.inl (h 21 4), .inr (.inr (some 21))], (zs (zup (zup (zup (zup (zup (zup (zup (zup h 42 n (h 21 7)) 43 n (l : Int)) 44 n (h 39 l)) 45 n kind) 46 n (h 40 l)) 47 n (h 21 6)) 41 l ((h 41 l) + (h 39 l))) 40 l (h 21 7)) hl))) rfl ?_
            rw [hn]
            refine zH_go 3 (c' := (150, [some (.inr (.inr (some 21))), some (.inl (l : Int)), some (.inl kind), some (.inl (h 39 l))], [], (zs (zup (zup (zup (zup (zup (zup (zup (zup (zup h 42 n (h 21 7)) 43 n (l : Int)) 44 n (h 39 l)) 45 n kind) 46 n (h 40 l)) 47 n (h 21 6)) 41 l ((h 41 l) + (h 39 l))) 40 l (h 21 7)) 21 4 ((n : Int) + 1)) hl))) rfl ?_
            refine zH_ret (v := none) rfl (fun q => absurd q (by decide)) ?_
            refine ⟨rfl, _, rfl, fun c a1 a2 a3 a4 a5 a6 a7 a8 a9 => ?_, ?_, fun j hj => ?_, ?_, ?_, fun j h1 h2 => ?_, ?_, fun j hj => ?_⟩
            · funext k; simp [zup_at, a1, a2, a3, a4, a5, a6, a7, a8, a9]
            · simp [zup_at]
            · simp [zup_at, hj]
            · rw [if_neg (by omega)]; simp [zup_at]
            · simp [zup_at]
            · simp [zup_at, h1, h2]
            · simp [zup_at]
            · simp [zup_at, hj]
          · refine zH_go 1 (c' := (112, [some (.inr (.inr (some 21))), some (.inl (l : Int)), some (.inl kind), some (.inl (h 39 l))], [.inl (h 39 l)], (zs (zup (zup (zup (zup (zup (zup h 42 n (h 21 7)) 43 n (l : Int)) 44 n (h 39 l)) 45 n kind) 46 n (h 40 l)) 47 n (h 21 6)) hl))) rfl ?_
            refine zH_br (x := (h 39 l)) (y := 0) (k := .le) (c1 := (120, [some (.inr (.inr (some 21))), some (.inl (l : Int)), some (.inl kind), some (.inl (h 39 l))], [], (zs (zup (zup (zup (zup (zup (zup h 42 n (h 21 7)) 43 n (l : Int)) 44 n (h 39 l)) 45 n kind) 46 n (h 40 l)) 47 n (h 21 6)) hl))) (c2 := (115, [some (.inr (.inr (some 21))), some (.inl (l : Int)), some (.inl kind), some (.inl (h 39 l))], [], (zs (zup (zup (zup (zup (zup (zup h 42 n (h 21 7)) 43 n (l : Int)) 44 n (h 39 l)) 45 n kind) 46 n (h 40 l)) 47 n (h 21 6)) hl))) rfl (by first | assumption | (unfold zr; omega)) ⟨by decide, by decide⟩ (fun (b_7 : ¬ 0 < (h 39 l)) => ?_) (fun (b_7 : ¬ (¬ 0 < (h 39 l))) => ?_)
            · refine zH_go 4 (c' := (126, [some (.inr (.inr (some 21))), some (.inl (l : Int)), some (.inl kind), some (.inl (h 39 l))], [.inl (l : Int), .inr (.inr (some 41)), .inl (l : Int), .inr (.inr (some 41))], (zs (zup (zup (zup (zup (zup (zup h 42 n (h 21 7)) 43 n (l : Int)) 44 n (h 39 l)) 45 n kind) 46 n (h 40 l)) 47 n (h 21 6)) hl))) rfl ?_
              refine zH_np (P := 0 ≤ (l : Int) ∧ (l : Int) < ((3 : Nat) : Int)) (c' := (127, [some (.inr (.inr (some 21))), some (.inl (l : Int)), some (.inl kind), some (.inl (h 39 l))], [.inl (h 41 l), .inl (l : Int), .inr (.inr (some 41))], (zs (zup (zup (zup (zup (zup (zup h 42 n (h 21 7)) 43 n (l : Int)) 44 n (h 39 l)) 45 n kind) 46 n (h 40 l)) 47 n (h 21 6)) hl))) rfl ⟨by omega, by omega⟩ ?_
              refine zH_go 2 (c' := (129, [some (.inr (.inr (some 21))), some (.inl (l : Int)), some (.inl kind), some (.inl (h 39 l))], [.inl ((h 41 l) + (h 39 l)), .inl (l : Int), .inr (.inr (some 41))], (zs (zup (zup (zup (zup (zup (zup h 42 n (h 21 7)) 43 n (l : Int)) 44 n (h 39 l)) 45 n kind) 46 n (h 40 l)) 47 n (h 21 6)) hl))) rfl ?_
              refine zH_np (P := 0 ≤ (l : Int) ∧ (l : Int) < ((3 : Nat) : Int)) (c' := (130, [some (.inr (.inr (some 21))), some (.inl (l : Int)), some (.inl kind), some (.inl (h 39 l))], [], (zs (zup (zup (zup (zup (zup (zup (zup h 42 n (h 21 7)) 43 n (l : Int)) 44 n (h 39 l)) 45 n kind) 46 n (h 40 l)) 47 n (h 21 6)) 41 l ((h 41 l) + (h 39 l))) hl))) rfl ⟨by omega, by omega⟩ ?_
              refine zH_go 5 (c' := (139, [some (.inr (.inr (some 21))), some (.inl (l : Int)), some (.inl kind), some (.inl (h 39 l))], [.inl (h 21 7), .inl (l : Int), .inr (.inr (some 40))], (zs (zup (zup (zup (zup (zup (zup (zup h 42 n (h 21 7)) 43 n (l : Int)) 44 n (h 39 l)) 45 n kind) 46 n (h 40 l)) 47 n (h 21 6)) 41 l ((h 41 l) + (h 39 l))) hl))) rfl ?_
              refine zH_np (P := 0 ≤ (l : Int) ∧ (l : Int) < ((3 : Nat) : Int)) (c' := (140, [some (.inr (.inr (some 21))), some (.inl (l : Int)), some (.inl kind), some (.inl (h 39 l))], [], (zs (zup (zup (zup (zup (zup (zup (zup (zup h 42 n (h 21 7)) 43 n (l : Int)) 44 n (h 39 l)) 45 n kind) 46 n (h 40 l)) 47 n (h 21 6)) 41 l ((h 41 l) + (h 39 l))) 40 l (h 21 7)) hl))) rfl ⟨by omega, by omega⟩ ?_
              refine zH_go 3 (c' := (145, [some (.inr (.inr (some 21))), some (.inl (l : Int)), some (.inl kind), some (.inl (h 39 l))], [.inl (h 21 4), .inr (.inr (some 21))], (zs (zup (zup (zup (zup (zup (zup (zup (zup h 42 n (h 21 7)) 43 n (l : Int)) 44 n (h 39 l)) 45 n kind) 46 n (h 40 l)) 47 n (h 21 6)) 41 l ((h 41 l) + (h 39 l))) 40 l (h 21 7)) hl))) rfl ?_
              rw [hn]
              refine zH_go 3 (c' := (150, [some (.inr (.inr (some 21))), some (.inl (l : Int)), some (.inl kind), some (.inl (h 39 l))], [], (zs (zup (zup (zup (zup (zup (zup (zup (zup (zup h 42 n (h 21 7)) 43 n (l : Int)) 44 n (h 39 l)) 45 n kind) 46 n (h 40 l)) 47 n (h 21 6)) 41 l ((h 41 l) + (h 39 l))) 40 l (h 21 7)) 21 4 ((n : Int) + 1)) hl))) rfl ?_
              refine zH_ret (v := none) rfl (fun q => absurd q (by decide)) ?_
              refine ⟨rfl, _, rfl, fun c a1 a2 a3 a4 a5 a6 a7 a8 a9 => ?_, ?_, fun j hj => ?_, ?_, ?_, fun j h1 h2 => ?_, ?_, fun j hj => ?_⟩
              · funext k; simp [zup_at, a1, a2, a3, a4, a5, a6, a7, a8, a9]
              · simp [zup_at]
              · simp [zup_at, hj]
              · rw [if_neg (by omega)]; simp [zup_at]
              · simp [zup_at]
              · simp [zup_at, h1, h2]
              · simp [zup_at]
              · simp [zup_at, hj]
            · refine zH_go 7 (c' := (126, [some (.inr (.inr (some 21))), some (.inl (l : Int)), some (.inl kind), some (.inl (h 39 l))], [.inl (l : Int), .inr (.inr (some 41)), .inl (l : Int), .inr (.inr (some 41))], (zs (zup (zup (zup (zup (zup (zup (zup h 42 n (h 21 7)) 43 n (l : Int)) 44 n (h 39 l)) 45 n kind) 46 n (h 40 l)) 47 n (h 21 6)) 21 6 (l : Int)) hl))) rfl ?_
              refine zH_np (P := 0 ≤ (l : Int) ∧ (l : Int) < ((3 : Nat) : Int)) (c' := (127, [some (.inr (.inr (some 21))), some (.inl (l : Int)), some (.inl kind), some (.inl (h 39 l))], [.inl (h 41 l), .inl (l : Int), .inr (.inr (some 41))], (zs (zup (zup (zup (zup (zup (zup (zup h 42 n (h 21 7)) 43 n (l : Int)) 44 n (h 39 l)) 45 n kind) 46 n (h 40 l)) 47 n (h 21 6)) 21 6 (l : Int)) hl))) rfl ⟨by omega, by omega⟩ ?_
              refine zH_go 2 (c' := (129, [some (.inr (.inr (some 21))), some (.inl (l : Int)), some (.inl kind), some (.inl (h 39 l))], [.inl ((h 41 l) + (h 39 l)), .inl (l : Int), .inr (.inr (some 41))], (zs (zup (zup (zup (zup (zup (zup (zup h 42 n (h 21 7)) 43 n (l : Int)) 44 n (h 39 l)) 45 n kind) 46 n (h 40 l)) 47 n (h 21 6)) 21 6 (l : Int)) hl))) rfl ?_
              refine zH_np (P := 0 ≤ (l : Int) ∧ (l : Int) < ((3 : Nat) : Int)) (c' := (130, [some (.inr (.inr (some 21))), some (.inl (l : Int)), some (.inl kind), some (.inl (h 39 l))], [], (zs (zup (zup (zup (zup (zup (zup (zup (zup h 42 n (h 21 7)) 43 n (l : Int)) 44 n (h 39 l)) 45 n kind) 46 n (h 40 l)) 47 n (h 21 6)) 21 6 (l : Int)) 41 l ((h 41 l) + (h 39 l))) hl))) rfl ⟨by omega, by omega⟩ ?_
              refine zH_go 5 (c' := (139, [some (.inr (.inr (some 21))), some (.inl (l : Int)), some (.inl kind), some (.inl (h 39 l))], [.inl (h 21 7), .inl (l : Int), .inr (.inr (some 40))], (zs (zup (zup (zup (zup (zup (zup (zup (zup h 42 n (h 21 7)) 43 n (l : Int)) 44 n (h 39 l)) 45 n kind) 46 n (h 40 l)) 47 n (h 21 6)) 21 6 (l : Int)) 41 l ((h 41 l) + (h 39 l))) hl))) rfl ?_
              refine zH_np (P := 0 ≤ (l : Int) ∧ (l : Int) < ((3 : Nat) : Int)) (c' := (140, [some (.inr (.inr (some 21))), some (.inl (l : Int)), some (.inl kind), some (.inl (h 39 l))], [], (zs (zup (zup (zup (zup (zup (zup (zup (zup (zup h 42 n (h 21 7)) 43 n (l : Int)) 44 n (h 39 l)) 45 n kind) 46 n (h 40 l)) 47 n (h 21 6)) 21 6 (l : Int)) 41 l ((h 41 l) + (h 39 l))) 40 l (h 21 7)) hl))) rfl ⟨by omega, by omega⟩ ?_
              refine zH_go 3 (c' := (145, [some (.inr (.inr (some 21))), some (.inl (l : Int)), some (.inl kind), some (.inl (h 39 l))], [.inl (h 21 4), .inr (.inr (some 21))], (zs (zup (zup (zup (zup (zup (zup (zup (zup (zup h 42 n (h 21 7)) 43 n (l : Int)) 44 n (h 39 l)) 45 n kind) 46 n (h 40 l)) 47 n (h 21 6)) 21 6 (l : Int)) 41 l ((h 41 l) + (h 39 l))) 40 l (h 21 7)) hl))) rfl ?_
              rw [hn]
              refine zH_go 3 (c' := (150, [some (.inr (.inr (some 21))), some (.inl (l : Int)), some (.inl kind), some (.inl (h 39 l))], [], (zs (zup (zup (zup (zup (zup (zup (zup (zup (zup (zup h 42 n (h 21 7)) 43 n (l : Int)) 44 n (h 39 l)) 45 n kind) 46 n (h 40 l)) 47 n (h 21 6)) 21 6 (l : Int)) 41 l ((h 41 l) + (h 39 l))) 40 l (h 21 7)) 21 4 ((n : Int) + 1)) hl))) rfl ?_
              refine zH_ret (v := none) rfl (fun q => absurd q (by decide)) ?_
              refine ⟨rfl, _, rfl, fun c a1 a2 a3 a4 a5 a6 a7 a8 a9 => ?_, ?_, fun j hj => ?_, ?_, ?_, fun j h1 h2 => ?_, ?_, fun j hj => ?_⟩
              · funext k; simp [zup_at, a1, a2, a3, a4, a5, a6, a7, a8, a9]
              · simp [zup_at]
              · simp [zup_at, hj]
              · rw [if_pos (by omega)]; simp [zup_at]
              · simp [zup_at]
              · simp [zup_at, h1, h2]
              · simp [zup_at]
              · simp [zup_at, hj]
        · exfalso
          omega
set_option maxRecDepth 100000 in
set_option maxHeartbeats 4000000 in
theorem p_backD {d : Nat} {h hl : Nat → Nat → Int} {n l : Nat} (hl3 : l < 3) (hn : h 21 4 = (n : Int) + 1) (hn2 : n < 12) (hg : h 43 n = (l : Int)) : zQ (d + 1) 18 [.inr (.inr (some 21))] (zs h hl) (fun r σ' => r = none ∧ ∃ g : Nat → Nat → Int, σ' = zs g hl ∧ zBackP h g n l 21 40 41 44 46 47) := by
  refine zQ_of (Nat.le_of_ble_eq_true rfl) ?_
  show zH d 18 (0, [some (.inr (.inr (some 21))), none], [], (zs h hl)) _
  refine zH_go 2 (c' := (4, [some (.inr (.inr (some 21))), none], [.inl (h 21 4)], (zs h hl))) rfl ?_
  rw [hn]
  refine zH_go 1 (c' := (5, [some (.inr (.inr (some 21))), none], [.inl 1, .inl ((n : Int) + 1)], (zs h hl))) rfl ?_
  refine zH_br (x := ((n : Int) + 1)) (y := 1) (k := .lt) (c1 := (20, [some (.inr (.inr (some 21))), none], [], (zs h hl))) (c2 := (8, [some (.inr (.inr (some 21))), none], [], (zs h hl))) rfl (by first | assumption | (unfold zr; omega)) ⟨by decide, by decide⟩ (fun (b_1 : ((n : Int) + 1) < 1) => ?_) (fun (b_1 : ¬ (((n : Int) + 1) < 1)) => ?_)
  · exfalso
    omega
  · refine zH_go 2 (c' := (12, [some (.inr (.inr (some 21))), none], [.inl (h 21 4)], (zs h hl))) rfl ?_
    rw [hn]
    refine zH_go 3 (c' := (17, [some (.inr (.inr (some 21))), none], [.inl 12, .inl ((n : Int) + 1)], (zs h hl))) rfl ?_
    refine zH_br (x := ((n : Int) + 1)) (y := 12) (k := .le) (c1 := (21, [some (.inr (.inr (some 21))), none], [], (zs h hl))) (c2 := (20, [some (.inr (.inr (some 21))), none], [], (zs h hl))) rfl (by first | assumption | (unfold zr; omega)) ⟨by decide, by decide⟩ (fun (b_2 : ¬ 12 < ((n : Int) + 1)) => ?_) (fun (b_2 : ¬ (¬ 12 < ((n : Int) + 1))) => ?_)
    · refine zH_go 3 (c' := (26, [some (.inr (.inr (some 21))), none], [.inl (h 21 4), .inr (.inr (some 21))], (zs h hl))) rfl ?_
      rw [hn]
      refine zH_go 3 (c' := (31, [some (.inr (.inr (some 21))), none], [], (zs (zup h 21 4 (((n : Int) + 1) - 1)) hl))) rfl ?_
      rw [show (n : Int) + 1 - 1 = (n : Int) from by omega]
      show zH _ _ (31, [some (.inr (.inr (some 21))), none], [], (zs (zup h 21 4 (n : Int)) hl)) _
      refine zH_go 4 (c' := (39, [some (.inr (.inr (some 21))), none], [.inl (n : Int), .inr (.inr (some 43))], (zs (zup h 21 4 (n : Int)) hl))) rfl ?_
      refine zH_np (P := 0 ≤ (n : Int) ∧ (n : Int) < ((12 : Nat) : Int)) (c' := (40, [some (.inr (.inr (some 21))), none], [.inl (h 43 n)], (zs (zup h 21 4 (n : Int)) hl))) rfl ⟨by omega, by omega⟩ ?_
      refine zH_go 1 (c' := (41, [some (.inr (.inr (some 21))), some (.inl (h 43 n))], [], (zs (zup h 21 4 (n : Int)) hl))) rfl ?_
      rw [show (h 43 n) = (l : Int) from hg]
      show zH _ _ (41, [some (.inr (.inr (some 21))), some (.inl (l : Int))], [], (zs (zup h 21 4 (n : Int)) hl)) _
      refine zH_go 1 (c' := (42, [some (.inr (.inr (some 21))), some (.inl (l : Int))], [.inl (l : Int)], (zs (zup h 21 4 (n : Int)) hl))) rfl ?_
      refine zH_br (x := (l : Int)) (y := 0) (k := .lt) (c1 := (83, [some (.inr (.inr (some 21))), some (.inl (l : Int))], [], (zs (zup h 21 4 (n : Int)) hl))) (c2 := (45, [some (.inr (.inr (some 21))), some (.inl (l : Int))], [], (zs (zup h 21 4 (n : Int)) hl))) rfl (by first | assumption | (unfold zr; omega)) ⟨by decide, by decide⟩ (fun (b_3 : (l : Int) < 0) => ?_) (fun (b_3 : ¬ ((l : Int) < 0)) => ?_)
      · refine zH_go 5 (c' := (92, [some (.inr (.inr (some 21))), some (.inl (l : Int))], [.inl (n : Int), .inr (.inr (some 47)), .inr (.inr (some 21))], (zs (zup h 21 4 (n : Int)) hl))) rfl ?_
        refine zH_np (P := 0 ≤ (n : Int) ∧ (n : Int) < ((12 : Nat) : Int)) (c' := (93, [some (.inr (.inr (some 21))), some (.inl (l : Int))], [.inl (h 47 n), .inr (.inr (some 21))], (zs (zup h 21 4 (n : Int)) hl))) rfl ⟨by omega, by omega⟩ ?_
        refine zH_go 1 (c' := (96, [some (.inr (.inr (some 21))), some (.inl (l : Int))], [], (zs (zup (zup h 21 4 (n : Int)) 21 6 (h 47 n)) hl))) rfl ?_
        exfalso
        omega
      · refine zH_go 2 (c' := (47, [some (.inr (.inr (some 21))), some (.inl (l : Int))], [.inl 3, .inl (l : Int)], (zs (zup h 21 4 (n : Int)) hl))) rfl ?_
        refine zH_br (x := (l : Int)) (y := 3) (k := .ge) (c1 := (83, [some (.inr (.inr (some 21))), some (.inl (l : Int))], [], (zs (zup h 21 4 (n : Int)) hl))) (c2 := (50, [some (.inr (.inr (some 21))), some (.inl (l : Int))], [], (zs (zup h 21 4 (n : Int)) hl))) rfl (by first | assumption | (unfold zr; omega)) ⟨by decide, by decide⟩ (fun (b_4 : ¬ (l : Int) < 3) => ?_) (fun (b_4 : ¬ (¬ (l : Int) < 3)) => ?_)
        · refine zH_go 5 (c' := (92, [some (.inr (.inr (some 21))), some (.inl (l : Int))], [.inl (n : Int), .inr (.inr (some 47)), .inr (.inr (some 21))], (zs (zup h 21 4 (n : Int)) hl))) rfl ?_
          refine zH_np (P := 0 ≤ (n : Int) ∧ (n : Int) < ((12 : Nat) : Int)) (c' := (93, [some (.inr (.inr (some 21))), some (.inl (l : Int))], [.inl (h 47 n), .inr (.inr (some 21))], (zs (zup h 21 4 (n : Int)) hl))) rfl ⟨by omega, by omega⟩ ?_
          refine zH_go 1 (c' := (96, [some (.inr (.inr (some 21))), some (.inl (l : Int))], [], (zs (zup (zup h 21 4 (n : Int)) 21 6 (h 47 n)) hl))) rfl ?_
          exfalso
          omega
        · refine zH_go 4 (c' := (56, [some (.inr (.inr (some 21))), some (.inl (l : Int))], [.inl (l : Int), .inr (.inr (some 41)), .inl (l : Int), .inr (.inr (some 41))], (zs (zup h 21 4 (n : Int)) hl))) rfl ?_
          refine zH_np (P := 0 ≤ (l : Int) ∧ (l : Int) < ((3 : Nat) : Int)) (c' := (57, [some (.inr (.inr (some 21))), some (.inl (l : Int))], [.inl (h 41 l), .inl (l : Int), .inr (.inr (some 41))], (zs (zup h 21 4 (n : Int)) hl))) rfl ⟨by omega, by omega⟩ ?_
          refine zH_go 4 (c' := (65, [some (.inr (.inr (some 21))), some (.inl (l : Int))], [.inl (n : Int), .inr (.inr (some 44)), .inl (h 41 l), .inl (l : Int), .inr (.inr (some 41))], (zs (zup h 21 4 (n : Int)) hl))) rfl ?_
          refine zH_np (P := 0 ≤ (n : Int) ∧ (n : Int) < ((12 : Nat) : Int)) (c' := (66, [some (.inr (.inr (some 21))), some (.inl (l : Int))], [.inl (h 44 n), .inl (h 41 l), .inl (l : Int), .inr (.inr (some 41))], (zs (zup h 21 4 (n : Int)) hl))) rfl ⟨by omega, by omega⟩ ?_
          refine zH_go 1 (c' := (67, [some (.inr (.inr (some 21))), some (.inl (l : Int))], [.inl ((h 41 l) - (h 44 n)), .inl (l : Int), .inr (.inr (some 41))], (zs (zup h 21 4 (n : Int)) hl))) rfl ?_
          refine zH_np (P := 0 ≤ (l : Int) ∧ (l : Int) < ((3 : Nat) : Int)) (c' := (68, [some (.inr (.inr (some 21))), some (.inl (l : Int))], [], (zs (zup (zup h 21 4 (n : Int)) 41 l ((h 41 l) - (h 44 n))) hl))) rfl ⟨by omega, by omega⟩ ?_
          refine zH_go 7 (c' := (81, [some (.inr (.inr (some 21))), some (.inl (l : Int))], [.inl (n : Int), .inr (.inr (some 46)), .inl (l : Int), .inr (.inr (some 40))], (zs (zup (zup h 21 4 (n : Int)) 41 l ((h 41 l) - (h 44 n))) hl))) rfl ?_
          refine zH_np (P := 0 ≤ (n : Int) ∧ (n : Int) < ((12 : Nat) : Int)) (c' := (82, [some (.inr (.inr (some 21))), some (.inl (l : Int))], [.inl (h 46 n), .inl (l : Int), .inr (.inr (some 40))], (zs (zup (zup h 21 4 (n : Int)) 41 l ((h 41 l) - (h 44 n))) hl))) rfl ⟨by omega, by omega⟩ ?_
          refine zH_np (P := 0 ≤ (l : Int) ∧ (l : Int) < ((3 : Nat) : Int)) (c' := (83, [some (.inr (.inr (some 21))), some (.inl (l : Int))], [], (zs (zup (zup (zup h 21 4 (n : Int)) 41 l ((h 41 l) - (h 44 n))) 40 l (h 46 n)) hl))) rfl ⟨by omega, by omega⟩ ?_
          refine zH_go 5 (c' := (92, [some (.inr (.inr (some 21))), some (.inl (l : Int))], [.inl (n : Int), .inr (.inr (some 47)), .inr (.inr (some 21))], (zs (zup (zup (zup h 21 4 (n : Int)) 41 l ((h 41 l) - (h 44 n))) 40 l (h 46 n)) hl))) rfl ?_
          refine zH_np (P := 0 ≤ (n : Int) ∧ (n : Int) < ((12 : Nat) : Int)) (c' := (93, [some (.inr (.inr (some 21))), some (.inl (l : Int))], [.inl (h 47 n), .inr (.inr (some 21))], (zs (zup (zup (zup h 21 4 (n : Int)) 41 l ((h 41 l) - (h 44 n))) 40 l (h 46 n)) hl))) rfl ⟨by omega, by omega⟩ ?_
          refine zH_go 1 (c' := (96, [some (.inr (.inr (some 21))), some (.inl (l : Int))], [], (zs (zup (zup (zup (zup h 21 4 (n : Int)) 41 l ((h 41 l) - (h 44 n))) 40 l (h 46 n)) 21 6 (h 47 n)) hl))) rfl ?_
          refine zH_ret (v := none) rfl (fun q => absurd q (by decide)) ?_
          refine ⟨rfl, _, rfl, fun c a1 a2 a3 => ?_, ?_, ?_, fun j h1 h2 => ?_, ?_, fun j hj => ?_⟩
          · funext k; simp [zup_at, a1, a2, a3]
          · simp [zup_at]
          · simp [zup_at]
          · simp [zup_at, h1, h2]
          · simp [zup_at]
          · simp [zup_at, hj]
    · exfalso
      omega
set_option maxRecDepth 100000 in
set_option maxHeartbeats 4000000 in
theorem p_sendT {d : Nat} {h hl : Nat → Nat → Int} {n l : Nat} {kind : Int} (hl3 : l < 3) (hk : 0 ≤ kind ∧ kind ≤ 3) (hn : h 48 4 = (n : Int)) (hn2 : n < 3) (hf : zr (h 57 l)) : zQ (d + 2) 17 [.inr (.inr (some 48)), .inl (l : Int), .inl kind] (zs h hl) (fun r σ' => r = none ∧ ∃ g : Nat → Nat → Int, σ' = zs g hl ∧ zSendP h g n l kind 48 57 58 59 60 61 62 63 64 65) := by
  refine zQ_of (Nat.le_of_ble_eq_true rfl) ?_
  show zH (d + 1) 17 (0, [some (.inr (.inr (some 48))), some (.inl (l : Int)), some (.inl kind), none], [], (zs h hl)) _
  refine zH_go 2 (c' := (4, [some (.inr (.inr (some 48))), some (.inl (l : Int)), some (.inl kind), none], [.inl (h 48 4)], (zs h hl))) rfl ?_
  rw [hn]
  refine zH_br (x := (n : Int)) (y := 0) (k := .lt) (c1 := (28, [some (.inr (.inr (some 48))), some (.inl (l : Int)), some (.inl kind), none], [], (zs h hl))) (c2 := (7, [some (.inr (.inr (some 48))), some (.inl (l : Int)), some (.inl kind), none], [], (zs h hl))) rfl (by first | assumption | (unfold zr; omega)) ⟨by decide, by decide⟩ (fun (b_1 : (n : Int) < 0) => ?_) (fun (b_1 : ¬ ((n : Int) < 0)) => ?_)
  · exfalso
    omega
  · refine zH_go 2 (c' := (11, [some (.inr (.inr (some 48))), some (.inl (l : Int)), some (.inl kind), none], [.inl (h 48 4)], (zs h hl))) rfl ?_
    rw [hn]
    refine zH_go 3 (c' := (16, [some (.inr (.inr (some 48))), some (.inl (l : Int)), some (.inl kind), none], [.inl 3, .inl (n : Int)], (zs h hl))) rfl ?_
    refine zH_br (x := (n : Int)) (y := 3) (k := .ge) (c1 := (28, [some (.inr (.inr (some 48))), some (.inl (l : Int)), some (.inl kind), none], [], (zs h hl))) (c2 := (19, [some (.inr (.inr (some 48))), some (.inl (l : Int)), some (.inl kind), none], [], (zs h hl))) rfl (by first | assumption | (unfold zr; omega)) ⟨by decide, by decide⟩ (fun (b_2 : ¬ (n : Int) < 3) => ?_) (fun (b_2 : ¬ (¬ (n : Int) < 3)) => ?_)
    · exfalso
      omega
    · refine zH_go 1 (c' := (20, [some (.inr (.inr (some 48))), some (.inl (l : Int)), some (.inl kind), none], [.inl (l : Int)], (zs h hl))) rfl ?_
      refine zH_br (x := (l : Int)) (y := 0) (k := .lt) (c1 := (28, [some (.inr (.inr (some 48))), some (.inl (l : Int)), some (.inl kind), none], [], (zs h hl))) (c2 := (23, [some (.inr (.inr (some 48))), some (.inl (l : Int)), some (.inl kind), none], [], (zs h hl))) rfl (by first | assumption | (unfold zr; omega)) ⟨by decide, by decide⟩ (fun (b_3 : (l : Int) < 0) => ?_) (fun (b_3 : ¬ ((l : Int) < 0)) => ?_)
      · exfalso
        omega
      · refine zH_go 2 (c' := (25, [some (.inr (.inr (some 48))), some (.inl (l : Int)), some (.inl kind), none], [.inl 3, .inl (l : Int)], (zs h hl))) rfl ?_
        refine zH_br (x := (l : Int)) (y := 3) (k := .lt) (c1 := (29, [some (.inr (.inr (some 48))), some (.inl (l : Int)), some (.inl kind), none], [], (zs h hl))) (c2 := (28, [some (.inr (.inr (some 48))), some (.inl (l : Int)), some (.inl kind), none], [], (zs h hl))) rfl (by first | assumption | (unfold zr; omega)) ⟨by decide, by decide⟩ (fun (b_4 : (l : Int) < 3) => ?_) (fun (b_4 : ¬ ((l : Int) < 3)) => ?_)
        · refine zH_go 2 (c' := (31, [some (.inr (.inr (some 48))), some (.inl (l : Int)), some (.inl kind), none], [.inl (l : Int), .inr (.inr (some 48))], (zs h hl))) rfl ?_
          refine zH_call (M' := 20) (as := [.inr (.inr (some 48)), .inl (l : Int)]) (T := []) rfl (p_farT (l := l) hl3) (fun r σ' p_5 => ?_)
          obtain ⟨rfl, rfl⟩ := p_5
          show zH _ _ (34, [some (.inr (.inr (some 48))), some (.inl (l : Int)), some (.inl kind), none], [.inl (h 57 l)], (zs h hl)) _
          refine zH_go 5 (c' := (43, [some (.inr (.inr (some 48))), some (.inl (l : Int)), some (.inl kind), some (.inl (h 57 l))], [.inl (h 48 4), .inr (.inr (some 60))], (zs h hl))) rfl ?_
          rw [hn]
          refine zH_go 2 (c' := (47, [some (.inr (.inr (some 48))), some (.inl (l : Int)), some (.inl kind), some (.inl (h 57 l))], [.inl (h 48 7), .inl (n : Int), .inr (.inr (some 60))], (zs h hl))) rfl ?_
          refine zH_np (P := 0 ≤ (n : Int) ∧ (n : Int) < ((3 : Nat) : Int)) (c' := (48, [some (.inr (.inr (some 48))), some (.inl (l : Int)), some (.inl kind), some (.inl (h 57 l))], [], (zs (zup h 60 n (h 48 7)) hl))) rfl ⟨by omega, by omega⟩ ?_
          refine zH_go 4 (c' := (56, [some (.inr (.inr (some 48))), some (.inl (l : Int)), some (.inl kind), some (.inl (h 57 l))], [.inl (h 48 4), .inr (.inr (some 61))], (zs (zup h 60 n (h 48 7)) hl))) rfl ?_
          rw [hn]
          refine zH_go 1 (c' := (57, [some (.inr (.inr (some 48))), some (.inl (l : Int)), some (.inl kind), some (.inl (h 57 l))], [.inl (l : Int), .inl (n : Int), .inr (.inr (some 61))], (zs (zup h 60 n (h 48 7)) hl))) rfl ?_
          refine zH_np (P := 0 ≤ (n : Int) ∧ (n : Int) < ((3 : Nat) : Int)) (c' := (58, [some (.inr (.inr (some 48))), some (.inl (l : Int)), some (.inl kind), some (.inl (h 57 l))], [], (zs (zup (zup h 60 n (h 48 7)) 61 n (l : Int)) hl))) rfl ⟨by omega, by omega⟩ ?_
          refine zH_go 4 (c' := (66, [some (.inr (.inr (some 48))), some (.inl (l : Int)), some (.inl kind), some (.inl (h 57 l))], [.inl (h 48 4), .inr (.inr (some 62))], (zs (zup (zup h 60 n (h 48 7)) 61 n (l : Int)) hl))) rfl ?_
          rw [hn]
          refine zH_go 1 (c' := (67, [some (.inr (.inr (some 48))), some (.inl (l : Int)), some (.inl kind), some (.inl (h 57 l))], [.inl (h 57 l), .inl (n : Int), .inr (.inr (some 62))], (zs (zup (zup h 60 n (h 48 7)) 61 n (l : Int)) hl))) rfl ?_
          refine zH_np (P := 0 ≤ (n : Int) ∧ (n : Int) < ((3 : Nat) : Int)) (c' := (68, [some (.inr (.inr (some 48))), some (.inl (l : Int)), some (.inl kind), some (.inl (h 57 l))], [], (zs (zup (zup (zup h 60 n (h 48 7)) 61 n (l : Int)) 62 n (h 57 l)) hl))) rfl ⟨by omega, by omega⟩ ?_
          refine zH_go 4 (c' := (76, [some (.inr (.inr (some 48))), some (.inl (l : Int)), some (.inl kind), some (.inl (h 57 l))], [.inl (h 48 4), .inr (.inr (some 63))], (zs (zup (zup (zup h 60 n (h 48 7)) 61 n (l : Int)) 62 n (h 57 l)) hl))) rfl ?_
          rw [hn]
          refine zH_go 1 (c' := (77, [some (.inr (.inr (some 48))), some (.inl (l : Int)), some (.inl kind), some (.inl (h 57 l))], [.inl kind, .inl (n : Int), .inr (.inr (some 63))], (zs (zup (zup (zup h 60 n (h 48 7)) 61 n (l : Int)) 62 n (h 57 l)) hl))) rfl ?_
          refine zH_np (P := 0 ≤ (n : Int) ∧ (n : Int) < ((3 : Nat) : Int)) (c' := (78, [some (.inr (.inr (some 48))), some (.inl (l : Int)), some (.inl kind), some (.inl (h 57 l))], [], (zs (zup (zup (zup (zup h 60 n (h 48 7)) 61 n (l : Int)) 62 n (h 57 l)) 63 n kind) hl))) rfl ⟨by omega, by omega⟩ ?_
          refine zH_go 4 (c' := (86, [some (.inr (.inr (some 48))), some (.inl (l : Int)), some (.inl kind), some (.inl (h 57 l))], [.inl (h 48 4), .inr (.inr (some 64))], (zs (zup (zup (zup (zup h 60 n (h 48 7)) 61 n (l : Int)) 62 n (h 57 l)) 63 n kind) hl))) rfl ?_
          rw [hn]
          refine zH_go 3 (c' := (91, [some (.inr (.inr (some 48))), some (.inl (l : Int)), some (.inl kind), some (.inl (h 57 l))], [.inl (l : Int), .inr (.inr (some 58)), .inl (n : Int), .inr (.inr (some 64))], (zs (zup (zup (zup (zup h 60 n (h 48 7)) 61 n (l : Int)) 62 n (h 57 l)) 63 n kind) hl))) rfl ?_
          refine zH_np (P := 0 ≤ (l : Int) ∧ (l : Int) < ((3 : Nat) : Int)) (c' := (92, [some (.inr (.inr (some 48))), some (.inl (l : Int)), some (.inl kind), some (.inl (h 57 l))], [.inl (h 58 l), .inl (n : Int), .inr (.inr (some 64))], (zs (zup (zup (zup (zup h 60 n (h 48 7)) 61 n (l : Int)) 62 n (h 57 l)) 63 n kind) hl))) rfl ⟨by omega, by omega⟩ ?_
          refine zH_np (P := 0 ≤ (n : Int) ∧ (n : Int) < ((3 : Nat) : Int)) (c' := (93, [some (.inr (.inr (some 48))), some (.inl (l : Int)), some (.inl kind), some (.inl (h 57 l))], [], (zs (zup (zup (zup (zup (zup h 60 n (h 48 7)) 61 n (l : Int)) 62 n (h 57 l)) 63 n kind) 64 n (h 58 l)) hl))) rfl ⟨by omega, by omega⟩ ?_
          refine zH_go 4 (c' := (101, [some (.inr (.inr (some 48))), some (.inl (l : Int)), some (.inl kind), some (.inl (h 57 l))], [.inl (h 48 4), .inr (.inr (some 65))], (zs (zup (zup (zup (zup (zup h 60 n (h 48 7)) 61 n (l : Int)) 62 n (h 57 l)) 63 n kind) 64 n (h 58 l)) hl))) rfl ?_
          rw [hn]
          refine zH_go 2 (c' := (105, [some (.inr (.inr (some 48))), some (.inl (l : Int)), some (.inl kind), some (.inl (h 57 l))], [.inl (h 48 6), .inl (n : Int), .inr (.inr (some 65))], (zs (zup (zup (zup (zup (zup h 60 n (h 48 7)) 61 n (l : Int)) 62 n (h 57 l)) 63 n kind) 64 n (h 58 l)) hl))) rfl ?_
          refine zH_np (P := 0 ≤ (n : Int) ∧ (n : Int) < ((3 : Nat) : Int)) (c' := (106, [some (.inr (.inr (some 48))), some (.inl (l : Int)), some (.inl kind), some (.inl (h 57 l))], [], (zs (zup (zup (zup (zup (zup (zup h 60 n (h 48 7)) 61 n (l : Int)) 62 n (h 57 l)) 63 n kind) 64 n (h 58 l)) 65 n (h 48 6)) hl))) rfl ⟨by omega, by omega⟩ ?_
          refine zH_go 2 (c' := (108, [some (.inr (.inr (some 48))), some (.inl (l : Int)), some (.inl kind), some (.inl (h 57 l))], [.inl 2, .inl kind], (zs (zup (zup (zup (zup (zup (zup h 60 n (h 48 7)) 61 n (l : Int)) 62 n (h 57 l)) 63 n kind) 64 n (h 58 l)) 65 n (h 48 6)) hl))) rfl ?_
          refine zH_br (x := kind) (y := 2) (k := .ne) (c1 := (120, [some (.inr (.inr (some 48))), some (.inl (l : Int)), some (.inl kind), some (.inl (h 57 l))], [], (zs (zup (zup (zup (zup (zup (zup h 60 n (h 48 7)) 61 n (l : Int)) 62 n (h 57 l)) 63 n kind) 64 n (h 58 l)) 65 n (h 48 6)) hl))) (c2 := (111, [some (.inr (.inr (some 48))), some (.inl (l : Int)), some (.inl kind), some (.inl (h 57 l))], [], (zs (zup (zup (zup (zup (zup (zup h 60 n (h 48 7)) 61 n (l : Int)) 62 n (h 57 l)) 63 n kind) 64 n (h 58 l)) 65 n (h 48 6)) hl))) rfl (by first | assumption | (unfold zr; omega)) ⟨by decide, by decide⟩ (fun (b_6 : ¬ kind = 2) => ?_) (fun (b_6 : ¬ (¬ kind = 2)) => ?_)
          · refine zH_go 4 (c' := (126, [some (.inr (.inr (some 48))), some (.inl (l : Int)), some (.inl kind), some (.inl (h 57 l))], [.inl (l : Int), .inr (.inr (some 59)), .inl (l : Int), .inr (.inr (some 59))], (zs (zup (zup (zup (zup (zup (zup h 60 n (h 48 7)) 61 n (l : Int)) 62 n (h 57 l)) 63 n kind) 64 n (h 58 l)) 65 n (h 48 6)) hl))) rfl ?_
            refine zH_np (P := 0 ≤ (l : Int) ∧ (l : Int) < ((3 : Nat) : Int)) (c' := (127, [some (.inr (.inr (some 48))), some (.inl (l : Int)), some (.inl kind), some (.inl (h 57 l))], [.inl (h 59 l), .inl (l : Int), .inr (.inr (some 59))], (zs (zup (zup (zup (zup (zup (zup h 60 n (h 48 7)) 61 n (l : Int)) 62 n (h 57 l)) 63 n kind) 64 n (h 58 l)) 65 n (h 48 6)) hl))) rfl ⟨by omega, by omega⟩ ?_
            refine zH_go 2 (c' := (129, [some (.inr (.inr (some 48))), some (.inl (l : Int)), some (.inl kind), some (.inl (h 57 l))], [.inl ((h 59 l) + (h 57 l)), .inl (l : Int), .inr (.inr (some 59))], (zs (zup (zup (zup (zup (zup (zup h 60 n (h 48 7)) 61 n (l : Int)) 62 n (h 57 l)) 63 n kind) 64 n (h 58 l)) 65 n (h 48 6)) hl))) rfl ?_
            refine zH_np (P := 0 ≤ (l : Int) ∧ (l : Int) < ((3 : Nat) : Int)) (c' := (130, [some (.inr (.inr (some 48))), some (.inl (l : Int)), some (.inl kind), some (.inl (h 57 l))], [], (zs (zup (zup (zup (zup (zup (zup (zup h 60 n (h 48 7)) 61 n (l : Int)) 62 n (h 57 l)) 63 n kind) 64 n (h 58 l)) 65 n (h 48 6)) 59 l ((h 59 l) + (h 57 l))) hl))) rfl ⟨by omega, by omega⟩ ?_
            refine zH_go 5 (c' := (139, [some (.inr (.inr (some 48))), some (.inl (l : Int)), some (.inl kind), some (.inl (h 57 l))], [.inl (h 48 7), .inl (l : Int), .inr (.inr (some 58))], (zs (zup (zup (zup (zup (zup (zup (zup h 60 n (h 48 7)) 61 n (l : Int)) 62 n (h 57 l)) 63 n kind) 64 n (h 58 l)) 65 n (h 48 6)) 59 l ((h 59 l) + (h 57 l))) hl))) rfl ?_
            refine zH_np (P := 0 ≤ (l : Int) ∧ (l : Int) < ((3 : Nat) : Int)) (c' := (140, [some (.inr (.inr (some 48))), some (.inl (l : Int)), some (.inl kind), some (.inl (h 57 l))], [], (zs (zup (zup (zup (zup (zup (zup (zup (zup h 60 n (h 48 7)) 61 n (l : Int)) 62 n (h 57 l)) 63 n kind) 64 n (h 58 l)) 65 n (h 48 6)) 59 l ((h 59 l) + (h 57 l))) 58 l (h 48 7)) hl))) rfl ⟨by omega, by omega⟩ ?_
            refine zH_go 3 (c' := (145, [some (.inr (.inr (some 48))), some (.inl (l : Int)), some (.inl kind), some (.inl (h 57 l))], [.inl (h 48 4), .inr (.inr (some 48))], (zs (zup (zup (zup (zup (zup (zup (zup (zup h 60 n (h 48 7)) 61 n (l : Int)) 62 n (h 57 l)) 63 n kind) 64 n (h 58 l)) 65 n (h 48 6)) 59 l ((h 59 l) + (h 57 l))) 58 l (h 48 7)) hl))) rfl ?_
            rw [hn]
            refine zH_go 3 (c' := (150, [some (.inr (.inr (some 48))), some (.inl (l : Int)), some (.inl kind), some (.inl (h 57 l))], [], (zs (zup (zup (zup (zup (zup (zup (zup (zup (zup h 60 n (h 48 7)) 61 n (l : Int)) 62 n (h 57 l)) 63 n kind) 64 n (h 58 l)) 65 n (h 48 6)) 59 l ((h 59 l) + (h 57 l))) 58 l (h 48 7)) 48 4 ((n : Int) + 1)) hl))) rfl ?_
            refine zH_ret (v := none) rfl (fun q => absurd q (by decide)) ?_
            refine ⟨rfl, _, rfl, fun c a1 a2 a3 a4 a5 a6 a7 a8 a9 => ?_, ?_, fun j hj => ?_, ?_, ?_, fun j h1 h2 => ?_, ?_, fun j hj => ?_⟩
            · funext k; simp [zup_at, a1, a2, a3, a4, a5, a6, a7, a8, a9]
            · simp [zup_at]
            · simp [zup_at, hj]
            · rw [if_neg (by omega)]; simp [zup_at]
            · simp [zup_at]
            · simp [zup_at, h1, h2]
            · simp [zup_at]
            · simp [zup_at, hj]
          · refine zH_go 1 (c' := (112, [some (.inr (.inr (some 48))), some (.inl (l : Int)), some (.inl kind), some (.inl (h 57 l))], [.inl (h 57 l)], (zs (zup (zup (zup (zup (zup (zup h 60 n (h 48 7)) 61 n (l : Int)) 62 n (h 57 l)) 63 n kind) 64 n (h 58 l)) 65 n (h 48 6)) hl))) rfl ?_
            refine zH_br (x := (h 57 l)) (y := 0) (k := .le) (c1 := (120, [some (.inr (.inr (some 48))), some (.inl (l : Int)), some (.inl kind), some (.inl (h 57 l))], [], (zs (zup (zup (zup (zup (zup (zup h 60 n (h 48 7)) 61 n (l : Int)) 62 n (h 57 l)) 63 n kind) 64 n (h 58 l)) 65 n (h 48 6)) hl))) (c2 := (115, [some (.inr (.inr (some 48))), some (.inl (l : Int)), some (.inl kind), some (.inl (h 57 l))], [], (zs (zup (zup (zup (zup (zup (zup h 60 n (h 48 7)) 61 n (l : Int)) 62 n (h 57 l)) 63 n kind) 64 n (h 58 l)) 65 n (h 48 6)) hl))) rfl (by first | assumption | (unfold zr; omega)) ⟨by decide, by decide⟩ (fun (b_7 : ¬ 0 < (h 57 l)) => ?_) (fun (b_7 : ¬ (¬ 0 < (h 57 l))) => ?_)
            · refine zH_go 4 (c' := (126, [some (.inr (.inr (some 48))), some (.inl (l : Int)), some (.inl kind), some (.inl (h 57 l))], [.inl (l : Int), .inr (.inr (some 59)), .inl (l : Int), .inr (.inr (some 59))], (zs (zup (zup (zup (zup (zup (zup h 60 n (h 48 7)) 61 n (l : Int)) 62 n (h 57 l)) 63 n kind) 64 n (h 58 l)) 65 n (h 48 6)) hl))) rfl ?_
              refine zH_np (P := 0 ≤ (l : Int) ∧ (l : Int) < ((3 : Nat) : Int)) (c' := (127, [some (.inr (.inr (some 48))), some (.inl (l : Int)), some (.inl kind), some (.inl (h 57 l))], [.inl (h 59 l), .inl (l : Int), .inr (.inr (some 59))], (zs (zup (zup (zup (zup (zup (zup h 60 n (h 48 7)) 61 n (l : Int)) 62 n (h 57 l)) 63 n kind) 64 n (h 58 l)) 65 n (h 48 6)) hl))) rfl ⟨by omega, by omega⟩ ?_
              refine zH_go 2 (c' := (129, [some (.inr (.inr (some 48))), some (.inl (l : Int)), some (.inl kind), some (.inl (h 57 l))], [.inl ((h 59 l) + (h 57 l)), .inl (l : Int), .inr (.inr (some 59))], (zs (zup (zup (zup (zup (zup (zup h 60 n (h 48 7)) 61 n (l : Int)) 62 n (h 57 l)) 63 n kind) 64 n (h 58 l)) 65 n (h 48 6)) hl))) rfl ?_
              refine zH_np (P := 0 ≤ (l : Int) ∧ (l : Int) < ((3 : Nat) : Int)) (c' := (130, [some (.inr (.inr (some 48))), some (.inl (l : Int)), some (.inl kind), some (.inl (h 57 l))], [], (zs (zup (zup (zup (zup (zup (zup (zup h 60 n (h 48 7)) 61 n (l : Int)) 62 n (h 57 l)) 63 n kind) 64 n (h 58 l)) 65 n (h 48 6)) 59 l ((h 59 l) + (h 57 l))) hl))) rfl ⟨by omega, by omega⟩ ?_
              refine zH_go 5 (c' := (139, [some (.inr (.inr (some 48))), some (.inl (l : Int)), some (.inl kind), some (.inl (h 57 l))], [.inl (h 48 7), .inl (l : Int), .inr (.inr (some 58))], (zs (zup (zup (zup (zup (zup (zup (zup h 60 n (h 48 7)) 61 n (l : Int)) 62 n (h 57 l)) 63 n kind) 64 n (h 58 l)) 65 n (h 48 6)) 59 l ((h 59 l) + (h 57 l))) hl))) rfl ?_
              refine zH_np (P := 0 ≤ (l : Int) ∧ (l : Int) < ((3 : Nat) : Int)) (c' := (140, [some (.inr (.inr (some 48))), some (.inl (l : Int)), some (.inl kind), some (.inl (h 57 l))], [], (zs (zup (zup (zup (zup (zup (zup (zup (zup h 60 n (h 48 7)) 61 n (l : Int)) 62 n (h 57 l)) 63 n kind) 64 n (h 58 l)) 65 n (h 48 6)) 59 l ((h 59 l) + (h 57 l))) 58 l (h 48 7)) hl))) rfl ⟨by omega, by omega⟩ ?_
              refine zH_go 3 (c' := (145, [some (.inr (.inr (some 48))), some (.inl (l : Int)), some (.inl kind), some (.inl (h 57 l))], [.inl (h 48 4), .inr (.inr (some 48))], (zs (zup (zup (zup (zup (zup (zup (zup (zup h 60 n (h 48 7)) 61 n (l : Int)) 62 n (h 57 l)) 63 n kind) 64 n (h 58 l)) 65 n (h 48 6)) 59 l ((h 59 l) + (h 57 l))) 58 l (h 48 7)) hl))) rfl ?_
              rw [hn]
              refine zH_go 3 (c' := (150, [some (.inr (.inr (some 48))), some (.inl (l : Int)), some (.inl kind), some (.inl (h 57 l))], [], (zs (zup (zup (zup (zup (zup (zup (zup (zup (zup h 60 n (h 48 7)) 61 n (l : Int)) 62 n (h 57 l)) 63 n kind) 64 n (h 58 l)) 65 n (h 48 6)) 59 l ((h 59 l) + (h 57 l))) 58 l (h 48 7)) 48 4 ((n : Int) + 1)) hl))) rfl ?_
              refine zH_ret (v := none) rfl (fun q => absurd q (by decide)) ?_
              refine ⟨rfl, _, rfl, fun c a1 a2 a3 a4 a5 a6 a7 a8 a9 => ?_, ?_, fun j hj => ?_, ?_, ?_, fun j h1 h2 => ?_, ?_, fun j hj => ?_⟩
              · funext k; simp [zup_at, a1, a2, a3, a4, a5, a6, a7, a8, a9]
              · simp [zup_at]
              · simp [zup_at, hj]
              · rw [if_neg (by omega)]; simp [zup_at]
              · simp [zup_at]
              · simp [zup_at, h1, h2]
              · simp [zup_at]
              · simp [zup_at, hj]
            · refine zH_go 7 (c' := (126, [some (.inr (.inr (some 48))), some (.inl (l : Int)), some (.inl kind), some (.inl (h 57 l))], [.inl (l : Int), .inr (.inr (some 59)), .inl (l : Int), .inr (.inr (some 59))], (zs (zup (zup (zup (zup (zup (zup (zup h 60 n (h 48 7)) 61 n (l : Int)) 62 n (h 57 l)) 63 n kind) 64 n (h 58 l)) 65 n (h 48 6)) 48 6 (l : Int)) hl))) rfl ?_
              refine zH_np (P := 0 ≤ (l : Int) ∧ (l : Int) < ((3 : Nat) : Int)) (c' := (127, [some (.inr (.inr (some 48))), some (.inl (l : Int)), some (.inl kind), some (.inl (h 57 l))], [.inl (h 59 l), .inl (l : Int), .inr (.inr (some 59))], (zs (zup (zup (zup (zup (zup (zup (zup h 60 n (h 48 7)) 61 n (l : Int)) 62 n (h 57 l)) 63 n kind) 64 n (h 58 l)) 65 n (h 48 6)) 48 6 (l : Int)) hl))) rfl ⟨by omega, by omega⟩ ?_
              refine zH_go 2 (c' := (129, [some (.inr (.inr (some 48))), some (.inl (l : Int)), some (.inl kind), some (.inl (h 57 l))], [.inl ((h 59 l) + (h 57 l)), .inl (l : Int), .inr (.inr (some 59))], (zs (zup (zup (zup (zup (zup (zup (zup h 60 n (h 48 7)) 61 n (l : Int)) 62 n (h 57 l)) 63 n kind) 64 n (h 58 l)) 65 n (h 48 6)) 48 6 (l : Int)) hl))) rfl ?_
              refine zH_np (P := 0 ≤ (l : Int) ∧ (l : Int) < ((3 : Nat) : Int)) (c' := (130, [some (.inr (.inr (some 48))), some (.inl (l : Int)), some (.inl kind), some (.inl (h 57 l))], [], (zs (zup (zup (zup (zup (zup (zup (zup (zup h 60 n (h 48 7)) 61 n (l : Int)) 62 n (h 57 l)) 63 n kind) 64 n (h 58 l)) 65 n (h 48 6)) 48 6 (l : Int)) 59 l ((h 59 l) + (h 57 l))) hl))) rfl ⟨by omega, by omega⟩ ?_
              refine zH_go 5 (c' := (139, [some (.inr (.inr (some 48))), some (.inl (l : Int)), some (.inl kind), some (.inl (h 57 l))], [.inl (h 48 7), .inl (l : Int), .inr (.inr (some 58))], (zs (zup (zup (zup (zup (zup (zup (zup (zup h 60 n (h 48 7)) 61 n (l : Int)) 62 n (h 57 l)) 63 n kind) 64 n (h 58 l)) 65 n (h 48 6)) 48 6 (l : Int)) 59 l ((h 59 l) + (h 57 l))) hl))) rfl ?_
              refine zH_np (P := 0 ≤ (l : Int) ∧ (l : Int) < ((3 : Nat) : Int)) (c' := (140, [some (.inr (.inr (some 48))), some (.inl (l : Int)), some (.inl kind), some (.inl (h 57 l))], [], (zs (zup (zup (zup (zup (zup (zup (zup (zup (zup h 60 n (h 48 7)) 61 n (l : Int)) 62 n (h 57 l)) 63 n kind) 64 n (h 58 l)) 65 n (h 48 6)) 48 6 (l : Int)) 59 l ((h 59 l) + (h 57 l))) 58 l (h 48 7)) hl))) rfl ⟨by omega, by omega⟩ ?_
              refine zH_go 3 (c' := (145, [some (.inr (.inr (some 48))), some (.inl (l : Int)), some (.inl kind), some (.inl (h 57 l))], [.inl (h 48 4), .inr (.inr (some 48))], (zs (zup (zup (zup (zup (zup (zup (zup (zup (zup h 60 n (h 48 7)) 61 n (l : Int)) 62 n (h 57 l)) 63 n kind) 64 n (h 58 l)) 65 n (h 48 6)) 48 6 (l : Int)) 59 l ((h 59 l) + (h 57 l))) 58 l (h 48 7)) hl))) rfl ?_
              rw [hn]
              refine zH_go 3 (c' := (150, [some (.inr (.inr (some 48))), some (.inl (l : Int)), some (.inl kind), some (.inl (h 57 l))], [], (zs (zup (zup (zup (zup (zup (zup (zup (zup (zup (zup h 60 n (h 48 7)) 61 n (l : Int)) 62 n (h 57 l)) 63 n kind) 64 n (h 58 l)) 65 n (h 48 6)) 48 6 (l : Int)) 59 l ((h 59 l) + (h 57 l))) 58 l (h 48 7)) 48 4 ((n : Int) + 1)) hl))) rfl ?_
              refine zH_ret (v := none) rfl (fun q => absurd q (by decide)) ?_
              refine ⟨rfl, _, rfl, fun c a1 a2 a3 a4 a5 a6 a7 a8 a9 => ?_, ?_, fun j hj => ?_, ?_, ?_, fun j h1 h2 => ?_, ?_, fun j hj => ?_⟩
              · funext k; simp [zup_at, a1, a2, a3, a4, a5, a6, a7, a8, a9]
              · simp [zup_at]
              · simp [zup_at, hj]
              · rw [if_pos (by omega)]; simp [zup_at]
              · simp [zup_at]
              · simp [zup_at, h1, h2]
              · simp [zup_at]
              · simp [zup_at, hj]
        · exfalso
          omega
set_option maxRecDepth 100000 in
set_option maxHeartbeats 4000000 in
theorem p_backT {d : Nat} {h hl : Nat → Nat → Int} {n l : Nat} (hl3 : l < 3) (hn : h 48 4 = (n : Int) + 1) (hn2 : n < 3) (hg : h 61 n = (l : Int)) : zQ (d + 1) 18 [.inr (.inr (some 48))] (zs h hl) (fun r σ' => r = none ∧ ∃ g : Nat → Nat → Int, σ' = zs g hl ∧ zBackP h g n l 48 58 59 62 64 65) := by
  refine zQ_of (Nat.le_of_ble_eq_true rfl) ?_
  show zH d 18 (0, [some (.inr (.inr (some 48))), none], [], (zs h hl)) _
  refine zH_go 2 (c' := (4, [some (.inr (.inr (some 48))), none], [.inl (h 48 4)], (zs h hl))) rfl ?_
  rw [hn]
  refine zH_go 1 (c' := (5, [some (.inr (.inr (some 48))), none], [.inl 1, .inl ((n : Int) + 1)], (zs h hl))) rfl ?_
  refine zH_br (x := ((n : Int) + 1)) (y := 1) (k := .lt) (c1 := (20, [some (.inr (.inr (some 48))), none], [], (zs h hl))) (c2 := (8, [some (.inr (.inr (some 48))), none], [], (zs h hl))) rfl (by first | assumption | (unfold zr; omega)) ⟨by decide, by decide⟩ (fun (b_1 : ((n : Int) + 1) < 1) => ?_) (fun (b_1 : ¬ (((n : Int) + 1) < 1)) => ?_)
  · exfalso
    omega
  · refine zH_go 2 (c' := (12, [some (.inr (.inr (some 48))), none], [.inl (h 48 4)], (zs h hl))) rfl ?_
    rw [hn]
    refine zH_go 3 (c' := (17, [some (.inr (.inr (some 48))), none], [.inl 3, .inl ((n : Int) + 1)], (zs h hl))) rfl ?_
    refine zH_br (x := ((n : Int) + 1)) (y := 3) (k := .le) (c1 := (21, [some (.inr (.inr (some 48))), none], [], (zs h hl))) (c2 := (20, [some (.inr (.inr (some 48))), none], [], (zs h hl))) rfl (by first | assumption | (unfold zr; omega)) ⟨by decide, by decide⟩ (fun (b_2 : ¬ 3 < ((n : Int) + 1)) => ?_) (fun (b_2 : ¬ (¬ 3 < ((n : Int) + 1))) => ?_)
    · refine zH_go 3 (c' := (26, [some (.inr (.inr (some 48))), none], [.inl (h 48 4), .inr (.inr (some 48))], (zs h hl))) rfl ?_
      rw [hn]
      refine zH_go 3 (c' := (31, [some (.inr (.inr (some 48))), none], [], (zs (zup h 48 4 (((n : Int) + 1) - 1)) hl))) rfl ?_
      rw [show (n : Int) + 1 - 1 = (n : Int) from by omega]
      show zH _ _ (31, [some (.inr (.inr (some 48))), none], [], (zs (zup h 48 4 (n : Int)) hl)) _
      refine zH_go 4 (c' := (39, [some (.inr (.inr (some 48))), none], [.inl (n : Int), .inr (.inr (some 61))], (zs (zup h 48 4 (n : Int)) hl))) rfl ?_
      refine zH_np (P := 0 ≤ (n : Int) ∧ (n : Int) < ((3 : Nat) : Int)) (c' := (40, [some (.inr (.inr (some 48))), none], [.inl (h 61 n)], (zs (zup h 48 4 (n : Int)) hl))) rfl ⟨by omega, by omega⟩ ?_
      refine zH_go 1 (c' := (41, [some (.inr (.inr (some 48))), some (.inl (h 61 n))], [], (zs (zup h 48 4 (n : Int)) hl))) rfl ?_
      rw [show (h 61 n) = (l : Int) from hg]
      show zH _ _ (41, [some (.inr (.inr (some 48))), some (.inl (l : Int))], [], (zs (zup h 48 4 (n : Int)) hl)) _
      refine zH_go 1 (c' := (42, [some (.inr (.inr (some 48))), some (.inl (l : Int))], [.inl (l : Int)], (zs (zup h 48 4 (n : Int)) hl))) rfl ?_
      refine zH_br (x := (l : Int)) (y := 0) (k := .lt) (c1 := (83, [some (.inr (.inr (some 48))), some (.inl (l : Int))], [], (zs (zup h 48 4 (n : Int)) hl))) (c2 := (45, [some (.inr (.inr (some 48))), some (.inl (l : Int))], [], (zs (zup h 48 4 (n : Int)) hl))) rfl (by first | assumption | (unfold zr; omega)) ⟨by decide, by decide⟩ (fun (b_3 : (l : Int) < 0) => ?_) (fun (b_3 : ¬ ((l : Int) < 0)) => ?_)
      · refine zH_go 5 (c' := (92, [some (.inr (.inr (some 48))), some (.inl (l : Int))], [.inl (n : Int), .inr (.inr (some 65)), .inr (.inr (some 48))], (zs (zup h 48 4 (n : Int)) hl))) rfl ?_
        refine zH_np (P := 0 ≤ (n : Int) ∧ (n : Int) < ((3 : Nat) : Int)) (c' := (93, [some (.inr (.inr (some 48))), some (.inl (l : Int))], [.inl (h 65 n), .inr (.inr (some 48))], (zs (zup h 48 4 (n : Int)) hl))) rfl ⟨by omega, by omega⟩ ?_
        refine zH_go 1 (c' := (96, [some (.inr (.inr (some 48))), some (.inl (l : Int))], [], (zs (zup (zup h 48 4 (n : Int)) 48 6 (h 65 n)) hl))) rfl ?_
        exfalso
        omega
      · refine zH_go 2 (c' := (47, [some (.inr (.inr (some 48))), some (.inl (l : Int))], [.inl 3, .inl (l : Int)], (zs (zup h 48 4 (n : Int)) hl))) rfl ?_
        refine zH_br (x := (l : Int)) (y := 3) (k := .ge) (c1 := (83, [some (.inr (.inr (some 48))), some (.inl (l : Int))], [], (zs (zup h 48 4 (n : Int)) hl))) (c2 := (50, [some (.inr (.inr (some 48))), some (.inl (l : Int))], [], (zs (zup h 48 4 (n : Int)) hl))) rfl (by first | assumption | (unfold zr; omega)) ⟨by decide, by decide⟩ (fun (b_4 : ¬ (l : Int) < 3) => ?_) (fun (b_4 : ¬ (¬ (l : Int) < 3)) => ?_)
        · refine zH_go 5 (c' := (92, [some (.inr (.inr (some 48))), some (.inl (l : Int))], [.inl (n : Int), .inr (.inr (some 65)), .inr (.inr (some 48))], (zs (zup h 48 4 (n : Int)) hl))) rfl ?_
          refine zH_np (P := 0 ≤ (n : Int) ∧ (n : Int) < ((3 : Nat) : Int)) (c' := (93, [some (.inr (.inr (some 48))), some (.inl (l : Int))], [.inl (h 65 n), .inr (.inr (some 48))], (zs (zup h 48 4 (n : Int)) hl))) rfl ⟨by omega, by omega⟩ ?_
          refine zH_go 1 (c' := (96, [some (.inr (.inr (some 48))), some (.inl (l : Int))], [], (zs (zup (zup h 48 4 (n : Int)) 48 6 (h 65 n)) hl))) rfl ?_
          exfalso
          omega
        · refine zH_go 4 (c' := (56, [some (.inr (.inr (some 48))), some (.inl (l : Int))], [.inl (l : Int), .inr (.inr (some 59)), .inl (l : Int), .inr (.inr (some 59))], (zs (zup h 48 4 (n : Int)) hl))) rfl ?_
          refine zH_np (P := 0 ≤ (l : Int) ∧ (l : Int) < ((3 : Nat) : Int)) (c' := (57, [some (.inr (.inr (some 48))), some (.inl (l : Int))], [.inl (h 59 l), .inl (l : Int), .inr (.inr (some 59))], (zs (zup h 48 4 (n : Int)) hl))) rfl ⟨by omega, by omega⟩ ?_
          refine zH_go 4 (c' := (65, [some (.inr (.inr (some 48))), some (.inl (l : Int))], [.inl (n : Int), .inr (.inr (some 62)), .inl (h 59 l), .inl (l : Int), .inr (.inr (some 59))], (zs (zup h 48 4 (n : Int)) hl))) rfl ?_
          refine zH_np (P := 0 ≤ (n : Int) ∧ (n : Int) < ((3 : Nat) : Int)) (c' := (66, [some (.inr (.inr (some 48))), some (.inl (l : Int))], [.inl (h 62 n), .inl (h 59 l), .inl (l : Int), .inr (.inr (some 59))], (zs (zup h 48 4 (n : Int)) hl))) rfl ⟨by omega, by omega⟩ ?_
          refine zH_go 1 (c' := (67, [some (.inr (.inr (some 48))), some (.inl (l : Int))], [.inl ((h 59 l) - (h 62 n)), .inl (l : Int), .inr (.inr (some 59))], (zs (zup h 48 4 (n : Int)) hl))) rfl ?_
          refine zH_np (P := 0 ≤ (l : Int) ∧ (l : Int) < ((3 : Nat) : Int)) (c' := (68, [some (.inr (.inr (some 48))), some (.inl (l : Int))], [], (zs (zup (zup h 48 4 (n : Int)) 59 l ((h 59 l) - (h 62 n))) hl))) rfl ⟨by omega, by omega⟩ ?_
          refine zH_go 7 (c' := (81, [some (.inr (.inr (some 48))), some (.inl (l : Int))], [.inl (n : Int), .inr (.inr (some 64)), .inl (l : Int), .inr (.inr (some 58))], (zs (zup (zup h 48 4 (n : Int)) 59 l ((h 59 l) - (h 62 n))) hl))) rfl ?_
          refine zH_np (P := 0 ≤ (n : Int) ∧ (n : Int) < ((3 : Nat) : Int)) (c' := (82, [some (.inr (.inr (some 48))), some (.inl (l : Int))], [.inl (h 64 n), .inl (l : Int), .inr (.inr (some 58))], (zs (zup (zup h 48 4 (n : Int)) 59 l ((h 59 l) - (h 62 n))) hl))) rfl ⟨by omega, by omega⟩ ?_
          refine zH_np (P := 0 ≤ (l : Int) ∧ (l : Int) < ((3 : Nat) : Int)) (c' := (83, [some (.inr (.inr (some 48))), some (.inl (l : Int))], [], (zs (zup (zup (zup h 48 4 (n : Int)) 59 l ((h 59 l) - (h 62 n))) 58 l (h 64 n)) hl))) rfl ⟨by omega, by omega⟩ ?_
          refine zH_go 5 (c' := (92, [some (.inr (.inr (some 48))), some (.inl (l : Int))], [.inl (n : Int), .inr (.inr (some 65)), .inr (.inr (some 48))], (zs (zup (zup (zup h 48 4 (n : Int)) 59 l ((h 59 l) - (h 62 n))) 58 l (h 64 n)) hl))) rfl ?_
          refine zH_np (P := 0 ≤ (n : Int) ∧ (n : Int) < ((3 : Nat) : Int)) (c' := (93, [some (.inr (.inr (some 48))), some (.inl (l : Int))], [.inl (h 65 n), .inr (.inr (some 48))], (zs (zup (zup (zup h 48 4 (n : Int)) 59 l ((h 59 l) - (h 62 n))) 58 l (h 64 n)) hl))) rfl ⟨by omega, by omega⟩ ?_
          refine zH_go 1 (c' := (96, [some (.inr (.inr (some 48))), some (.inl (l : Int))], [], (zs (zup (zup (zup (zup h 48 4 (n : Int)) 59 l ((h 59 l) - (h 62 n))) 58 l (h 64 n)) 48 6 (h 65 n)) hl))) rfl ?_
          refine zH_ret (v := none) rfl (fun q => absurd q (by decide)) ?_
          refine ⟨rfl, _, rfl, fun c a1 a2 a3 => ?_, ?_, ?_, fun j h1 h2 => ?_, ?_, fun j hj => ?_⟩
          · funext k; simp [zup_at, a1, a2, a3]
          · simp [zup_at]
          · simp [zup_at]
          · simp [zup_at, h1, h2]
          · simp [zup_at]
          · simp [zup_at, hj]
    · exfalso
      omega
