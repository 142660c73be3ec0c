/-! BOOKS: a number is read, written; a ROW is made. -/
set_option maxRecDepth 100000 in
set_option maxHeartbeats 4000000 in
theorem p_bRead0 {d : Nat} {h hl : Nat → Nat → Int} {r i : Int} (hr : zr r) (hi : zr i) (hR : -1 ≤ h 83 1 ∧ h 83 1 ≤ 4) (hZ : ∀ q : Nat, q < 4 → -1 ≤ h 84 q ∧ h 84 q ≤ 8) : zQ (d + 4) 9 [.inr (.inr (some 83)), .inl r, .inl i] (zs h hl) (fun ρ σ' => ∃ x : Int, ((zHasNum h 83 84 r i ∧ x = hl (86 + Int.toNat r) (Int.toNat i)) ∨ (¬ zHasNum h 83 84 r i ∧ x = 0)) ∧ ρ = some (.inr (.inl x)) ∧ σ' = zs h hl) := by
  refine zQ_of (Nat.le_of_ble_eq_true rfl) ?_
  show zH (d + 3) 9 (0, [some (.inr (.inr (some 83))), some (.inl r), some (.inl i)], [], (zs h hl)) _
  refine zH_go 2 (c' := (2, [some (.inr (.inr (some 83))), some (.inl r), some (.inl i)], [.inl r, .inr (.inr (some 83))], (zs h hl))) rfl ?_
  refine zH_call (M' := 2) (as := [.inr (.inr (some 83)), .inl r]) (T := []) rfl (p_bRow0 hr hR) (fun ρ σ' p_1 => ?_)
  rcases p_1 with ⟨rfl, b_2, rfl⟩ | ⟨rfl, b_2, rfl⟩
  · show zH _ _ (5, [some (.inr (.inr (some 83))), some (.inl r), some (.inl i)], [.inl 1], (zs h hl)) _
    have hrx := b_2.1; have hry := b_2.2.1; have hrz := b_2.2.2
    refine zH_bf (x := 1) (y := 0) (k := .eq) (c1 := (28, [some (.inr (.inr (some 83))), some (.inl r), some (.inl i)], [], (zs h hl))) (c2 := (8, [some (.inr (.inr (some 83))), some (.inl r), some (.inl i)], [], (zs h hl))) rfl ⟨by decide, by decide⟩ ⟨by decide, by decide⟩ (by show ¬ (1 = 0); decide) ?_
    refine zH_go 3 (c' := (11, [some (.inr (.inr (some 83))), some (.inl r), some (.inl i)], [.inl i, .inl r, .inr (.inr (some 83))], (zs h hl))) rfl ?_
    refine zH_call (M' := 3) (as := [.inr (.inr (some 83)), .inl r, .inl i]) (T := []) rfl (p_bNum0 hr hi hR hZ) (fun ρ σ' p_3 => ?_)
    rcases p_3 with ⟨rfl, b_4, rfl⟩ | ⟨rfl, b_4, rfl⟩
    · show zH _ _ (14, [some (.inr (.inr (some 83))), some (.inl r), some (.inl i)], [.inl 1], (zs h hl)) _
      have hix := b_4.2.1; have hiy := b_4.2.2.1; have hiz := b_4.2.2.2; have hN := b_4
      refine zH_bf (x := 1) (y := 0) (k := .eq) (c1 := (28, [some (.inr (.inr (some 83))), some (.inl r), some (.inl i)], [], (zs h hl))) (c2 := (17, [some (.inr (.inr (some 83))), some (.inl r), some (.inl i)], [], (zs h hl))) rfl ⟨by decide, by decide⟩ ⟨by decide, by decide⟩ (by show ¬ (1 = 0); decide) ?_
      refine zH_go 3 (c' := (22, [some (.inr (.inr (some 83))), some (.inl r), some (.inl i)], [.inl r, .inr (.inr (some 85))], (zs h hl))) rfl ?_
      refine zH_aal (A := 85) (n := 4) (b := 86 + (Int.toNat r)) rfl rfl (by omega) (by omega) (zhr_85 (by omega)) ?_
      show zH _ _ (23, [some (.inr (.inr (some 83))), some (.inl r), some (.inl i)], [.inr (.inr (some (86 + (Int.toNat r))))], (zs h hl)) _
      refine zH_go 1 (c' := (24, [some (.inr (.inr (some 83))), some (.inl r), some (.inl i)], [.inl i, .inr (.inr (some (86 + (Int.toNat r))))], (zs h hl))) rfl ?_
      refine zH_lal rfl (n := 8) (zsh_85 (by omega)) (by omega) (by omega) ?_
      show zH _ _ (25, [some (.inr (.inr (some 83))), some (.inl r), some (.inl i)], [.inr (.inl (hl (86 + (Int.toNat r)) (Int.toNat i)))], (zs h hl)) _
      refine zH_go 1 (c' := (29, [some (.inr (.inr (some 83))), some (.inl r), some (.inl i)], [.inr (.inl (hl (86 + (Int.toNat r)) (Int.toNat i)))], (zs h hl))) rfl ?_
      refine zH_ret (v := some (.inr (.inl (hl (86 + (Int.toNat r)) (Int.toNat i))))) rfl (fun q => absurd q (by decide)) ?_
      exact ⟨_, Or.inl ⟨hN, rfl⟩, rfl, rfl⟩
    · show zH _ _ (14, [some (.inr (.inr (some 83))), some (.inl r), some (.inl i)], [.inl 0], (zs h hl)) _
      have hNo : ¬ zHasNum h 83 84 r i := b_4
      refine zH_bt (x := 0) (y := 0) (k := .eq) (c1 := (28, [some (.inr (.inr (some 83))), some (.inl r), some (.inl i)], [], (zs h hl))) (c2 := (17, [some (.inr (.inr (some 83))), some (.inl r), some (.inl i)], [], (zs h hl))) rfl ⟨by decide, by decide⟩ ⟨by decide, by decide⟩ (by show 0 = 0; decide) ?_
      refine zH_go 1 (c' := (29, [some (.inr (.inr (some 83))), some (.inl r), some (.inl i)], [.inr (.inl 0)], (zs h hl))) rfl ?_
      refine zH_ret (v := some (.inr (.inl 0))) rfl (fun q => absurd q (by decide)) ?_
      exact ⟨_, Or.inr ⟨hNo, rfl⟩, rfl, rfl⟩
  · show zH _ _ (5, [some (.inr (.inr (some 83))), some (.inl r), some (.inl i)], [.inl 0], (zs h hl)) _
    have hNo : ¬ zHasNum h 83 84 r i := fun q => b_2 q.1
    refine zH_bt (x := 0) (y := 0) (k := .eq) (c1 := (28, [some (.inr (.inr (some 83))), some (.inl r), some (.inl i)], [], (zs h hl))) (c2 := (8, [some (.inr (.inr (some 83))), some (.inl r), some (.inl i)], [], (zs h hl))) rfl ⟨by decide, by decide⟩ ⟨by decide, by decide⟩ (by show 0 = 0; decide) ?_
    refine zH_go 1 (c' := (29, [some (.inr (.inr (some 83))), some (.inl r), some (.inl i)], [.inr (.inl 0)], (zs h hl))) rfl ?_
    refine zH_ret (v := some (.inr (.inl 0))) rfl (fun q => absurd q (by decide)) ?_
    exact ⟨_, Or.inr ⟨hNo, rfl⟩, rfl, rfl⟩
set_option maxRecDepth 100000 in
set_option maxHeartbeats 4000000 in
theorem p_bWrite0 {d : Nat} {h hl : Nat → Nat → Int} {r i v : Int} (hr : zr r) (hi : zr i) (ht3 : 0 ≤ h 83 0 ∧ h 83 0 ≤ 3) (hR : -1 ≤ h 83 1 ∧ h 83 1 ≤ 4) (hZ : ∀ q : Nat, q < 4 → -1 ≤ h 84 q ∧ h 84 q ≤ 8) : zQ (d + 4) 8 [.inr (.inr (some 83)), .inl r, .inl i, .inr (.inl v)] (zs h hl) (fun ρ σ' => ρ = none ∧ ∃ gl : Nat → Nat → Int, σ' = zs h gl ∧ ((zHasNum h 83 84 r i ∧ gl = zup hl (86 + Int.toNat r) (Int.toNat i) (zNar (h 83 0) v)) ∨ (¬ zHasNum h 83 84 r i ∧ gl = hl))) := by
  refine zQ_of (Nat.le_of_ble_eq_true rfl) ?_
  show zH (d + 3) 8 (0, [some (.inr (.inr (some 83))), some (.inl r), some (.inl i), some (.inr (.inl v)), none], [], (zs h hl)) _
  refine zH_go 2 (c' := (2, [some (.inr (.inr (some 83))), some (.inl r), some (.inl i), some (.inr (.inl v)), none], [.inl r, .inr (.inr (some 83))], (zs h hl))) rfl ?_
  refine zH_call (M' := 2) (as := [.inr (.inr (some 83)), .inl r]) (T := []) rfl (p_bRow0 hr hR) (fun ρ σ' p_1 => ?_)
  rcases p_1 with ⟨rfl, b_2, rfl⟩ | ⟨rfl, b_2, rfl⟩
  · show zH _ _ (5, [some (.inr (.inr (some 83))), some (.inl r), some (.inl i), some (.inr (.inl v)), none], [.inl 1], (zs h hl)) _
    have hrx := b_2.1; have hry := b_2.2.1; have hrz := b_2.2.2
    refine zH_bf (x := 1) (y := 0) (k := .eq) (c1 := (30, [some (.inr (.inr (some 83))), some (.inl r), some (.inl i), some (.inr (.inl v)), none], [], (zs h hl))) (c2 := (8, [some (.inr (.inr (some 83))), some (.inl r), some (.inl i), some (.inr (.inl v)), none], [], (zs h hl))) rfl ⟨by decide, by decide⟩ ⟨by decide, by decide⟩ (by show ¬ (1 = 0); decide) ?_
    refine zH_go 3 (c' := (11, [some (.inr (.inr (some 83))), some (.inl r), some (.inl i), some (.inr (.inl v)), none], [.inl i, .inl r, .inr (.inr (some 83))], (zs h hl))) rfl ?_
    refine zH_call (M' := 3) (as := [.inr (.inr (some 83)), .inl r, .inl i]) (T := []) rfl (p_bNum0 hr hi hR hZ) (fun ρ σ' p_3 => ?_)
    rcases p_3 with ⟨rfl, b_4, rfl⟩ | ⟨rfl, b_4, rfl⟩
    · show zH _ _ (14, [some (.inr (.inr (some 83))), some (.inl r), some (.inl i), some (.inr (.inl v)), none], [.inl 1], (zs h hl)) _
      have hix := b_4.2.1; have hiy := b_4.2.2.1; have hiz := b_4.2.2.2; have hN := b_4
      refine zH_bf (x := 1) (y := 0) (k := .eq) (c1 := (30, [some (.inr (.inr (some 83))), some (.inl r), some (.inl i), some (.inr (.inl v)), none], [], (zs h hl))) (c2 := (17, [some (.inr (.inr (some 83))), some (.inl r), some (.inl i), some (.inr (.inl v)), none], [], (zs h hl))) rfl ⟨by decide, by decide⟩ ⟨by decide, by decide⟩ (by show ¬ (1 = 0); decide) ?_
      refine zH_go 3 (c' := (22, [some (.inr (.inr (some 83))), some (.inl r), some (.inl i), some (.inr (.inl v)), none], [.inl r, .inr (.inr (some 85))], (zs h hl))) rfl ?_
      refine zH_aal (A := 85) (n := 4) (b := 86 + (Int.toNat r)) rfl rfl (by omega) (by omega) (zhr_85 (by omega)) ?_
      show zH _ _ (23, [some (.inr (.inr (some 83))), some (.inl r), some (.inl i), some (.inr (.inl v)), none], [.inr (.inr (some (86 + (Int.toNat r))))], (zs h hl)) _
      refine zH_go 3 (c' := (26, [some (.inr (.inr (some 83))), some (.inl r), some (.inl i), some (.inr (.inl v)), none], [.inr (.inl v), .inr (.inr (some 83)), .inl i, .inr (.inr (some (86 + (Int.toNat r))))], (zs h hl))) rfl ?_
      refine zH_call (M' := 10) (as := [.inr (.inr (some 83)), .inr (.inl v)]) (T := [.inl i, .inr (.inr (some (86 + (Int.toNat r))))]) rfl (p_bNar0 ht3 rfl) (fun ρ σ' p_5 => ?_)
      obtain ⟨rfl, rfl⟩ := p_5
      show zH _ _ (29, [some (.inr (.inr (some 83))), some (.inl r), some (.inl i), some (.inr (.inl v)), none], [.inr (.inl (zNar (h 83 0) v)), .inl i, .inr (.inr (some (86 + (Int.toNat r))))], (zs h hl)) _
      refine zH_las rfl (n := 8) (zsh_85 (by omega)) (by omega) (by omega) ?_
      show zH _ _ (30, [some (.inr (.inr (some 83))), some (.inl r), some (.inl i), some (.inr (.inl v)), none], [], (zs h (zup hl (86 + (Int.toNat r)) (Int.toNat i) (zNar (h 83 0) v)))) _
      refine zH_ret (v := none) rfl (fun q => absurd q (by decide)) ?_
      exact ⟨rfl, _, rfl, Or.inl ⟨hN, rfl⟩⟩
    · show zH _ _ (14, [some (.inr (.inr (some 83))), some (.inl r), some (.inl i), some (.inr (.inl v)), none], [.inl 0], (zs h hl)) _
      have hNo : ¬ zHasNum h 83 84 r i := b_4
      refine zH_bt (x := 0) (y := 0) (k := .eq) (c1 := (30, [some (.inr (.inr (some 83))), some (.inl r), some (.inl i), some (.inr (.inl v)), none], [], (zs h hl))) (c2 := (17, [some (.inr (.inr (some 83))), some (.inl r), some (.inl i), some (.inr (.inl v)), none], [], (zs h hl))) rfl ⟨by decide, by decide⟩ ⟨by decide, by decide⟩ (by show 0 = 0; decide) ?_
      refine zH_ret (v := none) rfl (fun q => absurd q (by decide)) ?_
      exact ⟨rfl, _, rfl, Or.inr ⟨hNo, rfl⟩⟩
  · show zH _ _ (5, [some (.inr (.inr (some 83))), some (.inl r), some (.inl i), some (.inr (.inl v)), none], [.inl 0], (zs h hl)) _
    have hNo : ¬ zHasNum h 83 84 r i := fun q => b_2 q.1
    refine zH_bt (x := 0) (y := 0) (k := .eq) (c1 := (30, [some (.inr (.inr (some 83))), some (.inl r), some (.inl i), some (.inr (.inl v)), none], [], (zs h hl))) (c2 := (8, [some (.inr (.inr (some 83))), some (.inl r), some (.inl i), some (.inr (.inl v)), none], [], (zs h hl))) rfl ⟨by decide, by decide⟩ ⟨by decide, by decide⟩ (by show 0 = 0; decide) ?_
    refine zH_ret (v := none) rfl (fun q => absurd q (by decide)) ?_
    exact ⟨rfl, _, rfl, Or.inr ⟨hNo, rfl⟩⟩
set_option maxRecDepth 100000 in
set_option maxHeartbeats 4000000 in
theorem p_bRead1 {d : Nat} {h hl : Nat → Nat → Int} {r i : Int} (hr : zr r) (hi : zr i) (hR : -1 ≤ h 90 1 ∧ h 90 1 ≤ 4) (hZ : ∀ q : Nat, q < 4 → -1 ≤ h 91 q ∧ h 91 q ≤ 8) : zQ (d + 4) 9 [.inr (.inr (some 90)), .inl r, .inl i] (zs h hl) (fun ρ σ' => ∃ x : Int, ((zHasNum h 90 91 r i ∧ x = hl (93 + Int.toNat r) (Int.toNat i)) ∨ (¬ zHasNum h 90 91 r i ∧ x = 0)) ∧ ρ = some (.inr (.inl x)) ∧ σ' = zs h hl) := by
  refine zQ_of (Nat.le_of_ble_eq_true rfl) ?_
  show zH (d + 3) 9 (0, [some (.inr (.inr (some 90))), some (.inl r), some (.inl i)], [], (zs h hl)) _
  refine zH_go 2 (c' := (2, [some (.inr (.inr (some 90))), some (.inl r), some (.inl i)], [.inl r, .inr (.inr (some 90))], (zs h hl))) rfl ?_
  refine zH_call (M' := 2) (as := [.inr (.inr (some 90)), .inl r]) (T := []) rfl (p_bRow1 hr hR) (fun ρ σ' p_1 => ?_)
  rcases p_1 with ⟨rfl, b_2, rfl⟩ | ⟨rfl, b_2, rfl⟩
  · show zH _ _ (5, [some (.inr (.inr (some 90))), some (.inl r), some (.inl i)], [.inl 1], (zs h hl)) _
    have hrx := b_2.1; have hry := b_2.2.1; have hrz := b_2.2.2
    refine zH_bf (x := 1) (y := 0) (k := .eq) (c1 := (28, [some (.inr (.inr (some 90))), some (.inl r), some (.inl i)], [], (zs h hl))) (c2 := (8, [some (.inr (.inr (some 90))), some (.inl r), some (.inl i)], [], (zs h hl))) rfl ⟨by decide, by decide⟩ ⟨by decide, by decide⟩ (by show ¬ (1 = 0); decide) ?_
    refine zH_go 3 (c' := (11, [some (.inr (.inr (some 90))), some (.inl r), some (.inl i)], [.inl i, .inl r, .inr (.inr (some 90))], (zs h hl))) rfl ?_
    refine zH_call (M' := 3) (as := [.inr (.inr (some 90)), .inl r, .inl i]) (T := []) rfl (p_bNum1 hr hi hR hZ) (fun ρ σ' p_3 => ?_)
    rcases p_3 with ⟨rfl, b_4, rfl⟩ | ⟨rfl, b_4, rfl⟩
    · show zH _ _ (14, [some (.inr (.inr (some 90))), some (.inl r), some (.inl i)], [.inl 1], (zs h hl)) _
      have hix := b_4.2.1; have hiy := b_4.2.2.1; have hiz := b_4.2.2.2; have hN := b_4
      refine zH_bf (x := 1) (y := 0) (k := .eq) (c1 := (28, [some (.inr (.inr (some 90))), some (.inl r), some (.inl i)], [], (zs h hl))) (c2 := (17, [some (.inr (.inr (some 90))), some (.inl r), some (.inl i)], [], (zs h hl))) rfl ⟨by decide, by decide⟩ ⟨by decide, by decide⟩ (by show ¬ (1 = 0); decide) ?_
      refine zH_go 3 (c' := (22, [some (.inr (.inr (some 90))), some (.inl r), some (.inl i)], [.inl r, .inr (.inr (some 92))], (zs h hl))) rfl ?_
      refine zH_aal (A := 92) (n := 4) (b := 93 + (Int.toNat r)) rfl rfl (by omega) (by omega) (zhr_92 (by omega)) ?_
      show zH _ _ (23, [some (.inr (.inr (some 90))), some (.inl r), some (.inl i)], [.inr (.inr (some (93 + (Int.toNat r))))], (zs h hl)) _
      refine zH_go 1 (c' := (24, [some (.inr (.inr (some 90))), some (.inl r), some (.inl i)], [.inl i, .inr (.inr (some (93 + (Int.toNat r))))], (zs h hl))) rfl ?_
      refine zH_lal rfl (n := 8) (zsh_92 (by omega)) (by omega) (by omega) ?_
      show zH _ _ (25, [some (.inr (.inr (some 90))), some (.inl r), some (.inl i)], [.inr (.inl (hl (93 + (Int.toNat r)) (Int.toNat i)))], (zs h hl)) _
      refine zH_go 1 (c' := (29, [some (.inr (.inr (some 90))), some (.inl r), some (.inl i)], [.inr (.inl (hl (93 + (Int.toNat r)) (Int.toNat i)))], (zs h hl))) rfl ?_
      refine zH_ret (v := some (.inr (.inl (hl (93 + (Int.toNat r)) (Int.toNat i))))) rfl (fun q => absurd q (by decide)) ?_
      exact ⟨_, Or.inl ⟨hN, rfl⟩, rfl, rfl⟩
    · show zH _ _ (14, [some (.inr (.inr (some 90))), some (.inl r), some (.inl i)], [.inl 0], (zs h hl)) _
      have hNo : ¬ zHasNum h 90 91 r i := b_4
      refine zH_bt (x := 0) (y := 0) (k := .eq) (c1 := (28, [some (.inr (.inr (some 90))), some (.inl r), some (.inl i)], [], (zs h hl))) (c2 := (17, [some (.inr (.inr (some 90))), some (.inl r), some (.inl i)], [], (zs h hl))) rfl ⟨by decide, by decide⟩ ⟨by decide, by decide⟩ (by show 0 = 0; decide) ?_
      refine zH_go 1 (c' := (29, [some (.inr (.inr (some 90))), some (.inl r), some (.inl i)], [.inr (.inl 0)], (zs h hl))) rfl ?_
      refine zH_ret (v := some (.inr (.inl 0))) rfl (fun q => absurd q (by decide)) ?_
      exact ⟨_, Or.inr ⟨hNo, rfl⟩, rfl, rfl⟩
  · show zH _ _ (5, [some (.inr (.inr (some 90))), some (.inl r), some (.inl i)], [.inl 0], (zs h hl)) _
    have hNo : ¬ zHasNum h 90 91 r i := fun q => b_2 q.1
    refine zH_bt (x := 0) (y := 0) (k := .eq) (c1 := (28, [some (.inr (.inr (some 90))), some (.inl r), some (.inl i)], [], (zs h hl))) (c2 := (8, [some (.inr (.inr (some 90))), some (.inl r), some (.inl i)], [], (zs h hl))) rfl ⟨by decide, by decide⟩ ⟨by decide, by decide⟩ (by show 0 = 0; decide) ?_
    refine zH_go 1 (c' := (29, [some (.inr (.inr (some 90))), some (.inl r), some (.inl i)], [.inr (.inl 0)], (zs h hl))) rfl ?_
    refine zH_ret (v := some (.inr (.inl 0))) rfl (fun q => absurd q (by decide)) ?_
    exact ⟨_, Or.inr ⟨hNo, rfl⟩, rfl, rfl⟩
set_option maxRecDepth 100000 in
set_option maxHeartbeats 4000000 in
theorem p_bWrite1 {d : Nat} {h hl : Nat → Nat → Int} {r i v : Int} (hr : zr r) (hi : zr i) (ht3 : 0 ≤ h 90 0 ∧ h 90 0 ≤ 3) (hR : -1 ≤ h 90 1 ∧ h 90 1 ≤ 4) (hZ : ∀ q : Nat, q < 4 → -1 ≤ h 91 q ∧ h 91 q ≤ 8) : zQ (d + 4) 8 [.inr (.inr (some 90)), .inl r, .inl i, .inr (.inl v)] (zs h hl) (fun ρ σ' => ρ = none ∧ ∃ gl : Nat → Nat → Int, σ' = zs h gl ∧ ((zHasNum h 90 91 r i ∧ gl = zup hl (93 + Int.toNat r) (Int.toNat i) (zNar (h 90 0) v)) ∨ (¬ zHasNum h 90 91 r i ∧ gl = hl))) := by
  refine zQ_of (Nat.le_of_ble_eq_true rfl) ?_
  show zH (d + 3) 8 (0, [some (.inr (.inr (some 90))), some (.inl r), some (.inl i), some (.inr (.inl v)), none], [], (zs h hl)) _
  refine zH_go 2 (c' := (2, [some (.inr (.inr (some 90))), some (.inl r), some (.inl i), some (.inr (.inl v)), none], [.inl r, .inr (.inr (some 90))], (zs h hl))) rfl ?_
  refine zH_call (M' := 2) (as := [.inr (.inr (some 90)), .inl r]) (T := []) rfl (p_bRow1 hr hR) (fun ρ σ' p_1 => ?_)
  rcases p_1 with ⟨rfl, b_2, rfl⟩ | ⟨rfl, b_2, rfl⟩
  · show zH _ _ (5, [some (.inr (.inr (some 90))), some (.inl r), some (.inl i), some (.inr (.inl v)), none], [.inl 1], (zs h hl)) _
    have hrx := b_2.1; have hry := b_2.2.1; have hrz := b_2.2.2
    refine zH_bf (x := 1) (y := 0) (k := .eq) (c1 := (30, [some (.inr (.inr (some 90))), some (.inl r), some (.inl i), some (.inr (.inl v)), none], [], (zs h hl))) (c2 := (8, [some (.inr (.inr (some 90))), some (.inl r), some (.inl i), some (.inr (.inl v)), none], [], (zs h hl))) rfl ⟨by decide, by decide⟩ ⟨by decide, by decide⟩ (by show ¬ (1 = 0); decide) ?_
    refine zH_go 3 (c' := (11, [some (.inr (.inr (some 90))), some (.inl r), some (.inl i), some (.inr (.inl v)), none], [.inl i, .inl r, .inr (.inr (some 90))], (zs h hl))) rfl ?_
    refine zH_call (M' := 3) (as := [.inr (.inr (some 90)), .inl r, .inl i]) (T := []) rfl (p_bNum1 hr hi hR hZ) (fun ρ σ' p_3 => ?_)
    rcases p_3 with ⟨rfl, b_4, rfl⟩ | ⟨rfl, b_4, rfl⟩
    · show zH _ _ (14, [some (.inr (.inr (some 90))), some (.inl r), some (.inl i), some (.inr (.inl v)), none], [.inl 1], (zs h hl)) _
      have hix := b_4.2.1; have hiy := b_4.2.2.1; have hiz := b_4.2.2.2; have hN := b_4
      refine zH_bf (x := 1) (y := 0) (k := .eq) (c1 := (30, [some (.inr (.inr (some 90))), some (.inl r), some (.inl i), some (.inr (.inl v)), none], [], (zs h hl))) (c2 := (17, [some (.inr (.inr (some 90))), some (.inl r), some (.inl i), some (.inr (.inl v)), none], [], (zs h hl))) rfl ⟨by decide, by decide⟩ ⟨by decide, by decide⟩ (by show ¬ (1 = 0); decide) ?_
      refine zH_go 3 (c' := (22, [some (.inr (.inr (some 90))), some (.inl r), some (.inl i), some (.inr (.inl v)), none], [.inl r, .inr (.inr (some 92))], (zs h hl))) rfl ?_
      refine zH_aal (A := 92) (n := 4) (b := 93 + (Int.toNat r)) rfl rfl (by omega) (by omega) (zhr_92 (by omega)) ?_
      show zH _ _ (23, [some (.inr (.inr (some 90))), some (.inl r), some (.inl i), some (.inr (.inl v)), none], [.inr (.inr (some (93 + (Int.toNat r))))], (zs h hl)) _
      refine zH_go 3 (c' := (26, [some (.inr (.inr (some 90))), some (.inl r), some (.inl i), some (.inr (.inl v)), none], [.inr (.inl v), .inr (.inr (some 90)), .inl i, .inr (.inr (some (93 + (Int.toNat r))))], (zs h hl))) rfl ?_
      refine zH_call (M' := 10) (as := [.inr (.inr (some 90)), .inr (.inl v)]) (T := [.inl i, .inr (.inr (some (93 + (Int.toNat r))))]) rfl (p_bNar1 ht3 rfl) (fun ρ σ' p_5 => ?_)
      obtain ⟨rfl, rfl⟩ := p_5
      show zH _ _ (29, [some (.inr (.inr (some 90))), some (.inl r), some (.inl i), some (.inr (.inl v)), none], [.inr (.inl (zNar (h 90 0) v)), .inl i, .inr (.inr (some (93 + (Int.toNat r))))], (zs h hl)) _
      refine zH_las rfl (n := 8) (zsh_92 (by omega)) (by omega) (by omega) ?_
      show zH _ _ (30, [some (.inr (.inr (some 90))), some (.inl r), some (.inl i), some (.inr (.inl v)), none], [], (zs h (zup hl (93 + (Int.toNat r)) (Int.toNat i) (zNar (h 90 0) v)))) _
      refine zH_ret (v := none) rfl (fun q => absurd q (by decide)) ?_
      exact ⟨rfl, _, rfl, Or.inl ⟨hN, rfl⟩⟩
    · show zH _ _ (14, [some (.inr (.inr (some 90))), some (.inl r), some (.inl i), some (.inr (.inl v)), none], [.inl 0], (zs h hl)) _
      have hNo : ¬ zHasNum h 90 91 r i := b_4
      refine zH_bt (x := 0) (y := 0) (k := .eq) (c1 := (30, [some (.inr (.inr (some 90))), some (.inl r), some (.inl i), some (.inr (.inl v)), none], [], (zs h hl))) (c2 := (17, [some (.inr (.inr (some 90))), some (.inl r), some (.inl i), some (.inr (.inl v)), none], [], (zs h hl))) rfl ⟨by decide, by decide⟩ ⟨by decide, by decide⟩ (by show 0 = 0; decide) ?_
      refine zH_ret (v := none) rfl (fun q => absurd q (by decide)) ?_
      exact ⟨rfl, _, rfl, Or.inr ⟨hNo, rfl⟩⟩
  · show zH _ _ (5, [some (.inr (.inr (some 90))), some (.inl r), some (.inl i), some (.inr (.inl v)), none], [.inl 0], (zs h hl)) _
    have hNo : ¬ zHasNum h 90 91 r i := fun q => b_2 q.1
    refine zH_bt (x := 0) (y := 0) (k := .eq) (c1 := (30, [some (.inr (.inr (some 90))), some (.inl r), some (.inl i), some (.inr (.inl v)), none], [], (zs h hl))) (c2 := (8, [some (.inr (.inr (some 90))), some (.inl r), some (.inl i), some (.inr (.inl v)), none], [], (zs h hl))) rfl ⟨by decide, by decide⟩ ⟨by decide, by decide⟩ (by show 0 = 0; decide) ?_
    refine zH_ret (v := none) rfl (fun q => absurd q (by decide)) ?_
    exact ⟨rfl, _, rfl, Or.inr ⟨hNo, rfl⟩⟩
set_option maxRecDepth 100000 in
set_option maxHeartbeats 4000000 in
theorem p_bRead2 {d : Nat} {h hl : Nat → Nat → Int} {r i : Int} (hr : zr r) (hi : zr i) (hR : -1 ≤ h 97 1 ∧ h 97 1 ≤ 4) (hZ : ∀ q : Nat, q < 4 → -1 ≤ h 98 q ∧ h 98 q ≤ 8) : zQ (d + 4) 9 [.inr (.inr (some 97)), .inl r, .inl i] (zs h hl) (fun ρ σ' => ∃ x : Int, ((zHasNum h 97 98 r i ∧ x = hl (100 + Int.toNat r) (Int.toNat i)) ∨ (¬ zHasNum h 97 98 r i ∧ x = 0)) ∧ ρ = some (.inr (.inl x)) ∧ σ' = zs h hl) := by
  refine zQ_of (Nat.le_of_ble_eq_true rfl) ?_
  show zH (d + 3) 9 (0, [some (.inr (.inr (some 97))), some (.inl r), some (.inl i)], [], (zs h hl)) _
  refine zH_go 2 (c' := (2, [some (.inr (.inr (some 97))), some (.inl r), some (.inl i)], [.inl r, .inr (.inr (some 97))], (zs h hl))) rfl ?_
  refine zH_call (M' := 2) (as := [.inr (.inr (some 97)), .inl r]) (T := []) rfl (p_bRow2 hr hR) (fun ρ σ' p_1 => ?_)
  rcases p_1 with ⟨rfl, b_2, rfl⟩ | ⟨rfl, b_2, rfl⟩
  · show zH _ _ (5, [some (.inr (.inr (some 97))), some (.inl r), some (.inl i)], [.inl 1], (zs h hl)) _
    have hrx := b_2.1; have hry := b_2.2.1; have hrz := b_2.2.2
    refine zH_bf (x := 1) (y := 0) (k := .eq) (c1 := (28, [some (.inr (.inr (some 97))), some (.inl r), some (.inl i)], [], (zs h hl))) (c2 := (8, [some (.inr (.inr (some 97))), some (.inl r), some (.inl i)], [], (zs h hl))) rfl ⟨by decide, by decide⟩ ⟨by decide, by decide⟩ (by show ¬ (1 = 0); decide) ?_
    refine zH_go 3 (c' := (11, [some (.inr (.inr (some 97))), some (.inl r), some (.inl i)], [.inl i, .inl r, .inr (.inr (some 97))], (zs h hl))) rfl ?_
    refine zH_call (M' := 3) (as := [.inr (.inr (some 97)), .inl r, .inl i]) (T := []) rfl (p_bNum2 hr hi hR hZ) (fun ρ σ' p_3 => ?_)
    rcases p_3 with ⟨rfl, b_4, rfl⟩ | ⟨rfl, b_4, rfl⟩
    · show zH _ _ (14, [some (.inr (.inr (some 97))), some (.inl r), some (.inl i)], [.inl 1], (zs h hl)) _
      have hix := b_4.2.1; have hiy := b_4.2.2.1; have hiz := b_4.2.2.2; have hN := b_4
      refine zH_bf (x := 1) (y := 0) (k := .eq) (c1 := (28, [some (.inr (.inr (some 97))), some (.inl r), some (.inl i)], [], (zs h hl))) (c2 := (17, [some (.inr (.inr (some 97))), some (.inl r), some (.inl i)], [], (zs h hl))) rfl ⟨by decide, by decide⟩ ⟨by decide, by decide⟩ (by show ¬ (1 = 0); decide) ?_
      refine zH_go 3 (c' := (22, [some (.inr (.inr (some 97))), some (.inl r), some (.inl i)], [.inl r, .inr (.inr (some 99))], (zs h hl))) rfl ?_
      refine zH_aal (A := 99) (n := 4) (b := 100 + (Int.toNat r)) rfl rfl (by omega) (by omega) (zhr_99 (by omega)) ?_
      show zH _ _ (23, [some (.inr (.inr (some 97))), some (.inl r), some (.inl i)], [.inr (.inr (some (100 + (Int.toNat r))))], (zs h hl)) _
      refine zH_go 1 (c' := (24, [some (.inr (.inr (some 97))), some (.inl r), some (.inl i)], [.inl i, .inr (.inr (some (100 + (Int.toNat r))))], (zs h hl))) rfl ?_
      refine zH_lal rfl (n := 8) (zsh_99 (by omega)) (by omega) (by omega) ?_
      show zH _ _ (25, [some (.inr (.inr (some 97))), some (.inl r), some (.inl i)], [.inr (.inl (hl (100 + (Int.toNat r)) (Int.toNat i)))], (zs h hl)) _
      refine zH_go 1 (c' := (29, [some (.inr (.inr (some 97))), some (.inl r), some (.inl i)], [.inr (.inl (hl (100 + (Int.toNat r)) (Int.toNat i)))], (zs h hl))) rfl ?_
      refine zH_ret (v := some (.inr (.inl (hl (100 + (Int.toNat r)) (Int.toNat i))))) rfl (fun q => absurd q (by decide)) ?_
      exact ⟨_, Or.inl ⟨hN, rfl⟩, rfl, rfl⟩
    · show zH _ _ (14, [some (.inr (.inr (some 97))), some (.inl r), some (.inl i)], [.inl 0], (zs h hl)) _
      have hNo : ¬ zHasNum h 97 98 r i := b_4
      refine zH_bt (x := 0) (y := 0) (k := .eq) (c1 := (28, [some (.inr (.inr (some 97))), some (.inl r), some (.inl i)], [], (zs h hl))) (c2 := (17, [some (.inr (.inr (some 97))), some (.inl r), some (.inl i)], [], (zs h hl))) rfl ⟨by decide, by decide⟩ ⟨by decide, by decide⟩ (by show 0 = 0; decide) ?_
      refine zH_go 1 (c' := (29, [some (.inr (.inr (some 97))), some (.inl r), some (.inl i)], [.inr (.inl 0)], (zs h hl))) rfl ?_
      refine zH_ret (v := some (.inr (.inl 0))) rfl (fun q => absurd q (by decide)) ?_
      exact ⟨_, Or.inr ⟨hNo, rfl⟩, rfl, rfl⟩
  · show zH _ _ (5, [some (.inr (.inr (some 97))), some (.inl r), some (.inl i)], [.inl 0], (zs h hl)) _
    have hNo : ¬ zHasNum h 97 98 r i := fun q => b_2 q.1
    refine zH_bt (x := 0) (y := 0) (k := .eq) (c1 := (28, [some (.inr (.inr (some 97))), some (.inl r), some (.inl i)], [], (zs h hl))) (c2 := (8, [some (.inr (.inr (some 97))), some (.inl r), some (.inl i)], [], (zs h hl))) rfl ⟨by decide, by decide⟩ ⟨by decide, by decide⟩ (by show 0 = 0; decide) ?_
    refine zH_go 1 (c' := (29, [some (.inr (.inr (some 97))), some (.inl r), some (.inl i)], [.inr (.inl 0)], (zs h hl))) rfl ?_
    refine zH_ret (v := some (.inr (.inl 0))) rfl (fun q => absurd q (by decide)) ?_
    exact ⟨_, Or.inr ⟨hNo, rfl⟩, rfl, rfl⟩
set_option maxRecDepth 100000 in
set_option maxHeartbeats 4000000 in
theorem p_bWrite2 {d : Nat} {h hl : Nat → Nat → Int} {r i v : Int} (hr : zr r) (hi : zr i) (ht3 : 0 ≤ h 97 0 ∧ h 97 0 ≤ 3) (hR : -1 ≤ h 97 1 ∧ h 97 1 ≤ 4) (hZ : ∀ q : Nat, q < 4 → -1 ≤ h 98 q ∧ h 98 q ≤ 8) : zQ (d + 4) 8 [.inr (.inr (some 97)), .inl r, .inl i, .inr (.inl v)] (zs h hl) (fun ρ σ' => ρ = none ∧ ∃ gl : Nat → Nat → Int, σ' = zs h gl ∧ ((zHasNum h 97 98 r i ∧ gl = zup hl (100 + Int.toNat r) (Int.toNat i) (zNar (h 97 0) v)) ∨ (¬ zHasNum h 97 98 r i ∧ gl = hl))) := by
  refine zQ_of (Nat.le_of_ble_eq_true rfl) ?_
  show zH (d + 3) 8 (0, [some (.inr (.inr (some 97))), some (.inl r), some (.inl i), some (.inr (.inl v)), none], [], (zs h hl)) _
  refine zH_go 2 (c' := (2, [some (.inr (.inr (some 97))), some (.inl r), some (.inl i), some (.inr (.inl v)), none], [.inl r, .inr (.inr (some 97))], (zs h hl))) rfl ?_
  refine zH_call (M' := 2) (as := [.inr (.inr (some 97)), .inl r]) (T := []) rfl (p_bRow2 hr hR) (fun ρ σ' p_1 => ?_)
  rcases p_1 with ⟨rfl, b_2, rfl⟩ | ⟨rfl, b_2, rfl⟩
  · show zH _ _ (5, [some (.inr (.inr (some 97))), some (.inl r), some (.inl i), some (.inr (.inl v)), none], [.inl 1], (zs h hl)) _
    have hrx := b_2.1; have hry := b_2.2.1; have hrz := b_2.2.2
    refine zH_bf (x := 1) (y := 0) (k := .eq) (c1 := (30, [some (.inr (.inr (some 97))), some (.inl r), some (.inl i), some (.inr (.inl v)), none], [], (zs h hl))) (c2 := (8, [some (.inr (.inr (some 97))), some (.inl r), some (.inl i), some (.inr (.inl v)), none], [], (zs h hl))) rfl ⟨by decide, by decide⟩ ⟨by decide, by decide⟩ (by show ¬ (1 = 0); decide) ?_
    refine zH_go 3 (c' := (11, [some (.inr (.inr (some 97))), some (.inl r), some (.inl i), some (.inr (.inl v)), none], [.inl i, .inl r, .inr (.inr (some 97))], (zs h hl))) rfl ?_
    refine zH_call (M' := 3) (as := [.inr (.inr (some 97)), .inl r, .inl i]) (T := []) rfl (p_bNum2 hr hi hR hZ) (fun ρ σ' p_3 => ?_)
    rcases p_3 with ⟨rfl, b_4, rfl⟩ | ⟨rfl, b_4, rfl⟩
    · show zH _ _ (14, [some (.inr (.inr (some 97))), some (.inl r), some (.inl i), some (.inr (.inl v)), none], [.inl 1], (zs h hl)) _
      have hix := b_4.2.1; have hiy := b_4.2.2.1; have hiz := b_4.2.2.2; have hN := b_4
      refine zH_bf (x := 1) (y := 0) (k := .eq) (c1 := (30, [some (.inr (.inr (some 97))), some (.inl r), some (.inl i), some (.inr (.inl v)), none], [], (zs h hl))) (c2 := (17, [some (.inr (.inr (some 97))), some (.inl r), some (.inl i), some (.inr (.inl v)), none], [], (zs h hl))) rfl ⟨by decide, by decide⟩ ⟨by decide, by decide⟩ (by show ¬ (1 = 0); decide) ?_
      refine zH_go 3 (c' := (22, [some (.inr (.inr (some 97))), some (.inl r), some (.inl i), some (.inr (.inl v)), none], [.inl r, .inr (.inr (some 99))], (zs h hl))) rfl ?_
      refine zH_aal (A := 99) (n := 4) (b := 100 + (Int.toNat r)) rfl rfl (by omega) (by omega) (zhr_99 (by omega)) ?_
      show zH _ _ (23, [some (.inr (.inr (some 97))), some (.inl r), some (.inl i), some (.inr (.inl v)), none], [.inr (.inr (some (100 + (Int.toNat r))))], (zs h hl)) _
      refine zH_go 3 (c' := (26, [some (.inr (.inr (some 97))), some (.inl r), some (.inl i), some (.inr (.inl v)), none], [.inr (.inl v), .inr (.inr (some 97)), .inl i, .inr (.inr (some (100 + (Int.toNat r))))], (zs h hl))) rfl ?_
      refine zH_call (M' := 10) (as := [.inr (.inr (some 97)), .inr (.inl v)]) (T := [.inl i, .inr (.inr (some (100 + (Int.toNat r))))]) rfl (p_bNar2 ht3 rfl) (fun ρ σ' p_5 => ?_)
      obtain ⟨rfl, rfl⟩ := p_5
      show zH _ _ (29, [some (.inr (.inr (some 97))), some (.inl r), some (.inl i), some (.inr (.inl v)), none], [.inr (.inl (zNar (h 97 0) v)), .inl i, .inr (.inr (some (100 + (Int.toNat r))))], (zs h hl)) _
      refine zH_las rfl (n := 8) (zsh_99 (by omega)) (by omega) (by omega) ?_
      show zH _ _ (30, [some (.inr (.inr (some 97))), some (.inl r), some (.inl i), some (.inr (.inl v)), none], [], (zs h (zup hl (100 + (Int.toNat r)) (Int.toNat i) (zNar (h 97 0) v)))) _
      refine zH_ret (v := none) rfl (fun q => absurd q (by decide)) ?_
      exact ⟨rfl, _, rfl, Or.inl ⟨hN, rfl⟩⟩
    · show zH _ _ (14, [some (.inr (.inr (some 97))), some (.inl r), some (.inl i), some (.inr (.inl v)), none], [.inl 0], (zs h hl)) _
      have hNo : ¬ zHasNum h 97 98 r i := b_4
      refine zH_bt (x := 0) (y := 0) (k := .eq) (c1 := (30, [some (.inr (.inr (some 97))), some (.inl r), some (.inl i), some (.inr (.inl v)), none], [], (zs h hl))) (c2 := (17, [some (.inr (.inr (some 97))), some (.inl r), some (.inl i), some (.inr (.inl v)), none], [], (zs h hl))) rfl ⟨by decide, by decide⟩ ⟨by decide, by decide⟩ (by show 0 = 0; decide) ?_
      refine zH_ret (v := none) rfl (fun q => absurd q (by decide)) ?_
      exact ⟨rfl, _, rfl, Or.inr ⟨hNo, rfl⟩⟩
  · show zH _ _ (5, [some (.inr (.inr (some 97))), some (.inl r), some (.inl i), some (.inr (.inl v)), none], [.inl 0], (zs h hl)) _
    have hNo : ¬ zHasNum h 97 98 r i := fun q => b_2 q.1
    refine zH_bt (x := 0) (y := 0) (k := .eq) (c1 := (30, [some (.inr (.inr (some 97))), some (.inl r), some (.inl i), some (.inr (.inl v)), none], [], (zs h hl))) (c2 := (8, [some (.inr (.inr (some 97))), some (.inl r), some (.inl i), some (.inr (.inl v)), none], [], (zs h hl))) rfl ⟨by decide, by decide⟩ ⟨by decide, by decide⟩ (by show 0 = 0; decide) ?_
    refine zH_ret (v := none) rfl (fun q => absurd q (by decide)) ?_
    exact ⟨rfl, _, rfl, Or.inr ⟨hNo, rfl⟩⟩
