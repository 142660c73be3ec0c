/-! BOOKS: a number is read, written; a ROW is made. -/
set_option maxRecDepth 100000 in
set_option maxHeartbeats 4000000 in
theorem p_bRead0 {d : Nat} {h hl : Nat → Nat → Int} {r i : Int} (hr : zr r) (hi : zr i) (hR : -1 ≤ h 83 1 ∧ h 83 1 ≤ 4) (hZ : ∀ q : Nat, q < 4 → -1 ≤ h 84 q ∧ h 84 q ≤ 8) : zQ (d + 4) 9 [.inr (.inr (some 83)), .inl r, .inl i] (zs h hl) (fun ρ σ' => ∃ x : Int, ((zHasNum h 83 84 r i ∧ x = hl (86 + Int.toNat r) (Int.toNat i)) ∨ (¬ zHasNum h 83 84 r i ∧ x = 0)) ∧ ρ = some (.inr (.inl x)) ∧ σ' = zs h hl) := by
  refine zQ_of (Nat.le_of_ble_eq_true rfl) ?_
  show zH (d + 3) 9 (0, [some (.inr (.inr (some 83))), some (.inl r), some (.inl i)], [], (zs h hl)) _
  refine zH_go 2 (c' := (2, [some (.inr (.inr (some 83))), some (.inl r), some (.inl i)], [.inl r, .inr (.inr (some 83))], (zs h hl))) rfl ?_
  refine zH_call (M' := 2) (as := [.inr (.inr (some 83)), .inl r]) (T := []) rfl (p_bRow0 hr hR) (fun ρ σ' p_1 => ?_)
  rcases p_1 with ⟨rfl, b_2, rfl⟩ | ⟨rfl, b_2, rfl⟩
  · show zH _ _ (5, [some (.inr (.inr (some 83))), some (.inl r), some (.inl i)], [.inl 1], (zs h hl)) _
    have hrx := b_2.1; have hry := b_2.2.1; have hrz := b_2.2.2
    refine zH_bf (x := 1) (y := 0) (k := .eq) (c1 := (28, [some (.inr (.inr (some 83))), some (.inl r), some (.inl i)], [], (zs h hl))) (c2 := (8, [some (.inr (.inr (some 83))), some (.inl r), some (.inl i)], [], (zs h hl))) rfl ⟨by decide, by decide⟩ ⟨by decide, by decide⟩ (by show ¬ (1 = 0); decide) ?_
    refine zH_go 3 (c' := (11, [some (.inr (.inr (some 83))), some (.inl r), some (.inl i)], [.inl i, .inl r, .inr (.inr (some 83))], (zs h hl))) rfl ?_
    refine zH_call (M' := 3) (as := [.inr (.inr (some 83)), .inl r, .inl i]) (T := []) rfl (p_bNum0 hr hi hR hZ) (fun ρ σ' p_3 => ?_)
    rcases p_3 with ⟨rfl, b_4, rfl⟩ | ⟨rfl, b_4, rfl⟩
    · show zH _ _ (14, [some (.inr (.inr (some 83))), some (.inl r), some (.inl i)], [.inl 1], (zs h hl)) _
      have hix := b_4.2.1; have hiy := b_4.2.2.1; have hiz := b_4.2.2.2; have hN := b_4
      refine zH_bf (x := 1) (y := 0) (k := .eq) (c1 := (28, [some (.inr (.inr (some 83))), some (.inl r), some (.inl i)], [], (zs h hl))) (c2 := (17, [some (.inr (.inr (some 83))), some (.inl r), some (.inl i)], [], (zs h hl))) rfl ⟨by decide, by decide⟩ ⟨by decide, by decide⟩ (by show ¬ (1 = 0); decide) ?_
      refine zH_go 3 (c' := (22, [some (.inr (.inr (some 83))), some (.inl r), some (.inl i)], [.inl r, .inr (.inr (some 85))], (zs h hl))) rfl ?_
      refine zH_aal (A := 85) (n := 4) (b := 86 + (Int.toNat r)) rfl rfl (by omega) (by omega) (zhr_85 (by omega)) ?_
      show zH _ _ (23, [some (.inr (.inr (some 83))), some (.inl r), some (.inl i)], [.inr (.inr (some (86 + (Int.toNat r))))], (zs h hl)) _
      refine zH_go 1 (c' := (24, [some (.inr (.inr (some 83))), some (.inl r), some (.inl i)], [.inl i, .inr (.inr (some (86 + (Int.toNat r))))], (zs h hl))) rfl ?_
      refine zH_lal rfl (n := 8) (zsh_85 (by omega)) (by omega) (by omega) ?_
      show zH _ _ (25, [some (.inr (.inr (some 83))), some (.inl r), some (.inl i)], [.inr (.inl (hl (86 + (Int.toNat r)) (Int.toNat i)))], (zs h hl)) _
      refine zH_go 1 (c' := (29, [some (.inr (.inr (some 83))), some (.inl r), some (.inl i)], [.inr (.inl (hl (86 + (Int.toNat r)) (Int.toNat i)))], (zs h hl))) rfl ?_
      refine zH_ret (v := some (.inr (.inl (hl (86 + (Int.toNat r)) (Int.toNat i))))) rfl (fun q => absurd q (by decide)) ?_
      exact ⟨_, Or.inl ⟨hN, rfl⟩, rfl, rfl⟩
    · show zH _ _ (14, [some (.inr (.inr (some 83))), some (.inl r), some (.inl i)], [.inl 0], (zs h hl)) _
      have hNo : ¬ zHasNum h 83 84 r i := b_4
      refine zH_bt (x := 0) (y := 0) (k := .eq) (c1 := (28, [some (.inr (.inr (some 83))), some (.inl r), some (.inl i)], [], (zs h hl))) (c2 := (17, [some (.inr (.inr (some 83))), some (.inl r), some (.inl i)], [], (zs h hl))) rfl ⟨by decide, by decide⟩ ⟨by decide, by decide⟩ (by show 0 = 0; decide) ?_
      refine zH_go 1 (c' := (29, [some (.inr (.inr (some 83))), some (.inl r), some (.inl i)], [.inr (.inl 0)], (zs h hl))) rfl ?_
      refine zH_ret (v := some (.inr (.inl 0))) rfl (fun q => absurd q (by decide)) ?_
      exact ⟨_, Or.inr ⟨hNo, rfl⟩, rfl, rfl⟩
  · show zH _ _ (5, [some (.inr (.inr (some 83))), some (.inl r), some (.inl i)], [.inl 0], (zs h hl)) _
    have hNo : ¬ zHasNum h 83 84 r i := fun q => b_2 q.1
    refine zH_bt (x := 0) (y := 0) (k := .eq) (c1 := (28, [some (.inr (.inr (some 83))), some (.inl r), some (.inl i)], [], (zs h hl))) (c2 := (8, [some (.inr (.inr (some 83))), some (.inl r), some (.inl i)], [], (zs h hl))) rfl ⟨by decide, by decide⟩ ⟨by decide, by decide⟩ (by show 0 = 0; decide) ?_
    refine zH_go 1 (c' := (29, [some (.inr (.inr (some 83))), some (.inl r), some (.inl i)], [.inr (.inl 0)], (zs h hl))) rfl ?_
    refine zH_ret (v := some (.inr (.inl 0))) rfl (fun q => absurd q (by decide)) ?_
    exact ⟨_, Or.inr ⟨hNo, rfl⟩, rfl, rfl⟩
set_option maxRecDepth 100000 in
set_option maxHeartbeats 4000000 in
theorem p_bWrite0 {d : Nat} {h hl : Nat → Nat → Int} {r i v : Int} (hr : zr r) (hi : zr i) (ht3 : 0 ≤ h 83 0 ∧ h 83 0 ≤ 3) (hR : -1 ≤ h 83 1 ∧ h 83 1 ≤ 4) (hZ : ∀ q : Nat, q < 4 → -1 ≤ h 84 q ∧ h 84 q ≤ 8) : zQ (d + 4) 8 [.inr (.inr (some 83)), .inl r, .inl i, .inr (.inl v)] (zs h hl) (fun ρ σ' => ρ = none ∧ ∃ gl : Nat → Nat → Int, σ' = zs h gl ∧ ((zHasNum h 83 84 r i ∧ gl = zup hl (86 + Int.toNat r) (Int.toNat i) (zNar (h 83 0) v)) ∨ (¬ zHasNum h 83 84 r i ∧ gl = hl))) := by
  refine zQ_of (Nat.le_of_ble_eq_true rfl) ?_
  show zH (d + 3) 8 (0, [some (.inr (.inr (some 83))), some (.inl r), some (.inl i), some (.inr (.inl v)), none], [], (zs h hl)) _
  refine zH_go 2 (c' := (2, [some (.inr (.inr (some 83))), some (.inl r), some (.inl i), some (.inr (.inl v)), none], [.inl r, .inr (.inr (some 83))], (zs h hl))) rfl ?_
  refine zH_call (M' := 2) (as := [.inr (.inr (some 83)), .inl r]) (T := []) rfl (p_bRow0 hr hR) (fun ρ σ' p_1 => ?_)
  rcases p_1 with ⟨rfl, b_2, rfl⟩ | ⟨rfl, b_2, rfl⟩
  · show zH _ _ (5, [some (.inr (.inr (some 83))), some (.inl r), some (.inl i), some (.inr (.inl v)), none], [.inl 1], (zs h hl)) _
    have hrx := b_2.1; have hry := b_2.2.1; have hrz := b_2.2.2
    refine zH_bf (x := 1) (y := 0) (k := .eq) (c1 := (30, [some (.inr (.inr (some 83))), some (.inl r), some (.inl i), some (.inr (.inl v)), none], [], (zs h hl))) (c2 := (8, [some (.inr (.inr (some 83))), some (.inl r), some (.inl i), some (.inr (.inl v)), none], [], (zs h hl))) rfl ⟨by decide, by decide⟩ ⟨by decide, by decide⟩ (by show ¬ (1 = 0); decide) ?_
    refine zH_go 3 (c' := (11, [some (.inr (.inr (some 83))), some (.inl r), some (.inl i), some (.inr (.inl v)), none], [.inl i, .inl r, .inr (.inr (some 83))], (zs h hl))) rfl ?_
    refine zH_call (M' := 3) (as := [.inr (.inr (some 83)), .inl r, .inl i]) (T := []) rfl (p_bNum0 hr hi hR hZ) (fun ρ σ' p_3 => ?_)
    rcases p_3 with ⟨rfl, b_4, rfl⟩ | ⟨rfl, b_4, rfl⟩
    · show zH _ _ (14, [some (.inr (.inr (some 83))), some (.inl r), some (.inl i), some (.inr (.inl v)), none], [.inl 1], (zs h hl)) _
      have hix := b_4.2.1; have hiy := b_4.2.2.1; have hiz := b_4.2.2.2; have hN := b_4
      refine zH_bf (x := 1) (y := 0) (k := .eq) (c1 := (30, [some (.inr (.inr (some 83))), some (.inl r), some (.inl i), some (.inr (.inl v)), none], [], (zs h hl))) (c2 := (17, [some (.inr (.inr (some 83))), some (.inl r), some (.inl i), some (.inr (.inl v)), none], [], (zs h hl))) rfl ⟨by decide, by decide⟩ ⟨by decide, by decide⟩ (by show ¬ (1 = 0); decide) ?_
      refine zH_go 3 (c' := (22, [some (.inr (.inr (some 83))), some (.inl r), some (.inl i), some (.inr (.inl v)), none], [.inl r, .inr (.inr (some 85))], (zs h hl))) rfl ?_
      refine zH_aal (A := 85) (n := 4) (b := 86 + (Int.toNat r)) rfl rfl (by omega) (by omega) (zhr_85 (by omega)) ?_
      show zH _ _ (23, [some (.inr (.inr (some 83))), some (.inl r), some (.inl i), some (.inr (.inl v)), none], [.inr (.inr (some (86 + (Int.toNat r))))], (zs h hl)) _
      refine zH_go 3 (c' := (26, [some (.inr (.inr (some 83))), some (.inl r), some (.inl i), some (.inr (.inl v)), none], [.inr (.inl v), .inr (.inr (some 83)), .inl i, .inr (.inr (some (86 + (Int.toNat r))))], (zs h hl))) rfl ?_
      refine zH_call (M' := 10) (as := [.inr (.inr (some 83)), .inr (.inl v)]) (T := [.inl i, .inr (.inr (some (86 + (Int.toNat r))))]) rfl (p_bNar0 ht3 rfl) (fun ρ σ' p_5 => ?_)
      obtain ⟨rfl, rfl⟩ := p_5
      show zH _ _ (29, [some (.inr (.inr (some 83))), some (.inl r), some (.inl i), some (.inr (.inl v)), none], [.inr (.inl (zNar (h 83 0) v)), .inl i, .inr (.inr (some (86 + (Int.toNat r))))], (zs h hl)) _
      refine zH_las rfl (n := 8) (zsh_85 (by omega)) (by omega) (by omega) ?_
      show zH _ _ (30, [some (.inr (.inr (some 83))), some (.inl r), some (.inl i), some (.inr (.inl v)), none], [], (zs h (zup hl (86 + (Int.toNat r)) (Int.toNat i) (zNar (h 83 0) v)))) _
      refine zH_ret (v := none) rfl (fun q => absurd q (by decide)) ?_
      exact ⟨rfl, _, rfl, Or.inl ⟨hN, rfl⟩⟩
    · show zH _ _ (14, [some (.inr (.inr (some 83))), some (.inl r), some (.inl i), some (.inr (.inl v)), none], [.inl 0], (zs h hl)) _
      have hNo : ¬ zHasNum h 83 84 r i := b_4
      refine zH_bt (x := 0) (y := 0) (k := .eq) (c1 := (30, [some (.inr (.inr (some 83))), some (.inl r), some (.inl i), some (.inr (.inl v)), none], [], (zs h hl))) (c2 := (17, [some (.inr (.inr (some 83))), some (.inl r), some (.inl i), some (.inr (.inl v)), none], [], (zs h hl))) rfl ⟨by decide, by decide⟩ ⟨by decide, by decide⟩ (by show 0 = 0; decide) ?_
      refine zH_ret (v := none) rfl (fun q => absurd q (by decide)) ?_
      exact ⟨rfl, _, rfl, Or.inr ⟨hNo, rfl⟩⟩
  · show zH _ _ (5, [some (.inr (.inr (some 83))), some (.inl r), some (.inl i), some (.inr (.inl v)), none], [.inl 0], (zs h hl)) _
    have hNo : ¬ zHasNum h 83 84 r i := fun q => b_2 q.1
    refine zH_bt (x := 0) (y := 0) (k := .eq) (c1 := (30, [some (.inr (.inr (some 83))), some (.inl r), some (.inl i), some (.inr (.inl v)), none], [], (zs h hl))) (c2 := (8, [some (.inr (.inr (some 83))), some (.inl r), some (.inl i), some (.inr (.inl v)), none], [], (zs h hl))) rfl ⟨by decide, by decide⟩ ⟨by decide, by decide⟩ (by show 0 = 0; decide) ?_
    refine zH_ret (v := none) rfl (fun q => absurd q (by decide)) ?_
    exact ⟨rfl, _, rfl, Or.inr ⟨hNo, rfl⟩⟩
set_option maxRecDepth 100000 in
set_option maxHeartbeats 4000000 in
theorem p_bRead1 {d : Nat} {h hl : Nat → Nat → Int} {r i : Int} (hr : zr r) (hi : zr i) (hR : -1 ≤ h 90 1 ∧ h 90 1 ≤ 4) (hZ : ∀ q : Nat, q < 4 → -1 ≤ h 91 q ∧ h 91 q ≤ 8) : zQ (d + 4) 9 [.inr (.inr (some 90)), .inl r, .inl i] (zs h hl) (fun ρ σ' => ∃ x : Int, ((zHasNum h 90 91 r i ∧ x = hl (93 + Int.toNat r) (Int.toNat i)) ∨ (¬ zHasNum h 90 91 r i ∧ x = 0)) ∧ ρ = some (.inr (.inl x)) ∧ σ' = zs h hl) := by
  refine zQ_of (Nat.le_of_ble_eq_true rfl) ?_
  show zH (d + 3) 9 (0, [some (.inr (.inr (some 90))), some (.inl r), some (.inl i)], [], (zs h hl)) _
  refine zH_go 2 (c' := (2, [some (.inr (.inr (some 90))), some (.inl r), some (.inl i)], [.inl r, .inr (.inr (some 90))], (zs h hl))) rfl ?_
  refine zH_call (M' := 2) (as := [.inr (.inr (some 90)), .inl r]) (T := []) rfl (p_bRow1 hr hR) (fun ρ σ' p_1 => ?_)
  rcases p_1 with ⟨rfl, b_2, rfl⟩ | ⟨rfl, b_2, rfl⟩
  · show zH _ _ (5, [some (.inr (.inr (some 90))), some (.inl r), some (.inl i)], [.inl 1], (zs h hl)) _
    have hrx := b_2.1; have hry := b_2.2.1; have hrz := b_2.2.2
    refine zH_bf (x := 1) (y := 0) (k := .eq) (c1 := (28, [some (.inr (.inr (some 90))), some (.inl r), some (.inl i)], [], (zs h hl))) (c2 := (8, [some (.inr (.inr (some 90))), some (.inl r), some (.inl i)], [], (zs h hl))) rfl ⟨by decide, by decide⟩ ⟨by decide, by decide⟩ (by show ¬ (1 = 0); decide) ?_
    refine zH_go 3 (c' := (11, [some (.inr (.inr (some 90))), some (.inl r), some (.inl i)], [.inl i, .inl r, .inr (.inr (some 90))], (zs h hl))) rfl ?_
    refine zH_call (M' := 3) (as := [.inr (.inr (some 90)), .inl r, .inl i]) (T := []) rfl (p_bNum1 hr hi hR hZ) (fun ρ σ' p_3 => ?_)
    rcases p_3 with ⟨rfl, b_4, rfl⟩ | ⟨rfl, b_4, rfl⟩
    · show zH _ _ (14, [some (.inr (.inr (some 90))), some (.inl r), some (.inl i)], [.inl 1], (zs h hl)) _
      have hix := b_4.2.1; have hiy := b_4.2.2.1; have hiz := b_4.2.2.2; have hN := b_4
      refine zH_bf (x := 1) (y := 0) (k := .eq) (c1 := (28, [some (.inr (.inr (some 90))), some (.inl r), some (.inl i)], [], (zs h hl))) (c2 := (17, [some (.inr (.inr (some 90))), some (.inl r), some (.inl i)], [], (zs h hl))) rfl ⟨by decide, by decide⟩ ⟨by decide, by decide⟩ (by show ¬ (1 = 0); decide) ?_
      refine zH_go 3 (c' := (22, [some (.inr (.inr (some 90))), some (.inl r), some (.inl i)], [.inl r, .inr (.inr (some 92))], (zs h hl))) rfl ?_
      refine zH_aal (A := 92) (n := 4) (b := 93 + (Int.toNat r)) rfl rfl (by omega) (by omega) (zhr_92 (by omega)) ?_
      show zH _ _ (23, [some (.inr (.inr (some 90))), some (.inl r), some (.inl i)], [.inr (.inr (some (93 + (Int.toNat r))))], (zs h hl)) _
      refine zH_go 1 (c' := (24, [some (.inr (.inr (some 90))), some (.inl r), some (.inl i)], [.inl i, .inr (.inr (some (93 + (Int.toNat r))))], (zs h hl))) rfl ?_
      refine zH_lal rfl (n := 8) (zsh_92 (by omega)) (by omega) (by omega) ?_
      show zH _ _ (25, [some (.inr (.inr (some 90))), some (.inl r), some (.inl i)], [.inr (.inl (hl (93 + (Int.toNat r)) (Int.toNat i)))], (zs h hl)) _
      refine zH_go 1 (c' := (29, [some (.inr (.inr (some 90))), some (.inl r), some (.inl i)], [.inr (.inl (hl (93 + (Int.toNat r)) (Int.toNat i)))], (zs h hl))) rfl ?_
      refine zH_ret (v := some (.inr (.inl (hl (93 + (Int.toNat r)) (Int.toNat i))))) rfl (fun q => absurd q (by decide)) ?_
      exact ⟨_, Or.inl ⟨hN, rfl⟩, rfl, rfl⟩
    · show zH _ _ (14, [some (.inr (.inr (some 90))), some (.inl r), some (.inl i)], [.inl 0], (zs h hl)) _
      have hNo : ¬ zHasNum h 90 91 r i := b_4
      refine zH_bt (x := 0) (y := 0) (k := .eq) (c1 := (28, [some (.inr (.inr (some 90))), some (.inl r), some (.inl i)], [], (zs h hl))) (c2 := (17, [some (.inr (.inr (some 90))), some (.inl r), some (.inl i)], [], (zs h hl))) rfl ⟨by decide, by decide⟩ ⟨by decide, by decide⟩ (by show 0 = 0; decide) ?_
      refine zH_go 1 (c' := (29, [some (.inr (.inr (some 90))), some (.inl r), some (.inl i)], [.inr (.inl 0)], (zs h hl))) rfl ?_
      refine zH_ret (v := some (.inr (.inl 0))) rfl (fun q => absurd q (by decide)) ?_
      exact ⟨_, Or.inr ⟨hNo, rfl⟩, rfl, rfl⟩
  · show zH _ _ (5, [some (.inr (.inr (some 90))), some (.inl r), some (.inl i)], [.inl 0], (zs h hl)) _
    have hNo : ¬ zHasNum h 90 91 r i := fun q => b_2 q.1
    refine zH_bt (x := 0) (y := 0) (k := .eq) (c1 := (28, [some (.inr (.inr (some 90))), some (.inl r), some (.inl i)], [], (zs h hl))) (c2 := (8, [some (.inr (.inr (some 90))), some (.inl r), some (.inl i)], [], (zs h hl))) rfl ⟨by decide, by decide⟩ ⟨by decide, by decide⟩ (by show 0 = 0; decide) ?_
    refine zH_go 1 (c' := (29, [some (.inr (.inr (some 90))), some (.inl r), some (.inl i)], [.inr (.inl 0)], (zs h hl))) rfl ?_
    refine zH_ret (v := some (.inr (.inl 0))) rfl (fun q => absurd q (by decide)) ?_
    exact ⟨_, Or.inr ⟨hNo, rfl⟩, rfl, rfl⟩
set_option maxRecDepth 100000 in
set_option maxHeartbeats 4000000 in
theorem p_bWrite1 {d : Nat} {h hl : Nat → Nat → Int} {r i v : Int} (hr : zr r) (hi : zr i) (ht3 : 0 ≤ h 90 0 ∧ h 90 0 ≤ 3) (hR : -1 ≤ h 90 1 ∧ h 90 1 ≤ 4) (hZ : ∀ q : Nat, q < 4 → -1 ≤ h 91 q ∧ h 91 q ≤ 8) : zQ (d + 4) 8 [.inr (.inr (some 90)), .inl r, .inl i, .inr (.inl v)] (zs h hl) (fun ρ σ' => ρ = none ∧ ∃ gl : Nat → Nat → Int, σ' = zs h gl ∧ ((zHasNum h 90 91 r i ∧ gl = zup hl (93 + Int.toNat r) (Int.toNat i) (zNar (h 90 0) v)) ∨ (¬ zHasNum h 90 91 r i ∧ gl = hl))) := by
  refine zQ_of (Nat.le_of_ble_eq_true rfl) ?_
  show zH (d + 3) 8 (0, [some (.inr (.inr (some 90))), some (.inl r), some (.inl i), some (.inr (.inl v)), none], [], (zs h hl)) _
  refine zH_go 2 (c' := (2, [some (.inr (.inr (some 90))), some (.inl r), some (.inl i), some (.inr (.inl v)), none], [.inl r, .inr (.inr (some 90))], (zs h hl))) rfl ?_
  refine zH_call (M' := 2) (as := [.inr (.inr (some 90)), .inl r]) (T := []) rfl (p_bRow1 hr hR) (fun ρ σ' p_1 => ?_)
  rcases p_1 with ⟨rfl, b_2, rfl⟩ | ⟨rfl, b_2, rfl⟩
  · show zH _ _ (5, [some (.inr (.inr (some 90))), some (.inl r), some (.inl i), some (.inr (.inl v)), none], [.inl 1], (zs h hl)) _
    have hrx := b_2.1; have hry := b_2.2.1; have hrz := b_2.2.2
    refine zH_bf (x := 1) (y := 0) (k := .eq) (c1 := (30, [some (.inr (.inr (some 90))), some (.inl r), some (.inl i), some (.inr (.inl v)), none], [], (zs h hl))) (c2 := (8, [some (.inr (.inr (some 90))), some (.inl r), some (.inl i), some (.inr (.inl v)), none], [], (zs h hl))) rfl ⟨by decide, by decide⟩ ⟨by decide, by decide⟩ (by show ¬ (1 = 0); decide) ?_
    refine zH_go 3 (c' := (11, [some (.inr (.inr (some 90))), some (.inl r), some (.inl i), some (.inr (.inl v)), none], [.inl i, .inl r, .inr (.inr (some 90))], (zs h hl))) rfl ?_
    refine zH_call (M' := 3) (as := [.inr (.inr (some 90)), .inl r, .inl i]) (T := []) rfl (p_bNum1 hr hi hR hZ) (fun ρ σ' p_3 => ?_)
    rcases p_3 with ⟨rfl, b_4, rfl⟩ | ⟨rfl, b_4, rfl⟩
    · show zH _ _ (14, [some (.inr (.inr (some 90))), some (.inl r), some (.inl i), some (.inr (.inl v)), none], [.inl 1], (zs h hl)) _
      have hix := b_4.2.1; have hiy := b_4.2.2.1; have hiz := b_4.2.2.2; have hN := b_4
      refine zH_bf (x := 1) (y := 0) (k := .eq) (c1 := (30, [some (.inr (.inr (some 90))), some (.inl r), some (.inl i), some (.inr (.inl v)), none], [], (zs h hl))) (c2 := (17, [some (.inr (.inr (some 90))), some (.inl r), some (.inl i), some (.inr (.inl v)), none], [], (zs h hl))) rfl ⟨by decide, by decide⟩ ⟨by decide, by decide⟩ (by show ¬ (1 = 0); decide) ?_
      refine zH_go 3 (c' := (22, [some (.inr (.inr (some 90))), some (.inl r), some (.inl i), some (.inr (.inl v)), none], [.inl r, .inr (.inr (some 92))], (zs h hl))) rfl ?_
      refine zH_aal (A := 92) (n := 4) (b := 93 + (Int.toNat r)) rfl rfl (by omega) (by omega) (zhr_92 (by omega)) ?_
      show zH _ _ (23, [some (.inr (.inr (some 90))), some (.inl r), some (.inl i), some (.inr (.inl v)), none], [.inr (.inr (some (93 + (Int.toNat r))))], (zs h hl)) _
      refine zH_go 3 (c' := (26, [some (.inr (.inr (some 90))), some (.inl r), some (.inl i), some (.inr (.inl v)), none], [.inr (.inl v), .inr (.inr (some 90)), .inl i, .inr (.inr (some (93 + (Int.toNat r))))], (zs h hl))) rfl ?_
      refine zH_call (M' := 10) (as := [.inr (.inr (some 90)), .inr (.inl v)]) (T := [.inl i, .inr (.inr (some (93 + (Int.toNat r))))]) rfl (p_bNar1 ht3 rfl) (fun ρ σ' p_5 => ?_)
      obtain ⟨rfl, rfl⟩ := p_5
      show zH _ _ (29, [some (.inr (.inr (some 90))), some (.inl r), some (.inl i), some (.inr (.inl v)), none], [.inr (.inl (zNar (h 90 0) v)), .inl i, .inr (.inr (some (93 + (Int.toNat r))))], (zs h hl)) _
      refine zH_las rfl (n := 8) (zsh_92 (by omega)) (by omega) (by omega) ?_
      show zH _ _ (30, [some (.inr (.inr (some 90))), some (.inl r), some (.inl i), some (.inr (.inl v)), none], [], (zs h (zup hl (93 + (Int.toNat r)) (Int.toNat i) (zNar (h 90 0) v)))) _
      refine zH_ret (v := none) rfl (fun q => absurd q (by decide)) ?_
      exact ⟨rfl, _, rfl, Or.inl ⟨hN, rfl⟩⟩
    · show zH _ _ (14, [some (.inr (.inr (some 90))), some (.inl r), some (.inl i), some (.inr (.inl v)), none], [.inl 0], (zs h hl)) _
      have hNo : ¬ zHasNum h 90 91 r i := b_4
      refine zH_bt (x := 0) (y := 0) (k := .eq) (c1 := (30, [some (.inr (.inr (some 90))), some (.inl r), some (.inl i), some (.inr (.inl v)), none], [], (zs h hl))) (c2 := (17, [some (.inr (.inr (some 90))), some (.inl r), some (.inl i), some (.inr (.inl v)), none], [], (zs h hl))) rfl ⟨by decide, by decide⟩ ⟨by decide, by decide⟩ (by show 0 = 0; decide) ?_
      refine zH_ret (v := none) rfl (fun q => absurd q (by decide)) ?_
      exact ⟨rfl, _, rfl, Or.inr ⟨hNo, rfl⟩⟩
  · show zH _ _ (5, [some (.inr (.inr (some 90))), some (.inl r), some (.inl i), some (.inr (.inl v)), none], [.inl 0], (zs h hl)) _
    have hNo : ¬ zHasNum h 90 91 r i := fun q => b_2 q.1
    refine zH_bt (x := 0) (y := 0) (k := .eq) (c1 := (30, [some (.inr (.inr (some 90))), some (.inl r), some (.inl i), some (.inr (.inl v)), none], [], (zs h hl))) (c2 := (8, [some (.inr (.inr (some 90))), some (.inl r), some (.inl i), some (.inr (.inl v)), none], [], (zs h hl))) rfl ⟨by decide, by decide⟩ ⟨by decide, by decide⟩ (by show 0 = 0; decide) ?_
    refine zH_ret (v := none) rfl (fun q => absurd q (by decide)) ?_
    exact ⟨rfl, _, rfl, Or.inr ⟨hNo, rfl⟩⟩
set_option maxRecDepth 100000 in
set_option maxHeartbeats 4000000 in
theorem p_bRead2 {d : Nat} {h hl : Nat → Nat → Int} {r i : Int} (hr : zr r) (hi : zr i) (hR : -1 ≤ h 97 1 ∧ h 97 1 ≤ 4) (hZ : ∀ q : Nat, q < 4 → -1 ≤ h 98 q ∧ h 98 q ≤ 8) : zQ (d + 4) 9 [.inr (.inr (some 97)), .inl r, .inl i] (zs h hl) (fun ρ σ' => ∃ x : Int, ((zHasNum h 97 98 r i ∧ x = hl (100 + Int.toNat r) (Int.toNat i)) ∨ (¬ zHasNum h 97 98 r i ∧ x = 0)) ∧ ρ = some (.inr (.inl x)) ∧ σ' = zs h hl) := by
  refine zQ_of (Nat.le_of_ble_eq_true rfl) ?_
  show zH (d + 3) 9 (0, [some (.inr (.inr (some 97))), some (.inl r), some (.inl i)], [], (zs h hl)) _
  refine zH_go 2 (c' := (2, [some (.inr (.inr (some 97))), some (.inl r), some (.inl i)], [.inl r, .inr (.inr (some 97))], (zs h hl))) rfl ?_
  refine zH_call (M' := 2) (as := [.inr (.inr (some 97)), .inl r]) (T := []) rfl (p_bRow2 hr hR) (fun ρ σ' p_1 => ?_)
  rcases p_1 with ⟨rfl, b_2, rfl⟩ | ⟨rfl, b_2, rfl⟩
  · show zH _ _ (5, [some (.inr (.inr (some 97))), some (.inl r), some (.inl i)], [.inl 1], (zs h hl)) _
    have hrx := b_2.1; have hry := b_2.2.1; have hrz := b_2.2.2
    refine zH_bf (x := 1) (y := 0) (k := .eq) (c1 := (28, [some (.inr (.inr (some 97))), some (.inl r), some (.inl i)], [], (zs h hl))) (c2 := (8, [some (.inr (.inr (some 97))), some (.inl r), some (.inl i)], [], (zs h hl))) rfl ⟨by decide, by decide⟩ ⟨by decide, by decide⟩ (by show ¬ (1 = 0); decide) ?_
    refine zH_go 3 (c' := (11, [some (.inr (.inr (some 97))), some (.inl r), some (.inl i)], [.inl i, .inl r, .inr (.inr (some 97))], (zs h hl))) rfl ?_
    refine zH_call (M' := 3) (as := [.inr (.inr (some 97)), .inl r, .inl i]) (T := []) rfl (p_bNum2 hr hi hR hZ) (fun ρ σ' p_3 => ?_)
    rcases p_3 with ⟨rfl, b_4, rfl⟩ | ⟨rfl, b_4, rfl⟩
    · show zH _ _ (14, [some (.inr (.inr (some 97))), some (.inl r), some (.inl i)], [.inl 1], (zs h hl)) _
      have hix := b_4.2.1; have hiy := b_4.2.2.1; have hiz := b_4.2.2.2; have hN := b_4
      refine zH_bf (x := 1) (y := 0) (k := .eq) (c1 := (28, [some (.inr (.inr (some 97))), some (.inl r), some (.inl i)], [], (zs h hl))) (c2 := (17, [some (.inr (.inr (some 97))), some (.inl r), some (.inl i)], [], (zs h hl))) rfl ⟨by decide, by decide⟩ ⟨by decide, by decide⟩ (by show ¬ (1 = 0); decide) ?_
      refine zH_go 3 (c' := (22, [some (.inr (.inr (some 97))), some (.inl r), some (.inl i)], [.inl r, .inr (.inr (some 99))], (zs h hl))) rfl ?_
      refine zH_aal (A := 99) (n := 4) (b := 100 + (Int.toNat r)) rfl rfl (by omega) (by omega) (zhr_99 (by omega)) ?_
      show zH _ _ (23, [some (.inr (.inr (some 97))), some (.inl r), some (.inl i)], [.inr (.inr (some (100 + (Int.toNat r))))], (zs h hl)) _
      refine zH_go 1 (c' := (24, [some (.inr (.inr (some 97))), some (.inl r), some (.inl i)], [.inl i, .inr (.inr (some (100 + (Int.toNat r))))], (zs h hl))) rfl ?_
      refine zH_lal rfl (n := 8) (zsh_99 (by omega)) (by omega) (by omega) ?_
      show zH _ _ (25, [some (.inr (.inr (some 97))), some (.inl r), some (.inl i)], [.inr (.inl (hl (100 + (Int.toNat r)) (Int.toNat i)))], (zs h hl)) _
      refine zH_go 1 (c' := (29, [some (.inr (.inr (some 97))), some (.inl r), some (.inl i)], [.inr (.inl (hl (100 + (Int.toNat r)) (Int.toNat i)))], (zs h hl))) rfl ?_
      refine zH_ret (v := some (.inr (.inl (hl (100 + (Int.toNat r)) (Int.toNat i))))) rfl (fun q => absurd q (by decide)) ?_
      exact ⟨_, Or.inl ⟨hN, rfl⟩, rfl, rfl⟩
    · show zH _ _ (14, [some (.inr (.inr (some 97))), some (.inl r), some (.inl i)], [.inl 0], (zs h hl)) _
      have hNo : ¬ zHasNum h 97 98 r i := b_4
      refine zH_bt (x := 0) (y := 0) (k := .eq) (c1 := (28, [some (.inr (.inr (some 97))), some (.inl r), some (.inl i)], [], (zs h hl))) (c2 := (17, [some (.inr (.inr (some 97))), some (.inl r), some (.inl i)], [], (zs h hl))) rfl ⟨by decide, by decide⟩ ⟨by decide, by decide⟩ (by show 0 = 0; decide) ?_
      refine zH_go 1 (c' := (29, [some (.inr (.inr (some 97))), some (.inl r), some (.inl i)], [.inr (.inl 0)], (zs h hl))) rfl ?_
      refine zH_ret (v := some (.inr (.inl 0))) rfl (fun q => absurd q (by decide)) ?_
      exact ⟨_, Or.inr ⟨hNo, rfl⟩, rfl, rfl⟩
  · show zH _ _ (5, [some (.inr (.inr (some 97))), some (.inl r), some (.inl i)], [.inl 0], (zs h hl)) _
    have hNo : ¬ zHasNum h 97 98 r i := fun q => b_2 q.1
    refine zH_bt (x := 0) (y := 0) (k := .eq) (c1 := (28, [some (.inr (.inr (some 97))), some (.inl r), some (.inl i)], [], (zs h hl))) (c2 := (8, [some (.inr (.inr (some 97))), some (.inl r), some (.inl i)], [], (zs h hl))) rfl ⟨by decide, by decide⟩ ⟨by decide, by decide⟩ (by show 0 = 0; decide) ?_
    refine zH_go 1 (c' := (29, [some (.inr (.inr (some 97))), some (.inl r), some (.inl i)], [.inr (.inl 0)], (zs h hl))) rfl ?_
    refine zH_ret (v := some (.inr (.inl 0))) rfl (fun q => absurd q (by decide)) ?_
    exact ⟨_, Or.inr ⟨hNo, rfl⟩, rfl, rfl⟩
set_option maxRecDepth 100000 in
set_option maxHeartbeats 4000000 in
theorem p_bWrite2 {d : Nat} {h hl : Nat → Nat → Int} {r i v : Int} (hr : zr r) (hi : zr i) (ht3 : 0 ≤ h 97 0 ∧ h 97 0 ≤ 3) (hR : -1 ≤ h 97 1 ∧ h 97 1 ≤ 4) (hZ : ∀ q : Nat, q < 4 → -1 ≤ h 98 q ∧ h 98 q ≤ 8) : zQ (d + 4) 8 [.inr (.inr (some 97)), .inl r, .inl i, .inr (.inl v)] (zs h hl) (fun ρ σ' => ρ = none ∧ ∃ gl : Nat → Nat → Int, σ' = zs h gl ∧ ((zHasNum h 97 98 r i ∧ gl = zup hl (100 + Int.toNat r) (Int.toNat i) (zNar (h 97 0) v)) ∨ (¬ zHasNum h 97 98 r i ∧ gl = hl))) := by
  refine zQ_of (Nat.le_of_ble_eq_true rfl) ?_
  show zH (d + 3) 8 (0, [some (.inr (.inr (some 97))), some (.inl r), some (.inl i), some (.inr (.inl v)), none], [], (zs h hl)) _
  refine zH_go 2 (c' := (2, [some (.inr (.inr (some 97))), some (.inl r), some (.inl i), some (.inr (.inl v)), none], [.inl r, .inr (.inr (some 97))], (zs h hl))) rfl ?_
  refine zH_call (M' := 2) (as := [.inr (.inr (some 97)), .inl r]) (T := []) rfl (p_bRow2 hr hR) (fun ρ σ' p_1 => ?_)
  rcases p_1 with ⟨rfl, b_2, rfl⟩ | ⟨rfl, b_2, rfl⟩
  · show zH _ _ (5, [some (.inr (.inr (some 97))), some (.inl r), some (.inl i), some (.inr (.inl v)), none], [.inl 1], (zs h hl)) _
    have hrx := b_2.1; have hry := b_2.2.1; have hrz := b_2.2.2
    refine zH_bf (x := 1) (y := 0) (k := .eq) (c1 := (30, [some (.inr (.inr (some 97))), some (.inl r), some (.inl i), some (.inr (.inl v)), none], [], (zs h hl))) (c2 := (8, [some (.inr (.inr (some 97))), some (.inl r), some (.inl i), some (.inr (.inl v)), none], [], (zs h hl))) rfl ⟨by decide, by decide⟩ ⟨by decide, by decide⟩ (by show ¬ (1 = 0); decide) ?_
    refine zH_go 3 (c' := (11, [some (.inr (.inr (some 97))), some (.inl r), some (.inl i), some (.inr (.inl v)), none], [.inl i, .inl r, .inr (.inr (some 97))], (zs h hl))) rfl ?_
    refine zH_call (M' := 3) (as := [.inr (.inr (some 97)), .inl r, .inl i]) (T := []) rfl (p_bNum2 hr hi hR hZ) (fun ρ σ' p_3 => ?_)
    rcases p_3 with ⟨rfl, b_4, rfl⟩ | ⟨rfl, b_4, rfl⟩
    · show zH _ _ (14, [some (.inr (.inr (some 97))), some (.inl r), some (.inl i), some (.inr (.inl v)), none], [.inl 1], (zs h hl)) _
      have hix := b_4.2.1; have hiy := b_4.2.2.1; have hiz := b_4.2.2.2; have hN := b_4
      refine zH_bf (x := 1) (y := 0) (k := .eq) (c1 := (30, [some (.inr (.inr (some 97))), some (.inl r), some (.inl i), some (.inr (.inl v)), none], [], (zs h hl))) (c2 := (17, [some (.inr (.inr (some 97))), some (.inl r), some (.inl i), some (.inr (.inl v)), none], [], (zs h hl))) rfl ⟨by decide, by decide⟩ ⟨by decide, by decide⟩ (by show ¬ (1 = 0); decide) ?_
      refine zH_go 3 (c' := (22, [some (.inr (.inr (some 97))), some (.inl r), some (.inl i), some (.inr (.inl v)), none], [.inl r, .inr (.inr (some 99))], (zs h hl))) rfl ?_
      refine zH_aal (A := 99) (n := 4) (b := 100 + (Int.toNat r)) rfl rfl (by omega) (by omega) (zhr_99 (by omega)) ?_
      show zH _ _ (23, [some (.inr (.inr (some 97))), some (.inl r), some (.inl i), some (.inr (.inl v)), none], [.inr (.inr (some (100 + (Int.toNat r))))], (zs h hl)) _
      refine zH_go 3 (c' := (26, [some (.inr (.inr (some 97))), some (.inl r), some (.inl i), some (.inr (.inl v)), none], [.inr (.inl v), .inr (.inr (some 97)), .inl i, .inr (.inr (some (100 + (Int.toNat r))))], (zs h hl))) rfl ?_
      refine zH_call (M' := 10) (as := [.inr (.inr (some 97)), .inr (.inl v)]) (T := [.inl i, .inr (.inr (some (100 + (Int.toNat r))))]) rfl (p_bNar2 ht3 rfl) (fun ρ σ' p_5 => ?_)
      obtain ⟨rfl, rfl⟩ := p_5
      show zH _ _ (29, [some (.inr (.inr (some 97))), some (.inl r), some (.inl i), some (.inr (.inl v)), none], [.inr (.inl (zNar (h 97 0) v)), .inl i, .inr (.inr (some (100 + (Int.toNat r))))], (zs h hl)) _
      refine zH_las rfl (n := 8) (zsh_99 (by omega)) (by omega) (by omega) ?_
      show zH _ _ (30, [some (.inr (.inr (some 97))), some (.inl r), some (.inl i), some (.inr (.inl v)), none], [], (zs h (zup hl (100 + (Int.toNat r)) (Int.toNat i) (zNar (h 97 0) v)))) _
      refine zH_ret (v := none) rfl (fun q => absurd q (by decide)) ?_
      exact ⟨rfl, _, rfl, Or.inl ⟨hN, rfl⟩⟩
    · show zH _ _ (14, [some (.inr (.inr (some 97))), some (.inl r), some (.inl i), some (.inr (.inl v)), none], [.inl 0], (zs h hl)) _
      have hNo : ¬ zHasNum h 97 98 r i := b_4
      refine zH_bt (x := 0) (y := 0) (k := .eq) (c1 := (30, [some (.inr (.inr (some 97))), some (.inl r), some (.inl i), some (.inr (.inl v)), none], [], (zs h hl))) (c2 := (17, [some (.inr (.inr (some 97))), some (.inl r), some (.inl i), some (.inr (.inl v)), none], [], (zs h hl))) rfl ⟨by decide, by decide⟩ ⟨by decide, by decide⟩ (by show 0 = 0; decide) ?_
      refine zH_ret (v := none) rfl (fun q => absurd q (by decide)) ?_
      exact ⟨rfl, _, rfl, Or.inr ⟨hNo, rfl⟩⟩
  · show zH _ _ (5, [some (.inr (.inr (some 97))), some (.inl r), some (.inl i), some (.inr (.inl v)), none], [.inl 0], (zs h hl)) _
    have hNo : ¬ zHasNum h 97 98 r i := fun q => b_2 q.1
    refine zH_bt (x := 0) (y := 0) (k := .eq) (c1 := (30, [some (.inr (.inr (some 97))), some (.inl r), some (.inl i), some (.inr (.inl v)), none], [], (zs h hl))) (c2 := (8, [some (.inr (.inr (some 97))), some (.inl r), some (.inl i), some (.inr (.inl v)), none], [], (zs h hl))) rfl ⟨by decide, by decide⟩ ⟨by decide, by decide⟩ (by show 0 = 0; decide) ?_
    refine zH_ret (v := none) rfl (fun q => absurd q (by decide)) ?_
    exact ⟨rfl, _, rfl, Or.inr ⟨hNo, rfl⟩⟩
set_option maxRecDepth 100000 in
set_option maxHeartbeats 4000000 in
theorem p_bRenew0 {d : Nat} {h hl : Nat → Nat → Int} {r n : Int} (hr : zr r) (hR : -1 ≤ h 83 1 ∧ h 83 1 ≤ 4) (hrow : zHasRow h 83 r) : zQ (d + 2) 7 [.inr (.inr (some 83)), .inl r, .inl n] (zs h hl) (fun ρ σ' => ρ = none ∧ ∃ g gl : Nat → Nat → Int, σ' = zs g gl ∧ g = zup h 84 (Int.toNat r) n ∧ (∀ c : Nat, c ≠ 86 + Int.toNat r → gl c = hl c) ∧ ∀ j : Nat, j < 8 → gl (86 + Int.toNat r) j = 0) := by
  refine zQ_of (Nat.le_of_ble_eq_true rfl) ?_
  show zH (d + 1) 7 (0, [some (.inr (.inr (some 83))), some (.inl r), some (.inl n), none], [], (zs h hl)) _
  refine zH_go 2 (c' := (2, [some (.inr (.inr (some 83))), some (.inl r), some (.inl n), none], [.inl r, .inr (.inr (some 83))], (zs h hl))) rfl ?_
  refine zH_call (M' := 2) (as := [.inr (.inr (some 83)), .inl r]) (T := []) rfl (p_bRow0 hr hR) (fun ρ σ' p_1 => ?_)
  rcases p_1 with ⟨rfl, b_2, rfl⟩ | ⟨rfl, b_2, rfl⟩
  · show zH _ _ (5, [some (.inr (.inr (some 83))), some (.inl r), some (.inl n), none], [.inl 1], (zs h hl)) _
    have hrx := b_2.1; have hry := b_2.2.1; have hrz := b_2.2.2
    refine zH_bt (x := 1) (y := 0) (k := .ne) (c1 := (9, [some (.inr (.inr (some 83))), some (.inl r), some (.inl n), none], [], (zs h hl))) (c2 := (8, [some (.inr (.inr (some 83))), some (.inl r), some (.inl n), none], [], (zs h hl))) rfl ⟨by decide, by decide⟩ ⟨by decide, by decide⟩ (by show ¬ 1 = 0; decide) ?_
    refine zH_go 4 (c' := (15, [some (.inr (.inr (some 83))), some (.inl r), some (.inl n), none], [.inl n, .inl r, .inr (.inr (some 84))], (zs h hl))) rfl ?_
    refine zH_np (P := 0 ≤ r ∧ r < ((4 : Nat) : Int)) (c' := (16, [some (.inr (.inr (some 83))), some (.inl r), some (.inl n), none], [], (zs (zup h 84 (Int.toNat r) n) hl))) rfl ⟨by omega, by omega⟩ ?_
    refine zH_go 4 (c' := (21, [some (.inr (.inr (some 83))), some (.inl r), some (.inl n), some (.inl 0)], [.inl 8, .inl 0], (zs (zup h 84 (Int.toNat r) n) hl))) rfl ?_
    refine zH_bf (x := 0) (y := 8) (k := .ge) (c1 := (39, [some (.inr (.inr (some 83))), some (.inl r), some (.inl n), some (.inl 0)], [], (zs (zup h 84 (Int.toNat r) n) hl))) (c2 := (24, [some (.inr (.inr (some 83))), some (.inl r), some (.inl n), some (.inl 0)], [], (zs (zup h 84 (Int.toNat r) n) hl))) rfl ⟨by decide, by decide⟩ ⟨by decide, by decide⟩ (by show ¬ (¬ 0 < 8); decide) ?_
    refine zH_go 3 (c' := (29, [some (.inr (.inr (some 83))), some (.inl r), some (.inl n), some (.inl 0)], [.inl r, .inr (.inr (some 85))], (zs (zup h 84 (Int.toNat r) n) hl))) rfl ?_
    refine zH_aal (A := 85) (n := 4) (b := 86 + (Int.toNat r)) rfl rfl (by omega) (by omega) (zhr_85 (by omega)) ?_
    show zH _ _ (30, [some (.inr (.inr (some 83))), some (.inl r), some (.inl n), some (.inl 0)], [.inr (.inr (some (86 + (Int.toNat r))))], (zs (zup h 84 (Int.toNat r) n) hl)) _
    refine zH_go 2 (c' := (32, [some (.inr (.inr (some 83))), some (.inl r), some (.inl n), some (.inl 0)], [.inr (.inl 0), .inl 0, .inr (.inr (some (86 + (Int.toNat r))))], (zs (zup h 84 (Int.toNat r) n) hl))) rfl ?_
    refine zH_las rfl (n := 8) (zsh_85 (by omega)) (by omega) (by omega) ?_
    show zH _ _ (33, [some (.inr (.inr (some 83))), some (.inl r), some (.inl n), some (.inl 0)], [], (zs (zup h 84 (Int.toNat r) n) (zup hl (86 + (Int.toNat r)) 0 0))) _
    refine zH_go 4 (c' := (21, [some (.inr (.inr (some 83))), some (.inl r), some (.inl n), some (.inl 1)], [.inl 8, .inl 1], (zs (zup h 84 (Int.toNat r) n) (zup hl (86 + (Int.toNat r)) 0 0)))) rfl ?_
    refine zH_bf (x := 1) (y := 8) (k := .ge) (c1 := (39, [some (.inr (.inr (some 83))), some (.inl r), some (.inl n), some (.inl 1)], [], (zs (zup h 84 (Int.toNat r) n) (zup hl (86 + (Int.toNat r)) 0 0)))) (c2 := (24, [some (.inr (.inr (some 83))), some (.inl r), some (.inl n), some (.inl 1)], [], (zs (zup h 84 (Int.toNat r) n) (zup hl (86 + (Int.toNat r)) 0 0)))) rfl ⟨by decide, by decide⟩ ⟨by decide, by decide⟩ (by show ¬ (¬ 1 < 8); decide) ?_
    refine zH_go 3 (c' := (29, [some (.inr (.inr (some 83))), some (.inl r), some (.inl n), some (.inl 1)], [.inl r, .inr (.inr (some 85))], (zs (zup h 84 (Int.toNat r) n) (zup hl (86 + (Int.toNat r)) 0 0)))) rfl ?_
    refine zH_aal (A := 85) (n := 4) (b := 86 + (Int.toNat r)) rfl rfl (by omega) (by omega) (zhr_85 (by omega)) ?_
    show zH _ _ (30, [some (.inr (.inr (some 83))), some (.inl r), some (.inl n), some (.inl 1)], [.inr (.inr (some (86 + (Int.toNat r))))], (zs (zup h 84 (Int.toNat r) n) (zup hl (86 + (Int.toNat r)) 0 0))) _
    refine zH_go 2 (c' := (32, [some (.inr (.inr (some 83))), some (.inl r), some (.inl n), some (.inl 1)], [.inr (.inl 0), .inl 1, .inr (.inr (some (86 + (Int.toNat r))))], (zs (zup h 84 (Int.toNat r) n) (zup hl (86 + (Int.toNat r)) 0 0)))) rfl ?_
    refine zH_las rfl (n := 8) (zsh_85 (by omega)) (by omega) (by omega) ?_
    show zH _ _ (33, [some (.inr (.inr (some 83))), some (.inl r), some (.inl n), some (.inl 1)], [], (zs (zup h 84 (Int.toNat r) n) (zup (zup hl (86 + (Int.toNat r)) 0 0) (86 + (Int.toNat r)) 1 0))) _
    refine zH_go 4 (c' := (21, [some (.inr (.inr (some 83))), some (.inl r), some (.inl n), some (.inl 2)], [.inl 8, .inl 2], (zs (zup h 84 (Int.toNat r) n) (zup (zup hl (86 + (Int.toNat r)) 0 0) (86 + (Int.toNat r)) 1 0)))) rfl ?_
    refine zH_bf (x := 2) (y := 8) (k := .ge) (c1 := (39, [some (.inr (.inr (some 83))), some (.inl r), some (.inl n), some (.inl 2)], [], (zs (zup h 84 (Int.toNat r) n) (zup (zup hl (86 + (Int.toNat r)) 0 0) (86 + (Int.toNat r)) 1 0)))) (c2 := (24, [some (.inr (.inr (some 83))), some (.inl r), some (.inl n), some (.inl 2)], [], (zs (zup h 84 (Int.toNat r) n) (zup (zup hl (86 + (Int.toNat r)) 0 0) (86 + (Int.toNat r)) 1 0)))) rfl ⟨by decide, by decide⟩ ⟨by decide, by decide⟩ (by show ¬ (¬ 2 < 8); decide) ?_
    refine zH_go 3 (c' := (29, [some (.inr (.inr (some 83))), some (.inl r), some (.inl n), some (.inl 2)], [.inl r, .inr (.inr (some 85))], (zs (zup h 84 (Int.toNat r) n) (zup (zup hl (86 + (Int.toNat r)) 0 0) (86 + (Int.toNat r)) 1 0)))) rfl ?_
    refine zH_aal (A := 85) (n := 4) (b := 86 + (Int.toNat r)) rfl rfl (by omega) (by omega) (zhr_85 (by omega)) ?_
    show zH _ _ (30, [some (.inr (.inr (some 83))), some (.inl r), some (.inl n), some (.inl 2)], [.inr (.inr (some (86 + (Int.toNat r))))], (zs (zup h 84 (Int.toNat r) n) (zup (zup hl (86 + (Int.toNat r)) 0 0) (86 + (Int.toNat r)) 1 0))) _
    refine zH_go 2 (c' := (32, [some (.inr (.inr (some 83))), some (.inl r), some (.inl n), some (.inl 2)], [.inr (.inl 0), .inl 2, .inr (.inr (some (86 + (Int.toNat r))))], (zs (zup h 84 (Int.toNat r) n) (zup (zup hl (86 + (Int.toNat r)) 0 0) (86 + (Int.toNat r)) 1 0)))) rfl ?_
    refine zH_las rfl (n := 8) (zsh_85 (by omega)) (by omega) (by omega) ?_
    show zH _ _ (33, [some (.inr (.inr (some 83))), some (.inl r), some (.inl n), some (.inl 2)], [], (zs (zup h 84 (Int.toNat r) n) (zup (zup (zup hl (86 + (Int.toNat r)) 0 0) (86 + (Int.toNat r)) 1 0) (86 + (Int.toNat r)) 2 0))) _
    refine zH_go 4 (c' := (21, [some (.inr (.inr (some 83))), some (.inl r), some (.inl n), some (.inl 3)], [.inl 8, .inl 3], (zs (zup h 84 (Int.toNat r) n) (zup (zup (zup hl (86 + (Int.toNat r)) 0 0) (86 + (Int.toNat r)) 1 0) (86 + (Int.toNat r)) 2 0)))) rfl ?_
    refine zH_bf (x := 3) (y := 8) (k := .ge) (c1 := (39, [some (.inr (.inr (some 83))), some (.inl r), some (.inl n), some (.inl 3)], [], (zs (zup h 84 (Int.toNat r) n) (zup (zup (zup hl (86 + (Int.toNat r)) 0 0) (86 + (Int.toNat r)) 1 0) (86 + (Int.toNat r)) 2 0)))) (c2 := (24, [some (.inr (.inr (some 83))), some (.inl r), some (.inl n), some (.inl 3)], [], (zs (zup h 84 (Int.toNat r) n) (zup (zup (zup hl (86 + (Int.toNat r)) 0 0) (86 + (Int.toNat r)) 1 0) (86 + (Int.toNat r)) 2 0)))) rfl ⟨by decide, by decide⟩ ⟨by decide, by decide⟩ (by show ¬ (¬ 3 < 8); decide) ?_
    refine zH_go 3 (c' := (29, [some (.inr (.inr (some 83))), some (.inl r), some (.inl n), some (.inl 3)], [.inl r, .inr (.inr (some 85))], (zs (zup h 84 (Int.toNat r) n) (zup (zup (zup hl (86 + (Int.toNat r)) 0 0) (86 + (Int.toNat r)) 1 0) (86 + (Int.toNat r)) 2 0)))) rfl ?_
    refine zH_aal (A := 85) (n := 4) (b := 86 + (Int.toNat r)) rfl rfl (by omega) (by omega) (zhr_85 (by omega)) ?_
    show zH _ _ (30, [some (.inr (.inr (some 83))), some (.inl r), some (.inl n), some (.inl 3)], [.inr (.inr (some (86 + (Int.toNat r))))], (zs (zup h 84 (Int.toNat r) n) (zup (zup (zup hl (86 + (Int.toNat r)) 0 0) (86 + (Int.toNat r)) 1 0) (86 + (Int.toNat r)) 2 0))) _
    refine zH_go 2 (c' := (32, [some (.inr (.inr (some 83))), some (.inl r), some (.inl n), some (.inl 3)], [.inr (.inl 0), .inl 3, .inr (.inr (some (86 + (Int.toNat r))))], (zs (zup h 84 (Int.toNat r) n) (zup (zup (zup hl (86 + (Int.toNat r)) 0 0) (86 + (Int.toNat r)) 1 0) (86 + (Int.toNat r)) 2 0)))) rfl ?_
    refine zH_las rfl (n := 8) (zsh_85 (by omega)) (by omega) (by omega) ?_
    show zH _ _ (33, [some (.inr (.inr (some 83))), some (.inl r), some (.inl n), some (.inl 3)], [], (zs (zup h 84 (Int.toNat r) n) (zup (zup (zup (zup hl (86 + (Int.toNat r)) 0 0) (86 + (Int.toNat r)) 1 0) (86 + (Int.toNat r)) 2 0) (86 + (Int.toNat r)) 3 0))) _
    refine zH_go 4 (c' := (21, [some (.inr (.inr (some 83))), some (.inl r), some (.inl n), some (.inl 4)], [.inl 8, .inl 4], (zs (zup h 84 (Int.toNat r) n) (zup (zup (zup (zup hl (86 + (Int.toNat r)) 0 0) (86 + (Int.toNat r)) 1 0) (86 + (Int.toNat r)) 2 0) (86 + (Int.toNat r)) 3 0)))) rfl ?_
    refine zH_bf (x := 4) (y := 8) (k := .ge) (c1 := (39, [some (.inr (.inr (some 83))), some (.inl r), some (.inl n), some (.inl 4)], [], (zs (zup h 84 (Int.toNat r) n) (zup (zup (zup (zup hl (86 + (Int.toNat r)) 0 0) (86 + (Int.toNat r)) 1 0) (86 + (Int.toNat r)) 2 0) (86 + (Int.toNat r)) 3 0)))) (c2 := (24, [some (.inr (.inr (some 83))), some (.inl r), some (.inl n), some (.inl 4)], [], (zs (zup h 84 (Int.toNat r) n) (zup (zup (zup (zup hl (86 + (Int.toNat r)) 0 0) (86 + (Int.toNat r)) 1 0) (86 + (Int.toNat r)) 2 0) (86 + (Int.toNat r)) 3 0)))) rfl ⟨by decide, by decide⟩ ⟨by decide, by decide⟩ (by show ¬ (¬ 4 < 8); decide) ?_
    refine zH_go 3 (c' := (29, [some (.inr (.inr (some 83))), some (.inl r), some (.inl n), some (.inl 4)], [.inl r, .inr (.inr (some 85))], (zs (zup h 84 (Int.toNat r) n) (zup (zup (zup (zup hl (86 + (Int.toNat r)) 0 0) (86 + (Int.toNat r)) 1 0) (86 + (Int.toNat r)) 2 0) (86 + (Int.toNat r)) 3 0)))) rfl ?_
    refine zH_aal (A := 85) (n := 4) (b := 86 + (Int.toNat r)) rfl rfl (by omega) (by omega) (zhr_85 (by omega)) ?_
    show zH _ _ (30, [some (.inr (.inr (some 83))), some (.inl r), some (.inl n), some (.inl 4)], [.inr (.inr (some (86 + (Int.toNat r))))], (zs (zup h 84 (Int.toNat r) n) (zup (zup (zup (zup hl (86 + (Int.toNat r)) 0 0) (86 + (Int.toNat r)) 1 0) (86 + (Int.toNat r)) 2 0) (86 + (Int.toNat r)) 3 0))) _
    refine zH_go 2 (c' := (32, [some (.inr (.inr (some 83))), some (.inl r), some (.inl n), some (.inl 4)], [.inr (.inl 0), .inl 4, .inr (.inr (some (86 + (Int.toNat r))))], (zs (zup h 84 (Int.toNat r) n) (zup (zup (zup (zup hl (86 + (Int.toNat r)) 0 0) (86 + (Int.toNat r)) 1 0) (86 + (Int.toNat r)) 2 0) (86 + (Int.toNat r)) 3 0)))) rfl ?_
    refine zH_las rfl (n := 8) (zsh_85 (by omega)) (by omega) (by omega) ?_
    show zH _ _ (33, [some (.inr (.inr (some 83))), some (.inl r), some (.inl n), some (.inl 4)], [], (zs (zup h 84 (Int.toNat r) n) (zup (zup (zup (zup (zup hl (86 + (Int.toNat r)) 0 0) (86 + (Int.toNat r)) 1 0) (86 + (Int.toNat r)) 2 0) (86 + (Int.toNat r)) 3 0) (86 + (Int.toNat r)) 4 0))) _
    refine zH_go 4 (c' := (21, [some (.inr (.inr (some 83))), some (.inl r), some (.inl n), some (.inl 5)], [.inl 8, .inl 5], (zs (zup h 84 (Int.toNat r) n) (zup (zup (zup (zup (zup hl (86 + (Int.toNat r)) 0 0) (86 + (Int.toNat r)) 1 0) (86 + (Int.toNat r)) 2 0) (86 + (Int.toNat r)) 3 0) (86 + (Int.toNat r)) 4 0)))) rfl ?_
    refine zH_bf (x := 5) (y := 8) (k := .ge) (c1 := (39, [some (.inr (.inr (some 83))), some (.inl r), some (.inl n), some (.inl 5)], [], (zs (zup h 84 (Int.toNat r) n) (zup (zup (zup (zup (zup hl (86 + (Int.toNat r)) 0 0) (86 + (Int.toNat r)) 1 0) (86 + (Int.toNat r)) 2 0) (86 + (Int.toNat r)) 3 0) (86 + (Int.toNat r)) 4 0)))) (c2 := (24, [some (.inr (.inr (some 83))), some (.inl r), some (.inl n), some (.inl 5)], [], (zs (zup h 84 (Int.toNat r) n) (zup (zup (zup (zup (zup hl (86 + (Int.toNat r)) 0 0) (86 + (Int.toNat r)) 1 0) (86 + (Int.toNat r)) 2 0) (86 + (Int.toNat r)) 3 0) (86 + (Int.toNat r)) 4 0)))) rfl ⟨by decide, by decide⟩ ⟨by decide, by decide⟩ (by show ¬ (¬ 5 < 8); decide) ?_
    refine zH_go 3 (c' := (29, [some (.inr (.inr (some 83))), some (.inl r), some (.inl n), some (.inl 5)], [.inl r, .inr (.inr (some 85))], (zs (zup h 84 (Int.toNat r) n) (zup (zup (zup (zup (zup hl (86 + (Int.toNat r)) 0 0) (86 + (Int.toNat r)) 1 0) (86 + (Int.toNat r)) 2 0) (86 + (Int.toNat r)) 3 0) (86 + (Int.toNat r)) 4 0)))) rfl ?_
    refine zH_aal (A := 85) (n := 4) (b := 86 + (Int.toNat r)) rfl rfl (by omega) (by omega) (zhr_85 (by omega)) ?_
    show zH _ _ (30, [some (.inr (.inr (some 83))), some (.inl r), some (.inl n), some (.inl 5)], [.inr (.inr (some (86 + (Int.toNat r))))], (zs (zup h 84 (Int.toNat r) n) (zup (zup (zup (zup (zup hl (86 + (Int.toNat r)) 0 0) (86 + (Int.toNat r)) 1 0) (86 + (Int.toNat r)) 2 0) (86 + (Int.toNat r)) 3 0) (86 + (Int.toNat r)) 4 0))) _
    refine zH_go 2 (c' := (32, [some (.inr (.inr (some 83))), some (.inl r), some (.inl n), some (.inl 5)], [.inr (.inl 0), .inl 5, .inr (.inr (some (86 + (Int.toNat r))))], (zs (zup h 84 (Int.toNat r) n) (zup (zup (zup (zup (zup hl (86 + (Int.toNat r)) 0 0) (86 + (Int.toNat r)) 1 0) (86 + (Int.toNat r)) 2 0) (86 + (Int.toNat r)) 3 0) (86 + (Int.toNat r)) 4 0)))) rfl ?_
    refine zH_las rfl (n := 8) (zsh_85 (by omega)) (by omega) (by omega) ?_
    show zH _ _ (33, [some (.inr (.inr (some 83))), some (.inl r), some (.inl n), some (.inl 5)], [], (zs (zup h 84 (Int.toNat r) n) (zup (zup (zup (zup (zup (zup hl (86 + (Int.toNat r)) 0 0) (86 + (Int.toNat r)) 1 0) (86 + (Int.toNat r)) 2 0) (86 + (Int.toNat r)) 3 0) (86 + (Int.toNat r)) 4 0) (86 + (Int.toNat r)) 5 0))) _
    refine zH_go 4 (c' := (21, [some (.inr (.inr (some 83))), some (.inl r), some (.inl n), some (.inl 6)], [.inl 8, .inl 6], (zs (zup h 84 (Int.toNat r) n) (zup (zup (zup (zup (zup (zup hl (86 + (Int.toNat r)) 0 0) (86 + (Int.toNat r)) 1 0) (86 + (Int.toNat r)) 2 0) (86 + (Int.toNat r)) 3 0) (86 + (Int.toNat r)) 4 0) (86 + (Int.toNat r)) 5 0)))) rfl ?_
    refine zH_bf (x := 6) (y := 8) (k := .ge) (c1 := (39, [some (.inr (.inr (some 83))), some (.inl r), some (.inl n), some (.inl 6)], [], (zs (zup h 84 (Int.toNat r) n) (zup (zup (zup (zup (zup (zup hl (86 + (Int.toNat r)) 0 0) (86 + (Int.toNat r)) 1 0) (86 + (Int.toNat r)) 2 0) (86 + (Int.toNat r)) 3 0) (86 + (Int.toNat r)) 4 0) (86 + (Int.toNat r)) 5 0)))) (c2 := (24, [some (.inr (.inr (some 83))), some (.inl r), some (.inl n), some (.inl 6)], [], (zs (zup h 84 (Int.toNat r) n) (zup (zup (zup (zup (zup (zup hl (86 + (Int.toNat r)) 0 0) (86 + (Int.toNat r)) 1 0) (86 + (Int.toNat r)) 2 0) (86 + (Int.toNat r)) 3 0) (86 + (Int.toNat r)) 4 0) (86 + (Int.toNat r)) 5 0)))) rfl ⟨by decide, by decide⟩ ⟨by decide, by decide⟩ (by show ¬ (¬ 6 < 8); decide) ?_
    refine zH_go 3 (c' := (29, [some (.inr (.inr (some 83))), some (.inl r), some (.inl n), some (.inl 6)], [.inl r, .inr (.inr (some 85))], (zs (zup h 84 (Int.toNat r) n) (zup (zup (zup (zup (zup (zup hl (86 + (Int.toNat r)) 0 0) (86 + (Int.toNat r)) 1 0) (86 + (Int.toNat r)) 2 0) (86 + (Int.toNat r)) 3 0) (86 + (Int.toNat r)) 4 0) (86 + (Int.toNat r)) 5 0)))) rfl ?_
    refine zH_aal (A := 85) (n := 4) (b := 86 + (Int.toNat r)) rfl rfl (by omega) (by omega) (zhr_85 (by omega)) ?_
    show zH _ _ (30, [some (.inr (.inr (some 83))), some (.inl r), some (.inl n), some (.inl 6)], [.inr (.inr (some (86 + (Int.toNat r))))], (zs (zup h 84 (Int.toNat r) n) (zup (zup (zup (zup (zup (zup hl (86 + (Int.toNat r)) 0 0) (86 + (Int.toNat r)) 1 0) (86 + (Int.toNat r)) 2 0) (86 + (Int.toNat r)) 3 0) (86 + (Int.toNat r)) 4 0) (86 + (Int.toNat r)) 5 0))) _
    refine zH_go 2 (c' := (32, [some (.inr (.inr (some 83))), some (.inl r), some (.inl n), some (.inl 6)], [.inr (.inl 0), .inl 6, .inr (.inr (some (86 + (Int.toNat r))))], (zs (zup h 84 (Int.toNat r) n) (zup (zup (zup (zup (zup (zup hl (86 + (Int.toNat r)) 0 0) (86 + (Int.toNat r)) 1 0) (86 + (Int.toNat r)) 2 0) (86 + (Int.toNat r)) 3 0) (86 + (Int.toNat r)) 4 0) (86 + (Int.toNat r)) 5 0)))) rfl ?_
    refine zH_las rfl (n := 8) (zsh_85 (by omega)) (by omega) (by omega) ?_
    show zH _ _ (33, [some (.inr (.inr (some 83))), some (.inl r), some (.inl n), some (.inl 6)], [], (zs (zup h 84 (Int.toNat r) n) (zup (zup (zup (zup (zup (zup (zup hl (86 + (Int.toNat r)) 0 0) (86 + (Int.toNat r)) 1 0) (86 + (Int.toNat r)) 2 0) (86 + (Int.toNat r)) 3 0) (86 + (Int.toNat r)) 4 0) (86 + (Int.toNat r)) 5 0) (86 + (Int.toNat r)) 6 0))) _
    refine zH_go 4 (c' := (21, [some (.inr (.inr (some 83))), some (.inl r), some (.inl n), some (.inl 7)], [.inl 8, .inl 7], (zs (zup h 84 (Int.toNat r) n) (zup (zup (zup (zup (zup (zup (zup hl (86 + (Int.toNat r)) 0 0) (86 + (Int.toNat r)) 1 0) (86 + (Int.toNat r)) 2 0) (86 + (Int.toNat r)) 3 0) (86 + (Int.toNat r)) 4 0) (86 + (Int.toNat r)) 5 0) (86 + (Int.toNat r)) 6 0)))) rfl ?_
    refine zH_bf (x := 7) (y := 8) (k := .ge) (c1 := (39, [some (.inr (.inr (some 83))), some (.inl r), some (.inl n), some (.inl 7)], [], (zs (zup h 84 (Int.toNat r) n) (zup (zup (zup (zup (zup (zup (zup hl (86 + (Int.toNat r)) 0 0) (86 + (Int.toNat r)) 1 0) (86 + (Int.toNat r)) 2 0) (86 + (Int.toNat r)) 3 0) (86 + (Int.toNat r)) 4 0) (86 + (Int.toNat r)) 5 0) (86 + (Int.toNat r)) 6 0)))) (c2 := (24, [some (.inr (.inr (some 83))), some (.inl r), some (.inl n), some (.inl 7)], [], (zs (zup h 84 (Int.toNat r) n) (zup (zup (zup (zup (zup (zup (zup hl (86 + (Int.toNat r)) 0 0) (86 + (Int.toNat r)) 1 0) (86 + (Int.toNat r)) 2 0) (86 + (Int.toNat r)) 3 0) (86 + (Int.toNat r)) 4 0) (86 + (Int.toNat r)) 5 0) (86 + (Int.toNat r)) 6 0)))) rfl ⟨by decide, by decide⟩ ⟨by decide, by decide⟩ (by show ¬ (¬ 7 < 8); decide) ?_
    refine zH_go 3 (c' := (29, [some (.inr (.inr (some 83))), some (.inl r), some (.inl n), some (.inl 7)], [.inl r, .inr (.inr (some 85))], (zs (zup h 84 (Int.toNat r) n) (zup (zup (zup (zup (zup (zup (zup hl (86 + (Int.toNat r)) 0 0) (86 + (Int.toNat r)) 1 0) (86 + (Int.toNat r)) 2 0) (86 + (Int.toNat r)) 3 0) (86 + (Int.toNat r)) 4 0) (86 + (Int.toNat r)) 5 0) (86 + (Int.toNat r)) 6 0)))) rfl ?_
    refine zH_aal (A := 85) (n := 4) (b := 86 + (Int.toNat r)) rfl rfl (by omega) (by omega) (zhr_85 (by omega)) ?_
    show zH _ _ (30, [some (.inr (.inr (some 83))), some (.inl r), some (.inl n), some (.inl 7)], [.inr (.inr (some (86 + (Int.toNat r))))], (zs (zup h 84 (Int.toNat r) n) (zup (zup (zup (zup (zup (zup (zup hl (86 + (Int.toNat r)) 0 0) (86 + (Int.toNat r)) 1 0) (86 + (Int.toNat r)) 2 0) (86 + (Int.toNat r)) 3 0) (86 + (Int.toNat r)) 4 0) (86 + (Int.toNat r)) 5 0) (86 + (Int.toNat r)) 6 0))) _
    refine zH_go 2 (c' := (32, [some (.inr (.inr (some 83))), some (.inl r), some (.inl n), some (.inl 7)], [.inr (.inl 0), .inl 7, .inr (.inr (some (86 + (Int.toNat r))))], (zs (zup h 84 (Int.toNat r) n) (zup (zup (zup (zup (zup (zup (zup hl (86 + (Int.toNat r)) 0 0) (86 + (Int.toNat r)) 1 0) (86 + (Int.toNat r)) 2 0) (86 + (Int.toNat r)) 3 0) (86 + (Int.toNat r)) 4 0) (86 + (Int.toNat r)) 5 0) (86 + (Int.toNat r)) 6 0)))) rfl ?_
    refine zH_las rfl (n := 8) (zsh_85 (by omega)) (by omega) (by omega) ?_
    show zH _ _ (33, [some (.inr (.inr (some 83))), some (.inl r), some (.inl n), some (.inl 7)], [], (zs (zup h 84 (Int.toNat r) n) (zup (zup (zup (zup (zup (zup (zup (zup hl (86 + (Int.toNat r)) 0 0) (86 + (Int.toNat r)) 1 0) (86 + (Int.toNat r)) 2 0) (86 + (Int.toNat r)) 3 0) (86 + (Int.toNat r)) 4 0) (86 + (Int.toNat r)) 5 0) (86 + (Int.toNat r)) 6 0) (86 + (Int.toNat r)) 7 0))) _
    refine zH_go 4 (c' := (21, [some (.inr (.inr (some 83))), some (.inl r), some (.inl n), some (.inl 8)], [.inl 8, .inl 8], (zs (zup h 84 (Int.toNat r) n) (zup (zup (zup (zup (zup (zup (zup (zup hl (86 + (Int.toNat r)) 0 0) (86 + (Int.toNat r)) 1 0) (86 + (Int.toNat r)) 2 0) (86 + (Int.toNat r)) 3 0) (86 + (Int.toNat r)) 4 0) (86 + (Int.toNat r)) 5 0) (86 + (Int.toNat r)) 6 0) (86 + (Int.toNat r)) 7 0)))) rfl ?_
    refine zH_bt (x := 8) (y := 8) (k := .ge) (c1 := (39, [some (.inr (.inr (some 83))), some (.inl r), some (.inl n), some (.inl 8)], [], (zs (zup h 84 (Int.toNat r) n) (zup (zup (zup (zup (zup (zup (zup (zup hl (86 + (Int.toNat r)) 0 0) (86 + (Int.toNat r)) 1 0) (86 + (Int.toNat r)) 2 0) (86 + (Int.toNat r)) 3 0) (86 + (Int.toNat r)) 4 0) (86 + (Int.toNat r)) 5 0) (86 + (Int.toNat r)) 6 0) (86 + (Int.toNat r)) 7 0)))) (c2 := (24, [some (.inr (.inr (some 83))), some (.inl r), some (.inl n), some (.inl 8)], [], (zs (zup h 84 (Int.toNat r) n) (zup (zup (zup (zup (zup (zup (zup (zup hl (86 + (Int.toNat r)) 0 0) (86 + (Int.toNat r)) 1 0) (86 + (Int.toNat r)) 2 0) (86 + (Int.toNat r)) 3 0) (86 + (Int.toNat r)) 4 0) (86 + (Int.toNat r)) 5 0) (86 + (Int.toNat r)) 6 0) (86 + (Int.toNat r)) 7 0)))) rfl ⟨by decide, by decide⟩ ⟨by decide, by decide⟩ (by show ¬ 8 < 8; decide) ?_
    refine zH_ret (v := none) rfl (fun q => absurd q (by decide)) ?_
    refine ⟨rfl, _, _, rfl, rfl, fun c hc => ?_, fun j hj => ?_⟩
    · funext j; simp [zup_at, hc]
    · rcases (show j = 0 ∨ j = 1 ∨ j = 2 ∨ j = 3 ∨ j = 4 ∨ j = 5 ∨ j = 6 ∨ j = 7 by omega) with rfl | rfl | rfl | rfl | rfl | rfl | rfl | rfl <;> simp [zup_at]
  · show zH _ _ (5, [some (.inr (.inr (some 83))), some (.inl r), some (.inl n), none], [.inl 0], (zs h hl)) _
    exact absurd hrow b_2
set_option maxRecDepth 100000 in
set_option maxHeartbeats 4000000 in
theorem p_bRenew1 {d : Nat} {h hl : Nat → Nat → Int} {r n : Int} (hr : zr r) (hR : -1 ≤ h 90 1 ∧ h 90 1 ≤ 4) (hrow : zHasRow h 90 r) : zQ (d + 2) 7 [.inr (.inr (some 90)), .inl r, .inl n] (zs h hl) (fun ρ σ' => ρ = none ∧ ∃ g gl : Nat → Nat → Int, σ' = zs g gl ∧ g = zup h 91 (Int.toNat r) n ∧ (∀ c : Nat, c ≠ 93 + Int.toNat r → gl c = hl c) ∧ ∀ j : Nat, j < 8 → gl (93 + Int.toNat r) j = 0) := by
  refine zQ_of (Nat.le_of_ble_eq_true rfl) ?_
  show zH (d + 1) 7 (0, [some (.inr (.inr (some 90))), some (.inl r), some (.inl n), none], [], (zs h hl)) _
  refine zH_go 2 (c' := (2, [some (.inr (.inr (some 90))), some (.inl r), some (.inl n), none], [.inl r, .inr (.inr (some 90))], (zs h hl))) rfl ?_
  refine zH_call (M' := 2) (as := [.inr (.inr (some 90)), .inl r]) (T := []) rfl (p_bRow1 hr hR) (fun ρ σ' p_1 => ?_)
  rcases p_1 with ⟨rfl, b_2, rfl⟩ | ⟨rfl, b_2, rfl⟩
  · show zH _ _ (5, [some (.inr (.inr (some 90))), some (.inl r), some (.inl n), none], [.inl 1], (zs h hl)) _
    have hrx := b_2.1; have hry := b_2.2.1; have hrz := b_2.2.2
    refine zH_bt (x := 1) (y := 0) (k := .ne) (c1 := (9, [some (.inr (.inr (some 90))), some (.inl r), some (.inl n), none], [], (zs h hl))) (c2 := (8, [some (.inr (.inr (some 90))), some (.inl r), some (.inl n), none], [], (zs h hl))) rfl ⟨by decide, by decide⟩ ⟨by decide, by decide⟩ (by show ¬ 1 = 0; decide) ?_
    refine zH_go 4 (c' := (15, [some (.inr (.inr (some 90))), some (.inl r), some (.inl n), none], [.inl n, .inl r, .inr (.inr (some 91))], (zs h hl))) rfl ?_
    refine zH_np (P := 0 ≤ r ∧ r < ((4 : Nat) : Int)) (c' := (16, [some (.inr (.inr (some 90))), some (.inl r), some (.inl n), none], [], (zs (zup h 91 (Int.toNat r) n) hl))) rfl ⟨by omega, by omega⟩ ?_
    refine zH_go 4 (c' := (21, [some (.inr (.inr (some 90))), some (.inl r), some (.inl n), some (.inl 0)], [.inl 8, .inl 0], (zs (zup h 91 (Int.toNat r) n) hl))) rfl ?_
    refine zH_bf (x := 0) (y := 8) (k := .ge) (c1 := (39, [some (.inr (.inr (some 90))), some (.inl r), some (.inl n), some (.inl 0)], [], (zs (zup h 91 (Int.toNat r) n) hl))) (c2 := (24, [some (.inr (.inr (some 90))), some (.inl r), some (.inl n), some (.inl 0)], [], (zs (zup h 91 (Int.toNat r) n) hl))) rfl ⟨by decide, by decide⟩ ⟨by decide, by decide⟩ (by show ¬ (¬ 0 < 8); decide) ?_
    refine zH_go 3 (c' := (29, [some (.inr (.inr (some 90))), some (.inl r), some (.inl n), some (.inl 0)], [.inl r, .inr (.inr (some 92))], (zs (zup h 91 (Int.toNat r) n) hl))) rfl ?_
    refine zH_aal (A := 92) (n := 4) (b := 93 + (Int.toNat r)) rfl rfl (by omega) (by omega) (zhr_92 (by omega)) ?_
    show zH _ _ (30, [some (.inr (.inr (some 90))), some (.inl r), some (.inl n), some (.inl 0)], [.inr (.inr (some (93 + (Int.toNat r))))], (zs (zup h 91 (Int.toNat r) n) hl)) _
    refine zH_go 2 (c' := (32, [some (.inr (.inr (some 90))), some (.inl r), some (.inl n), some (.inl 0)], [.inr (.inl 0), .inl 0, .inr (.inr (some (93 + (Int.toNat r))))], (zs (zup h 91 (Int.toNat r) n) hl))) rfl ?_
    refine zH_las rfl (n := 8) (zsh_92 (by omega)) (by omega) (by omega) ?_
    show zH _ _ (33, [some (.inr (.inr (some 90))), some (.inl r), some (.inl n), some (.inl 0)], [], (zs (zup h 91 (Int.toNat r) n) (zup hl (93 + (Int.toNat r)) 0 0))) _
    refine zH_go 4 (c' := (21, [some (.inr (.inr (some 90))), some (.inl r), some (.inl n), some (.inl 1)], [.inl 8, .inl 1], (zs (zup h 91 (Int.toNat r) n) (zup hl (93 + (Int.toNat r)) 0 0)))) rfl ?_
    refine zH_bf (x := 1) (y := 8) (k := .ge) (c1 := (39, [some (.inr (.inr (some 90))), some (.inl r), some (.inl n), some (.inl 1)], [], (zs (zup h 91 (Int.toNat r) n) (zup hl (93 + (Int.toNat r)) 0 0)))) (c2 := (24, [some (.inr (.inr (some 90))), some (.inl r), some (.inl n), some (.inl 1)], [], (zs (zup h 91 (Int.toNat r) n) (zup hl (93 + (Int.toNat r)) 0 0)))) rfl ⟨by decide, by decide⟩ ⟨by decide, by decide⟩ (by show ¬ (¬ 1 < 8); decide) ?_
    refine zH_go 3 (c' := (29, [some (.inr (.inr (some 90))), some (.inl r), some (.inl n), some (.inl 1)], [.inl r, .inr (.inr (some 92))], (zs (zup h 91 (Int.toNat r) n) (zup hl (93 + (Int.toNat r)) 0 0)))) rfl ?_
    refine zH_aal (A := 92) (n := 4) (b := 93 + (Int.toNat r)) rfl rfl (by omega) (by omega) (zhr_92 (by omega)) ?_
    show zH _ _ (30, [some (.inr (.inr (some 90))), some (.inl r), some (.inl n), some (.inl 1)], [.inr (.inr (some (93 + (Int.toNat r))))], (zs (zup h 91 (Int.toNat r) n) (zup hl (93 + (Int.toNat r)) 0 0))) _
    refine zH_go 2 (c' := (32, [some (.inr (.inr (some 90))), some (.inl r), some (.inl n), some (.inl 1)], [.inr (.inl 0), .inl 1, .inr (.inr (some (93 + (Int.toNat r))))], (zs (zup h 91 (Int.toNat r) n) (zup hl (93 + (Int.toNat r)) 0 0)))) rfl ?_
    refine zH_las rfl (n := 8) (zsh_92 (by omega)) (by omega) (by omega) ?_
    show zH _ _ (33, [some (.inr (.inr (some 90))), some (.inl r), some (.inl n), some (.inl 1)], [], (zs (zup h 91 (Int.toNat r) n) (zup (zup hl (93 + (Int.toNat r)) 0 0) (93 + (Int.toNat r)) 1 0))) _
    refine zH_go 4 (c' := (21, [some (.inr (.inr (some 90))), some (.inl r), some (.inl n), some (.inl 2)], [.inl 8, .inl 2], (zs (zup h 91 (Int.toNat r) n) (zup (zup hl (93 + (Int.toNat r)) 0 0) (93 + (Int.toNat r)) 1 0)))) rfl ?_
    refine zH_bf (x := 2) (y := 8) (k := .ge) (c1 := (39, [some (.inr (.inr (some 90))), some (.inl r), some (.inl n), some (.inl 2)], [], (zs (zup h 91 (Int.toNat r) n) (zup (zup hl (93 + (Int.toNat r)) 0 0) (93 + (Int.toNat r)) 1 0)))) (c2 := (24, [some (.inr (.inr (some 90))), some (.inl r), some (.inl n), some (.inl 2)], [], (zs (zup h 91 (Int.toNat r) n) (zup (zup hl (93 + (Int.toNat r)) 0 0) (93 + (Int.toNat r)) 1 0)))) rfl ⟨by decide, by decide⟩ ⟨by decide, by decide⟩ (by show ¬ (¬ 2 < 8); decide) ?_
    refine zH_go 3 (c' := (29, [some (.inr (.inr (some 90))), some (.inl r), some (.inl n), some (.inl 2)], [.inl r, .inr (.inr (some 92))], (zs (zup h 91 (Int.toNat r) n) (zup (zup hl (93 + (Int.toNat r)) 0 0) (93 + (Int.toNat r)) 1 0)))) rfl ?_
    refine zH_aal (A := 92) (n := 4) (b := 93 + (Int.toNat r)) rfl rfl (by omega) (by omega) (zhr_92 (by omega)) ?_
    show zH _ _ (30, [some (.inr (.inr (some 90))), some (.inl r), some (.inl n), some (.inl 2)], [.inr (.inr (some (93 + (Int.toNat r))))], (zs (zup h 91 (Int.toNat r) n) (zup (zup hl (93 + (Int.toNat r)) 0 0) (93 + (Int.toNat r)) 1 0))) _
    refine zH_go 2 (c' := (32, [some (.inr (.inr (some 90))), some (.inl r), some (.inl n), some (.inl 2)], [.inr (.inl 0), .inl 2, .inr (.inr (some (93 + (Int.toNat r))))], (zs (zup h 91 (Int.toNat r) n) (zup (zup hl (93 + (Int.toNat r)) 0 0) (93 + (Int.toNat r)) 1 0)))) rfl ?_
    refine zH_las rfl (n := 8) (zsh_92 (by omega)) (by omega) (by omega) ?_
    show zH _ _ (33, [some (.inr (.inr (some 90))), some (.inl r), some (.inl n), some (.inl 2)], [], (zs (zup h 91 (Int.toNat r) n) (zup (zup (zup hl (93 + (Int.toNat r)) 0 0) (93 + (Int.toNat r)) 1 0) (93 + (Int.toNat r)) 2 0))) _
    refine zH_go 4 (c' := (21, [some (.inr (.inr (some 90))), some (.inl r), some (.inl n), some (.inl 3)], [.inl 8, .inl 3], (zs (zup h 91 (Int.toNat r) n) (zup (zup (zup hl (93 + (Int.toNat r)) 0 0) (93 + (Int.toNat r)) 1 0) (93 + (Int.toNat r)) 2 0)))) rfl ?_
    refine zH_bf (x := 3) (y := 8) (k := .ge) (c1 := (39, [some (.inr (.inr (some 90))), some (.inl r), some (.inl n), some (.inl 3)], [], (zs (zup h 91 (Int.toNat r) n) (zup (zup (zup hl (93 + (Int.toNat r)) 0 0) (93 + (Int.toNat r)) 1 0) (93 + (Int.toNat r)) 2 0)))) (c2 := (24, [some (.inr (.inr (some 90))), some (.inl r), some (.inl n), some (.inl 3)], [], (zs (zup h 91 (Int.toNat r) n) (zup (zup (zup hl (93 + (Int.toNat r)) 0 0) (93 + (Int.toNat r)) 1 0) (93 + (Int.toNat r)) 2 0)))) rfl ⟨by decide, by decide⟩ ⟨by decide, by decide⟩ (by show ¬ (¬ 3 < 8); decide) ?_
    refine zH_go 3 (c' := (29, [some (.inr (.inr (some 90))), some (.inl r), some (.inl n), some (.inl 3)], [.inl r, .inr (.inr (some 92))], (zs (zup h 91 (Int.toNat r) n) (zup (zup (zup hl (93 + (Int.toNat r)) 0 0) (93 + (Int.toNat r)) 1 0) (93 + (Int.toNat r)) 2 0)))) rfl ?_
    refine zH_aal (A := 92) (n := 4) (b := 93 + (Int.toNat r)) rfl rfl (by omega) (by omega) (zhr_92 (by omega)) ?_
    show zH _ _ (30, [some (.inr (.inr (some 90))), some (.inl r), some (.inl n), some (.inl 3)], [.inr (.inr (some (93 + (Int.toNat r))))], (zs (zup h 91 (Int.toNat r) n) (zup (zup (zup hl (93 + (Int.toNat r)) 0 0) (93 + (Int.toNat r)) 1 0) (93 + (Int.toNat r)) 2 0))) _
    refine zH_go 2 (c' := (32, [some (.inr (.inr (some 90))), some (.inl r), some (.inl n), some (.inl 3)], [.inr (.inl 0), .inl 3, .inr (.inr (some (93 + (Int.toNat r))))], (zs (zup h 91 (Int.toNat r) n) (zup (zup (zup hl (93 + (Int.toNat r)) 0 0) (93 + (Int.toNat r)) 1 0) (93 + (Int.toNat r)) 2 0)))) rfl ?_
    refine zH_las rfl (n := 8) (zsh_92 (by omega)) (by omega) (by omega) ?_
    show zH _ _ (33, [some (.inr (.inr (some 90))), some (.inl r), some (.inl n), some (.inl 3)], [], (zs (zup h 91 (Int.toNat r) n) (zup (zup (zup (zup hl (93 + (Int.toNat r)) 0 0) (93 + (Int.toNat r)) 1 0) (93 + (Int.toNat r)) 2 0) (93 + (Int.toNat r)) 3 0))) _
    refine zH_go 4 (c' := (21, [some (.inr (.inr (some 90))), some (.inl r), some (.inl n), some (.inl 4)], [.inl 8, .inl 4], (zs (zup h 91 (Int.toNat r) n) (zup (zup (zup (zup hl (93 + (Int.toNat r)) 0 0) (93 + (Int.toNat r)) 1 0) (93 + (Int.toNat r)) 2 0) (93 + (Int.toNat r)) 3 0)))) rfl ?_
    refine zH_bf (x := 4) (y := 8) (k := .ge) (c1 := (39, [some (.inr (.inr (some 90))), some (.inl r), some (.inl n), some (.inl 4)], [], (zs (zup h 91 (Int.toNat r) n) (zup (zup (zup (zup hl (93 + (Int.toNat r)) 0 0) (93 + (Int.toNat r)) 1 0) (93 + (Int.toNat r)) 2 0) (93 + (Int.toNat r)) 3 0)))) (c2 := (24, [some (.inr (.inr (some 90))), some (.inl r), some (.inl n), some (.inl 4)], [], (zs (zup h 91 (Int.toNat r) n) (zup (zup (zup (zup hl (93 + (Int.toNat r)) 0 0) (93 + (Int.toNat r)) 1 0) (93 + (Int.toNat r)) 2 0) (93 + (Int.toNat r)) 3 0)))) rfl ⟨by decide, by decide⟩ ⟨by decide, by decide⟩ (by show ¬ (¬ 4 < 8); decide) ?_
    refine zH_go 3 (c' := (29, [some (.inr (.inr (some 90))), some (.inl r), some (.inl n), some (.inl 4)], [.inl r, .inr (.inr (some 92))], (zs (zup h 91 (Int.toNat r) n) (zup (zup (zup (zup hl (93 + (Int.toNat r)) 0 0) (93 + (Int.toNat r)) 1 0) (93 + (Int.toNat r)) 2 0) (93 + (Int.toNat r)) 3 0)))) rfl ?_
    refine zH_aal (A := 92) (n := 4) (b := 93 + (Int.toNat r)) rfl rfl (by omega) (by omega) (zhr_92 (by omega)) ?_
    show zH _ _ (30, [some (.inr (.inr (some 90))), some (.inl r), some (.inl n), some (.inl 4)], [.inr (.inr (some (93 + (Int.toNat r))))], (zs (zup h 91 (Int.toNat r) n) (zup (zup (zup (zup hl (93 + (Int.toNat r)) 0 0) (93 + (Int.toNat r)) 1 0) (93 + (Int.toNat r)) 2 0) (93 + (Int.toNat r)) 3 0))) _
    refine zH_go 2 (c' := (32, [some (.inr (.inr (some 90))), some (.inl r), some (.inl n), some (.inl 4)], [.inr (.inl 0), .inl 4, .inr (.inr (some (93 + (Int.toNat r))))], (zs (zup h 91 (Int.toNat r) n) (zup (zup (zup (zup hl (93 + (Int.toNat r)) 0 0) (93 + (Int.toNat r)) 1 0) (93 + (Int.toNat r)) 2 0) (93 + (Int.toNat r)) 3 0)))) rfl ?_
    refine zH_las rfl (n := 8) (zsh_92 (by omega)) (by omega) (by omega) ?_
    show zH _ _ (33, [some (.inr (.inr (some 90))), some (.inl r), some (.inl n), some (.inl 4)], [], (zs (zup h 91 (Int.toNat r) n) (zup (zup (zup (zup (zup hl (93 + (Int.toNat r)) 0 0) (93 + (Int.toNat r)) 1 0) (93 + (Int.toNat r)) 2 0) (93 + (Int.toNat r)) 3 0) (93 + (Int.toNat r)) 4 0))) _
    refine zH_go 4 (c' := (21, [some (.inr (.inr (some 90))), some (.inl r), some (.inl n), some (.inl 5)], [.inl 8, .inl 5], (zs (zup h 91 (Int.toNat r) n) (zup (zup (zup (zup (zup hl (93 + (Int.toNat r)) 0 0) (93 + (Int.toNat r)) 1 0) (93 + (Int.toNat r)) 2 0) (93 + (Int.toNat r)) 3 0) (93 + (Int.toNat r)) 4 0)))) rfl ?_
    refine zH_bf (x := 5) (y := 8) (k := .ge) (c1 := (39, [some (.inr (.inr (some 90))), some (.inl r), some (.inl n), some (.inl 5)], [], (zs (zup h 91 (Int.toNat r) n) (zup (zup (zup (zup (zup hl (93 + (Int.toNat r)) 0 0) (93 + (Int.toNat r)) 1 0) (93 + (Int.toNat r)) 2 0) (93 + (Int.toNat r)) 3 0) (93 + (Int.toNat r)) 4 0)))) (c2 := (24, [some (.inr (.inr (some 90))), some (.inl r), some (.inl n), some (.inl 5)], [], (zs (zup h 91 (Int.toNat r) n) (zup (zup (zup (zup (zup hl (93 + (Int.toNat r)) 0 0) (93 + (Int.toNat r)) 1 0) (93 + (Int.toNat r)) 2 0) (93 + (Int.toNat r)) 3 0) (93 + (Int.toNat r)) 4 0)))) rfl ⟨by decide, by decide⟩ ⟨by decide, by decide⟩ (by show ¬ (¬ 5 < 8); decide) ?_
    refine zH_go 3 (c' := (29, [some (.inr (.inr (some 90))), some (.inl r), some (.inl n), some (.inl 5)], [.inl r, .inr (.inr (some 92))], (zs (zup h 91 (Int.toNat r) n) (zup (zup (zup (zup (zup hl (93 + (Int.toNat r)) 0 0) (93 + (Int.toNat r)) 1 0) (93 + (Int.toNat r)) 2 0) (93 + (Int.toNat r)) 3 0) (93 + (Int.toNat r)) 4 0)))) rfl ?_
    refine zH_aal (A := 92) (n := 4) (b := 93 + (Int.toNat r)) rfl rfl (by omega) (by omega) (zhr_92 (by omega)) ?_
    show zH _ _ (30, [some (.inr (.inr (some 90))), some (.inl r), some (.inl n), some (.inl 5)], [.inr (.inr (some (93 + (Int.toNat r))))], (zs (zup h 91 (Int.toNat r) n) (zup (zup (zup (zup (zup hl (93 + (Int.toNat r)) 0 0) (93 + (Int.toNat r)) 1 0) (93 + (Int.toNat r)) 2 0) (93 + (Int.toNat r)) 3 0) (93 + (Int.toNat r)) 4 0))) _
    refine zH_go 2 (c' := (32, [some (.inr (.inr (some 90))), some (.inl r), some (.inl n), some (.inl 5)], [.inr (.inl 0), .inl 5, .inr (.inr (some (93 + (Int.toNat r))))], (zs (zup h 91 (Int.toNat r) n) (zup (zup (zup (zup (zup hl (93 + (Int.toNat r)) 0 0) (93 + (Int.toNat r)) 1 0) (93 + (Int.toNat r)) 2 0) (93 + (Int.toNat r)) 3 0) (93 + (Int.toNat r)) 4 0)))) rfl ?_
    refine zH_las rfl (n := 8) (zsh_92 (by omega)) (by omega) (by omega) ?_
    show zH _ _ (33, [some (.inr (.inr (some 90))), some (.inl r), some (.inl n), some (.inl 5)], [], (zs (zup h 91 (Int.toNat r) n) (zup (zup (zup (zup (zup (zup hl (93 + (Int.toNat r)) 0 0) (93 + (Int.toNat r)) 1 0) (93 + (Int.toNat r)) 2 0) (93 + (Int.toNat r)) 3 0) (93 + (Int.toNat r)) 4 0) (93 + (Int.toNat r)) 5 0))) _
    refine zH_go 4 (c' := (21, [some (.inr (.inr (some 90))), some (.inl r), some (.inl n), some (.inl 6)], [.inl 8, .inl 6], (zs (zup h 91 (Int.toNat r) n) (zup (zup (zup (zup (zup (zup hl (93 + (Int.toNat r)) 0 0) (93 + (Int.toNat r)) 1 0) (93 + (Int.toNat r)) 2 0) (93 + (Int.toNat r)) 3 0) (93 + (Int.toNat r)) 4 0) (93 + (Int.toNat r)) 5 0)))) rfl ?_
    refine zH_bf (x := 6) (y := 8) (k := .ge) (c1 := (39, [some (.inr (.inr (some 90))), some (.inl r), some (.inl n), some (.inl 6)], [], (zs (zup h 91 (Int.toNat r) n) (zup (zup (zup (zup (zup (zup hl (93 + (Int.toNat r)) 0 0) (93 + (Int.toNat r)) 1 0) (93 + (Int.toNat r)) 2 0) (93 + (Int.toNat r)) 3 0) (93 + (Int.toNat r)) 4 0) (93 + (Int.toNat r)) 5 0)))) (c2 := (24, [some (.inr (.inr (some 90))), some (.inl r), some (.inl n), some (.inl 6)], [], (zs (zup h 91 (Int.toNat r) n) (zup (zup (zup (zup (zup (zup hl (93 + (Int.toNat r)) 0 0) (93 + (Int.toNat r)) 1 0) (93 + (Int.toNat r)) 2 0) (93 + (Int.toNat r)) 3 0) (93 + (Int.toNat r)) 4 0) (93 + (Int.toNat r)) 5 0)))) rfl ⟨by decide, by decide⟩ ⟨by decide, by decide⟩ (by show ¬ (¬ 6 < 8); decide) ?_
    refine zH_go 3 (c' := (29, [some (.inr (.inr (some 90))), some (.inl r), some (.inl n), some (.inl 6)], [.inl r, .inr (.inr (some 92))], (zs (zup h 91 (Int.toNat r) n) (zup (zup (zup (zup (zup (zup hl (93 + (Int.toNat r)) 0 0) (93 + (Int.toNat r)) 1 0) (93 + (Int.toNat r)) 2 0) (93 + (Int.toNat r)) 3 0) (93 + (Int.toNat r)) 4 0) (93 + (Int.toNat r)) 5 0)))) rfl ?_
    refine zH_aal (A := 92) (n := 4) (b := 93 + (Int.toNat r)) rfl rfl (by omega) (by omega) (zhr_92 (by omega)) ?_
    show zH _ _ (30, [some (.inr (.inr (some 90))), some (.inl r), some (.inl n), some (.inl 6)], [.inr (.inr (some (93 + (Int.toNat r))))], (zs (zup h 91 (Int.toNat r) n) (zup (zup (zup (zup (zup (zup hl (93 + (Int.toNat r)) 0 0) (93 + (Int.toNat r)) 1 0) (93 + (Int.toNat r)) 2 0) (93 + (Int.toNat r)) 3 0) (93 + (Int.toNat r)) 4 0) (93 + (Int.toNat r)) 5 0))) _
    refine zH_go 2 (c' := (32, [some (.inr (.inr (some 90))), some (.inl r), some (.inl n), some (.inl 6)], [.inr (.inl 0), .inl 6, .inr (.inr (some (93 + (Int.toNat r))))], (zs (zup h 91 (Int.toNat r) n) (zup (zup (zup (zup (zup (zup hl (93 + (Int.toNat r)) 0 0) (93 + (Int.toNat r)) 1 0) (93 + (Int.toNat r)) 2 0) (93 + (Int.toNat r)) 3 0) (93 + (Int.toNat r)) 4 0) (93 + (Int.toNat r)) 5 0)))) rfl ?_
    refine zH_las rfl (n := 8) (zsh_92 (by omega)) (by omega) (by omega) ?_
    show zH _ _ (33, [some (.inr (.inr (some 90))), some (.inl r), some (.inl n), some (.inl 6)], [], (zs (zup h 91 (Int.toNat r) n) (zup (zup (zup (zup (zup (zup (zup hl (93 + (Int.toNat r)) 0 0) (93 + (Int.toNat r)) 1 0) (93 + (Int.toNat r)) 2 0) (93 + (Int.toNat r)) 3 0) (93 + (Int.toNat r)) 4 0) (93 + (Int.toNat r)) 5 0) (93 + (Int.toNat r)) 6 0))) _
    refine zH_go 4 (c' := (21, [some (.inr (.inr (some 90))), some (.inl r), some (.inl n), some (.inl 7)], [.inl 8, .inl 7], (zs (zup h 91 (Int.toNat r) n) (zup (zup (zup (zup (zup (zup (zup hl (93 + (Int.toNat r)) 0 0) (93 + (Int.toNat r)) 1 0) (93 + (Int.toNat r)) 2 0) (93 + (Int.toNat r)) 3 0) (93 + (Int.toNat r)) 4 0) (93 + (Int.toNat r)) 5 0) (93 + (Int.toNat r)) 6 0)))) rfl ?_
    refine zH_bf (x := 7) (y := 8) (k := .ge) (c1 := (39, [some (.inr (.inr (some 90))), some (.inl r), some (.inl n), some (.inl 7)], [], (zs (zup h 91 (Int.toNat r) n) (zup (zup (zup (zup (zup (zup (zup hl (93 + (Int.toNat r)) 0 0) (93 + (Int.toNat r)) 1 0) (93 + (Int.toNat r)) 2 0) (93 + (Int.toNat r)) 3 0) (93 + (Int.toNat r)) 4 0) (93 + (Int.toNat r)) 5 0) (93 + (Int.toNat r)) 6 0)))) (c2 := (24, [some (.inr (.inr (some 90))), some (.inl r), some (.inl n), some (.inl 7)], [], (zs (zup h 91 (Int.toNat r) n) (zup (zup (zup (zup (zup (zup (zup hl (93 + (Int.toNat r)) 0 0) (93 + (Int.toNat r)) 1 0) (93 + (Int.toNat r)) 2 0) (93 + (Int.toNat r)) 3 0) (93 + (Int.toNat r)) 4 0) (93 + (Int.toNat r)) 5 0) (93 + (Int.toNat r)) 6 0)))) rfl ⟨by decide, by decide⟩ ⟨by decide, by decide⟩ (by show ¬ (¬ 7 < 8); decide) ?_
    refine zH_go 3 (c' := (29, [some (.inr (.inr (some 90))), some (.inl r), some (.inl n), some (.inl 7)], [.inl r, .inr (.inr (some 92))], (zs (zup h 91 (Int.toNat r) n) (zup (zup (zup (zup (zup (zup (zup hl (93 + (Int.toNat r)) 0 0) (93 + (Int.toNat r)) 1 0) (93 + (Int.toNat r)) 2 0) (93 + (Int.toNat r)) 3 0) (93 + (Int.toNat r)) 4 0) (93 + (Int.toNat r)) 5 0) (93 + (Int.toNat r)) 6 0)))) rfl ?_
    refine zH_aal (A := 92) (n := 4) (b := 93 + (Int.toNat r)) rfl rfl (by omega) (by omega) (zhr_92 (by omega)) ?_
    show zH _ _ (30, [some (.inr (.inr (some 90))), some (.inl r), some (.inl n), some (.inl 7)], [.inr (.inr (some (93 + (Int.toNat r))))], (zs (zup h 91 (Int.toNat r) n) (zup (zup (zup (zup (zup (zup (zup hl (93 + (Int.toNat r)) 0 0) (93 + (Int.toNat r)) 1 0) (93 + (Int.toNat r)) 2 0) (93 + (Int.toNat r)) 3 0) (93 + (Int.toNat r)) 4 0) (93 + (Int.toNat r)) 5 0) (93 + (Int.toNat r)) 6 0))) _
    refine zH_go 2 (c' := (32, [some (.inr (.inr (some 90))), some (.inl r), some (.inl n), some (.inl 7)], [.inr (.inl 0), .inl 7, .inr (.inr (some (93 + (Int.toNat r))))], (zs (zup h 91 (Int.toNat r) n) (zup (zup (zup (zup (zup (zup (zup hl (93 + (Int.toNat r)) 0 0) (93 + (Int.toNat r)) 1 0) (93 + (Int.toNat r)) 2 0) (93 + (Int.toNat r)) 3 0) (93 + (Int.toNat r)) 4 0) (93 + (Int.toNat r)) 5 0) (93 + (Int.toNat r)) 6 0)))) rfl ?_
    refine zH_las rfl (n := 8) (zsh_92 (by omega)) (by omega) (by omega) ?_
    show zH _ _ (33, [some (.inr (.inr (some 90))), some (.inl r), some (.inl n), some (.inl 7)], [], (zs (zup h 91 (Int.toNat r) n) (zup (zup (zup (zup (zup (zup (zup (zup hl (93 + (Int.toNat r)) 0 0) (93 + (Int.toNat r)) 1 0) (93 + (Int.toNat r)) 2 0) (93 + (Int.toNat r)) 3 0) (93 + (Int.toNat r)) 4 0) (93 + (Int.toNat r)) 5 0) (93 + (Int.toNat r)) 6 0) (93 + (Int.toNat r)) 7 0))) _
    refine zH_go 4 (c' := (21, [some (.inr (.inr (some 90))), some (.inl r), some (.inl n), some (.inl 8)], [.inl 8, .inl 8], (zs (zup h 91 (Int.toNat r) n) (zup (zup (zup (zup (zup (zup (zup (zup hl (93 + (Int.toNat r)) 0 0) (93 + (Int.toNat r)) 1 0) (93 + (Int.toNat r)) 2 0) (93 + (Int.toNat r)) 3 0) (93 + (Int.toNat r)) 4 0) (93 + (Int.toNat r)) 5 0) (93 + (Int.toNat r)) 6 0) (93 + (Int.toNat r)) 7 0)))) rfl ?_
    refine zH_bt (x := 8) (y := 8) (k := .ge) (c1 := (39, [some (.inr (.inr (some 90))), some (.inl r), some (.inl n), some (.inl 8)], [], (zs (zup h 91 (Int.toNat r) n) (zup (zup (zup (zup (zup (zup (zup (zup hl (93 + (Int.toNat r)) 0 0) (93 + (Int.toNat r)) 1 0) (93 + (Int.toNat r)) 2 0) (93 + (Int.toNat r)) 3 0) (93 + (Int.toNat r)) 4 0) (93 + (Int.toNat r)) 5 0) (93 + (Int.toNat r)) 6 0) (93 + (Int.toNat r)) 7 0)))) (c2 := (24, [some (.inr (.inr (some 90))), some (.inl r), some (.inl n), some (.inl 8)], [], (zs (zup h 91 (Int.toNat r) n) (zup (zup (zup (zup (zup (zup (zup (zup hl (93 + (Int.toNat r)) 0 0) (93 + (Int.toNat r)) 1 0) (93 + (Int.toNat r)) 2 0) (93 + (Int.toNat r)) 3 0) (93 + (Int.toNat r)) 4 0) (93 + (Int.toNat r)) 5 0) (93 + (Int.toNat r)) 6 0) (93 + (Int.toNat r)) 7 0)))) rfl ⟨by decide, by decide⟩ ⟨by decide, by decide⟩ (by show ¬ 8 < 8; decide) ?_
    refine zH_ret (v := none) rfl (fun q => absurd q (by decide)) ?_
    refine ⟨rfl, _, _, rfl, rfl, fun c hc => ?_, fun j hj => ?_⟩
    · funext j; simp [zup_at, hc]
    · rcases (show j = 0 ∨ j = 1 ∨ j = 2 ∨ j = 3 ∨ j = 4 ∨ j = 5 ∨ j = 6 ∨ j = 7 by omega) with rfl | rfl | rfl | rfl | rfl | rfl | rfl | rfl <;> simp [zup_at]
  · show zH _ _ (5, [some (.inr (.inr (some 90))), some (.inl r), some (.inl n), none], [.inl 0], (zs h hl)) _
    exact absurd hrow b_2
set_option maxRecDepth 100000 in
set_option maxHeartbeats 4000000 in
theorem p_bRenew2 {d : Nat} {h hl : Nat → Nat → Int} {r n : Int} (hr : zr r) (hR : -1 ≤ h 97 1 ∧ h 97 1 ≤ 4) (hrow : zHasRow h 97 r) : zQ (d + 2) 7 [.inr (.inr (some 97)), .inl r, .inl n] (zs h hl) (fun ρ σ' => ρ = none ∧ ∃ g gl : Nat → Nat → Int, σ' = zs g gl ∧ g = zup h 98 (Int.toNat r) n ∧ (∀ c : Nat, c ≠ 100 + Int.toNat r → gl c = hl c) ∧ ∀ j : Nat, j < 8 → gl (100 + Int.toNat r) j = 0) := by
  refine zQ_of (Nat.le_of_ble_eq_true rfl) ?_
  show zH (d + 1) 7 (0, [some (.inr (.inr (some 97))), some (.inl r), some (.inl n), none], [], (zs h hl)) _
  refine zH_go 2 (c' := (2, [some (.inr (.inr (some 97))), some (.inl r), some (.inl n), none], [.inl r, .inr (.inr (some 97))], (zs h hl))) rfl ?_
  refine zH_call (M' := 2) (as := [.inr (.inr (some 97)), .inl r]) (T := []) rfl (p_bRow2 hr hR) (fun ρ σ' p_1 => ?_)
  rcases p_1 with ⟨rfl, b_2, rfl⟩ | ⟨rfl, b_2, rfl⟩
  · show zH _ _ (5, [some (.inr (.inr (some 97))), some (.inl r), some (.inl n), none], [.inl 1], (zs h hl)) _
    have hrx := b_2.1; have hry := b_2.2.1; have hrz := b_2.2.2
    refine zH_bt (x := 1) (y := 0) (k := .ne) (c1 := (9, [some (.inr (.inr (some 97))), some (.inl r), some (.inl n), none], [], (zs h hl))) (c2 := (8, [some (.inr (.inr (some 97))), some (.inl r), some (.inl n), none], [], (zs h hl))) rfl ⟨by decide, by decide⟩ ⟨by decide, by decide⟩ (by show ¬ 1 = 0; decide) ?_
    refine zH_go 4 (c' := (15, [some (.inr (.inr (some 97))), some (.inl r), some (.inl n), none], [.inl n, .inl r, .inr (.inr (some 98))], (zs h hl))) rfl ?_
    refine zH_np (P := 0 ≤ r ∧ r < ((4 : Nat) : Int)) (c' := (16, [some (.inr (.inr (some 97))), some (.inl r), some (.inl n), none], [], (zs (zup h 98 (Int.toNat r) n) hl))) rfl ⟨by omega, by omega⟩ ?_
    refine zH_go 4 (c' := (21, [some (.inr (.inr (some 97))), some (.inl r), some (.inl n), some (.inl 0)], [.inl 8, .inl 0], (zs (zup h 98 (Int.toNat r) n) hl))) rfl ?_
    refine zH_bf (x := 0) (y := 8) (k := .ge) (c1 := (39, [some (.inr (.inr (some 97))), some (.inl r), some (.inl n), some (.inl 0)], [], (zs (zup h 98 (Int.toNat r) n) hl))) (c2 := (24, [some (.inr (.inr (some 97))), some (.inl r), some (.inl n), some (.inl 0)], [], (zs (zup h 98 (Int.toNat r) n) hl))) rfl ⟨by decide, by decide⟩ ⟨by decide, by decide⟩ (by show ¬ (¬ 0 < 8); decide) ?_
    refine zH_go 3 (c' := (29, [some (.inr (.inr (some 97))), some (.inl r), some (.inl n), some (.inl 0)], [.inl r, .inr (.inr (some 99))], (zs (zup h 98 (Int.toNat r) n) hl))) rfl ?_
    refine zH_aal (A := 99) (n := 4) (b := 100 + (Int.toNat r)) rfl rfl (by omega) (by omega) (zhr_99 (by omega)) ?_
    show zH _ _ (30, [some (.inr (.inr (some 97))), some (.inl r), some (.inl n), some (.inl 0)], [.inr (.inr (some (100 + (Int.toNat r))))], (zs (zup h 98 (Int.toNat r) n) hl)) _
    refine zH_go 2 (c' := (32, [some (.inr (.inr (some 97))), some (.inl r), some (.inl n), some (.inl 0)], [.inr (.inl 0), .inl 0, .inr (.inr (some (100 + (Int.toNat r))))], (zs (zup h 98 (Int.toNat r) n) hl))) rfl ?_
    refine zH_las rfl (n := 8) (zsh_99 (by omega)) (by omega) (by omega) ?_
    show zH _ _ (33, [some (.inr (.inr (some 97))), some (.inl r), some (.inl n), some (.inl 0)], [], (zs (zup h 98 (Int.toNat r) n) (zup hl (100 + (Int.toNat r)) 0 0))) _
    refine zH_go 4 (c' := (21, [some (.inr (.inr (some 97))), some (.inl r), some (.inl n), some (.inl 1)], [.inl 8, .inl 1], (zs (zup h 98 (Int.toNat r) n) (zup hl (100 + (Int.toNat r)) 0 0)))) rfl ?_
    refine zH_bf (x := 1) (y := 8) (k := .ge) (c1 := (39, [some (.inr (.inr (some 97))), some (.inl r), some (.inl n), some (.inl 1)], [], (zs (zup h 98 (Int.toNat r) n) (zup hl (100 + (Int.toNat r)) 0 0)))) (c2 := (24, [some (.inr (.inr (some 97))), some (.inl r), some (.inl n), some (.inl 1)], [], (zs (zup h 98 (Int.toNat r) n) (zup hl (100 + (Int.toNat r)) 0 0)))) rfl ⟨by decide, by decide⟩ ⟨by decide, by decide⟩ (by show ¬ (¬ 1 < 8); decide) ?_
    refine zH_go 3 (c' := (29, [some (.inr (.inr (some 97))), some (.inl r), some (.inl n), some (.inl 1)], [.inl r, .inr (.inr (some 99))], (zs (zup h 98 (Int.toNat r) n) (zup hl (100 + (Int.toNat r)) 0 0)))) rfl ?_
    refine zH_aal (A := 99) (n := 4) (b := 100 + (Int.toNat r)) rfl rfl (by omega) (by omega) (zhr_99 (by omega)) ?_
    show zH _ _ (30, [some (.inr (.inr (some 97))), some (.inl r), some (.inl n), some (.inl 1)], [.inr (.inr (some (100 + (Int.toNat r))))], (zs (zup h 98 (Int.toNat r) n) (zup hl (100 + (Int.toNat r)) 0 0))) _
    refine zH_go 2 (c' := (32, [some (.inr (.inr (some 97))), some (.inl r), some (.inl n), some (.inl 1)], [.inr (.inl 0), .inl 1, .inr (.inr (some (100 + (Int.toNat r))))], (zs (zup h 98 (Int.toNat r) n) (zup hl (100 + (Int.toNat r)) 0 0)))) rfl ?_
    refine zH_las rfl (n := 8) (zsh_99 (by omega)) (by omega) (by omega) ?_
    show zH _ _ (33, [some (.inr (.inr (some 97))), some (.inl r), some (.inl n), some (.inl 1)], [], (zs (zup h 98 (Int.toNat r) n) (zup (zup hl (100 + (Int.toNat r)) 0 0) (100 + (Int.toNat r)) 1 0))) _
    refine zH_go 4 (c' := (21, [some (.inr (.inr (some 97))), some (.inl r), some (.inl n), some (.inl 2)], [.inl 8, .inl 2], (zs (zup h 98 (Int.toNat r) n) (zup (zup hl (100 + (Int.toNat r)) 0 0) (100 + (Int.toNat r)) 1 0)))) rfl ?_
    refine zH_bf (x := 2) (y := 8) (k := .ge) (c1 := (39, [some (.inr (.inr (some 97))), some (.inl r), some (.inl n), some (.inl 2)], [], (zs (zup h 98 (Int.toNat r) n) (zup (zup hl (100 + (Int.toNat r)) 0 0) (100 + (Int.toNat r)) 1 0)))) (c2 := (24, [some (.inr (.inr (some 97))), some (.inl r), some (.inl n), some (.inl 2)], [], (zs (zup h 98 (Int.toNat r) n) (zup (zup hl (100 + (Int.toNat r)) 0 0) (100 + (Int.toNat r)) 1 0)))) rfl ⟨by decide, by decide⟩ ⟨by decide, by decide⟩ (by show ¬ (¬ 2 < 8); decide) ?_
    refine zH_go 3 (c' := (29, [some (.inr (.inr (some 97))), some (.inl r), some (.inl n), some (.inl 2)], [.inl r, .inr (.inr (some 99))], (zs (zup h 98 (Int.toNat r) n) (zup (zup hl (100 + (Int.toNat r)) 0 0) (100 + (Int.toNat r)) 1 0)))) rfl ?_
    refine zH_aal (A := 99) (n := 4) (b := 100 + (Int.toNat r)) rfl rfl (by omega) (by omega) (zhr_99 (by omega)) ?_
    show zH _ _ (30, [some (.inr (.inr (some 97))), some (.inl r), some (.inl n), some (.inl 2)], [.inr (.inr (some (100 + (Int.toNat r))))], (zs (zup h 98 (Int.toNat r) n) (zup (zup hl (100 + (Int.toNat r)) 0 0) (100 + (Int.toNat r)) 1 0))) _
    refine zH_go 2 (c' := (32, [some (.inr (.inr (some 97))), some (.inl r), some (.inl n), some (.inl 2)], [.inr (.inl 0), .inl 2, .inr (.inr (some (100 + (Int.toNat r))))], (zs (zup h 98 (Int.toNat r) n) (zup (zup hl (100 + (Int.toNat r)) 0 0) (100 + (Int.toNat r)) 1 0)))) rfl ?_
    refine zH_las rfl (n := 8) (zsh_99 (by omega)) (by omega) (by omega) ?_
    show zH _ _ (33, [some (.inr (.inr (some 97))), some (.inl r), some (.inl n), some (.inl 2)], [], (zs (zup h 98 (Int.toNat r) n) (zup (zup (zup hl (100 + (Int.toNat r)) 0 0) (100 + (Int.toNat r)) 1 0) (100 + (Int.toNat r)) 2 0))) _
    refine zH_go 4 (c' := (21, [some (.inr (.inr (some 97))), some (.inl r), some (.inl n), some (.inl 3)], [.inl 8, .inl 3], (zs (zup h 98 (Int.toNat r) n) (zup (zup (zup hl (100 + (Int.toNat r)) 0 0) (100 + (Int.toNat r)) 1 0) (100 + (Int.toNat r)) 2 0)))) rfl ?_
    refine zH_bf (x := 3) (y := 8) (k := .ge) (c1 := (39, [some (.inr (.inr (some 97))), some (.inl r), some (.inl n), some (.inl 3)], [], (zs (zup h 98 (Int.toNat r) n) (zup (zup (zup hl (100 + (Int.toNat r)) 0 0) (100 + (Int.toNat r)) 1 0) (100 + (Int.toNat r)) 2 0)))) (c2 := (24, [some (.inr (.inr (some 97))), some (.inl r), some (.inl n), some (.inl 3)], [], (zs (zup h 98 (Int.toNat r) n) (zup (zup (zup hl (100 + (Int.toNat r)) 0 0) (100 + (Int.toNat r)) 1 0) (100 + (Int.toNat r)) 2 0)))) rfl ⟨by decide, by decide⟩ ⟨by decide, by decide⟩ (by show ¬ (¬ 3 < 8); decide) ?_
    refine zH_go 3 (c' := (29, [some (.inr (.inr (some 97))), some (.inl r), some (.inl n), some (.inl 3)], [.inl r, .inr (.inr (some 99))], (zs (zup h 98 (Int.toNat r) n) (zup (zup (zup hl (100 + (Int.toNat r)) 0 0) (100 + (Int.toNat r)) 1 0) (100 + (Int.toNat r)) 2 0)))) rfl ?_
    refine zH_aal (A := 99) (n := 4) (b := 100 + (Int.toNat r)) rfl rfl (by omega) (by omega) (zhr_99 (by omega)) ?_
    show zH _ _ (30, [some (.inr (.inr (some 97))), some (.inl r), some (.inl n), some (.inl 3)], [.inr (.inr (some (100 + (Int.toNat r))))], (zs (zup h 98 (Int.toNat r) n) (zup (zup (zup hl (100 + (Int.toNat r)) 0 0) (100 + (Int.toNat r)) 1 0) (100 + (Int.toNat r)) 2 0))) _
    refine zH_go 2 (c' := (32, [some (.inr (.inr (some 97))), some (.inl r), some (.inl n), some (.inl 3)], [.inr (.inl 0), .inl 3, .inr (.inr (some (100 + (Int.toNat r))))], (zs (zup h 98 (Int.toNat r) n) (zup (zup (zup hl (100 + (Int.toNat r)) 0 0) (100 + (Int.toNat r)) 1 0) (100 + (Int.toNat r)) 2 0)))) rfl ?_
    refine zH_las rfl (n := 8) (zsh_99 (by omega)) (by omega) (by omega) ?_
    show zH _ _ (33, [some (.inr (.inr (some 97))), some (.inl r), some (.inl n), some (.inl 3)], [], (zs (zup h 98 (Int.toNat r) n) (zup (zup (zup (zup hl (100 + (Int.toNat r)) 0 0) (100 + (Int.toNat r)) 1 0) (100 + (Int.toNat r)) 2 0) (100 + (Int.toNat r)) 3 0))) _
    refine zH_go 4 (c' := (21, [some (.inr (.inr (some 97))), some (.inl r), some (.inl n), some (.inl 4)], [.inl 8, .inl 4], (zs (zup h 98 (Int.toNat r) n) (zup (zup (zup (zup hl (100 + (Int.toNat r)) 0 0) (100 + (Int.toNat r)) 1 0) (100 + (Int.toNat r)) 2 0) (100 + (Int.toNat r)) 3 0)))) rfl ?_
    refine zH_bf (x := 4) (y := 8) (k := .ge) (c1 := (39, [some (.inr (.inr (some 97))), some (.inl r), some (.inl n), some (.inl 4)], [], (zs (zup h 98 (Int.toNat r) n) (zup (zup (zup (zup hl (100 + (Int.toNat r)) 0 0) (100 + (Int.toNat r)) 1 0) (100 + (Int.toNat r)) 2 0) (100 + (Int.toNat r)) 3 0)))) (c2 := (24, [some (.inr (.inr (some 97))), some (.inl r), some (.inl n), some (.inl 4)], [], (zs (zup h 98 (Int.toNat r) n) (zup (zup (zup (zup hl (100 + (Int.toNat r)) 0 0) (100 + (Int.toNat r)) 1 0) (100 + (Int.toNat r)) 2 0) (100 + (Int.toNat r)) 3 0)))) rfl ⟨by decide, by decide⟩ ⟨by decide, by decide⟩ (by show ¬ (¬ 4 < 8); decide) ?_
    refine zH_go 3 (c' := (29, [some (.inr (.inr (some 97))), some (.inl r), some (.inl n), some (.inl 4)], [.inl r, .inr (.inr (some 99))], (zs (zup h 98 (Int.toNat r) n) (zup (zup (zup (zup hl (100 + (Int.toNat r)) 0 0) (100 + (Int.toNat r)) 1 0) (100 + (Int.toNat r)) 2 0) (100 + (Int.toNat r)) 3 0)))) rfl ?_
    refine zH_aal (A := 99) (n := 4) (b := 100 + (Int.toNat r)) rfl rfl (by omega) (by omega) (zhr_99 (by omega)) ?_
    show zH _ _ (30, [some (.inr (.inr (some 97))), some (.inl r), some (.inl n), some (.inl 4)], [.inr (.inr (some (100 + (Int.toNat r))))], (zs (zup h 98 (Int.toNat r) n) (zup (zup (zup (zup hl (100 + (Int.toNat r)) 0 0) (100 + (Int.toNat r)) 1 0) (100 + (Int.toNat r)) 2 0) (100 + (Int.toNat r)) 3 0))) _
    refine zH_go 2 (c' := (32, [some (.inr (.inr (some 97))), some (.inl r), some (.inl n), some (.inl 4)], [.inr (.inl 0), .inl 4, .inr (.inr (some (100 + (Int.toNat r))))], (zs (zup h 98 (Int.toNat r) n) (zup (zup (zup (zup hl (100 + (Int.toNat r)) 0 0) (100 + (Int.toNat r)) 1 0) (100 + (Int.toNat r)) 2 0) (100 + (Int.toNat r)) 3 0)))) rfl ?_
    refine zH_las rfl (n := 8) (zsh_99 (by omega)) (by omega) (by omega) ?_
    show zH _ _ (33, [some (.inr (.inr (some 97))), some (.inl r), some (.inl n), some (.inl 4)], [], (zs (zup h 98 (Int.toNat r) n) (zup (zup (zup (zup (zup hl (100 + (Int.toNat r)) 0 0) (100 + (Int.toNat r)) 1 0) (100 + (Int.toNat r)) 2 0) (100 + (Int.toNat r)) 3 0) (100 + (Int.toNat r)) 4 0))) _
    refine zH_go 4 (c' := (21, [some (.inr (.inr (some 97))), some (.inl r), some (.inl n), some (.inl 5)], [.inl 8, .inl 5], (zs (zup h 98 (Int.toNat r) n) (zup (zup (zup (zup (zup hl (100 + (Int.toNat r)) 0 0) (100 + (Int.toNat r)) 1 0) (100 + (Int.toNat r)) 2 0) (100 + (Int.toNat r)) 3 0) (100 + (Int.toNat r)) 4 0)))) rfl ?_
    refine zH_bf (x := 5) (y := 8) (k := .ge) (c1 := (39, [some (.inr (.inr (some 97))), some (.inl r), some (.inl n), some (.inl 5)], [], (zs (zup h 98 (Int.toNat r) n) (zup (zup (zup (zup (zup hl (100 + (Int.toNat r)) 0 0) (100 + (Int.toNat r)) 1 0) (100 + (Int.toNat r)) 2 0) (100 + (Int.toNat r)) 3 0) (100 + (Int.toNat r)) 4 0)))) (c2 := (24, [some (.inr (.inr (some 97))), some (.inl r), some (.inl n), some (.inl 5)], [], (zs (zup h 98 (Int.toNat r) n) (zup (zup (zup (zup (zup hl (100 + (Int.toNat r)) 0 0) (100 + (Int.toNat r)) 1 0) (100 + (Int.toNat r)) 2 0) (100 + (Int.toNat r)) 3 0) (100 + (Int.toNat r)) 4 0)))) rfl ⟨by decide, by decide⟩ ⟨by decide, by decide⟩ (by show ¬ (¬ 5 < 8); decide) ?_
    refine zH_go 3 (c' := (29, [some (.inr (.inr (some 97))), some (.inl r), some (.inl n), some (.inl 5)], [.inl r, .inr (.inr (some 99))], (zs (zup h 98 (Int.toNat r) n) (zup (zup (zup (zup (zup hl (100 + (Int.toNat r)) 0 0) (100 + (Int.toNat r)) 1 0) (100 + (Int.toNat r)) 2 0) (100 + (Int.toNat r)) 3 0) (100 + (Int.toNat r)) 4 0)))) rfl ?_
    refine zH_aal (A := 99) (n := 4) (b := 100 + (Int.toNat r)) rfl rfl (by omega) (by omega) (zhr_99 (by omega)) ?_
    show zH _ _ (30, [some (.inr (.inr (some 97))), some (.inl r), some (.inl n), some (.inl 5)], [.inr (.inr (some (100 + (Int.toNat r))))], (zs (zup h 98 (Int.toNat r) n) (zup (zup (zup (zup (zup hl (100 + (Int.toNat r)) 0 0) (100 + (Int.toNat r)) 1 0) (100 + (Int.toNat r)) 2 0) (100 + (Int.toNat r)) 3 0) (100 + (Int.toNat r)) 4 0))) _
    refine zH_go 2 (c' := (32, [some (.inr (.inr (some 97))), some (.inl r), some (.inl n), some (.inl 5)], [.inr (.inl 0), .inl 5, .inr (.inr (some (100 + (Int.toNat r))))], (zs (zup h 98 (Int.toNat r) n) (zup (zup (zup (zup (zup hl (100 + (Int.toNat r)) 0 0) (100 + (Int.toNat r)) 1 0) (100 + (Int.toNat r)) 2 0) (100 + (Int.toNat r)) 3 0) (100 + (Int.toNat r)) 4 0)))) rfl ?_
    refine zH_las rfl (n := 8) (zsh_99 (by omega)) (by omega) (by omega) ?_
    show zH _ _ (33, [some (.inr (.inr (some 97))), some (.inl r), some (.inl n), some (.inl 5)], [], (zs (zup h 98 (Int.toNat r) n) (zup (zup (zup (zup (zup (zup hl (100 + (Int.toNat r)) 0 0) (100 + (Int.toNat r)) 1 0) (100 + (Int.toNat r)) 2 0) (100 + (Int.toNat r)) 3 0) (100 + (Int.toNat r)) 4 0) (100 + (Int.toNat r)) 5 0))) _
    refine zH_go 4 (c' := (21, [some (.inr (.inr (some 97))), some (.inl r), some (.inl n), some (.inl 6)], [.inl 8, .inl 6], (zs (zup h 98 (Int.toNat r) n) (zup (zup (zup (zup (zup (zup hl (100 + (Int.toNat r)) 0 0) (100 + (Int.toNat r)) 1 0) (100 + (Int.toNat r)) 2 0) (100 + (Int.toNat r)) 3 0) (100 + (Int.toNat r)) 4 0) (100 + (Int.toNat r)) 5 0)))) rfl ?_
    refine zH_bf (x := 6) (y := 8) (k := .ge) (c1 := (39, [some (.inr (.inr (some 97))), some (.inl r), some (.inl n), some (.inl 6)], [], (zs (zup h 98 (Int.toNat r) n) (zup (zup (zup (zup (zup (zup hl (100 + (Int.toNat r)) 0 0) (100 + (Int.toNat r)) 1 0) (100 + (Int.toNat r)) 2 0) (100 + (Int.toNat r)) 3 0) (100 + (Int.toNat r)) 4 0) (100 + (Int.toNat r)) 5 0)))) (c2 := (24, [some (.inr (.inr (some 97))), some (.inl r), some (.inl n), some (.inl 6)], [], (zs (zup h 98 (Int.toNat r) n) (zup (zup (zup (zup (zup (zup hl (100 + (Int.toNat r)) 0 0) (100 + (Int.toNat r)) 1 0) (100 + (Int.toNat r)) 2 0) (100 + (Int.toNat r)) 3 0) (100 + (Int.toNat r)) 4 0) (100 + (Int.toNat r)) 5 0)))) rfl ⟨by decide, by decide⟩ ⟨by decide, by decide⟩ (by show ¬ (¬ 6 < 8); decide) ?_
    refine zH_go 3 (c' := (29, [some (.inr (.inr (some 97))), some (.inl r), some (.inl n), some (.inl 6)], [.inl r, .inr (.inr (some 99))], (zs (zup h 98 (Int.toNat r) n) (zup (zup (zup (zup (zup (zup hl (100 + (Int.toNat r)) 0 0) (100 + (Int.toNat r)) 1 0) (100 + (Int.toNat r)) 2 0) (100 + (Int.toNat r)) 3 0) (100 + (Int.toNat r)) 4 0) (100 + (Int.toNat r)) 5 0)))) rfl ?_
    refine zH_aal (A := 99) (n := 4) (b := 100 + (Int.toNat r)) rfl rfl (by omega) (by omega) (zhr_99 (by omega)) ?_
    show zH _ _ (30, [some (.inr (.inr (some 97))), some (.inl r), some (.inl n), some (.inl 6)], [.inr (.inr (some (100 + (Int.toNat r))))], (zs (zup h 98 (Int.toNat r) n) (zup (zup (zup (zup (zup (zup hl (100 + (Int.toNat r)) 0 0) (100 + (Int.toNat r)) 1 0) (100 + (Int.toNat r)) 2 0) (100 + (Int.toNat r)) 3 0) (100 + (Int.toNat r)) 4 0) (100 + (Int.toNat r)) 5 0))) _
    refine zH_go 2 (c' := (32, [some (.inr (.inr (some 97))), some (.inl r), some (.inl n), some (.inl 6)], [.inr (.inl 0), .inl 6, .inr (.inr (some (100 + (Int.toNat r))))], (zs (zup h 98 (Int.toNat r) n) (zup (zup (zup (zup (zup (zup hl (100 + (Int.toNat r)) 0 0) (100 + (Int.toNat r)) 1 0) (100 + (Int.toNat r)) 2 0) (100 + (Int.toNat r)) 3 0) (100 + (Int.toNat r)) 4 0) (100 + (Int.toNat r)) 5 0)))) rfl ?_
    refine zH_las rfl (n := 8) (zsh_99 (by omega)) (by omega) (by omega) ?_
    show zH _ _ (33, [some (.inr (.inr (some 97))), some (.inl r), some (.inl n), some (.inl 6)], [], (zs (zup h 98 (Int.toNat r) n) (zup (zup (zup (zup (zup (zup (zup hl (100 + (Int.toNat r)) 0 0) (100 + (Int.toNat r)) 1 0) (100 + (Int.toNat r)) 2 0) (100 + (Int.toNat r)) 3 0) (100 + (Int.toNat r)) 4 0) (100 + (Int.toNat r)) 5 0) (100 + (Int.toNat r)) 6 0))) _
    refine zH_go 4 (c' := (21, [some (.inr (.inr (some 97))), some (.inl r), some (.inl n), some (.inl 7)], [.inl 8, .inl 7], (zs (zup h 98 (Int.toNat r) n) (zup (zup (zup (zup (zup (zup (zup hl (100 + (Int.toNat r)) 0 0) (100 + (Int.toNat r)) 1 0) (100 + (Int.toNat r)) 2 0) (100 + (Int.toNat r)) 3 0) (100 + (Int.toNat r)) 4 0) (100 + (Int.toNat r)) 5 0) (100 + (Int.toNat r)) 6 0)))) rfl ?_
    refine zH_bf (x := 7) (y := 8) (k := .ge) (c1 := (39, [some (.inr (.inr (some 97))), some (.inl r), some (.inl n), some (.inl 7)], [], (zs (zup h 98 (Int.toNat r) n) (zup (zup (zup (zup (zup (zup (zup hl (100 + (Int.toNat r)) 0 0) (100 + (Int.toNat r)) 1 0) (100 + (Int.toNat r)) 2 0) (100 + (Int.toNat r)) 3 0) (100 + (Int.toNat r)) 4 0) (100 + (Int.toNat r)) 5 0) (100 + (Int.toNat r)) 6 0)))) (c2 := (24, [some (.inr (.inr (some 97))), some (.inl r), some (.inl n), some (.inl 7)], [], (zs (zup h 98 (Int.toNat r) n) (zup (zup (zup (zup (zup (zup (zup hl (100 + (Int.toNat r)) 0 0) (100 + (Int.toNat r)) 1 0) (100 + (Int.toNat r)) 2 0) (100 + (Int.toNat r)) 3 0) (100 + (Int.toNat r)) 4 0) (100 + (Int.toNat r)) 5 0) (100 + (Int.toNat r)) 6 0)))) rfl ⟨by decide, by decide⟩ ⟨by decide, by decide⟩ (by show ¬ (¬ 7 < 8); decide) ?_
    refine zH_go 3 (c' := (29, [some (.inr (.inr (some 97))), some (.inl r), some (.inl n), some (.inl 7)], [.inl r, .inr (.inr (some 99))], (zs (zup h 98 (Int.toNat r) n) (zup (zup (zup (zup (zup (zup (zup hl (100 + (Int.toNat r)) 0 0) (100 + (Int.toNat r)) 1 0) (100 + (Int.toNat r)) 2 0) (100 + (Int.toNat r)) 3 0) (100 + (Int.toNat r)) 4 0) (100 + (Int.toNat r)) 5 0) (100 + (Int.toNat r)) 6 0)))) rfl ?_
    refine zH_aal (A := 99) (n := 4) (b := 100 + (Int.toNat r)) rfl rfl (by omega) (by omega) (zhr_99 (by omega)) ?_
    show zH _ _ (30, [some (.inr (.inr (some 97))), some (.inl r), some (.inl n), some (.inl 7)], [.inr (.inr (some (100 + (Int.toNat r))))], (zs (zup h 98 (Int.toNat r) n) (zup (zup (zup (zup (zup (zup (zup hl (100 + (Int.toNat r)) 0 0) (100 + (Int.toNat r)) 1 0) (100 + (Int.toNat r)) 2 0) (100 + (Int.toNat r)) 3 0) (100 + (Int.toNat r)) 4 0) (100 + (Int.toNat r)) 5 0) (100 + (Int.toNat r)) 6 0))) _
    refine zH_go 2 (c' := (32, [some (.inr (.inr (some 97))), some (.inl r), some (.inl n), some (.inl 7)], [.inr (.inl 0), .inl 7, .inr (.inr (some (100 + (Int.toNat r))))], (zs (zup h 98 (Int.toNat r) n) (zup (zup (zup (zup (zup (zup (zup hl (100 + (Int.toNat r)) 0 0) (100 + (Int.toNat r)) 1 0) (100 + (Int.toNat r)) 2 0) (100 + (Int.toNat r)) 3 0) (100 + (Int.toNat r)) 4 0) (100 + (Int.toNat r)) 5 0) (100 + (Int.toNat r)) 6 0)))) rfl ?_
    refine zH_las rfl (n := 8) (zsh_99 (by omega)) (by omega) (by omega) ?_
    show zH _ _ (33, [some (.inr (.inr (some 97))), some (.inl r), some (.inl n), some (.inl 7)], [], (zs (zup h 98 (Int.toNat r) n) (zup (zup (zup (zup (zup (zup (zup (zup hl (100 + (Int.toNat r)) 0 0) (100 + (Int.toNat r)) 1 0) (100 + (Int.toNat r)) 2 0) (100 + (Int.toNat r)) 3 0) (100 + (Int.toNat r)) 4 0) (100 + (Int.toNat r)) 5 0) (100 + (Int.toNat r)) 6 0) (100 + (Int.toNat r)) 7 0))) _
    refine zH_go 4 (c' := (21, [some (.inr (.inr (some 97))), some (.inl r), some (.inl n), some (.inl 8)], [.inl 8, .inl 8], (zs (zup h 98 (Int.toNat r) n) (zup (zup (zup (zup (zup (zup (zup (zup hl (100 + (Int.toNat r)) 0 0) (100 + (Int.toNat r)) 1 0) (100 + (Int.toNat r)) 2 0) (100 + (Int.toNat r)) 3 0) (100 + (Int.toNat r)) 4 0) (100 + (Int.toNat r)) 5 0) (100 + (Int.toNat r)) 6 0) (100 + (Int.toNat r)) 7 0)))) rfl ?_
    refine zH_bt (x := 8) (y := 8) (k := .ge) (c1 := (39, [some (.inr (.inr (some 97))), some (.inl r), some (.inl n), some (.inl 8)], [], (zs (zup h 98 (Int.toNat r) n) (zup (zup (zup (zup (zup (zup (zup (zup hl (100 + (Int.toNat r)) 0 0) (100 + (Int.toNat r)) 1 0) (100 + (Int.toNat r)) 2 0) (100 + (Int.toNat r)) 3 0) (100 + (Int.toNat r)) 4 0) (100 + (Int.toNat r)) 5 0) (100 + (Int.toNat r)) 6 0) (100 + (Int.toNat r)) 7 0)))) (c2 := (24, [some (.inr (.inr (some 97))), some (.inl r), some (.inl n), some (.inl 8)], [], (zs (zup h 98 (Int.toNat r) n) (zup (zup (zup (zup (zup (zup (zup (zup hl (100 + (Int.toNat r)) 0 0) (100 + (Int.toNat r)) 1 0) (100 + (Int.toNat r)) 2 0) (100 + (Int.toNat r)) 3 0) (100 + (Int.toNat r)) 4 0) (100 + (Int.toNat r)) 5 0) (100 + (Int.toNat r)) 6 0) (100 + (Int.toNat r)) 7 0)))) rfl ⟨by decide, by decide⟩ ⟨by decide, by decide⟩ (by show ¬ 8 < 8; decide) ?_
    refine zH_ret (v := none) rfl (fun q => absurd q (by decide)) ?_
    refine ⟨rfl, _, _, rfl, rfl, fun c hc => ?_, fun j hj => ?_⟩
    · funext j; simp [zup_at, hc]
    · rcases (show j = 0 ∨ j = 1 ∨ j = 2 ∨ j = 3 ∨ j = 4 ∨ j = 5 ∨ j = 6 ∨ j = 7 by omega) with rfl | rfl | rfl | rfl | rfl | rfl | rfl | rfl <;> simp [zup_at]
  · show zH _ _ (5, [some (.inr (.inr (some 97))), some (.inl r), some (.inl n), none], [.inl 0], (zs h hl)) _
    exact absurd hrow b_2
