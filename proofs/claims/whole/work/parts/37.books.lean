/-! BOOKS. -/
def zHasRow (h : Nat → Nat → Int) (B : Nat) (r : Int) : Prop := 0 ≤ r ∧ r < h B 1 ∧ r < 4
/-- how many numbers a ROW has; -1: MISSING, or no such ROW -/
def zSzR (h : Nat → Nat → Int) (B Z : Nat) (r x : Int) : Prop := (zHasRow h B r ∧ x = h Z r.toNat) ∨ (¬ zHasRow h B r ∧ x = -1)
/-- the finding of a ROW -/
def zWhy (h : Nat → Nat → Int) (B Z : Nat) (r x : Int) : Prop := (h B 1 < 0 ∧ x = -11) ∨ (0 ≤ h B 1 ∧ ¬ zHasRow h B r ∧ x = -12) ∨ (0 ≤ h B 1 ∧ zHasRow h B r ∧ h Z r.toNat < 0 ∧ x = -11) ∨ (0 ≤ h B 1 ∧ zHasRow h B r ∧ 0 ≤ h Z r.toNat ∧ x = 0)
def zHasNum (h : Nat → Nat → Int) (B Z : Nat) (r i : Int) : Prop := zHasRow h B r ∧ 0 ≤ i ∧ i < h Z r.toNat ∧ i < 8
set_option maxRecDepth 100000 in
set_option maxHeartbeats 4000000 in
theorem p_bThere0 {d : Nat} {h hl : Nat → Nat → Int} (hR : -1 ≤ h 83 1 ∧ h 83 1 ≤ 4) : zQ (d + 1) 1 [.inr (.inr (some 83))] (zs h hl) (zB (0 ≤ h 83 1) (zs h hl)) := by
  refine zQ_of (Nat.le_of_ble_eq_true rfl) ?_
  show zH d 1 (0, [some (.inr (.inr (some 83)))], [], (zs h hl)) _
  refine zH_go 2 (c' := (4, [some (.inr (.inr (some 83)))], [.inl (h 83 1)], (zs h hl))) rfl ?_
  refine zH_br (x := (h 83 1)) (y := 0) (k := .lt) (c1 := (11, [some (.inr (.inr (some 83)))], [], (zs h hl))) (c2 := (7, [some (.inr (.inr (some 83)))], [], (zs h hl))) rfl (by first | assumption | (unfold zr; omega)) ⟨by decide, by decide⟩ (fun (b_1 : (h 83 1) < 0) => ?_) (fun (b_1 : ¬ ((h 83 1) < 0)) => ?_)
  · refine zH_go 1 (c' := (12, [some (.inr (.inr (some 83)))], [.inl 0], (zs h hl))) rfl ?_
    refine zH_ret (v := some (.inl 0)) rfl (fun _ => by first | exact Or.inl rfl | exact Or.inr rfl) ?_
    exact Or.inr ⟨rfl, by omega, rfl⟩
  · refine zH_go 2 (c' := (12, [some (.inr (.inr (some 83)))], [.inl 1], (zs h hl))) rfl ?_
    refine zH_ret (v := some (.inl 1)) rfl (fun _ => by first | exact Or.inl rfl | exact Or.inr rfl) ?_
    exact Or.inl ⟨rfl, by omega, rfl⟩
set_option maxRecDepth 100000 in
set_option maxHeartbeats 4000000 in
theorem p_bRow0 {d : Nat} {h hl : Nat → Nat → Int} {r : Int} (hr : zr r) (hR : -1 ≤ h 83 1 ∧ h 83 1 ≤ 4) : zQ (d + 1) 2 [.inr (.inr (some 83)), .inl r] (zs h hl) (zB (zHasRow h 83 r) (zs h hl)) := by
  refine zQ_of (Nat.le_of_ble_eq_true rfl) ?_
  show zH d 2 (0, [some (.inr (.inr (some 83))), some (.inl r)], [], (zs h hl)) _
  refine zH_go 1 (c' := (1, [some (.inr (.inr (some 83))), some (.inl r)], [.inl r], (zs h hl))) rfl ?_
  refine zH_br (x := r) (y := 0) (k := .lt) (c1 := (21, [some (.inr (.inr (some 83))), some (.inl r)], [], (zs h hl))) (c2 := (4, [some (.inr (.inr (some 83))), some (.inl r)], [], (zs h hl))) rfl (by first | assumption | (unfold zr; omega)) ⟨by decide, by decide⟩ (fun (b_1 : r < 0) => ?_) (fun (b_1 : ¬ (r < 0)) => ?_)
  · refine zH_go 1 (c' := (22, [some (.inr (.inr (some 83))), some (.inl r)], [.inl 0], (zs h hl))) rfl ?_
    refine zH_ret (v := some (.inl 0)) rfl (fun _ => by first | exact Or.inl rfl | exact Or.inr rfl) ?_
    exact Or.inr ⟨rfl, fun q => by have q1 := q.1; have q2 := q.2.1; have q3 := q.2.2; omega, rfl⟩
  · refine zH_go 3 (c' := (9, [some (.inr (.inr (some 83))), some (.inl r)], [.inl (h 83 1), .inl r], (zs h hl))) rfl ?_
    refine zH_br (x := r) (y := (h 83 1)) (k := .ge) (c1 := (21, [some (.inr (.inr (some 83))), some (.inl r)], [], (zs h hl))) (c2 := (12, [some (.inr (.inr (some 83))), some (.inl r)], [], (zs h hl))) rfl (by first | assumption | (unfold zr; omega)) (by first | assumption | (unfold zr; omega)) (fun (b_2 : ¬ r < (h 83 1)) => ?_) (fun (b_2 : ¬ (¬ r < (h 83 1))) => ?_)
    · refine zH_go 1 (c' := (22, [some (.inr (.inr (some 83))), some (.inl r)], [.inl 0], (zs h hl))) rfl ?_
      refine zH_ret (v := some (.inl 0)) rfl (fun _ => by first | exact Or.inl rfl | exact Or.inr rfl) ?_
      exact Or.inr ⟨rfl, fun q => by have q1 := q.1; have q2 := q.2.1; have q3 := q.2.2; omega, rfl⟩
    · refine zH_go 2 (c' := (14, [some (.inr (.inr (some 83))), some (.inl r)], [.inl 4, .inl r], (zs h hl))) rfl ?_
      refine zH_br (x := r) (y := 4) (k := .ge) (c1 := (21, [some (.inr (.inr (some 83))), some (.inl r)], [], (zs h hl))) (c2 := (17, [some (.inr (.inr (some 83))), some (.inl r)], [], (zs h hl))) rfl (by first | assumption | (unfold zr; omega)) ⟨by decide, by decide⟩ (fun (b_3 : ¬ r < 4) => ?_) (fun (b_3 : ¬ (¬ r < 4)) => ?_)
      · refine zH_go 1 (c' := (22, [some (.inr (.inr (some 83))), some (.inl r)], [.inl 0], (zs h hl))) rfl ?_
        refine zH_ret (v := some (.inl 0)) rfl (fun _ => by first | exact Or.inl rfl | exact Or.inr rfl) ?_
        exact Or.inr ⟨rfl, fun q => by have q1 := q.1; have q2 := q.2.1; have q3 := q.2.2; omega, rfl⟩
      · refine zH_go 2 (c' := (22, [some (.inr (.inr (some 83))), some (.inl r)], [.inl 1], (zs h hl))) rfl ?_
        refine zH_ret (v := some (.inl 1)) rfl (fun _ => by first | exact Or.inl rfl | exact Or.inr rfl) ?_
        exact Or.inl ⟨rfl, ⟨by omega, by omega, by omega⟩, rfl⟩
set_option maxRecDepth 100000 in
set_option maxHeartbeats 4000000 in
theorem p_bSize0 {d : Nat} {h hl : Nat → Nat → Int} {r : Int} (hr : zr r) (hR : -1 ≤ h 83 1 ∧ h 83 1 ≤ 4) (hZ : ∀ q : Nat, q < 4 → -1 ≤ h 84 q ∧ h 84 q ≤ 8) : zQ (d + 2) 4 [.inr (.inr (some 83)), .inl r] (zs h hl) (fun ρ σ' => ∃ x : Int, zSzR h 83 84 r x ∧ ρ = some (.inl x) ∧ σ' = zs h hl) := by
  refine zQ_of (Nat.le_of_ble_eq_true rfl) ?_
  show zH (d + 1) 4 (0, [some (.inr (.inr (some 83))), some (.inl r)], [], (zs h hl)) _
  refine zH_go 2 (c' := (2, [some (.inr (.inr (some 83))), some (.inl r)], [.inl r, .inr (.inr (some 83))], (zs h hl))) rfl ?_
  refine zH_call (M' := 2) (as := [.inr (.inr (some 83)), .inl r]) (T := []) rfl (p_bRow0 hr hR) (fun r σ' p_1 => ?_)
  rcases p_1 with ⟨rfl, b_2, rfl⟩ | ⟨rfl, b_2, rfl⟩
  · show zH _ _ (5, [some (.inr (.inr (some 83))), some (.inl r)], [.inl 1], (zs h hl)) _
    have b_2x := b_2.1; have b_2y := b_2.2.1; have b_2z := b_2.2.2
    refine zH_bf (x := 1) (y := 0) (k := .eq) (c1 := (17, [some (.inr (.inr (some 83))), some (.inl r)], [], (zs h hl))) (c2 := (8, [some (.inr (.inr (some 83))), some (.inl r)], [], (zs h hl))) rfl ⟨by decide, by decide⟩ ⟨by decide, by decide⟩ (by show ¬ (1 = 0); decide) ?_
    refine zH_go 3 (c' := (13, [some (.inr (.inr (some 83))), some (.inl r)], [.inl r, .inr (.inr (some 84))], (zs h hl))) rfl ?_
    refine zH_np (P := 0 ≤ r ∧ r < ((4 : Nat) : Int)) (c' := (14, [some (.inr (.inr (some 83))), some (.inl r)], [.inl (h 84 (Int.toNat r))], (zs h hl))) rfl ⟨by omega, by omega⟩ ?_
    refine zH_go 1 (c' := (18, [some (.inr (.inr (some 83))), some (.inl r)], [.inl (h 84 (Int.toNat r))], (zs h hl))) rfl ?_
    refine zH_ret (v := some (.inl (h 84 (Int.toNat r)))) rfl (fun q => absurd q (by decide)) ?_
    exact ⟨_, Or.inl ⟨by assumption, rfl⟩, rfl, rfl⟩
  · show zH _ _ (5, [some (.inr (.inr (some 83))), some (.inl r)], [.inl 0], (zs h hl)) _
    refine zH_bt (x := 0) (y := 0) (k := .eq) (c1 := (17, [some (.inr (.inr (some 83))), some (.inl r)], [], (zs h hl))) (c2 := (8, [some (.inr (.inr (some 83))), some (.inl r)], [], (zs h hl))) rfl ⟨by decide, by decide⟩ ⟨by decide, by decide⟩ (by show 0 = 0; decide) ?_
    refine zH_go 1 (c' := (18, [some (.inr (.inr (some 83))), some (.inl r)], [.inl (-1)], (zs h hl))) rfl ?_
    refine zH_ret (v := some (.inl (-1))) rfl (fun q => absurd q (by decide)) ?_
    exact ⟨_, Or.inr ⟨by assumption, rfl⟩, rfl, rfl⟩
set_option maxRecDepth 100000 in
set_option maxHeartbeats 4000000 in
theorem p_bWhy0 {d : Nat} {h hl : Nat → Nat → Int} {r : Int} (hr : zr r) (hR : -1 ≤ h 83 1 ∧ h 83 1 ≤ 4) (hZ : ∀ q : Nat, q < 4 → -1 ≤ h 84 q ∧ h 84 q ≤ 8) : zQ (d + 3) 5 [.inr (.inr (some 83)), .inl r] (zs h hl) (fun ρ σ' => ∃ x : Int, zWhy h 83 84 r x ∧ ρ = some (.inl x) ∧ σ' = zs h hl) := by
  refine zQ_of (Nat.le_of_ble_eq_true rfl) ?_
  show zH (d + 2) 5 (0, [some (.inr (.inr (some 83))), some (.inl r)], [], (zs h hl)) _
  refine zH_go 1 (c' := (1, [some (.inr (.inr (some 83))), some (.inl r)], [.inr (.inr (some 83))], (zs h hl))) rfl ?_
  refine zH_call (M' := 1) (as := [.inr (.inr (some 83))]) (T := []) rfl (p_bThere0 hR) (fun r σ' p_1 => ?_)
  rcases p_1 with ⟨rfl, b_2, rfl⟩ | ⟨rfl, b_2, rfl⟩
  · show zH _ _ (4, [some (.inr (.inr (some 83))), some (.inl r)], [.inl 1], (zs h hl)) _
    refine zH_bt (x := 1) (y := 0) (k := .ne) (c1 := (10, [some (.inr (.inr (some 83))), some (.inl r)], [], (zs h hl))) (c2 := (7, [some (.inr (.inr (some 83))), some (.inl r)], [], (zs h hl))) rfl ⟨by decide, by decide⟩ ⟨by decide, by decide⟩ (by show ¬ 1 = 0; decide) ?_
    refine zH_go 2 (c' := (12, [some (.inr (.inr (some 83))), some (.inl r)], [.inl r, .inr (.inr (some 83))], (zs h hl))) rfl ?_
    refine zH_call (M' := 2) (as := [.inr (.inr (some 83)), .inl r]) (T := []) rfl (p_bRow0 hr hR) (fun r σ' p_3 => ?_)
    rcases p_3 with ⟨rfl, b_4, rfl⟩ | ⟨rfl, b_4, rfl⟩
    · show zH _ _ (15, [some (.inr (.inr (some 83))), some (.inl r)], [.inl 1], (zs h hl)) _
      have b_4x := b_4.1; have b_4y := b_4.2.1; have b_4z := b_4.2.2
      refine zH_bt (x := 1) (y := 0) (k := .ne) (c1 := (21, [some (.inr (.inr (some 83))), some (.inl r)], [], (zs h hl))) (c2 := (18, [some (.inr (.inr (some 83))), some (.inl r)], [], (zs h hl))) rfl ⟨by decide, by decide⟩ ⟨by decide, by decide⟩ (by show ¬ 1 = 0; decide) ?_
      refine zH_go 2 (c' := (23, [some (.inr (.inr (some 83))), some (.inl r)], [.inl r, .inr (.inr (some 83))], (zs h hl))) rfl ?_
      refine zH_call (M' := 4) (as := [.inr (.inr (some 83)), .inl r]) (T := []) rfl (p_bSize0 hr hR hZ) (fun ρ σ' p_5 => ?_)
      obtain ⟨x, z_6, rfl, rfl⟩ := p_5
      have hx9 : -1 ≤ x ∧ x ≤ 8 := by
        rcases z_6 with ⟨q, rfl⟩ | ⟨q, rfl⟩
        · exact hZ _ (by have q1 := q.1; have q2 := q.2.2; omega)
        · omega
      show zH _ _ (26, [some (.inr (.inr (some 83))), some (.inl r)], [.inl x], (zs h hl)) _
      refine zH_br (x := x) (y := 0) (k := .ge) (c1 := (34, [some (.inr (.inr (some 83))), some (.inl r)], [], (zs h hl))) (c2 := (29, [some (.inr (.inr (some 83))), some (.inl r)], [], (zs h hl))) rfl (by first | assumption | (unfold zr; omega)) ⟨by decide, by decide⟩ (fun (b_7 : ¬ x < 0) => ?_) (fun (b_7 : ¬ (¬ x < 0)) => ?_)
      · refine zH_go 1 (c' := (35, [some (.inr (.inr (some 83))), some (.inl r)], [.inl 0], (zs h hl))) rfl ?_
        refine zH_ret (v := some (.inl 0)) rfl (fun q => absurd q (by decide)) ?_
        refine ⟨_, ?_, rfl, rfl⟩
        first
          | exact Or.inl ⟨by omega, rfl⟩
          | exact Or.inr (Or.inl ⟨by omega, by assumption, rfl⟩)
          | (rcases z_6 with ⟨q, rfl⟩ | ⟨q, rfl⟩
             · first
                 | exact Or.inr (Or.inr (Or.inl ⟨by omega, q, by omega, rfl⟩))
                 | exact Or.inr (Or.inr (Or.inr ⟨by omega, q, by omega, rfl⟩))
             · exact absurd (by assumption) q)
      · refine zH_go 2 (c' := (35, [some (.inr (.inr (some 83))), some (.inl r)], [.inl (-11)], (zs h hl))) rfl ?_
        refine zH_ret (v := some (.inl (-11))) rfl (fun q => absurd q (by decide)) ?_
        refine ⟨_, ?_, rfl, rfl⟩
        first
          | exact Or.inl ⟨by omega, rfl⟩
          | exact Or.inr (Or.inl ⟨by omega, by assumption, rfl⟩)
          | (rcases z_6 with ⟨q, rfl⟩ | ⟨q, rfl⟩
             · first
                 | exact Or.inr (Or.inr (Or.inl ⟨by omega, q, by omega, rfl⟩))
                 | exact Or.inr (Or.inr (Or.inr ⟨by omega, q, by omega, rfl⟩))
             · exact absurd (by assumption) q)
    · show zH _ _ (15, [some (.inr (.inr (some 83))), some (.inl r)], [.inl 0], (zs h hl)) _
      refine zH_bf (x := 0) (y := 0) (k := .ne) (c1 := (21, [some (.inr (.inr (some 83))), some (.inl r)], [], (zs h hl))) (c2 := (18, [some (.inr (.inr (some 83))), some (.inl r)], [], (zs h hl))) rfl ⟨by decide, by decide⟩ ⟨by decide, by decide⟩ (by show ¬ (¬ 0 = 0); decide) ?_
      refine zH_go 1 (c' := (20, [some (.inr (.inr (some 83))), some (.inl r)], [.inl (-12)], (zs h hl))) rfl ?_
      refine zH_ret (v := some (.inl (-12))) rfl (fun q => absurd q (by decide)) ?_
      refine ⟨_, ?_, rfl, rfl⟩
      first
        | exact Or.inl ⟨by omega, rfl⟩
        | exact Or.inr (Or.inl ⟨by omega, by assumption, rfl⟩)
        | (rcases z_6 with ⟨q, rfl⟩ | ⟨q, rfl⟩
           · first
               | exact Or.inr (Or.inr (Or.inl ⟨by omega, q, by omega, rfl⟩))
               | exact Or.inr (Or.inr (Or.inr ⟨by omega, q, by omega, rfl⟩))
           · exact absurd (by assumption) q)
  · show zH _ _ (4, [some (.inr (.inr (some 83))), some (.inl r)], [.inl 0], (zs h hl)) _
    refine zH_bf (x := 0) (y := 0) (k := .ne) (c1 := (10, [some (.inr (.inr (some 83))), some (.inl r)], [], (zs h hl))) (c2 := (7, [some (.inr (.inr (some 83))), some (.inl r)], [], (zs h hl))) rfl ⟨by decide, by decide⟩ ⟨by decide, by decide⟩ (by show ¬ (¬ 0 = 0); decide) ?_
    refine zH_go 1 (c' := (9, [some (.inr (.inr (some 83))), some (.inl r)], [.inl (-11)], (zs h hl))) rfl ?_
    refine zH_ret (v := some (.inl (-11))) rfl (fun q => absurd q (by decide)) ?_
    refine ⟨_, ?_, rfl, rfl⟩
    first
      | exact Or.inl ⟨by omega, rfl⟩
      | exact Or.inr (Or.inl ⟨by omega, by assumption, rfl⟩)
      | (rcases z_6 with ⟨q, rfl⟩ | ⟨q, rfl⟩
         · first
             | exact Or.inr (Or.inr (Or.inl ⟨by omega, q, by omega, rfl⟩))
             | exact Or.inr (Or.inr (Or.inr ⟨by omega, q, by omega, rfl⟩))
         · exact absurd (by assumption) q)
set_option maxRecDepth 100000 in
set_option maxHeartbeats 4000000 in
theorem p_bThere1 {d : Nat} {h hl : Nat → Nat → Int} (hR : -1 ≤ h 90 1 ∧ h 90 1 ≤ 4) : zQ (d + 1) 1 [.inr (.inr (some 90))] (zs h hl) (zB (0 ≤ h 90 1) (zs h hl)) := by
  refine zQ_of (Nat.le_of_ble_eq_true rfl) ?_
  show zH d 1 (0, [some (.inr (.inr (some 90)))], [], (zs h hl)) _
  refine zH_go 2 (c' := (4, [some (.inr (.inr (some 90)))], [.inl (h 90 1)], (zs h hl))) rfl ?_
  refine zH_br (x := (h 90 1)) (y := 0) (k := .lt) (c1 := (11, [some (.inr (.inr (some 90)))], [], (zs h hl))) (c2 := (7, [some (.inr (.inr (some 90)))], [], (zs h hl))) rfl (by first | assumption | (unfold zr; omega)) ⟨by decide, by decide⟩ (fun (b_1 : (h 90 1) < 0) => ?_) (fun (b_1 : ¬ ((h 90 1) < 0)) => ?_)
  · refine zH_go 1 (c' := (12, [some (.inr (.inr (some 90)))], [.inl 0], (zs h hl))) rfl ?_
    refine zH_ret (v := some (.inl 0)) rfl (fun _ => by first | exact Or.inl rfl | exact Or.inr rfl) ?_
    exact Or.inr ⟨rfl, by omega, rfl⟩
  · refine zH_go 2 (c' := (12, [some (.inr (.inr (some 90)))], [.inl 1], (zs h hl))) rfl ?_
    refine zH_ret (v := some (.inl 1)) rfl (fun _ => by first | exact Or.inl rfl | exact Or.inr rfl) ?_
    exact Or.inl ⟨rfl, by omega, rfl⟩
set_option maxRecDepth 100000 in
set_option maxHeartbeats 4000000 in
theorem p_bRow1 {d : Nat} {h hl : Nat → Nat → Int} {r : Int} (hr : zr r) (hR : -1 ≤ h 90 1 ∧ h 90 1 ≤ 4) : zQ (d + 1) 2 [.inr (.inr (some 90)), .inl r] (zs h hl) (zB (zHasRow h 90 r) (zs h hl)) := by
  refine zQ_of (Nat.le_of_ble_eq_true rfl) ?_
  show zH d 2 (0, [some (.inr (.inr (some 90))), some (.inl r)], [], (zs h hl)) _
  refine zH_go 1 (c' := (1, [some (.inr (.inr (some 90))), some (.inl r)], [.inl r], (zs h hl))) rfl ?_
  refine zH_br (x := r) (y := 0) (k := .lt) (c1 := (21, [some (.inr (.inr (some 90))), some (.inl r)], [], (zs h hl))) (c2 := (4, [some (.inr (.inr (some 90))), some (.inl r)], [], (zs h hl))) rfl (by first | assumption | (unfold zr; omega)) ⟨by decide, by decide⟩ (fun (b_1 : r < 0) => ?_) (fun (b_1 : ¬ (r < 0)) => ?_)
  · refine zH_go 1 (c' := (22, [some (.inr (.inr (some 90))), some (.inl r)], [.inl 0], (zs h hl))) rfl ?_
    refine zH_ret (v := some (.inl 0)) rfl (fun _ => by first | exact Or.inl rfl | exact Or.inr rfl) ?_
    exact Or.inr ⟨rfl, fun q => by have q1 := q.1; have q2 := q.2.1; have q3 := q.2.2; omega, rfl⟩
  · refine zH_go 3 (c' := (9, [some (.inr (.inr (some 90))), some (.inl r)], [.inl (h 90 1), .inl r], (zs h hl))) rfl ?_
    refine zH_br (x := r) (y := (h 90 1)) (k := .ge) (c1 := (21, [some (.inr (.inr (some 90))), some (.inl r)], [], (zs h hl))) (c2 := (12, [some (.inr (.inr (some 90))), some (.inl r)], [], (zs h hl))) rfl (by first | assumption | (unfold zr; omega)) (by first | assumption | (unfold zr; omega)) (fun (b_2 : ¬ r < (h 90 1)) => ?_) (fun (b_2 : ¬ (¬ r < (h 90 1))) => ?_)
    · refine zH_go 1 (c' := (22, [some (.inr (.inr (some 90))), some (.inl r)], [.inl 0], (zs h hl))) rfl ?_
      refine zH_ret (v := some (.inl 0)) rfl (fun _ => by first | exact Or.inl rfl | exact Or.inr rfl) ?_
      exact Or.inr ⟨rfl, fun q => by have q1 := q.1; have q2 := q.2.1; have q3 := q.2.2; omega, rfl⟩
    · refine zH_go 2 (c' := (14, [some (.inr (.inr (some 90))), some (.inl r)], [.inl 4, .inl r], (zs h hl))) rfl ?_
      refine zH_br (x := r) (y := 4) (k := .ge) (c1 := (21, [some (.inr (.inr (some 90))), some (.inl r)], [], (zs h hl))) (c2 := (17, [some (.inr (.inr (some 90))), some (.inl r)], [], (zs h hl))) rfl (by first | assumption | (unfold zr; omega)) ⟨by decide, by decide⟩ (fun (b_3 : ¬ r < 4) => ?_) (fun (b_3 : ¬ (¬ r < 4)) => ?_)
      · refine zH_go 1 (c' := (22, [some (.inr (.inr (some 90))), some (.inl r)], [.inl 0], (zs h hl))) rfl ?_
        refine zH_ret (v := some (.inl 0)) rfl (fun _ => by first | exact Or.inl rfl | exact Or.inr rfl) ?_
        exact Or.inr ⟨rfl, fun q => by have q1 := q.1; have q2 := q.2.1; have q3 := q.2.2; omega, rfl⟩
      · refine zH_go 2 (c' := (22, [some (.inr (.inr (some 90))), some (.inl r)], [.inl 1], (zs h hl))) rfl ?_
        refine zH_ret (v := some (.inl 1)) rfl (fun _ => by first | exact Or.inl rfl | exact Or.inr rfl) ?_
        exact Or.inl ⟨rfl, ⟨by omega, by omega, by omega⟩, rfl⟩
set_option maxRecDepth 100000 in
set_option maxHeartbeats 4000000 in
theorem p_bSize1 {d : Nat} {h hl : Nat → Nat → Int} {r : Int} (hr : zr r) (hR : -1 ≤ h 90 1 ∧ h 90 1 ≤ 4) (hZ : ∀ q : Nat, q < 4 → -1 ≤ h 91 q ∧ h 91 q ≤ 8) : zQ (d + 2) 4 [.inr (.inr (some 90)), .inl r] (zs h hl) (fun ρ σ' => ∃ x : Int, zSzR h 90 91 r x ∧ ρ = some (.inl x) ∧ σ' = zs h hl) := by
  refine zQ_of (Nat.le_of_ble_eq_true rfl) ?_
  show zH (d + 1) 4 (0, [some (.inr (.inr (some 90))), some (.inl r)], [], (zs h hl)) _
  refine zH_go 2 (c' := (2, [some (.inr (.inr (some 90))), some (.inl r)], [.inl r, .inr (.inr (some 90))], (zs h hl))) rfl ?_
  refine zH_call (M' := 2) (as := [.inr (.inr (some 90)), .inl r]) (T := []) rfl (p_bRow1 hr hR) (fun r σ' p_1 => ?_)
  rcases p_1 with ⟨rfl, b_2, rfl⟩ | ⟨rfl, b_2, rfl⟩
  · show zH _ _ (5, [some (.inr (.inr (some 90))), some (.inl r)], [.inl 1], (zs h hl)) _
    have b_2x := b_2.1; have b_2y := b_2.2.1; have b_2z := b_2.2.2
    refine zH_bf (x := 1) (y := 0) (k := .eq) (c1 := (17, [some (.inr (.inr (some 90))), some (.inl r)], [], (zs h hl))) (c2 := (8, [some (.inr (.inr (some 90))), some (.inl r)], [], (zs h hl))) rfl ⟨by decide, by decide⟩ ⟨by decide, by decide⟩ (by show ¬ (1 = 0); decide) ?_
    refine zH_go 3 (c' := (13, [some (.inr (.inr (some 90))), some (.inl r)], [.inl r, .inr (.inr (some 91))], (zs h hl))) rfl ?_
    refine zH_np (P := 0 ≤ r ∧ r < ((4 : Nat) : Int)) (c' := (14, [some (.inr (.inr (some 90))), some (.inl r)], [.inl (h 91 (Int.toNat r))], (zs h hl))) rfl ⟨by omega, by omega⟩ ?_
    refine zH_go 1 (c' := (18, [some (.inr (.inr (some 90))), some (.inl r)], [.inl (h 91 (Int.toNat r))], (zs h hl))) rfl ?_
    refine zH_ret (v := some (.inl (h 91 (Int.toNat r)))) rfl (fun q => absurd q (by decide)) ?_
    exact ⟨_, Or.inl ⟨by assumption, rfl⟩, rfl, rfl⟩
  · show zH _ _ (5, [some (.inr (.inr (some 90))), some (.inl r)], [.inl 0], (zs h hl)) _
    refine zH_bt (x := 0) (y := 0) (k := .eq) (c1 := (17, [some (.inr (.inr (some 90))), some (.inl r)], [], (zs h hl))) (c2 := (8, [some (.inr (.inr (some 90))), some (.inl r)], [], (zs h hl))) rfl ⟨by decide, by decide⟩ ⟨by decide, by decide⟩ (by show 0 = 0; decide) ?_
    refine zH_go 1 (c' := (18, [some (.inr (.inr (some 90))), some (.inl r)], [.inl (-1)], (zs h hl))) rfl ?_
    refine zH_ret (v := some (.inl (-1))) rfl (fun q => absurd q (by decide)) ?_
    exact ⟨_, Or.inr ⟨by assumption, rfl⟩, rfl, rfl⟩
set_option maxRecDepth 100000 in
set_option maxHeartbeats 4000000 in
theorem p_bWhy1 {d : Nat} {h hl : Nat → Nat → Int} {r : Int} (hr : zr r) (hR : -1 ≤ h 90 1 ∧ h 90 1 ≤ 4) (hZ : ∀ q : Nat, q < 4 → -1 ≤ h 91 q ∧ h 91 q ≤ 8) : zQ (d + 3) 5 [.inr (.inr (some 90)), .inl r] (zs h hl) (fun ρ σ' => ∃ x : Int, zWhy h 90 91 r x ∧ ρ = some (.inl x) ∧ σ' = zs h hl) := by
  refine zQ_of (Nat.le_of_ble_eq_true rfl) ?_
  show zH (d + 2) 5 (0, [some (.inr (.inr (some 90))), some (.inl r)], [], (zs h hl)) _
  refine zH_go 1 (c' := (1, [some (.inr (.inr (some 90))), some (.inl r)], [.inr (.inr (some 90))], (zs h hl))) rfl ?_
  refine zH_call (M' := 1) (as := [.inr (.inr (some 90))]) (T := []) rfl (p_bThere1 hR) (fun r σ' p_1 => ?_)
  rcases p_1 with ⟨rfl, b_2, rfl⟩ | ⟨rfl, b_2, rfl⟩
  · show zH _ _ (4, [some (.inr (.inr (some 90))), some (.inl r)], [.inl 1], (zs h hl)) _
    refine zH_bt (x := 1) (y := 0) (k := .ne) (c1 := (10, [some (.inr (.inr (some 90))), some (.inl r)], [], (zs h hl))) (c2 := (7, [some (.inr (.inr (some 90))), some (.inl r)], [], (zs h hl))) rfl ⟨by decide, by decide⟩ ⟨by decide, by decide⟩ (by show ¬ 1 = 0; decide) ?_
    refine zH_go 2 (c' := (12, [some (.inr (.inr (some 90))), some (.inl r)], [.inl r, .inr (.inr (some 90))], (zs h hl))) rfl ?_
    refine zH_call (M' := 2) (as := [.inr (.inr (some 90)), .inl r]) (T := []) rfl (p_bRow1 hr hR) (fun r σ' p_3 => ?_)
    rcases p_3 with ⟨rfl, b_4, rfl⟩ | ⟨rfl, b_4, rfl⟩
    · show zH _ _ (15, [some (.inr (.inr (some 90))), some (.inl r)], [.inl 1], (zs h hl)) _
      have b_4x := b_4.1; have b_4y := b_4.2.1; have b_4z := b_4.2.2
      refine zH_bt (x := 1) (y := 0) (k := .ne) (c1 := (21, [some (.inr (.inr (some 90))), some (.inl r)], [], (zs h hl))) (c2 := (18, [some (.inr (.inr (some 90))), some (.inl r)], [], (zs h hl))) rfl ⟨by decide, by decide⟩ ⟨by decide, by decide⟩ (by show ¬ 1 = 0; decide) ?_
      refine zH_go 2 (c' := (23, [some (.inr (.inr (some 90))), some (.inl r)], [.inl r, .inr (.inr (some 90))], (zs h hl))) rfl ?_
      refine zH_call (M' := 4) (as := [.inr (.inr (some 90)), .inl r]) (T := []) rfl (p_bSize1 hr hR hZ) (fun ρ σ' p_5 => ?_)
      obtain ⟨x, z_6, rfl, rfl⟩ := p_5
      have hx9 : -1 ≤ x ∧ x ≤ 8 := by
        rcases z_6 with ⟨q, rfl⟩ | ⟨q, rfl⟩
        · exact hZ _ (by have q1 := q.1; have q2 := q.2.2; omega)
        · omega
      show zH _ _ (26, [some (.inr (.inr (some 90))), some (.inl r)], [.inl x], (zs h hl)) _
      refine zH_br (x := x) (y := 0) (k := .ge) (c1 := (34, [some (.inr (.inr (some 90))), some (.inl r)], [], (zs h hl))) (c2 := (29, [some (.inr (.inr (some 90))), some (.inl r)], [], (zs h hl))) rfl (by first | assumption | (unfold zr; omega)) ⟨by decide, by decide⟩ (fun (b_7 : ¬ x < 0) => ?_) (fun (b_7 : ¬ (¬ x < 0)) => ?_)
      · refine zH_go 1 (c' := (35, [some (.inr (.inr (some 90))), some (.inl r)], [.inl 0], (zs h hl))) rfl ?_
        refine zH_ret (v := some (.inl 0)) rfl (fun q => absurd q (by decide)) ?_
        refine ⟨_, ?_, rfl, rfl⟩
        first
          | exact Or.inl ⟨by omega, rfl⟩
          | exact Or.inr (Or.inl ⟨by omega, by assumption, rfl⟩)
          | (rcases z_6 with ⟨q, rfl⟩ | ⟨q, rfl⟩
             · first
                 | exact Or.inr (Or.inr (Or.inl ⟨by omega, q, by omega, rfl⟩))
                 | exact Or.inr (Or.inr (Or.inr ⟨by omega, q, by omega, rfl⟩))
             · exact absurd (by assumption) q)
      · refine zH_go 2 (c' := (35, [some (.inr (.inr (some 90))), some (.inl r)], [.inl (-11)], (zs h hl))) rfl ?_
        refine zH_ret (v := some (.inl (-11))) rfl (fun q => absurd q (by decide)) ?_
        refine ⟨_, ?_, rfl, rfl⟩
        first
          | exact Or.inl ⟨by omega, rfl⟩
          | exact Or.inr (Or.inl ⟨by omega, by assumption, rfl⟩)
          | (rcases z_6 with ⟨q, rfl⟩ | ⟨q, rfl⟩
             · first
                 | exact Or.inr (Or.inr (Or.inl ⟨by omega, q, by omega, rfl⟩))
                 | exact Or.inr (Or.inr (Or.inr ⟨by omega, q, by omega, rfl⟩))
             · exact absurd (by assumption) q)
    · show zH _ _ (15, [some (.inr (.inr (some 90))), some (.inl r)], [.inl 0], (zs h hl)) _
      refine zH_bf (x := 0) (y := 0) (k := .ne) (c1 := (21, [some (.inr (.inr (some 90))), some (.inl r)], [], (zs h hl))) (c2 := (18, [some (.inr (.inr (some 90))), some (.inl r)], [], (zs h hl))) rfl ⟨by decide, by decide⟩ ⟨by decide, by decide⟩ (by show ¬ (¬ 0 = 0); decide) ?_
      refine zH_go 1 (c' := (20, [some (.inr (.inr (some 90))), some (.inl r)], [.inl (-12)], (zs h hl))) rfl ?_
      refine zH_ret (v := some (.inl (-12))) rfl (fun q => absurd q (by decide)) ?_
      refine ⟨_, ?_, rfl, rfl⟩
      first
        | exact Or.inl ⟨by omega, rfl⟩
        | exact Or.inr (Or.inl ⟨by omega, by assumption, rfl⟩)
        | (rcases z_6 with ⟨q, rfl⟩ | ⟨q, rfl⟩
           · first
               | exact Or.inr (Or.inr (Or.inl ⟨by omega, q, by omega, rfl⟩))
               | exact Or.inr (Or.inr (Or.inr ⟨by omega, q, by omega, rfl⟩))
           · exact absurd (by assumption) q)
  · show zH _ _ (4, [some (.inr (.inr (some 90))), some (.inl r)], [.inl 0], (zs h hl)) _
    refine zH_bf (x := 0) (y := 0) (k := .ne) (c1 := (10, [some (.inr (.inr (some 90))), some (.inl r)], [], (zs h hl))) (c2 := (7, [some (.inr (.inr (some 90))), some (.inl r)], [], (zs h hl))) rfl ⟨by decide, by decide⟩ ⟨by decide, by decide⟩ (by show ¬ (¬ 0 = 0); decide) ?_
    refine zH_go 1 (c' := (9, [some (.inr (.inr (some 90))), some (.inl r)], [.inl (-11)], (zs h hl))) rfl ?_
    refine zH_ret (v := some (.inl (-11))) rfl (fun q => absurd q (by decide)) ?_
    refine ⟨_, ?_, rfl, rfl⟩
    first
      | exact Or.inl ⟨by omega, rfl⟩
      | exact Or.inr (Or.inl ⟨by omega, by assumption, rfl⟩)
      | (rcases z_6 with ⟨q, rfl⟩ | ⟨q, rfl⟩
         · first
             | exact Or.inr (Or.inr (Or.inl ⟨by omega, q, by omega, rfl⟩))
             | exact Or.inr (Or.inr (Or.inr ⟨by omega, q, by omega, rfl⟩))
         · exact absurd (by assumption) q)
set_option maxRecDepth 100000 in
set_option maxHeartbeats 4000000 in
theorem p_bThere2 {d : Nat} {h hl : Nat → Nat → Int} (hR : -1 ≤ h 97 1 ∧ h 97 1 ≤ 4) : zQ (d + 1) 1 [.inr (.inr (some 97))] (zs h hl) (zB (0 ≤ h 97 1) (zs h hl)) := by
  refine zQ_of (Nat.le_of_ble_eq_true rfl) ?_
  show zH d 1 (0, [some (.inr (.inr (some 97)))], [], (zs h hl)) _
  refine zH_go 2 (c' := (4, [some (.inr (.inr (some 97)))], [.inl (h 97 1)], (zs h hl))) rfl ?_
  refine zH_br (x := (h 97 1)) (y := 0) (k := .lt) (c1 := (11, [some (.inr (.inr (some 97)))], [], (zs h hl))) (c2 := (7, [some (.inr (.inr (some 97)))], [], (zs h hl))) rfl (by first | assumption | (unfold zr; omega)) ⟨by decide, by decide⟩ (fun (b_1 : (h 97 1) < 0) => ?_) (fun (b_1 : ¬ ((h 97 1) < 0)) => ?_)
  · refine zH_go 1 (c' := (12, [some (.inr (.inr (some 97)))], [.inl 0], (zs h hl))) rfl ?_
    refine zH_ret (v := some (.inl 0)) rfl (fun _ => by first | exact Or.inl rfl | exact Or.inr rfl) ?_
    exact Or.inr ⟨rfl, by omega, rfl⟩
  · refine zH_go 2 (c' := (12, [some (.inr (.inr (some 97)))], [.inl 1], (zs h hl))) rfl ?_
    refine zH_ret (v := some (.inl 1)) rfl (fun _ => by first | exact Or.inl rfl | exact Or.inr rfl) ?_
    exact Or.inl ⟨rfl, by omega, rfl⟩
set_option maxRecDepth 100000 in
set_option maxHeartbeats 4000000 in
theorem p_bRow2 {d : Nat} {h hl : Nat → Nat → Int} {r : Int} (hr : zr r) (hR : -1 ≤ h 97 1 ∧ h 97 1 ≤ 4) : zQ (d + 1) 2 [.inr (.inr (some 97)), .inl r] (zs h hl) (zB (zHasRow h 97 r) (zs h hl)) := by
  refine zQ_of (Nat.le_of_ble_eq_true rfl) ?_
  show zH d 2 (0, [some (.inr (.inr (some 97))), some (.inl r)], [], (zs h hl)) _
  refine zH_go 1 (c' := (1, [some (.inr (.inr (some 97))), some (.inl r)], [.inl r], (zs h hl))) rfl ?_
  refine zH_br (x := r) (y := 0) (k := .lt) (c1 := (21, [some (.inr (.inr (some 97))), some (.inl r)], [], (zs h hl))) (c2 := (4, [some (.inr (.inr (some 97))), some (.inl r)], [], (zs h hl))) rfl (by first | assumption | (unfold zr; omega)) ⟨by decide, by decide⟩ (fun (b_1 : r < 0) => ?_) (fun (b_1 : ¬ (r < 0)) => ?_)
  · refine zH_go 1 (c' := (22, [some (.inr (.inr (some 97))), some (.inl r)], [.inl 0], (zs h hl))) rfl ?_
    refine zH_ret (v := some (.inl 0)) rfl (fun _ => by first | exact Or.inl rfl | exact Or.inr rfl) ?_
    exact Or.inr ⟨rfl, fun q => by have q1 := q.1; have q2 := q.2.1; have q3 := q.2.2; omega, rfl⟩
  · refine zH_go 3 (c' := (9, [some (.inr (.inr (some 97))), some (.inl r)], [.inl (h 97 1), .inl r], (zs h hl))) rfl ?_
    refine zH_br (x := r) (y := (h 97 1)) (k := .ge) (c1 := (21, [some (.inr (.inr (some 97))), some (.inl r)], [], (zs h hl))) (c2 := (12, [some (.inr (.inr (some 97))), some (.inl r)], [], (zs h hl))) rfl (by first | assumption | (unfold zr; omega)) (by first | assumption | (unfold zr; omega)) (fun (b_2 : ¬ r < (h 97 1)) => ?_) (fun (b_2 : ¬ (¬ r < (h 97 1))) => ?_)
    · refine zH_go 1 (c' := (22, [some (.inr (.inr (some 97))), some (.inl r)], [.inl 0], (zs h hl))) rfl ?_
      refine zH_ret (v := some (.inl 0)) rfl (fun _ => by first | exact Or.inl rfl | exact Or.inr rfl) ?_
      exact Or.inr ⟨rfl, fun q => by have q1 := q.1; have q2 := q.2.1; have q3 := q.2.2; omega, rfl⟩
    · refine zH_go 2 (c' := (14, [some (.inr (.inr (some 97))), some (.inl r)], [.inl 4, .inl r], (zs h hl))) rfl ?_
      refine zH_br (x := r) (y := 4) (k := .ge) (c1 := (21, [some (.inr (.inr (some 97))), some (.inl r)], [], (zs h hl))) (c2 := (17, [some (.inr (.inr (some 97))), some (.inl r)], [], (zs h hl))) rfl (by first | assumption | (unfold zr; omega)) ⟨by decide, by decide⟩ (fun (b_3 : ¬ r < 4) => ?_) (fun (b_3 : ¬ (¬ r < 4)) => ?_)
      · refine zH_go 1 (c' := (22, [some (.inr (.inr (some 97))), some (.inl r)], [.inl 0], (zs h hl))) rfl ?_
        refine zH_ret (v := some (.inl 0)) rfl (fun _ => by first | exact Or.inl rfl | exact Or.inr rfl) ?_
        exact Or.inr ⟨rfl, fun q => by have q1 := q.1; have q2 := q.2.1; have q3 := q.2.2; omega, rfl⟩
      · refine zH_go 2 (c' := (22, [some (.inr (.inr (some 97))), some (.inl r)], [.inl 1], (zs h hl))) rfl ?_
        refine zH_ret (v := some (.inl 1)) rfl (fun _ => by first | exact Or.inl rfl | exact Or.inr rfl) ?_
        exact Or.inl ⟨rfl, ⟨by omega, by omega, by omega⟩, rfl⟩
set_option maxRecDepth 100000 in
set_option maxHeartbeats 4000000 in
theorem p_bSize2 {d : Nat} {h hl : Nat → Nat → Int} {r : Int} (hr : zr r) (hR : -1 ≤ h 97 1 ∧ h 97 1 ≤ 4) (hZ : ∀ q : Nat, q < 4 → -1 ≤ h 98 q ∧ h 98 q ≤ 8) : zQ (d + 2) 4 [.inr (.inr (some 97)), .inl r] (zs h hl) (fun ρ σ' => ∃ x : Int, zSzR h 97 98 r x ∧ ρ = some (.inl x) ∧ σ' = zs h hl) := by
  refine zQ_of (Nat.le_of_ble_eq_true rfl) ?_
  show zH (d + 1) 4 (0, [some (.inr (.inr (some 97))), some (.inl r)], [], (zs h hl)) _
  refine zH_go 2 (c' := (2, [some (.inr (.inr (some 97))), some (.inl r)], [.inl r, .inr (.inr (some 97))], (zs h hl))) rfl ?_
  refine zH_call (M' := 2) (as := [.inr (.inr (some 97)), .inl r]) (T := []) rfl (p_bRow2 hr hR) (fun r σ' p_1 => ?_)
  rcases p_1 with ⟨rfl, b_2, rfl⟩ | ⟨rfl, b_2, rfl⟩
  · show zH _ _ (5, [some (.inr (.inr (some 97))), some (.inl r)], [.inl 1], (zs h hl)) _
    have b_2x := b_2.1; have b_2y := b_2.2.1; have b_2z := b_2.2.2
    refine zH_bf (x := 1) (y := 0) (k := .eq) (c1 := (17, [some (.inr (.inr (some 97))), some (.inl r)], [], (zs h hl))) (c2 := (8, [some (.inr (.inr (some 97))), some (.inl r)], [], (zs h hl))) rfl ⟨by decide, by decide⟩ ⟨by decide, by decide⟩ (by show ¬ (1 = 0); decide) ?_
    refine zH_go 3 (c' := (13, [some (.inr (.inr (some 97))), some (.inl r)], [.inl r, .inr (.inr (some 98))], (zs h hl))) rfl ?_
    refine zH_np (P := 0 ≤ r ∧ r < ((4 : Nat) : Int)) (c' := (14, [some (.inr (.inr (some 97))), some (.inl r)], [.inl (h 98 (Int.toNat r))], (zs h hl))) rfl ⟨by omega, by omega⟩ ?_
    refine zH_go 1 (c' := (18, [some (.inr (.inr (some 97))), some (.inl r)], [.inl (h 98 (Int.toNat r))], (zs h hl))) rfl ?_
    refine zH_ret (v := some (.inl (h 98 (Int.toNat r)))) rfl (fun q => absurd q (by decide)) ?_
    exact ⟨_, Or.inl ⟨by assumption, rfl⟩, rfl, rfl⟩
  · show zH _ _ (5, [some (.inr (.inr (some 97))), some (.inl r)], [.inl 0], (zs h hl)) _
    refine zH_bt (x := 0) (y := 0) (k := .eq) (c1 := (17, [some (.inr (.inr (some 97))), some (.inl r)], [], (zs h hl))) (c2 := (8, [some (.inr (.inr (some 97))), some (.inl r)], [], (zs h hl))) rfl ⟨by decide, by decide⟩ ⟨by decide, by decide⟩ (by show 0 = 0; decide) ?_
    refine zH_go 1 (c' := (18, [some (.inr (.inr (some 97))), some (.inl r)], [.inl (-1)], (zs h hl))) rfl ?_
    refine zH_ret (v := some (.inl (-1))) rfl (fun q => absurd q (by decide)) ?_
    exact ⟨_, Or.inr ⟨by assumption, rfl⟩, rfl, rfl⟩
set_option maxRecDepth 100000 in
set_option maxHeartbeats 4000000 in
theorem p_bWhy2 {d : Nat} {h hl : Nat → Nat → Int} {r : Int} (hr : zr r) (hR : -1 ≤ h 97 1 ∧ h 97 1 ≤ 4) (hZ : ∀ q : Nat, q < 4 → -1 ≤ h 98 q ∧ h 98 q ≤ 8) : zQ (d + 3) 5 [.inr (.inr (some 97)), .inl r] (zs h hl) (fun ρ σ' => ∃ x : Int, zWhy h 97 98 r x ∧ ρ = some (.inl x) ∧ σ' = zs h hl) := by
  refine zQ_of (Nat.le_of_ble_eq_true rfl) ?_
  show zH (d + 2) 5 (0, [some (.inr (.inr (some 97))), some (.inl r)], [], (zs h hl)) _
  refine zH_go 1 (c' := (1, [some (.inr (.inr (some 97))), some (.inl r)], [.inr (.inr (some 97))], (zs h hl))) rfl ?_
  refine zH_call (M' := 1) (as := [.inr (.inr (some 97))]) (T := []) rfl (p_bThere2 hR) (fun r σ' p_1 => ?_)
  rcases p_1 with ⟨rfl, b_2, rfl⟩ | ⟨rfl, b_2, rfl⟩
  · show zH _ _ (4, [some (.inr (.inr (some 97))), some (.inl r)], [.inl 1], (zs h hl)) _
    refine zH_bt (x := 1) (y := 0) (k := .ne) (c1 := (10, [some (.inr (.inr (some 97))), some (.inl r)], [], (zs h hl))) (c2 := (7, [some (.inr (.inr (some 97))), some (.inl r)], [], (zs h hl))) rfl ⟨by decide, by decide⟩ ⟨by decide, by decide⟩ (by show ¬ 1 = 0; decide) ?_
    refine zH_go 2 (c' := (12, [some (.inr (.inr (some 97))), some (.inl r)], [.inl r, .inr (.inr (some 97))], (zs h hl))) rfl ?_
    refine zH_call (M' := 2) (as := [.inr (.inr (some 97)), .inl r]) (T := []) rfl (p_bRow2 hr hR) (fun r σ' p_3 => ?_)
    rcases p_3 with ⟨rfl, b_4, rfl⟩ | ⟨rfl, b_4, rfl⟩
    · show zH _ _ (15, [some (.inr (.inr (some 97))), some (.inl r)], [.inl 1], (zs h hl)) _
      have b_4x := b_4.1; have b_4y := b_4.2.1; have b_4z := b_4.2.2
      refine zH_bt (x := 1) (y := 0) (k := .ne) (c1 := (21, [some (.inr (.inr (some 97))), some (.inl r)], [], (zs h hl))) (c2 := (18, [some (.inr (.inr (some 97))), some (.inl r)], [], (zs h hl))) rfl ⟨by decide, by decide⟩ ⟨by decide, by decide⟩ (by show ¬ 1 = 0; decide) ?_
      refine zH_go 2 (c' := (23, [some (.inr (.inr (some 97))), some (.inl r)], [.inl r, .inr (.inr (some 97))], (zs h hl))) rfl ?_
      refine zH_call (M' := 4) (as := [.inr (.inr (some 97)), .inl r]) (T := []) rfl (p_bSize2 hr hR hZ) (fun ρ σ' p_5 => ?_)
      obtain ⟨x, z_6, rfl, rfl⟩ := p_5
      have hx9 : -1 ≤ x ∧ x ≤ 8 := by
        rcases z_6 with ⟨q, rfl⟩ | ⟨q, rfl⟩
        · exact hZ _ (by have q1 := q.1; have q2 := q.2.2; omega)
        · omega
      show zH _ _ (26, [some (.inr (.inr (some 97))), some (.inl r)], [.inl x], (zs h hl)) _
      refine zH_br (x := x) (y := 0) (k := .ge) (c1 := (34, [some (.inr (.inr (some 97))), some (.inl r)], [], (zs h hl))) (c2 := (29, [some (.inr (.inr (some 97))), some (.inl r)], [], (zs h hl))) rfl (by first | assumption | (unfold zr; omega)) ⟨by decide, by decide⟩ (fun (b_7 : ¬ x < 0) => ?_) (fun (b_7 : ¬ (¬ x < 0)) => ?_)
      · refine zH_go 1 (c' := (35, [some (.inr (.inr (some 97))), some (.inl r)], [.inl 0], (zs h hl))) rfl ?_
        refine zH_ret (v := some (.inl 0)) rfl (fun q => absurd q (by decide)) ?_
        refine ⟨_, ?_, rfl, rfl⟩
        first
          | exact Or.inl ⟨by omega, rfl⟩
          | exact Or.inr (Or.inl ⟨by omega, by assumption, rfl⟩)
          | (rcases z_6 with ⟨q, rfl⟩ | ⟨q, rfl⟩
             · first
                 | exact Or.inr (Or.inr (Or.inl ⟨by omega, q, by omega, rfl⟩))
                 | exact Or.inr (Or.inr (Or.inr ⟨by omega, q, by omega, rfl⟩))
             · exact absurd (by assumption) q)
      · refine zH_go 2 (c' := (35, [some (.inr (.inr (some 97))), some (.inl r)], [.inl (-11)], (zs h hl))) rfl ?_
        refine zH_ret (v := some (.inl (-11))) rfl (fun q => absurd q (by decide)) ?_
        refine ⟨_, ?_, rfl, rfl⟩
        first
          | exact Or.inl ⟨by omega, rfl⟩
          | exact Or.inr (Or.inl ⟨by omega, by assumption, rfl⟩)
          | (rcases z_6 with ⟨q, rfl⟩ | ⟨q, rfl⟩
             · first
                 | exact Or.inr (Or.inr (Or.inl ⟨by omega, q, by omega, rfl⟩))
                 | exact Or.inr (Or.inr (Or.inr ⟨by omega, q, by omega, rfl⟩))
             · exact absurd (by assumption) q)
    · show zH _ _ (15, [some (.inr (.inr (some 97))), some (.inl r)], [.inl 0], (zs h hl)) _
      refine zH_bf (x := 0) (y := 0) (k := .ne) (c1 := (21, [some (.inr (.inr (some 97))), some (.inl r)], [], (zs h hl))) (c2 := (18, [some (.inr (.inr (some 97))), some (.inl r)], [], (zs h hl))) rfl ⟨by decide, by decide⟩ ⟨by decide, by decide⟩ (by show ¬ (¬ 0 = 0); decide) ?_
      refine zH_go 1 (c' := (20, [some (.inr (.inr (some 97))), some (.inl r)], [.inl (-12)], (zs h hl))) rfl ?_
      refine zH_ret (v := some (.inl (-12))) rfl (fun q => absurd q (by decide)) ?_
      refine ⟨_, ?_, rfl, rfl⟩
      first
        | exact Or.inl ⟨by omega, rfl⟩
        | exact Or.inr (Or.inl ⟨by omega, by assumption, rfl⟩)
        | (rcases z_6 with ⟨q, rfl⟩ | ⟨q, rfl⟩
           · first
               | exact Or.inr (Or.inr (Or.inl ⟨by omega, q, by omega, rfl⟩))
               | exact Or.inr (Or.inr (Or.inr ⟨by omega, q, by omega, rfl⟩))
           · exact absurd (by assumption) q)
  · show zH _ _ (4, [some (.inr (.inr (some 97))), some (.inl r)], [.inl 0], (zs h hl)) _
    refine zH_bf (x := 0) (y := 0) (k := .ne) (c1 := (10, [some (.inr (.inr (some 97))), some (.inl r)], [], (zs h hl))) (c2 := (7, [some (.inr (.inr (some 97))), some (.inl r)], [], (zs h hl))) rfl ⟨by decide, by decide⟩ ⟨by decide, by decide⟩ (by show ¬ (¬ 0 = 0); decide) ?_
    refine zH_go 1 (c' := (9, [some (.inr (.inr (some 97))), some (.inl r)], [.inl (-11)], (zs h hl))) rfl ?_
    refine zH_ret (v := some (.inl (-11))) rfl (fun q => absurd q (by decide)) ?_
    refine ⟨_, ?_, rfl, rfl⟩
    first
      | exact Or.inl ⟨by omega, rfl⟩
      | exact Or.inr (Or.inl ⟨by omega, by assumption, rfl⟩)
      | (rcases z_6 with ⟨q, rfl⟩ | ⟨q, rfl⟩
         · first
             | exact Or.inr (Or.inr (Or.inl ⟨by omega, q, by omega, rfl⟩))
             | exact Or.inr (Or.inr (Or.inr ⟨by omega, q, by omega, rfl⟩))
         · exact absurd (by assumption) q)
