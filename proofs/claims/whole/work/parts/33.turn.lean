/-! RULES: TURN, AHEAD. -/
theorem zSb_0 {p L : Nat} (hp : 0 < p) (hL : L ≤ 3) : zSb p L 0 = true := by
  unfold zSb
  rw [Bool.and_eq_true, decide_eq_true_eq, List.all_eq_true]
  refine ⟨Nat.pow_pos (by decide), fun i hi => decide_eq_true ?_⟩
  have := List.mem_range.mp hi
  rcases (show i = 0 ∨ i = 1 ∨ i = 2 by omega) with rfl | rfl | rfl <;> exact hp
theorem zStn_sb {p L : Nat} {sp : Nat → Nat} (hp : p ≤ 6) (hL : 1 ≤ L ∧ L ≤ 3) (hs : ∀ i : Nat, i < L → sp i < p) : zSb p L (zStn L sp) = true := by
  have h0 := hs 0 (by omega)
  have a0 := zSb_0 (L := L) (show 0 < p by omega) hL.2
  have a1 := zSb_wd hp hL.2 a0 (show 0 < L by omega) h0
  unfold zStn
  by_cases q : L = 1
  · rw [if_pos q]; exact a1
  · rw [if_neg q]
    have a2 := zSb_wd hp hL.2 a1 (show 1 < L by omega) (hs 1 (by omega))
    by_cases q2 : L = 2
    · rw [if_pos q2]; exact a2
    · rw [if_neg q2]
      exact zSb_wd hp hL.2 a2 (show 2 < L by omega) (hs 2 (by omega))
set_option maxRecDepth 100000 in
set_option maxHeartbeats 4000000 in
theorem p_turnD1 {d : Nat} {h hl : Nat → Nat → Int} (hL : h 21 3 = 1) (hf : ∀ l : Nat, l < 3 → 0 ≤ h 39 l ∧ h 39 l ≤ 1000000) {pp : Nat} {sp : Nat → Nat} (hpp : pp < 8) (h7 : h 21 7 = (pp : Int)) (hsp : ∀ i : Nat, i < 1 → h 40 i = ((sp i : Nat) : Int)) (hs6 : ∀ i : Nat, i < 1 → sp i < 6) (ht : -1 ≤ h 21 6 ∧ h 21 6 ≤ 3) : zQ (d + 3) 38 [.inr (.inr (some 81)), .inr (.inr (some 21))] (zs h hl) (fun r σ' => (zCov 1 sp pp ∧ zPk (zIs 1 (fun l => h 39 l)) h hl 101 r σ') ∨ (¬ zCov 1 sp pp ∧ zPk (fun l => (l : Int) = if h 21 6 + 1 < ((1 : Nat) : Int) then h 21 6 + 1 else 0) h hl 100 r σ')) := by
  refine zQ_of (Nat.le_of_ble_eq_true rfl) ?_
  show zH (d + 2) 38 (0, [some (.inr (.inr (some 81))), some (.inr (.inr (some 21)))], [], (zs h hl)) _
  refine zH_go 9 (c' := (17, [some (.inr (.inr (some 81))), some (.inr (.inr (some 21)))], [.inl (h 21 7), .inr (.inr (some 21))], (zs h (zup hl 81 0 ((hl 81 0) + 100))))) rfl ?_
  rw [h7]
  refine zH_call (M' := 25) (as := [.inr (.inr (some 21)), .inl (pp : Int)]) (T := []) rfl (p_covD (L := 1) (pp := pp) hpp (by decide) hL hsp hs6) (fun r σ' p_1 => ?_)
  rcases p_1 with ⟨rfl, b_2, rfl⟩ | ⟨rfl, b_2, rfl⟩
  · show zH _ _ (20, [some (.inr (.inr (some 81))), some (.inr (.inr (some 21)))], [.inl 1], (zs h (zup hl 81 0 ((hl 81 0) + 100)))) _
    refine zH_bf (x := 1) (y := 0) (k := .eq) (c1 := (29, [some (.inr (.inr (some 81))), some (.inr (.inr (some 21)))], [], (zs h (zup hl 81 0 ((hl 81 0) + 100))))) (c2 := (23, [some (.inr (.inr (some 81))), some (.inr (.inr (some 21)))], [], (zs h (zup hl 81 0 ((hl 81 0) + 100))))) rfl ⟨by decide, by decide⟩ ⟨by decide, by decide⟩ (by show ¬ (1 = 0); decide) ?_
    refine zH_go 2 (c' := (25, [some (.inr (.inr (some 81))), some (.inr (.inr (some 21)))], [.inr (.inr (some 21)), .inr (.inr (some 81))], (zs h (zup hl 81 0 ((hl 81 0) + 100))))) rfl ?_
    refine zH_call (M' := 36) (as := [.inr (.inr (some 81)), .inr (.inr (some 21))]) (T := []) rfl (p_nearD (L := 1) (by decide) hL hf) (fun r σ' p_3 => ?_)
    obtain ⟨l, hl1, rfl, rfl⟩ := p_3
    rw [zup_id]
    show zH _ _ (28, [some (.inr (.inr (some 81))), some (.inr (.inr (some 21)))], [.inl (l : Int)], (zs h (zup hl 81 0 (zup hl 81 0 (hl 81 0 + 100) 81 0 + 1)))) _
    rw [zup_eq]
    refine zH_ret (v := some (.inl (l : Int))) rfl (fun q => absurd q (by decide)) ?_
    exact Or.inl ⟨by assumption, l, hl1, rfl, by rw [show hl 81 0 + 101 = hl 81 0 + 100 + 1 by omega]⟩
  · show zH _ _ (20, [some (.inr (.inr (some 81))), some (.inr (.inr (some 21)))], [.inl 0], (zs h (zup hl 81 0 ((hl 81 0) + 100)))) _
    refine zH_bt (x := 0) (y := 0) (k := .eq) (c1 := (29, [some (.inr (.inr (some 81))), some (.inr (.inr (some 21)))], [], (zs h (zup hl 81 0 ((hl 81 0) + 100))))) (c2 := (23, [some (.inr (.inr (some 81))), some (.inr (.inr (some 21)))], [], (zs h (zup hl 81 0 ((hl 81 0) + 100))))) rfl ⟨by decide, by decide⟩ ⟨by decide, by decide⟩ (by show 0 = 0; decide) ?_
    refine zH_go 6 (c' := (39, [some (.inr (.inr (some 81))), some (.inr (.inr (some 21)))], [.inl (h 21 3), .inl ((h 21 6) + 1)], (zs h (zup hl 81 0 ((hl 81 0) + 100))))) rfl ?_
    rw [hL]
    refine zH_br (x := ((h 21 6) + 1)) (y := 1) (k := .ge) (c1 := (51, [some (.inr (.inr (some 81))), some (.inr (.inr (some 21)))], [], (zs h (zup hl 81 0 ((hl 81 0) + 100))))) (c2 := (42, [some (.inr (.inr (some 81))), some (.inr (.inr (some 21)))], [], (zs h (zup hl 81 0 ((hl 81 0) + 100))))) rfl (by first | assumption | (unfold zr; omega)) ⟨by decide, by decide⟩ (fun (b_4 : ¬ ((h 21 6) + 1) < 1) => ?_) (fun (b_4 : ¬ (¬ ((h 21 6) + 1) < 1)) => ?_)
    · refine zH_go 1 (c' := (52, [some (.inr (.inr (some 81))), some (.inr (.inr (some 21)))], [.inl 0], (zs h (zup hl 81 0 ((hl 81 0) + 100))))) rfl ?_
      refine zH_ret (v := some (.inl 0)) rfl (fun q => absurd q (by decide)) ?_
      exact Or.inr ⟨by assumption, 0, by rw [if_neg (by omega)]; rfl, rfl, rfl⟩
    · refine zH_go 5 (c' := (52, [some (.inr (.inr (some 81))), some (.inr (.inr (some 21)))], [.inl ((h 21 6) + 1)], (zs h (zup hl 81 0 ((hl 81 0) + 100))))) rfl ?_
      refine zH_ret (v := some (.inl ((h 21 6) + 1))) rfl (fun q => absurd q (by decide)) ?_
      exact Or.inr ⟨by assumption, Int.toNat (h 21 6 + 1), by rw [if_pos (by omega)]; omega, by rw [Int.toNat_of_nonneg (by omega)], rfl⟩
set_option maxRecDepth 100000 in
set_option maxHeartbeats 4000000 in
theorem p_turnD2 {d : Nat} {h hl : Nat → Nat → Int} (hL : h 21 3 = 2) (hf : ∀ l : Nat, l < 3 → 0 ≤ h 39 l ∧ h 39 l ≤ 1000000) {pp : Nat} {sp : Nat → Nat} (hpp : pp < 8) (h7 : h 21 7 = (pp : Int)) (hsp : ∀ i : Nat, i < 2 → h 40 i = ((sp i : Nat) : Int)) (hs6 : ∀ i : Nat, i < 2 → sp i < 6) (ht : -1 ≤ h 21 6 ∧ h 21 6 ≤ 3) : zQ (d + 3) 38 [.inr (.inr (some 81)), .inr (.inr (some 21))] (zs h hl) (fun r σ' => (zCov 2 sp pp ∧ zPk (zIs 2 (fun l => h 39 l)) h hl 101 r σ') ∨ (¬ zCov 2 sp pp ∧ zPk (fun l => (l : Int) = if h 21 6 + 1 < ((2 : Nat) : Int) then h 21 6 + 1 else 0) h hl 100 r σ')) := by
  refine zQ_of (Nat.le_of_ble_eq_true rfl) ?_
  show zH (d + 2) 38 (0, [some (.inr (.inr (some 81))), some (.inr (.inr (some 21)))], [], (zs h hl)) _
  refine zH_go 9 (c' := (17, [some (.inr (.inr (some 81))), some (.inr (.inr (some 21)))], [.inl (h 21 7), .inr (.inr (some 21))], (zs h (zup hl 81 0 ((hl 81 0) + 100))))) rfl ?_
  rw [h7]
  refine zH_call (M' := 25) (as := [.inr (.inr (some 21)), .inl (pp : Int)]) (T := []) rfl (p_covD (L := 2) (pp := pp) hpp (by decide) hL hsp hs6) (fun r σ' p_1 => ?_)
  rcases p_1 with ⟨rfl, b_2, rfl⟩ | ⟨rfl, b_2, rfl⟩
  · show zH _ _ (20, [some (.inr (.inr (some 81))), some (.inr (.inr (some 21)))], [.inl 1], (zs h (zup hl 81 0 ((hl 81 0) + 100)))) _
    refine zH_bf (x := 1) (y := 0) (k := .eq) (c1 := (29, [some (.inr (.inr (some 81))), some (.inr (.inr (some 21)))], [], (zs h (zup hl 81 0 ((hl 81 0) + 100))))) (c2 := (23, [some (.inr (.inr (some 81))), some (.inr (.inr (some 21)))], [], (zs h (zup hl 81 0 ((hl 81 0) + 100))))) rfl ⟨by decide, by decide⟩ ⟨by decide, by decide⟩ (by show ¬ (1 = 0); decide) ?_
    refine zH_go 2 (c' := (25, [some (.inr (.inr (some 81))), some (.inr (.inr (some 21)))], [.inr (.inr (some 21)), .inr (.inr (some 81))], (zs h (zup hl 81 0 ((hl 81 0) + 100))))) rfl ?_
    refine zH_call (M' := 36) (as := [.inr (.inr (some 81)), .inr (.inr (some 21))]) (T := []) rfl (p_nearD (L := 2) (by decide) hL hf) (fun r σ' p_3 => ?_)
    obtain ⟨l, hl1, rfl, rfl⟩ := p_3
    rw [zup_id]
    show zH _ _ (28, [some (.inr (.inr (some 81))), some (.inr (.inr (some 21)))], [.inl (l : Int)], (zs h (zup hl 81 0 (zup hl 81 0 (hl 81 0 + 100) 81 0 + 1)))) _
    rw [zup_eq]
    refine zH_ret (v := some (.inl (l : Int))) rfl (fun q => absurd q (by decide)) ?_
    exact Or.inl ⟨by assumption, l, hl1, rfl, by rw [show hl 81 0 + 101 = hl 81 0 + 100 + 1 by omega]⟩
  · show zH _ _ (20, [some (.inr (.inr (some 81))), some (.inr (.inr (some 21)))], [.inl 0], (zs h (zup hl 81 0 ((hl 81 0) + 100)))) _
    refine zH_bt (x := 0) (y := 0) (k := .eq) (c1 := (29, [some (.inr (.inr (some 81))), some (.inr (.inr (some 21)))], [], (zs h (zup hl 81 0 ((hl 81 0) + 100))))) (c2 := (23, [some (.inr (.inr (some 81))), some (.inr (.inr (some 21)))], [], (zs h (zup hl 81 0 ((hl 81 0) + 100))))) rfl ⟨by decide, by decide⟩ ⟨by decide, by decide⟩ (by show 0 = 0; decide) ?_
    refine zH_go 6 (c' := (39, [some (.inr (.inr (some 81))), some (.inr (.inr (some 21)))], [.inl (h 21 3), .inl ((h 21 6) + 1)], (zs h (zup hl 81 0 ((hl 81 0) + 100))))) rfl ?_
    rw [hL]
    refine zH_br (x := ((h 21 6) + 1)) (y := 2) (k := .ge) (c1 := (51, [some (.inr (.inr (some 81))), some (.inr (.inr (some 21)))], [], (zs h (zup hl 81 0 ((hl 81 0) + 100))))) (c2 := (42, [some (.inr (.inr (some 81))), some (.inr (.inr (some 21)))], [], (zs h (zup hl 81 0 ((hl 81 0) + 100))))) rfl (by first | assumption | (unfold zr; omega)) ⟨by decide, by decide⟩ (fun (b_4 : ¬ ((h 21 6) + 1) < 2) => ?_) (fun (b_4 : ¬ (¬ ((h 21 6) + 1) < 2)) => ?_)
    · refine zH_go 1 (c' := (52, [some (.inr (.inr (some 81))), some (.inr (.inr (some 21)))], [.inl 0], (zs h (zup hl 81 0 ((hl 81 0) + 100))))) rfl ?_
      refine zH_ret (v := some (.inl 0)) rfl (fun q => absurd q (by decide)) ?_
      exact Or.inr ⟨by assumption, 0, by rw [if_neg (by omega)]; rfl, rfl, rfl⟩
    · refine zH_go 5 (c' := (52, [some (.inr (.inr (some 81))), some (.inr (.inr (some 21)))], [.inl ((h 21 6) + 1)], (zs h (zup hl 81 0 ((hl 81 0) + 100))))) rfl ?_
      refine zH_ret (v := some (.inl ((h 21 6) + 1))) rfl (fun q => absurd q (by decide)) ?_
      exact Or.inr ⟨by assumption, Int.toNat (h 21 6 + 1), by rw [if_pos (by omega)]; omega, by rw [Int.toNat_of_nonneg (by omega)], rfl⟩
set_option maxRecDepth 100000 in
set_option maxHeartbeats 4000000 in
theorem p_turnD3 {d : Nat} {h hl : Nat → Nat → Int} (hL : h 21 3 = 3) (hf : ∀ l : Nat, l < 3 → 0 ≤ h 39 l ∧ h 39 l ≤ 1000000) {pp : Nat} {sp : Nat → Nat} (hpp : pp < 8) (h7 : h 21 7 = (pp : Int)) (hsp : ∀ i : Nat, i < 3 → h 40 i = ((sp i : Nat) : Int)) (hs6 : ∀ i : Nat, i < 3 → sp i < 6) (ht : -1 ≤ h 21 6 ∧ h 21 6 ≤ 3) : zQ (d + 3) 38 [.inr (.inr (some 81)), .inr (.inr (some 21))] (zs h hl) (fun r σ' => (zCov 3 sp pp ∧ zPk (zIs 3 (fun l => h 39 l)) h hl 101 r σ') ∨ (¬ zCov 3 sp pp ∧ zPk (fun l => (l : Int) = if h 21 6 + 1 < ((3 : Nat) : Int) then h 21 6 + 1 else 0) h hl 100 r σ')) := by
  refine zQ_of (Nat.le_of_ble_eq_true rfl) ?_
  show zH (d + 2) 38 (0, [some (.inr (.inr (some 81))), some (.inr (.inr (some 21)))], [], (zs h hl)) _
  refine zH_go 9 (c' := (17, [some (.inr (.inr (some 81))), some (.inr (.inr (some 21)))], [.inl (h 21 7), .inr (.inr (some 21))], (zs h (zup hl 81 0 ((hl 81 0) + 100))))) rfl ?_
  rw [h7]
  refine zH_call (M' := 25) (as := [.inr (.inr (some 21)), .inl (pp : Int)]) (T := []) rfl (p_covD (L := 3) (pp := pp) hpp (by decide) hL hsp hs6) (fun r σ' p_1 => ?_)
  rcases p_1 with ⟨rfl, b_2, rfl⟩ | ⟨rfl, b_2, rfl⟩
  · show zH _ _ (20, [some (.inr (.inr (some 81))), some (.inr (.inr (some 21)))], [.inl 1], (zs h (zup hl 81 0 ((hl 81 0) + 100)))) _
    refine zH_bf (x := 1) (y := 0) (k := .eq) (c1 := (29, [some (.inr (.inr (some 81))), some (.inr (.inr (some 21)))], [], (zs h (zup hl 81 0 ((hl 81 0) + 100))))) (c2 := (23, [some (.inr (.inr (some 81))), some (.inr (.inr (some 21)))], [], (zs h (zup hl 81 0 ((hl 81 0) + 100))))) rfl ⟨by decide, by decide⟩ ⟨by decide, by decide⟩ (by show ¬ (1 = 0); decide) ?_
    refine zH_go 2 (c' := (25, [some (.inr (.inr (some 81))), some (.inr (.inr (some 21)))], [.inr (.inr (some 21)), .inr (.inr (some 81))], (zs h (zup hl 81 0 ((hl 81 0) + 100))))) rfl ?_
    refine zH_call (M' := 36) (as := [.inr (.inr (some 81)), .inr (.inr (some 21))]) (T := []) rfl (p_nearD (L := 3) (by decide) hL hf) (fun r σ' p_3 => ?_)
    obtain ⟨l, hl1, rfl, rfl⟩ := p_3
    rw [zup_id]
    show zH _ _ (28, [some (.inr (.inr (some 81))), some (.inr (.inr (some 21)))], [.inl (l : Int)], (zs h (zup hl 81 0 (zup hl 81 0 (hl 81 0 + 100) 81 0 + 1)))) _
    rw [zup_eq]
    refine zH_ret (v := some (.inl (l : Int))) rfl (fun q => absurd q (by decide)) ?_
    exact Or.inl ⟨by assumption, l, hl1, rfl, by rw [show hl 81 0 + 101 = hl 81 0 + 100 + 1 by omega]⟩
  · show zH _ _ (20, [some (.inr (.inr (some 81))), some (.inr (.inr (some 21)))], [.inl 0], (zs h (zup hl 81 0 ((hl 81 0) + 100)))) _
    refine zH_bt (x := 0) (y := 0) (k := .eq) (c1 := (29, [some (.inr (.inr (some 81))), some (.inr (.inr (some 21)))], [], (zs h (zup hl 81 0 ((hl 81 0) + 100))))) (c2 := (23, [some (.inr (.inr (some 81))), some (.inr (.inr (some 21)))], [], (zs h (zup hl 81 0 ((hl 81 0) + 100))))) rfl ⟨by decide, by decide⟩ ⟨by decide, by decide⟩ (by show 0 = 0; decide) ?_
    refine zH_go 6 (c' := (39, [some (.inr (.inr (some 81))), some (.inr (.inr (some 21)))], [.inl (h 21 3), .inl ((h 21 6) + 1)], (zs h (zup hl 81 0 ((hl 81 0) + 100))))) rfl ?_
    rw [hL]
    refine zH_br (x := ((h 21 6) + 1)) (y := 3) (k := .ge) (c1 := (51, [some (.inr (.inr (some 81))), some (.inr (.inr (some 21)))], [], (zs h (zup hl 81 0 ((hl 81 0) + 100))))) (c2 := (42, [some (.inr (.inr (some 81))), some (.inr (.inr (some 21)))], [], (zs h (zup hl 81 0 ((hl 81 0) + 100))))) rfl (by first | assumption | (unfold zr; omega)) ⟨by decide, by decide⟩ (fun (b_4 : ¬ ((h 21 6) + 1) < 3) => ?_) (fun (b_4 : ¬ (¬ ((h 21 6) + 1) < 3)) => ?_)
    · refine zH_go 1 (c' := (52, [some (.inr (.inr (some 81))), some (.inr (.inr (some 21)))], [.inl 0], (zs h (zup hl 81 0 ((hl 81 0) + 100))))) rfl ?_
      refine zH_ret (v := some (.inl 0)) rfl (fun q => absurd q (by decide)) ?_
      exact Or.inr ⟨by assumption, 0, by rw [if_neg (by omega)]; rfl, rfl, rfl⟩
    · refine zH_go 5 (c' := (52, [some (.inr (.inr (some 81))), some (.inr (.inr (some 21)))], [.inl ((h 21 6) + 1)], (zs h (zup hl 81 0 ((hl 81 0) + 100))))) rfl ?_
      refine zH_ret (v := some (.inl ((h 21 6) + 1))) rfl (fun q => absurd q (by decide)) ?_
      exact Or.inr ⟨by assumption, Int.toNat (h 21 6 + 1), by rw [if_pos (by omega)]; omega, by rw [Int.toNat_of_nonneg (by omega)], rfl⟩
theorem p_turnD {d : Nat} {h hl : Nat → Nat → Int} {L : Nat} (hL3 : 1 ≤ L ∧ L ≤ 3) (hL : h 21 3 = (L : Int)) (hf : ∀ l : Nat, l < 3 → 0 ≤ h 39 l ∧ h 39 l ≤ 1000000) {pp : Nat} {sp : Nat → Nat} (hpp : pp < 8) (h7 : h 21 7 = (pp : Int)) (hsp : ∀ i : Nat, i < L → h 40 i = ((sp i : Nat) : Int)) (hs6 : ∀ i : Nat, i < L → sp i < 6) (ht : -1 ≤ h 21 6 ∧ h 21 6 ≤ 3) : zQ (d + 3) 38 [.inr (.inr (some 81)), .inr (.inr (some 21))] (zs h hl) (fun r σ' => (zCov L sp pp ∧ zPk (zIs L (fun l => h 39 l)) h hl 101 r σ') ∨ (¬ zCov L sp pp ∧ zPk (fun l => (l : Int) = if h 21 6 + 1 < (L : Int) then h 21 6 + 1 else 0) h hl 100 r σ')) := by
  rcases (show L = 1 ∨ L = 2 ∨ L = 3 by omega) with rfl | rfl | rfl
  · exact p_turnD1 hL hf hpp h7 hsp hs6 ht
  · exact p_turnD2 hL hf hpp h7 hsp hs6 ht
  · exact p_turnD3 hL hf hpp h7 hsp hs6 ht
set_option maxRecDepth 100000 in
set_option maxHeartbeats 4000000 in
theorem p_turnT1 {d : Nat} {h hl : Nat → Nat → Int} (hL : h 48 3 = 1) (hf : ∀ l : Nat, l < 3 → 0 ≤ h 57 l ∧ h 57 l ≤ 1000000) {pp : Nat} {sp : Nat → Nat} (hpp : pp < 8) (h7 : h 48 7 = (pp : Int)) (hsp : ∀ i : Nat, i < 1 → h 58 i = ((sp i : Nat) : Int)) (hs6 : ∀ i : Nat, i < 1 → sp i < 6) (ht : -1 ≤ h 48 6 ∧ h 48 6 ≤ 3) : zQ (d + 3) 38 [.inr (.inr (some 81)), .inr (.inr (some 48))] (zs h hl) (fun r σ' => (zCov 1 sp pp ∧ zPk (zIs 1 (fun l => h 57 l)) h hl 101 r σ') ∨ (¬ zCov 1 sp pp ∧ zPk (fun l => (l : Int) = if h 48 6 + 1 < ((1 : Nat) : Int) then h 48 6 + 1 else 0) h hl 100 r σ')) := by
  refine zQ_of (Nat.le_of_ble_eq_true rfl) ?_
  show zH (d + 2) 38 (0, [some (.inr (.inr (some 81))), some (.inr (.inr (some 48)))], [], (zs h hl)) _
  refine zH_go 9 (c' := (17, [some (.inr (.inr (some 81))), some (.inr (.inr (some 48)))], [.inl (h 48 7), .inr (.inr (some 48))], (zs h (zup hl 81 0 ((hl 81 0) + 100))))) rfl ?_
  rw [h7]
  refine zH_call (M' := 25) (as := [.inr (.inr (some 48)), .inl (pp : Int)]) (T := []) rfl (p_covT (L := 1) (pp := pp) hpp (by decide) hL hsp hs6) (fun r σ' p_1 => ?_)
  rcases p_1 with ⟨rfl, b_2, rfl⟩ | ⟨rfl, b_2, rfl⟩
  · show zH _ _ (20, [some (.inr (.inr (some 81))), some (.inr (.inr (some 48)))], [.inl 1], (zs h (zup hl 81 0 ((hl 81 0) + 100)))) _
    refine zH_bf (x := 1) (y := 0) (k := .eq) (c1 := (29, [some (.inr (.inr (some 81))), some (.inr (.inr (some 48)))], [], (zs h (zup hl 81 0 ((hl 81 0) + 100))))) (c2 := (23, [some (.inr (.inr (some 81))), some (.inr (.inr (some 48)))], [], (zs h (zup hl 81 0 ((hl 81 0) + 100))))) rfl ⟨by decide, by decide⟩ ⟨by decide, by decide⟩ (by show ¬ (1 = 0); decide) ?_
    refine zH_go 2 (c' := (25, [some (.inr (.inr (some 81))), some (.inr (.inr (some 48)))], [.inr (.inr (some 48)), .inr (.inr (some 81))], (zs h (zup hl 81 0 ((hl 81 0) + 100))))) rfl ?_
    refine zH_call (M' := 36) (as := [.inr (.inr (some 81)), .inr (.inr (some 48))]) (T := []) rfl (p_nearT (L := 1) (by decide) hL hf) (fun r σ' p_3 => ?_)
    obtain ⟨l, hl1, rfl, rfl⟩ := p_3
    rw [zup_id]
    show zH _ _ (28, [some (.inr (.inr (some 81))), some (.inr (.inr (some 48)))], [.inl (l : Int)], (zs h (zup hl 81 0 (zup hl 81 0 (hl 81 0 + 100) 81 0 + 1)))) _
    rw [zup_eq]
    refine zH_ret (v := some (.inl (l : Int))) rfl (fun q => absurd q (by decide)) ?_
    exact Or.inl ⟨by assumption, l, hl1, rfl, by rw [show hl 81 0 + 101 = hl 81 0 + 100 + 1 by omega]⟩
  · show zH _ _ (20, [some (.inr (.inr (some 81))), some (.inr (.inr (some 48)))], [.inl 0], (zs h (zup hl 81 0 ((hl 81 0) + 100)))) _
    refine zH_bt (x := 0) (y := 0) (k := .eq) (c1 := (29, [some (.inr (.inr (some 81))), some (.inr (.inr (some 48)))], [], (zs h (zup hl 81 0 ((hl 81 0) + 100))))) (c2 := (23, [some (.inr (.inr (some 81))), some (.inr (.inr (some 48)))], [], (zs h (zup hl 81 0 ((hl 81 0) + 100))))) rfl ⟨by decide, by decide⟩ ⟨by decide, by decide⟩ (by show 0 = 0; decide) ?_
    refine zH_go 6 (c' := (39, [some (.inr (.inr (some 81))), some (.inr (.inr (some 48)))], [.inl (h 48 3), .inl ((h 48 6) + 1)], (zs h (zup hl 81 0 ((hl 81 0) + 100))))) rfl ?_
    rw [hL]
    refine zH_br (x := ((h 48 6) + 1)) (y := 1) (k := .ge) (c1 := (51, [some (.inr (.inr (some 81))), some (.inr (.inr (some 48)))], [], (zs h (zup hl 81 0 ((hl 81 0) + 100))))) (c2 := (42, [some (.inr (.inr (some 81))), some (.inr (.inr (some 48)))], [], (zs h (zup hl 81 0 ((hl 81 0) + 100))))) rfl (by first | assumption | (unfold zr; omega)) ⟨by decide, by decide⟩ (fun (b_4 : ¬ ((h 48 6) + 1) < 1) => ?_) (fun (b_4 : ¬ (¬ ((h 48 6) + 1) < 1)) => ?_)
    · refine zH_go 1 (c' := (52, [some (.inr (.inr (some 81))), some (.inr (.inr (some 48)))], [.inl 0], (zs h (zup hl 81 0 ((hl 81 0) + 100))))) rfl ?_
      refine zH_ret (v := some (.inl 0)) rfl (fun q => absurd q (by decide)) ?_
      exact Or.inr ⟨by assumption, 0, by rw [if_neg (by omega)]; rfl, rfl, rfl⟩
    · refine zH_go 5 (c' := (52, [some (.inr (.inr (some 81))), some (.inr (.inr (some 48)))], [.inl ((h 48 6) + 1)], (zs h (zup hl 81 0 ((hl 81 0) + 100))))) rfl ?_
      refine zH_ret (v := some (.inl ((h 48 6) + 1))) rfl (fun q => absurd q (by decide)) ?_
      exact Or.inr ⟨by assumption, Int.toNat (h 48 6 + 1), by rw [if_pos (by omega)]; omega, by rw [Int.toNat_of_nonneg (by omega)], rfl⟩
set_option maxRecDepth 100000 in
set_option maxHeartbeats 4000000 in
theorem p_turnT2 {d : Nat} {h hl : Nat → Nat → Int} (hL : h 48 3 = 2) (hf : ∀ l : Nat, l < 3 → 0 ≤ h 57 l ∧ h 57 l ≤ 1000000) {pp : Nat} {sp : Nat → Nat} (hpp : pp < 8) (h7 : h 48 7 = (pp : Int)) (hsp : ∀ i : Nat, i < 2 → h 58 i = ((sp i : Nat) : Int)) (hs6 : ∀ i : Nat, i < 2 → sp i < 6) (ht : -1 ≤ h 48 6 ∧ h 48 6 ≤ 3) : zQ (d + 3) 38 [.inr (.inr (some 81)), .inr (.inr (some 48))] (zs h hl) (fun r σ' => (zCov 2 sp pp ∧ zPk (zIs 2 (fun l => h 57 l)) h hl 101 r σ') ∨ (¬ zCov 2 sp pp ∧ zPk (fun l => (l : Int) = if h 48 6 + 1 < ((2 : Nat) : Int) then h 48 6 + 1 else 0) h hl 100 r σ')) := by
  refine zQ_of (Nat.le_of_ble_eq_true rfl) ?_
  show zH (d + 2) 38 (0, [some (.inr (.inr (some 81))), some (.inr (.inr (some 48)))], [], (zs h hl)) _
  refine zH_go 9 (c' := (17, [some (.inr (.inr (some 81))), some (.inr (.inr (some 48)))], [.inl (h 48 7), .inr (.inr (some 48))], (zs h (zup hl 81 0 ((hl 81 0) + 100))))) rfl ?_
  rw [h7]
  refine zH_call (M' := 25) (as := [.inr (.inr (some 48)), .inl (pp : Int)]) (T := []) rfl (p_covT (L := 2) (pp := pp) hpp (by decide) hL hsp hs6) (fun r σ' p_1 => ?_)
  rcases p_1 with ⟨rfl, b_2, rfl⟩ | ⟨rfl, b_2, rfl⟩
  · show zH _ _ (20, [some (.inr (.inr (some 81))), some (.inr (.inr (some 48)))], [.inl 1], (zs h (zup hl 81 0 ((hl 81 0) + 100)))) _
    refine zH_bf (x := 1) (y := 0) (k := .eq) (c1 := (29, [some (.inr (.inr (some 81))), some (.inr (.inr (some 48)))], [], (zs h (zup hl 81 0 ((hl 81 0) + 100))))) (c2 := (23, [some (.inr (.inr (some 81))), some (.inr (.inr (some 48)))], [], (zs h (zup hl 81 0 ((hl 81 0) + 100))))) rfl ⟨by decide, by decide⟩ ⟨by decide, by decide⟩ (by show ¬ (1 = 0); decide) ?_
    refine zH_go 2 (c' := (25, [some (.inr (.inr (some 81))), some (.inr (.inr (some 48)))], [.inr (.inr (some 48)), .inr (.inr (some 81))], (zs h (zup hl 81 0 ((hl 81 0) + 100))))) rfl ?_
    refine zH_call (M' := 36) (as := [.inr (.inr (some 81)), .inr (.inr (some 48))]) (T := []) rfl (p_nearT (L := 2) (by decide) hL hf) (fun r σ' p_3 => ?_)
    obtain ⟨l, hl1, rfl, rfl⟩ := p_3
    rw [zup_id]
    show zH _ _ (28, [some (.inr (.inr (some 81))), some (.inr (.inr (some 48)))], [.inl (l : Int)], (zs h (zup hl 81 0 (zup hl 81 0 (hl 81 0 + 100) 81 0 + 1)))) _
    rw [zup_eq]
    refine zH_ret (v := some (.inl (l : Int))) rfl (fun q => absurd q (by decide)) ?_
    exact Or.inl ⟨by assumption, l, hl1, rfl, by rw [show hl 81 0 + 101 = hl 81 0 + 100 + 1 by omega]⟩
  · show zH _ _ (20, [some (.inr (.inr (some 81))), some (.inr (.inr (some 48)))], [.inl 0], (zs h (zup hl 81 0 ((hl 81 0) + 100)))) _
    refine zH_bt (x := 0) (y := 0) (k := .eq) (c1 := (29, [some (.inr (.inr (some 81))), some (.inr (.inr (some 48)))], [], (zs h (zup hl 81 0 ((hl 81 0) + 100))))) (c2 := (23, [some (.inr (.inr (some 81))), some (.inr (.inr (some 48)))], [], (zs h (zup hl 81 0 ((hl 81 0) + 100))))) rfl ⟨by decide, by decide⟩ ⟨by decide, by decide⟩ (by show 0 = 0; decide) ?_
    refine zH_go 6 (c' := (39, [some (.inr (.inr (some 81))), some (.inr (.inr (some 48)))], [.inl (h 48 3), .inl ((h 48 6) + 1)], (zs h (zup hl 81 0 ((hl 81 0) + 100))))) rfl ?_
    rw [hL]
    refine zH_br (x := ((h 48 6) + 1)) (y := 2) (k := .ge) (c1 := (51, [some (.inr (.inr (some 81))), some (.inr (.inr (some 48)))], [], (zs h (zup hl 81 0 ((hl 81 0) + 100))))) (c2 := (42, [some (.inr (.inr (some 81))), some (.inr (.inr (some 48)))], [], (zs h (zup hl 81 0 ((hl 81 0) + 100))))) rfl (by first | assumption | (unfold zr; omega)) ⟨by decide, by decide⟩ (fun (b_4 : ¬ ((h 48 6) + 1) < 2) => ?_) (fun (b_4 : ¬ (¬ ((h 48 6) + 1) < 2)) => ?_)
    · refine zH_go 1 (c' := (52, [some (.inr (.inr (some 81))), some (.inr (.inr (some 48)))], [.inl 0], (zs h (zup hl 81 0 ((hl 81 0) + 100))))) rfl ?_
      refine zH_ret (v := some (.inl 0)) rfl (fun q => absurd q (by decide)) ?_
      exact Or.inr ⟨by assumption, 0, by rw [if_neg (by omega)]; rfl, rfl, rfl⟩
    · refine zH_go 5 (c' := (52, [some (.inr (.inr (some 81))), some (.inr (.inr (some 48)))], [.inl ((h 48 6) + 1)], (zs h (zup hl 81 0 ((hl 81 0) + 100))))) rfl ?_
      refine zH_ret (v := some (.inl ((h 48 6) + 1))) rfl (fun q => absurd q (by decide)) ?_
      exact Or.inr ⟨by assumption, Int.toNat (h 48 6 + 1), by rw [if_pos (by omega)]; omega, by rw [Int.toNat_of_nonneg (by omega)], rfl⟩
set_option maxRecDepth 100000 in
set_option maxHeartbeats 4000000 in
theorem p_turnT3 {d : Nat} {h hl : Nat → Nat → Int} (hL : h 48 3 = 3) (hf : ∀ l : Nat, l < 3 → 0 ≤ h 57 l ∧ h 57 l ≤ 1000000) {pp : Nat} {sp : Nat → Nat} (hpp : pp < 8) (h7 : h 48 7 = (pp : Int)) (hsp : ∀ i : Nat, i < 3 → h 58 i = ((sp i : Nat) : Int)) (hs6 : ∀ i : Nat, i < 3 → sp i < 6) (ht : -1 ≤ h 48 6 ∧ h 48 6 ≤ 3) : zQ (d + 3) 38 [.inr (.inr (some 81)), .inr (.inr (some 48))] (zs h hl) (fun r σ' => (zCov 3 sp pp ∧ zPk (zIs 3 (fun l => h 57 l)) h hl 101 r σ') ∨ (¬ zCov 3 sp pp ∧ zPk (fun l => (l : Int) = if h 48 6 + 1 < ((3 : Nat) : Int) then h 48 6 + 1 else 0) h hl 100 r σ')) := by
  refine zQ_of (Nat.le_of_ble_eq_true rfl) ?_
  show zH (d + 2) 38 (0, [some (.inr (.inr (some 81))), some (.inr (.inr (some 48)))], [], (zs h hl)) _
  refine zH_go 9 (c' := (17, [some (.inr (.inr (some 81))), some (.inr (.inr (some 48)))], [.inl (h 48 7), .inr (.inr (some 48))], (zs h (zup hl 81 0 ((hl 81 0) + 100))))) rfl ?_
  rw [h7]
  refine zH_call (M' := 25) (as := [.inr (.inr (some 48)), .inl (pp : Int)]) (T := []) rfl (p_covT (L := 3) (pp := pp) hpp (by decide) hL hsp hs6) (fun r σ' p_1 => ?_)
  rcases p_1 with ⟨rfl, b_2, rfl⟩ | ⟨rfl, b_2, rfl⟩
  · show zH _ _ (20, [some (.inr (.inr (some 81))), some (.inr (.inr (some 48)))], [.inl 1], (zs h (zup hl 81 0 ((hl 81 0) + 100)))) _
    refine zH_bf (x := 1) (y := 0) (k := .eq) (c1 := (29, [some (.inr (.inr (some 81))), some (.inr (.inr (some 48)))], [], (zs h (zup hl 81 0 ((hl 81 0) + 100))))) (c2 := (23, [some (.inr (.inr (some 81))), some (.inr (.inr (some 48)))], [], (zs h (zup hl 81 0 ((hl 81 0) + 100))))) rfl ⟨by decide, by decide⟩ ⟨by decide, by decide⟩ (by show ¬ (1 = 0); decide) ?_
    refine zH_go 2 (c' := (25, [some (.inr (.inr (some 81))), some (.inr (.inr (some 48)))], [.inr (.inr (some 48)), .inr (.inr (some 81))], (zs h (zup hl 81 0 ((hl 81 0) + 100))))) rfl ?_
    refine zH_call (M' := 36) (as := [.inr (.inr (some 81)), .inr (.inr (some 48))]) (T := []) rfl (p_nearT (L := 3) (by decide) hL hf) (fun r σ' p_3 => ?_)
    obtain ⟨l, hl1, rfl, rfl⟩ := p_3
    rw [zup_id]
    show zH _ _ (28, [some (.inr (.inr (some 81))), some (.inr (.inr (some 48)))], [.inl (l : Int)], (zs h (zup hl 81 0 (zup hl 81 0 (hl 81 0 + 100) 81 0 + 1)))) _
    rw [zup_eq]
    refine zH_ret (v := some (.inl (l : Int))) rfl (fun q => absurd q (by decide)) ?_
    exact Or.inl ⟨by assumption, l, hl1, rfl, by rw [show hl 81 0 + 101 = hl 81 0 + 100 + 1 by omega]⟩
  · show zH _ _ (20, [some (.inr (.inr (some 81))), some (.inr (.inr (some 48)))], [.inl 0], (zs h (zup hl 81 0 ((hl 81 0) + 100)))) _
    refine zH_bt (x := 0) (y := 0) (k := .eq) (c1 := (29, [some (.inr (.inr (some 81))), some (.inr (.inr (some 48)))], [], (zs h (zup hl 81 0 ((hl 81 0) + 100))))) (c2 := (23, [some (.inr (.inr (some 81))), some (.inr (.inr (some 48)))], [], (zs h (zup hl 81 0 ((hl 81 0) + 100))))) rfl ⟨by decide, by decide⟩ ⟨by decide, by decide⟩ (by show 0 = 0; decide) ?_
    refine zH_go 6 (c' := (39, [some (.inr (.inr (some 81))), some (.inr (.inr (some 48)))], [.inl (h 48 3), .inl ((h 48 6) + 1)], (zs h (zup hl 81 0 ((hl 81 0) + 100))))) rfl ?_
    rw [hL]
    refine zH_br (x := ((h 48 6) + 1)) (y := 3) (k := .ge) (c1 := (51, [some (.inr (.inr (some 81))), some (.inr (.inr (some 48)))], [], (zs h (zup hl 81 0 ((hl 81 0) + 100))))) (c2 := (42, [some (.inr (.inr (some 81))), some (.inr (.inr (some 48)))], [], (zs h (zup hl 81 0 ((hl 81 0) + 100))))) rfl (by first | assumption | (unfold zr; omega)) ⟨by decide, by decide⟩ (fun (b_4 : ¬ ((h 48 6) + 1) < 3) => ?_) (fun (b_4 : ¬ (¬ ((h 48 6) + 1) < 3)) => ?_)
    · refine zH_go 1 (c' := (52, [some (.inr (.inr (some 81))), some (.inr (.inr (some 48)))], [.inl 0], (zs h (zup hl 81 0 ((hl 81 0) + 100))))) rfl ?_
      refine zH_ret (v := some (.inl 0)) rfl (fun q => absurd q (by decide)) ?_
      exact Or.inr ⟨by assumption, 0, by rw [if_neg (by omega)]; rfl, rfl, rfl⟩
    · refine zH_go 5 (c' := (52, [some (.inr (.inr (some 81))), some (.inr (.inr (some 48)))], [.inl ((h 48 6) + 1)], (zs h (zup hl 81 0 ((hl 81 0) + 100))))) rfl ?_
      refine zH_ret (v := some (.inl ((h 48 6) + 1))) rfl (fun q => absurd q (by decide)) ?_
      exact Or.inr ⟨by assumption, Int.toNat (h 48 6 + 1), by rw [if_pos (by omega)]; omega, by rw [Int.toNat_of_nonneg (by omega)], rfl⟩
theorem p_turnT {d : Nat} {h hl : Nat → Nat → Int} {L : Nat} (hL3 : 1 ≤ L ∧ L ≤ 3) (hL : h 48 3 = (L : Int)) (hf : ∀ l : Nat, l < 3 → 0 ≤ h 57 l ∧ h 57 l ≤ 1000000) {pp : Nat} {sp : Nat → Nat} (hpp : pp < 8) (h7 : h 48 7 = (pp : Int)) (hsp : ∀ i : Nat, i < L → h 58 i = ((sp i : Nat) : Int)) (hs6 : ∀ i : Nat, i < L → sp i < 6) (ht : -1 ≤ h 48 6 ∧ h 48 6 ≤ 3) : zQ (d + 3) 38 [.inr (.inr (some 81)), .inr (.inr (some 48))] (zs h hl) (fun r σ' => (zCov L sp pp ∧ zPk (zIs L (fun l => h 57 l)) h hl 101 r σ') ∨ (¬ zCov L sp pp ∧ zPk (fun l => (l : Int) = if h 48 6 + 1 < (L : Int) then h 48 6 + 1 else 0) h hl 100 r σ')) := by
  rcases (show L = 1 ∨ L = 2 ∨ L = 3 by omega) with rfl | rfl | rfl
  · exact p_turnT1 hL hf hpp h7 hsp hs6 ht
  · exact p_turnT2 hL hf hpp h7 hsp hs6 ht
  · exact p_turnT3 hL hf hpp h7 hsp hs6 ht
