/-! RULES: which LADDER goes. -/
/-- r is the first of L with the least -/
def zIs (L : Nat) (f : Nat → Int) (r : Nat) : Prop := (L = 1 ∧ r = 0) ∨ (L = 2 ∧ ((r = 0 ∧ f 0 ≤ f 1) ∨ (r = 1 ∧ f 1 < f 0))) ∨ (L = 3 ∧ ((r = 0 ∧ f 0 ≤ f 1 ∧ f 0 ≤ f 2) ∨ (r = 1 ∧ f 1 < f 0 ∧ f 1 ≤ f 2) ∨ (r = 2 ∧ f 2 < f 0 ∧ f 2 < f 1)))
theorem zIs_lt {L : Nat} {f : Nat → Int} {r : Nat} (h : zIs L f r) : r < L := by
  unfold zIs at h
  omega
theorem zIs_eq {L : Nat} {f g : Nat → Int} {r q : Nat} (hf : zIs L f r) (hg : zIs L g q) (he : ∀ l : Nat, l < L → f l = g l) : r = q := by
  unfold zIs at hf hg
  rcases hf with ⟨rfl, h1⟩ | ⟨rfl, h1⟩ | ⟨rfl, h1⟩
  · omega
  · have e0 := he 0 (by decide)
    have e1 := he 1 (by decide)
    omega
  · have e0 := he 0 (by decide)
    have e1 := he 1 (by decide)
    have e2 := he 2 (by decide)
    omega
/-- an answer, THE TRACE grown -/
def zPk (f : Nat → Prop) (h hl : Nat → Nat → Int) (t : Int) : Option zV → zS → Prop := fun r σ' => ∃ l : Nat, f l ∧ r = some (.inl (l : Int)) ∧ σ' = zs h (zup hl 81 0 (hl 81 0 + t))
theorem zup_id {h : Nat → Nat → Int} {a k : Nat} {v w : Int} : zup (zup h a k v) a k w = zup h a k w := by
  funext b j
  simp only [zup_at]
  by_cases q : b = a ∧ j = k
  · rw [if_pos q, if_pos q]
  · rw [if_neg q, if_neg q, if_neg q]
set_option maxRecDepth 100000 in
set_option maxHeartbeats 4000000 in
theorem p_nearD1 {d : Nat} {h hl : Nat → Nat → Int} (hL : h 21 3 = 1) (hf : ∀ l : Nat, l < 3 → 0 ≤ h 39 l ∧ h 39 l ≤ 1000000) : zQ (d + 2) 36 [.inr (.inr (some 81)), .inr (.inr (some 21))] (zs h hl) (zPk (zIs 1 (fun l => h 39 l)) h hl 1) := by
  have f0 := hf 0 (by decide)
  refine zQ_of (Nat.le_of_ble_eq_true rfl) ?_
  show zH (d + 1) 36 (0, [some (.inr (.inr (some 81))), some (.inr (.inr (some 21))), none, none], [], (zs h hl)) _
  refine zH_go 13 (c' := (19, [some (.inr (.inr (some 81))), some (.inr (.inr (some 21))), some (.inl 0), some (.inl 1)], [.inl (h 21 3), .inl 1], (zs h (zup hl 81 0 ((hl 81 0) + 1))))) rfl ?_
  rw [hL]
  refine zH_bt (x := 1) (y := 1) (k := .ge) (c1 := (43, [some (.inr (.inr (some 81))), some (.inr (.inr (some 21))), some (.inl 0), some (.inl 1)], [], (zs h (zup hl 81 0 ((hl 81 0) + 1))))) (c2 := (22, [some (.inr (.inr (some 81))), some (.inr (.inr (some 21))), some (.inl 0), some (.inl 1)], [], (zs h (zup hl 81 0 ((hl 81 0) + 1))))) rfl ⟨by decide, by decide⟩ ⟨by decide, by decide⟩ (by show ¬ 1 < 1; decide) ?_
  refine zH_go 1 (c' := (44, [some (.inr (.inr (some 81))), some (.inr (.inr (some 21))), some (.inl 0), some (.inl 1)], [.inl 0], (zs h (zup hl 81 0 ((hl 81 0) + 1))))) rfl ?_
  refine zH_ret (v := some (.inl 0)) rfl (fun q => absurd q (by decide)) ?_
  exact ⟨0, by unfold zIs; (try dsimp only); omega, rfl, rfl⟩
set_option maxRecDepth 100000 in
set_option maxHeartbeats 4000000 in
theorem p_nearD2 {d : Nat} {h hl : Nat → Nat → Int} (hL : h 21 3 = 2) (hf : ∀ l : Nat, l < 3 → 0 ≤ h 39 l ∧ h 39 l ≤ 1000000) : zQ (d + 2) 36 [.inr (.inr (some 81)), .inr (.inr (some 21))] (zs h hl) (zPk (zIs 2 (fun l => h 39 l)) h hl 1) := by
  have f0 := hf 0 (by decide)
  have f1 := hf 1 (by decide)
  refine zQ_of (Nat.le_of_ble_eq_true rfl) ?_
  show zH (d + 1) 36 (0, [some (.inr (.inr (some 81))), some (.inr (.inr (some 21))), none, none], [], (zs h hl)) _
  refine zH_go 13 (c' := (19, [some (.inr (.inr (some 81))), some (.inr (.inr (some 21))), some (.inl 0), some (.inl 1)], [.inl (h 21 3), .inl 1], (zs h (zup hl 81 0 ((hl 81 0) + 1))))) rfl ?_
  rw [hL]
  refine zH_bf (x := 1) (y := 2) (k := .ge) (c1 := (43, [some (.inr (.inr (some 81))), some (.inr (.inr (some 21))), some (.inl 0), some (.inl 1)], [], (zs h (zup hl 81 0 ((hl 81 0) + 1))))) (c2 := (22, [some (.inr (.inr (some 81))), some (.inr (.inr (some 21))), some (.inl 0), some (.inl 1)], [], (zs h (zup hl 81 0 ((hl 81 0) + 1))))) rfl ⟨by decide, by decide⟩ ⟨by decide, by decide⟩ (by show ¬ (¬ 1 < 2); decide) ?_
  refine zH_go 2 (c' := (24, [some (.inr (.inr (some 81))), some (.inr (.inr (some 21))), some (.inl 0), some (.inl 1)], [.inl 1, .inr (.inr (some 21))], (zs h (zup hl 81 0 ((hl 81 0) + 1))))) rfl ?_
  refine zH_call (M' := 20) (as := [.inr (.inr (some 21)), .inl 1]) (T := []) rfl (p_farD (l := 1) (by decide)) (fun r σ' p_1 => ?_)
  obtain ⟨rfl, rfl⟩ := p_1
  show zH _ _ (27, [some (.inr (.inr (some 81))), some (.inr (.inr (some 21))), some (.inl 0), some (.inl 1)], [.inl (h 39 1)], (zs h (zup hl 81 0 ((hl 81 0) + 1)))) _
  refine zH_go 2 (c' := (29, [some (.inr (.inr (some 81))), some (.inr (.inr (some 21))), some (.inl 0), some (.inl 1)], [.inl 0, .inr (.inr (some 21)), .inl (h 39 1)], (zs h (zup hl 81 0 ((hl 81 0) + 1))))) rfl ?_
  refine zH_call (M' := 20) (as := [.inr (.inr (some 21)), .inl 0]) (T := [.inl (h 39 1)]) rfl (p_farD (l := 0) (by decide)) (fun r σ' p_2 => ?_)
  obtain ⟨rfl, rfl⟩ := p_2
  show zH _ _ (32, [some (.inr (.inr (some 81))), some (.inr (.inr (some 21))), some (.inl 0), some (.inl 1)], [.inl (h 39 0), .inl (h 39 1)], (zs h (zup hl 81 0 ((hl 81 0) + 1)))) _
  refine zH_br (x := (h 39 1)) (y := (h 39 0)) (k := .ge) (c1 := (37, [some (.inr (.inr (some 81))), some (.inr (.inr (some 21))), some (.inl 0), some (.inl 1)], [], (zs h (zup hl 81 0 ((hl 81 0) + 1))))) (c2 := (35, [some (.inr (.inr (some 81))), some (.inr (.inr (some 21))), some (.inl 0), some (.inl 1)], [], (zs h (zup hl 81 0 ((hl 81 0) + 1))))) rfl (by first | assumption | (unfold zr; omega)) (by first | assumption | (unfold zr; omega)) (fun (b_3 : ¬ (h 39 1) < (h 39 0)) => ?_) (fun (b_3 : ¬ (¬ (h 39 1) < (h 39 0))) => ?_)
  · refine zH_go 5 (c' := (19, [some (.inr (.inr (some 81))), some (.inr (.inr (some 21))), some (.inl 0), some (.inl 2)], [.inl (h 21 3), .inl 2], (zs h (zup hl 81 0 ((hl 81 0) + 1))))) rfl ?_
    rw [hL]
    refine zH_bt (x := 2) (y := 2) (k := .ge) (c1 := (43, [some (.inr (.inr (some 81))), some (.inr (.inr (some 21))), some (.inl 0), some (.inl 2)], [], (zs h (zup hl 81 0 ((hl 81 0) + 1))))) (c2 := (22, [some (.inr (.inr (some 81))), some (.inr (.inr (some 21))), some (.inl 0), some (.inl 2)], [], (zs h (zup hl 81 0 ((hl 81 0) + 1))))) rfl ⟨by decide, by decide⟩ ⟨by decide, by decide⟩ (by show ¬ 2 < 2; decide) ?_
    refine zH_go 1 (c' := (44, [some (.inr (.inr (some 81))), some (.inr (.inr (some 21))), some (.inl 0), some (.inl 2)], [.inl 0], (zs h (zup hl 81 0 ((hl 81 0) + 1))))) rfl ?_
    refine zH_ret (v := some (.inl 0)) rfl (fun q => absurd q (by decide)) ?_
    exact ⟨0, by unfold zIs; (try dsimp only); omega, rfl, rfl⟩
  · refine zH_go 7 (c' := (19, [some (.inr (.inr (some 81))), some (.inr (.inr (some 21))), some (.inl 1), some (.inl 2)], [.inl (h 21 3), .inl 2], (zs h (zup hl 81 0 ((hl 81 0) + 1))))) rfl ?_
    rw [hL]
    refine zH_bt (x := 2) (y := 2) (k := .ge) (c1 := (43, [some (.inr (.inr (some 81))), some (.inr (.inr (some 21))), some (.inl 1), some (.inl 2)], [], (zs h (zup hl 81 0 ((hl 81 0) + 1))))) (c2 := (22, [some (.inr (.inr (some 81))), some (.inr (.inr (some 21))), some (.inl 1), some (.inl 2)], [], (zs h (zup hl 81 0 ((hl 81 0) + 1))))) rfl ⟨by decide, by decide⟩ ⟨by decide, by decide⟩ (by show ¬ 2 < 2; decide) ?_
    refine zH_go 1 (c' := (44, [some (.inr (.inr (some 81))), some (.inr (.inr (some 21))), some (.inl 1), some (.inl 2)], [.inl 1], (zs h (zup hl 81 0 ((hl 81 0) + 1))))) rfl ?_
    refine zH_ret (v := some (.inl 1)) rfl (fun q => absurd q (by decide)) ?_
    exact ⟨1, by unfold zIs; (try dsimp only); omega, rfl, rfl⟩
set_option maxRecDepth 100000 in
set_option maxHeartbeats 4000000 in
theorem p_nearD3 {d : Nat} {h hl : Nat → Nat → Int} (hL : h 21 3 = 3) (hf : ∀ l : Nat, l < 3 → 0 ≤ h 39 l ∧ h 39 l ≤ 1000000) : zQ (d + 2) 36 [.inr (.inr (some 81)), .inr (.inr (some 21))] (zs h hl) (zPk (zIs 3 (fun l => h 39 l)) h hl 1) := by
  have f0 := hf 0 (by decide)
  have f1 := hf 1 (by decide)
  have f2 := hf 2 (by decide)
  refine zQ_of (Nat.le_of_ble_eq_true rfl) ?_
  show zH (d + 1) 36 (0, [some (.inr (.inr (some 81))), some (.inr (.inr (some 21))), none, none], [], (zs h hl)) _
  refine zH_go 13 (c' := (19, [some (.inr (.inr (some 81))), some (.inr (.inr (some 21))), some (.inl 0), some (.inl 1)], [.inl (h 21 3), .inl 1], (zs h (zup hl 81 0 ((hl 81 0) + 1))))) rfl ?_
  rw [hL]
  refine zH_bf (x := 1) (y := 3) (k := .ge) (c1 := (43, [some (.inr (.inr (some 81))), some (.inr (.inr (some 21))), some (.inl 0), some (.inl 1)], [], (zs h (zup hl 81 0 ((hl 81 0) + 1))))) (c2 := (22, [some (.inr (.inr (some 81))), some (.inr (.inr (some 21))), some (.inl 0), some (.inl 1)], [], (zs h (zup hl 81 0 ((hl 81 0) + 1))))) rfl ⟨by decide, by decide⟩ ⟨by decide, by decide⟩ (by show ¬ (¬ 1 < 3); decide) ?_
  refine zH_go 2 (c' := (24, [some (.inr (.inr (some 81))), some (.inr (.inr (some 21))), some (.inl 0), some (.inl 1)], [.inl 1, .inr (.inr (some 21))], (zs h (zup hl 81 0 ((hl 81 0) + 1))))) rfl ?_
  refine zH_call (M' := 20) (as := [.inr (.inr (some 21)), .inl 1]) (T := []) rfl (p_farD (l := 1) (by decide)) (fun r σ' p_1 => ?_)
  obtain ⟨rfl, rfl⟩ := p_1
  show zH _ _ (27, [some (.inr (.inr (some 81))), some (.inr (.inr (some 21))), some (.inl 0), some (.inl 1)], [.inl (h 39 1)], (zs h (zup hl 81 0 ((hl 81 0) + 1)))) _
  refine zH_go 2 (c' := (29, [some (.inr (.inr (some 81))), some (.inr (.inr (some 21))), some (.inl 0), some (.inl 1)], [.inl 0, .inr (.inr (some 21)), .inl (h 39 1)], (zs h (zup hl 81 0 ((hl 81 0) + 1))))) rfl ?_
  refine zH_call (M' := 20) (as := [.inr (.inr (some 21)), .inl 0]) (T := [.inl (h 39 1)]) rfl (p_farD (l := 0) (by decide)) (fun r σ' p_2 => ?_)
  obtain ⟨rfl, rfl⟩ := p_2
  show zH _ _ (32, [some (.inr (.inr (some 81))), some (.inr (.inr (some 21))), some (.inl 0), some (.inl 1)], [.inl (h 39 0), .inl (h 39 1)], (zs h (zup hl 81 0 ((hl 81 0) + 1)))) _
  refine zH_br (x := (h 39 1)) (y := (h 39 0)) (k := .ge) (c1 := (37, [some (.inr (.inr (some 81))), some (.inr (.inr (some 21))), some (.inl 0), some (.inl 1)], [], (zs h (zup hl 81 0 ((hl 81 0) + 1))))) (c2 := (35, [some (.inr (.inr (some 81))), some (.inr (.inr (some 21))), some (.inl 0), some (.inl 1)], [], (zs h (zup hl 81 0 ((hl 81 0) + 1))))) rfl (by first | assumption | (unfold zr; omega)) (by first | assumption | (unfold zr; omega)) (fun (b_3 : ¬ (h 39 1) < (h 39 0)) => ?_) (fun (b_3 : ¬ (¬ (h 39 1) < (h 39 0))) => ?_)
  · refine zH_go 5 (c' := (19, [some (.inr (.inr (some 81))), some (.inr (.inr (some 21))), some (.inl 0), some (.inl 2)], [.inl (h 21 3), .inl 2], (zs h (zup hl 81 0 ((hl 81 0) + 1))))) rfl ?_
    rw [hL]
    refine zH_bf (x := 2) (y := 3) (k := .ge) (c1 := (43, [some (.inr (.inr (some 81))), some (.inr (.inr (some 21))), some (.inl 0), some (.inl 2)], [], (zs h (zup hl 81 0 ((hl 81 0) + 1))))) (c2 := (22, [some (.inr (.inr (some 81))), some (.inr (.inr (some 21))), some (.inl 0), some (.inl 2)], [], (zs h (zup hl 81 0 ((hl 81 0) + 1))))) rfl ⟨by decide, by decide⟩ ⟨by decide, by decide⟩ (by show ¬ (¬ 2 < 3); decide) ?_
    refine zH_go 2 (c' := (24, [some (.inr (.inr (some 81))), some (.inr (.inr (some 21))), some (.inl 0), some (.inl 2)], [.inl 2, .inr (.inr (some 21))], (zs h (zup hl 81 0 ((hl 81 0) + 1))))) rfl ?_
    refine zH_call (M' := 20) (as := [.inr (.inr (some 21)), .inl 2]) (T := []) rfl (p_farD (l := 2) (by decide)) (fun r σ' p_4 => ?_)
    obtain ⟨rfl, rfl⟩ := p_4
    show zH _ _ (27, [some (.inr (.inr (some 81))), some (.inr (.inr (some 21))), some (.inl 0), some (.inl 2)], [.inl (h 39 2)], (zs h (zup hl 81 0 ((hl 81 0) + 1)))) _
    refine zH_go 2 (c' := (29, [some (.inr (.inr (some 81))), some (.inr (.inr (some 21))), some (.inl 0), some (.inl 2)], [.inl 0, .inr (.inr (some 21)), .inl (h 39 2)], (zs h (zup hl 81 0 ((hl 81 0) + 1))))) rfl ?_
    refine zH_call (M' := 20) (as := [.inr (.inr (some 21)), .inl 0]) (T := [.inl (h 39 2)]) rfl (p_farD (l := 0) (by decide)) (fun r σ' p_5 => ?_)
    obtain ⟨rfl, rfl⟩ := p_5
    show zH _ _ (32, [some (.inr (.inr (some 81))), some (.inr (.inr (some 21))), some (.inl 0), some (.inl 2)], [.inl (h 39 0), .inl (h 39 2)], (zs h (zup hl 81 0 ((hl 81 0) + 1)))) _
    refine zH_br (x := (h 39 2)) (y := (h 39 0)) (k := .ge) (c1 := (37, [some (.inr (.inr (some 81))), some (.inr (.inr (some 21))), some (.inl 0), some (.inl 2)], [], (zs h (zup hl 81 0 ((hl 81 0) + 1))))) (c2 := (35, [some (.inr (.inr (some 81))), some (.inr (.inr (some 21))), some (.inl 0), some (.inl 2)], [], (zs h (zup hl 81 0 ((hl 81 0) + 1))))) rfl (by first | assumption | (unfold zr; omega)) (by first | assumption | (unfold zr; omega)) (fun (b_6 : ¬ (h 39 2) < (h 39 0)) => ?_) (fun (b_6 : ¬ (¬ (h 39 2) < (h 39 0))) => ?_)
    · refine zH_go 5 (c' := (19, [some (.inr (.inr (some 81))), some (.inr (.inr (some 21))), some (.inl 0), some (.inl 3)], [.inl (h 21 3), .inl 3], (zs h (zup hl 81 0 ((hl 81 0) + 1))))) rfl ?_
      rw [hL]
      refine zH_bt (x := 3) (y := 3) (k := .ge) (c1 := (43, [some (.inr (.inr (some 81))), some (.inr (.inr (some 21))), some (.inl 0), some (.inl 3)], [], (zs h (zup hl 81 0 ((hl 81 0) + 1))))) (c2 := (22, [some (.inr (.inr (some 81))), some (.inr (.inr (some 21))), some (.inl 0), some (.inl 3)], [], (zs h (zup hl 81 0 ((hl 81 0) + 1))))) rfl ⟨by decide, by decide⟩ ⟨by decide, by decide⟩ (by show ¬ 3 < 3; decide) ?_
      refine zH_go 1 (c' := (44, [some (.inr (.inr (some 81))), some (.inr (.inr (some 21))), some (.inl 0), some (.inl 3)], [.inl 0], (zs h (zup hl 81 0 ((hl 81 0) + 1))))) rfl ?_
      refine zH_ret (v := some (.inl 0)) rfl (fun q => absurd q (by decide)) ?_
      exact ⟨0, by unfold zIs; (try dsimp only); omega, rfl, rfl⟩
    · refine zH_go 7 (c' := (19, [some (.inr (.inr (some 81))), some (.inr (.inr (some 21))), some (.inl 2), some (.inl 3)], [.inl (h 21 3), .inl 3], (zs h (zup hl 81 0 ((hl 81 0) + 1))))) rfl ?_
      rw [hL]
      refine zH_bt (x := 3) (y := 3) (k := .ge) (c1 := (43, [some (.inr (.inr (some 81))), some (.inr (.inr (some 21))), some (.inl 2), some (.inl 3)], [], (zs h (zup hl 81 0 ((hl 81 0) + 1))))) (c2 := (22, [some (.inr (.inr (some 81))), some (.inr (.inr (some 21))), some (.inl 2), some (.inl 3)], [], (zs h (zup hl 81 0 ((hl 81 0) + 1))))) rfl ⟨by decide, by decide⟩ ⟨by decide, by decide⟩ (by show ¬ 3 < 3; decide) ?_
      refine zH_go 1 (c' := (44, [some (.inr (.inr (some 81))), some (.inr (.inr (some 21))), some (.inl 2), some (.inl 3)], [.inl 2], (zs h (zup hl 81 0 ((hl 81 0) + 1))))) rfl ?_
      refine zH_ret (v := some (.inl 2)) rfl (fun q => absurd q (by decide)) ?_
      exact ⟨2, by unfold zIs; (try dsimp only); omega, rfl, rfl⟩
  · refine zH_go 7 (c' := (19, [some (.inr (.inr (some 81))), some (.inr (.inr (some 21))), some (.inl 1), some (.inl 2)], [.inl (h 21 3), .inl 2], (zs h (zup hl 81 0 ((hl 81 0) + 1))))) rfl ?_
    rw [hL]
    refine zH_bf (x := 2) (y := 3) (k := .ge) (c1 := (43, [some (.inr (.inr (some 81))), some (.inr (.inr (some 21))), some (.inl 1), some (.inl 2)], [], (zs h (zup hl 81 0 ((hl 81 0) + 1))))) (c2 := (22, [some (.inr (.inr (some 81))), some (.inr (.inr (some 21))), some (.inl 1), some (.inl 2)], [], (zs h (zup hl 81 0 ((hl 81 0) + 1))))) rfl ⟨by decide, by decide⟩ ⟨by decide, by decide⟩ (by show ¬ (¬ 2 < 3); decide) ?_
    refine zH_go 2 (c' := (24, [some (.inr (.inr (some 81))), some (.inr (.inr (some 21))), some (.inl 1), some (.inl 2)], [.inl 2, .inr (.inr (some 21))], (zs h (zup hl 81 0 ((hl 81 0) + 1))))) rfl ?_
    refine zH_call (M' := 20) (as := [.inr (.inr (some 21)), .inl 2]) (T := []) rfl (p_farD (l := 2) (by decide)) (fun r σ' p_7 => ?_)
    obtain ⟨rfl, rfl⟩ := p_7
    show zH _ _ (27, [some (.inr (.inr (some 81))), some (.inr (.inr (some 21))), some (.inl 1), some (.inl 2)], [.inl (h 39 2)], (zs h (zup hl 81 0 ((hl 81 0) + 1)))) _
    refine zH_go 2 (c' := (29, [some (.inr (.inr (some 81))), some (.inr (.inr (some 21))), some (.inl 1), some (.inl 2)], [.inl 1, .inr (.inr (some 21)), .inl (h 39 2)], (zs h (zup hl 81 0 ((hl 81 0) + 1))))) rfl ?_
    refine zH_call (M' := 20) (as := [.inr (.inr (some 21)), .inl 1]) (T := [.inl (h 39 2)]) rfl (p_farD (l := 1) (by decide)) (fun r σ' p_8 => ?_)
    obtain ⟨rfl, rfl⟩ := p_8
    show zH _ _ (32, [some (.inr (.inr (some 81))), some (.inr (.inr (some 21))), some (.inl 1), some (.inl 2)], [.inl (h 39 1), .inl (h 39 2)], (zs h (zup hl 81 0 ((hl 81 0) + 1)))) _
    refine zH_br (x := (h 39 2)) (y := (h 39 1)) (k := .ge) (c1 := (37, [some (.inr (.inr (some 81))), some (.inr (.inr (some 21))), some (.inl 1), some (.inl 2)], [], (zs h (zup hl 81 0 ((hl 81 0) + 1))))) (c2 := (35, [some (.inr (.inr (some 81))), some (.inr (.inr (some 21))), some (.inl 1), some (.inl 2)], [], (zs h (zup hl 81 0 ((hl 81 0) + 1))))) rfl (by first | assumption | (unfold zr; omega)) (by first | assumption | (unfold zr; omega)) (fun (b_9 : ¬ (h 39 2) < (h 39 1)) => ?_) (fun (b_9 : ¬ (¬ (h 39 2) < (h 39 1))) => ?_)
    · refine zH_go 5 (c' := (19, [some (.inr (.inr (some 81))), some (.inr (.inr (some 21))), some (.inl 1), some (.inl 3)], [.inl (h 21 3), .inl 3], (zs h (zup hl 81 0 ((hl 81 0) + 1))))) rfl ?_
      rw [hL]
      refine zH_bt (x := 3) (y := 3) (k := .ge) (c1 := (43, [some (.inr (.inr (some 81))), some (.inr (.inr (some 21))), some (.inl 1), some (.inl 3)], [], (zs h (zup hl 81 0 ((hl 81 0) + 1))))) (c2 := (22, [some (.inr (.inr (some 81))), some (.inr (.inr (some 21))), some (.inl 1), some (.inl 3)], [], (zs h (zup hl 81 0 ((hl 81 0) + 1))))) rfl ⟨by decide, by decide⟩ ⟨by decide, by decide⟩ (by show ¬ 3 < 3; decide) ?_
      refine zH_go 1 (c' := (44, [some (.inr (.inr (some 81))), some (.inr (.inr (some 21))), some (.inl 1), some (.inl 3)], [.inl 1], (zs h (zup hl 81 0 ((hl 81 0) + 1))))) rfl ?_
      refine zH_ret (v := some (.inl 1)) rfl (fun q => absurd q (by decide)) ?_
      exact ⟨1, by unfold zIs; (try dsimp only); omega, rfl, rfl⟩
    · refine zH_go 7 (c' := (19, [some (.inr (.inr (some 81))), some (.inr (.inr (some 21))), some (.inl 2), some (.inl 3)], [.inl (h 21 3), .inl 3], (zs h (zup hl 81 0 ((hl 81 0) + 1))))) rfl ?_
      rw [hL]
      refine zH_bt (x := 3) (y := 3) (k := .ge) (c1 := (43, [some (.inr (.inr (some 81))), some (.inr (.inr (some 21))), some (.inl 2), some (.inl 3)], [], (zs h (zup hl 81 0 ((hl 81 0) + 1))))) (c2 := (22, [some (.inr (.inr (some 81))), some (.inr (.inr (some 21))), some (.inl 2), some (.inl 3)], [], (zs h (zup hl 81 0 ((hl 81 0) + 1))))) rfl ⟨by decide, by decide⟩ ⟨by decide, by decide⟩ (by show ¬ 3 < 3; decide) ?_
      refine zH_go 1 (c' := (44, [some (.inr (.inr (some 81))), some (.inr (.inr (some 21))), some (.inl 2), some (.inl 3)], [.inl 2], (zs h (zup hl 81 0 ((hl 81 0) + 1))))) rfl ?_
      refine zH_ret (v := some (.inl 2)) rfl (fun q => absurd q (by decide)) ?_
      exact ⟨2, by unfold zIs; (try dsimp only); omega, rfl, rfl⟩
theorem p_nearD {d : Nat} {h hl : Nat → Nat → Int} {L : Nat} (hL3 : 1 ≤ L ∧ L ≤ 3) (hL : h 21 3 = (L : Int)) (hf : ∀ l : Nat, l < 3 → 0 ≤ h 39 l ∧ h 39 l ≤ 1000000) : zQ (d + 2) 36 [.inr (.inr (some 81)), .inr (.inr (some 21))] (zs h hl) (zPk (zIs L (fun l => h 39 l)) h hl 1) := by
  rcases (show L = 1 ∨ L = 2 ∨ L = 3 by omega) with rfl | rfl | rfl
  · exact p_nearD1 hL hf
  · exact p_nearD2 hL hf
  · exact p_nearD3 hL hf
set_option maxRecDepth 100000 in
set_option maxHeartbeats 4000000 in
theorem p_evenD1 {d : Nat} {h hl : Nat → Nat → Int} (hL : h 21 3 = 1) (hf : ∀ l : Nat, l < 3 → 0 ≤ h 39 l ∧ h 39 l ≤ 1000000) {pp : Nat} {sp : Nat → Nat} (hpp : pp < 8) (h7 : h 21 7 = (pp : Int)) (hsp : ∀ i : Nat, i < 1 → h 40 i = ((sp i : Nat) : Int)) (hs6 : ∀ i : Nat, i < 1 → sp i < 6) (hw : ∀ l : Nat, l < 3 → 0 ≤ h 41 l ∧ h 41 l ≤ 1000000) : zQ (d + 3) 37 [.inr (.inr (some 81)), .inr (.inr (some 21))] (zs h hl) (fun r σ' => (zCov 1 sp pp ∧ zPk (zIs 1 (fun l => h 39 l)) h hl 11 r σ') ∨ (¬ zCov 1 sp pp ∧ zPk (zIs 1 (fun l => h 41 l + h 39 l)) h hl 10 r σ')) := by
  have f0 := hf 0 (by decide)
  have w0 := hw 0 (by decide)
  refine zQ_of (Nat.le_of_ble_eq_true rfl) ?_
  show zH (d + 2) 37 (0, [some (.inr (.inr (some 81))), some (.inr (.inr (some 21))), none, none], [], (zs h hl)) _
  refine zH_go 9 (c' := (17, [some (.inr (.inr (some 81))), some (.inr (.inr (some 21))), none, none], [.inl (h 21 7), .inr (.inr (some 21))], (zs h (zup hl 81 0 ((hl 81 0) + 10))))) rfl ?_
  rw [h7]
  refine zH_call (M' := 25) (as := [.inr (.inr (some 21)), .inl (pp : Int)]) (T := []) rfl (p_covD (L := 1) (pp := pp) hpp (by decide) hL hsp hs6) (fun r σ' p_1 => ?_)
  rcases p_1 with ⟨rfl, b_2, rfl⟩ | ⟨rfl, b_2, rfl⟩
  · show zH _ _ (20, [some (.inr (.inr (some 81))), some (.inr (.inr (some 21))), none, none], [.inl 1], (zs h (zup hl 81 0 ((hl 81 0) + 10)))) _
    refine zH_bf (x := 1) (y := 0) (k := .eq) (c1 := (29, [some (.inr (.inr (some 81))), some (.inr (.inr (some 21))), none, none], [], (zs h (zup hl 81 0 ((hl 81 0) + 10))))) (c2 := (23, [some (.inr (.inr (some 81))), some (.inr (.inr (some 21))), none, none], [], (zs h (zup hl 81 0 ((hl 81 0) + 10))))) rfl ⟨by decide, by decide⟩ ⟨by decide, by decide⟩ (by show ¬ (1 = 0); decide) ?_
    refine zH_go 2 (c' := (25, [some (.inr (.inr (some 81))), some (.inr (.inr (some 21))), none, none], [.inr (.inr (some 21)), .inr (.inr (some 81))], (zs h (zup hl 81 0 ((hl 81 0) + 10))))) rfl ?_
    refine zH_call (M' := 36) (as := [.inr (.inr (some 81)), .inr (.inr (some 21))]) (T := []) rfl (p_nearD (L := 1) (by decide) hL hf) (fun r σ' p_3 => ?_)
    obtain ⟨l, hl1, rfl, rfl⟩ := p_3
    rw [zup_id]
    show zH _ _ (28, [some (.inr (.inr (some 81))), some (.inr (.inr (some 21))), none, none], [.inl (l : Int)], (zs h (zup hl 81 0 (zup hl 81 0 (hl 81 0 + 10) 81 0 + 1)))) _
    rw [zup_eq]
    refine zH_ret (v := some (.inl (l : Int))) rfl (fun q => absurd q (by decide)) ?_
    exact Or.inl ⟨by assumption, l, hl1, rfl, by rw [show hl 81 0 + 11 = hl 81 0 + 10 + 1 by omega]⟩
  · show zH _ _ (20, [some (.inr (.inr (some 81))), some (.inr (.inr (some 21))), none, none], [.inl 0], (zs h (zup hl 81 0 ((hl 81 0) + 10)))) _
    refine zH_bt (x := 0) (y := 0) (k := .eq) (c1 := (29, [some (.inr (.inr (some 81))), some (.inr (.inr (some 21))), none, none], [], (zs h (zup hl 81 0 ((hl 81 0) + 10))))) (c2 := (23, [some (.inr (.inr (some 81))), some (.inr (.inr (some 21))), none, none], [], (zs h (zup hl 81 0 ((hl 81 0) + 10))))) rfl ⟨by decide, by decide⟩ ⟨by decide, by decide⟩ (by show 0 = 0; decide) ?_
    refine zH_go 7 (c' := (38, [some (.inr (.inr (some 81))), some (.inr (.inr (some 21))), some (.inl 0), some (.inl 1)], [.inl (h 21 3), .inl 1], (zs h (zup hl 81 0 ((hl 81 0) + 10))))) rfl ?_
    rw [hL]
    refine zH_bt (x := 1) (y := 1) (k := .ge) (c1 := (74, [some (.inr (.inr (some 81))), some (.inr (.inr (some 21))), some (.inl 0), some (.inl 1)], [], (zs h (zup hl 81 0 ((hl 81 0) + 10))))) (c2 := (41, [some (.inr (.inr (some 81))), some (.inr (.inr (some 21))), some (.inl 0), some (.inl 1)], [], (zs h (zup hl 81 0 ((hl 81 0) + 10))))) rfl ⟨by decide, by decide⟩ ⟨by decide, by decide⟩ (by show ¬ 1 < 1; decide) ?_
    refine zH_go 1 (c' := (75, [some (.inr (.inr (some 81))), some (.inr (.inr (some 21))), some (.inl 0), some (.inl 1)], [.inl 0], (zs h (zup hl 81 0 ((hl 81 0) + 10))))) rfl ?_
    refine zH_ret (v := some (.inl 0)) rfl (fun q => absurd q (by decide)) ?_
    exact Or.inr ⟨by assumption, 0, by unfold zIs; (try dsimp only); omega, rfl, rfl⟩
set_option maxRecDepth 100000 in
set_option maxHeartbeats 4000000 in
theorem p_evenD2 {d : Nat} {h hl : Nat → Nat → Int} (hL : h 21 3 = 2) (hf : ∀ l : Nat, l < 3 → 0 ≤ h 39 l ∧ h 39 l ≤ 1000000) {pp : Nat} {sp : Nat → Nat} (hpp : pp < 8) (h7 : h 21 7 = (pp : Int)) (hsp : ∀ i : Nat, i < 2 → h 40 i = ((sp i : Nat) : Int)) (hs6 : ∀ i : Nat, i < 2 → sp i < 6) (hw : ∀ l : Nat, l < 3 → 0 ≤ h 41 l ∧ h 41 l ≤ 1000000) : zQ (d + 3) 37 [.inr (.inr (some 81)), .inr (.inr (some 21))] (zs h hl) (fun r σ' => (zCov 2 sp pp ∧ zPk (zIs 2 (fun l => h 39 l)) h hl 11 r σ') ∨ (¬ zCov 2 sp pp ∧ zPk (zIs 2 (fun l => h 41 l + h 39 l)) h hl 10 r σ')) := by
  have f0 := hf 0 (by decide)
  have f1 := hf 1 (by decide)
  have w0 := hw 0 (by decide)
  have w1 := hw 1 (by decide)
  refine zQ_of (Nat.le_of_ble_eq_true rfl) ?_
  show zH (d + 2) 37 (0, [some (.inr (.inr (some 81))), some (.inr (.inr (some 21))), none, none], [], (zs h hl)) _
  refine zH_go 9 (c' := (17, [some (.inr (.inr (some 81))), some (.inr (.inr (some 21))), none, none], [.inl (h 21 7), .inr (.inr (some 21))], (zs h (zup hl 81 0 ((hl 81 0) + 10))))) rfl ?_
  rw [h7]
  refine zH_call (M' := 25) (as := [.inr (.inr (some 21)), .inl (pp : Int)]) (T := []) rfl (p_covD (L := 2) (pp := pp) hpp (by decide) hL hsp hs6) (fun r σ' p_1 => ?_)
  rcases p_1 with ⟨rfl, b_2, rfl⟩ | ⟨rfl, b_2, rfl⟩
  · show zH _ _ (20, [some (.inr (.inr (some 81))), some (.inr (.inr (some 21))), none, none], [.inl 1], (zs h (zup hl 81 0 ((hl 81 0) + 10)))) _
    refine zH_bf (x := 1) (y := 0) (k := .eq) (c1 := (29, [some (.inr (.inr (some 81))), some (.inr (.inr (some 21))), none, none], [], (zs h (zup hl 81 0 ((hl 81 0) + 10))))) (c2 := (23, [some (.inr (.inr (some 81))), some (.inr (.inr (some 21))), none, none], [], (zs h (zup hl 81 0 ((hl 81 0) + 10))))) rfl ⟨by decide, by decide⟩ ⟨by decide, by decide⟩ (by show ¬ (1 = 0); decide) ?_
    refine zH_go 2 (c' := (25, [some (.inr (.inr (some 81))), some (.inr (.inr (some 21))), none, none], [.inr (.inr (some 21)), .inr (.inr (some 81))], (zs h (zup hl 81 0 ((hl 81 0) + 10))))) rfl ?_
    refine zH_call (M' := 36) (as := [.inr (.inr (some 81)), .inr (.inr (some 21))]) (T := []) rfl (p_nearD (L := 2) (by decide) hL hf) (fun r σ' p_3 => ?_)
    obtain ⟨l, hl1, rfl, rfl⟩ := p_3
    rw [zup_id]
    show zH _ _ (28, [some (.inr (.inr (some 81))), some (.inr (.inr (some 21))), none, none], [.inl (l : Int)], (zs h (zup hl 81 0 (zup hl 81 0 (hl 81 0 + 10) 81 0 + 1)))) _
    rw [zup_eq]
    refine zH_ret (v := some (.inl (l : Int))) rfl (fun q => absurd q (by decide)) ?_
    exact Or.inl ⟨by assumption, l, hl1, rfl, by rw [show hl 81 0 + 11 = hl 81 0 + 10 + 1 by omega]⟩
  · show zH _ _ (20, [some (.inr (.inr (some 81))), some (.inr (.inr (some 21))), none, none], [.inl 0], (zs h (zup hl 81 0 ((hl 81 0) + 10)))) _
    refine zH_bt (x := 0) (y := 0) (k := .eq) (c1 := (29, [some (.inr (.inr (some 81))), some (.inr (.inr (some 21))), none, none], [], (zs h (zup hl 81 0 ((hl 81 0) + 10))))) (c2 := (23, [some (.inr (.inr (some 81))), some (.inr (.inr (some 21))), none, none], [], (zs h (zup hl 81 0 ((hl 81 0) + 10))))) rfl ⟨by decide, by decide⟩ ⟨by decide, by decide⟩ (by show 0 = 0; decide) ?_
    refine zH_go 7 (c' := (38, [some (.inr (.inr (some 81))), some (.inr (.inr (some 21))), some (.inl 0), some (.inl 1)], [.inl (h 21 3), .inl 1], (zs h (zup hl 81 0 ((hl 81 0) + 10))))) rfl ?_
    rw [hL]
    refine zH_bf (x := 1) (y := 2) (k := .ge) (c1 := (74, [some (.inr (.inr (some 81))), some (.inr (.inr (some 21))), some (.inl 0), some (.inl 1)], [], (zs h (zup hl 81 0 ((hl 81 0) + 10))))) (c2 := (41, [some (.inr (.inr (some 81))), some (.inr (.inr (some 21))), some (.inl 0), some (.inl 1)], [], (zs h (zup hl 81 0 ((hl 81 0) + 10))))) rfl ⟨by decide, by decide⟩ ⟨by decide, by decide⟩ (by show ¬ (¬ 1 < 2); decide) ?_
    refine zH_go 2 (c' := (43, [some (.inr (.inr (some 81))), some (.inr (.inr (some 21))), some (.inl 0), some (.inl 1)], [.inl 1, .inr (.inr (some 21))], (zs h (zup hl 81 0 ((hl 81 0) + 10))))) rfl ?_
    refine zH_call (M' := 21) (as := [.inr (.inr (some 21)), .inl 1]) (T := []) rfl (p_walkedD (l := 1) (by decide)) (fun r σ' p_4 => ?_)
    obtain ⟨rfl, rfl⟩ := p_4
    show zH _ _ (46, [some (.inr (.inr (some 81))), some (.inr (.inr (some 21))), some (.inl 0), some (.inl 1)], [.inl (h 41 1)], (zs h (zup hl 81 0 ((hl 81 0) + 10)))) _
    refine zH_go 2 (c' := (48, [some (.inr (.inr (some 81))), some (.inr (.inr (some 21))), some (.inl 0), some (.inl 1)], [.inl 1, .inr (.inr (some 21)), .inl (h 41 1)], (zs h (zup hl 81 0 ((hl 81 0) + 10))))) rfl ?_
    refine zH_call (M' := 20) (as := [.inr (.inr (some 21)), .inl 1]) (T := [.inl (h 41 1)]) rfl (p_farD (l := 1) (by decide)) (fun r σ' p_5 => ?_)
    obtain ⟨rfl, rfl⟩ := p_5
    show zH _ _ (51, [some (.inr (.inr (some 81))), some (.inr (.inr (some 21))), some (.inl 0), some (.inl 1)], [.inl (h 39 1), .inl (h 41 1)], (zs h (zup hl 81 0 ((hl 81 0) + 10)))) _
    refine zH_go 3 (c' := (54, [some (.inr (.inr (some 81))), some (.inr (.inr (some 21))), some (.inl 0), some (.inl 1)], [.inl 0, .inr (.inr (some 21)), .inl ((h 41 1) + (h 39 1))], (zs h (zup hl 81 0 ((hl 81 0) + 10))))) rfl ?_
    refine zH_call (M' := 21) (as := [.inr (.inr (some 21)), .inl 0]) (T := [.inl ((h 41 1) + (h 39 1))]) rfl (p_walkedD (l := 0) (by decide)) (fun r σ' p_6 => ?_)
    obtain ⟨rfl, rfl⟩ := p_6
    show zH _ _ (57, [some (.inr (.inr (some 81))), some (.inr (.inr (some 21))), some (.inl 0), some (.inl 1)], [.inl (h 41 0), .inl ((h 41 1) + (h 39 1))], (zs h (zup hl 81 0 ((hl 81 0) + 10)))) _
    refine zH_go 2 (c' := (59, [some (.inr (.inr (some 81))), some (.inr (.inr (some 21))), some (.inl 0), some (.inl 1)], [.inl 0, .inr (.inr (some 21)), .inl (h 41 0), .inl ((h 41 1) + (h 39 1))], (zs h (zup hl 81 0 ((hl 81 0) + 10))))) rfl ?_
    refine zH_call (M' := 20) (as := [.inr (.inr (some 21)), .inl 0]) (T := [.inl (h 41 0), .inl ((h 41 1) + (h 39 1))]) rfl (p_farD (l := 0) (by decide)) (fun r σ' p_7 => ?_)
    obtain ⟨rfl, rfl⟩ := p_7
    show zH _ _ (62, [some (.inr (.inr (some 81))), some (.inr (.inr (some 21))), some (.inl 0), some (.inl 1)], [.inl (h 39 0), .inl (h 41 0), .inl ((h 41 1) + (h 39 1))], (zs h (zup hl 81 0 ((hl 81 0) + 10)))) _
    refine zH_go 1 (c' := (63, [some (.inr (.inr (some 81))), some (.inr (.inr (some 21))), some (.inl 0), some (.inl 1)], [.inl ((h 41 0) + (h 39 0)), .inl ((h 41 1) + (h 39 1))], (zs h (zup hl 81 0 ((hl 81 0) + 10))))) rfl ?_
    refine zH_br (x := ((h 41 1) + (h 39 1))) (y := ((h 41 0) + (h 39 0))) (k := .ge) (c1 := (68, [some (.inr (.inr (some 81))), some (.inr (.inr (some 21))), some (.inl 0), some (.inl 1)], [], (zs h (zup hl 81 0 ((hl 81 0) + 10))))) (c2 := (66, [some (.inr (.inr (some 81))), some (.inr (.inr (some 21))), some (.inl 0), some (.inl 1)], [], (zs h (zup hl 81 0 ((hl 81 0) + 10))))) rfl (by first | assumption | (unfold zr; omega)) (by first | assumption | (unfold zr; omega)) (fun (b_8 : ¬ ((h 41 1) + (h 39 1)) < ((h 41 0) + (h 39 0))) => ?_) (fun (b_8 : ¬ (¬ ((h 41 1) + (h 39 1)) < ((h 41 0) + (h 39 0)))) => ?_)
    · refine zH_go 5 (c' := (38, [some (.inr (.inr (some 81))), some (.inr (.inr (some 21))), some (.inl 0), some (.inl 2)], [.inl (h 21 3), .inl 2], (zs h (zup hl 81 0 ((hl 81 0) + 10))))) rfl ?_
      rw [hL]
      refine zH_bt (x := 2) (y := 2) (k := .ge) (c1 := (74, [some (.inr (.inr (some 81))), some (.inr (.inr (some 21))), some (.inl 0), some (.inl 2)], [], (zs h (zup hl 81 0 ((hl 81 0) + 10))))) (c2 := (41, [some (.inr (.inr (some 81))), some (.inr (.inr (some 21))), some (.inl 0), some (.inl 2)], [], (zs h (zup hl 81 0 ((hl 81 0) + 10))))) rfl ⟨by decide, by decide⟩ ⟨by decide, by decide⟩ (by show ¬ 2 < 2; decide) ?_
      refine zH_go 1 (c' := (75, [some (.inr (.inr (some 81))), some (.inr (.inr (some 21))), some (.inl 0), some (.inl 2)], [.inl 0], (zs h (zup hl 81 0 ((hl 81 0) + 10))))) rfl ?_
      refine zH_ret (v := some (.inl 0)) rfl (fun q => absurd q (by decide)) ?_
      exact Or.inr ⟨by assumption, 0, by unfold zIs; (try dsimp only); omega, rfl, rfl⟩
    · refine zH_go 7 (c' := (38, [some (.inr (.inr (some 81))), some (.inr (.inr (some 21))), some (.inl 1), some (.inl 2)], [.inl (h 21 3), .inl 2], (zs h (zup hl 81 0 ((hl 81 0) + 10))))) rfl ?_
      rw [hL]
      refine zH_bt (x := 2) (y := 2) (k := .ge) (c1 := (74, [some (.inr (.inr (some 81))), some (.inr (.inr (some 21))), some (.inl 1), some (.inl 2)], [], (zs h (zup hl 81 0 ((hl 81 0) + 10))))) (c2 := (41, [some (.inr (.inr (some 81))), some (.inr (.inr (some 21))), some (.inl 1), some (.inl 2)], [], (zs h (zup hl 81 0 ((hl 81 0) + 10))))) rfl ⟨by decide, by decide⟩ ⟨by decide, by decide⟩ (by show ¬ 2 < 2; decide) ?_
      refine zH_go 1 (c' := (75, [some (.inr (.inr (some 81))), some (.inr (.inr (some 21))), some (.inl 1), some (.inl 2)], [.inl 1], (zs h (zup hl 81 0 ((hl 81 0) + 10))))) rfl ?_
      refine zH_ret (v := some (.inl 1)) rfl (fun q => absurd q (by decide)) ?_
      exact Or.inr ⟨by assumption, 1, by unfold zIs; (try dsimp only); omega, rfl, rfl⟩
set_option maxRecDepth 100000 in
set_option maxHeartbeats 4000000 in
theorem p_evenD3 {d : Nat} {h hl : Nat → Nat → Int} (hL : h 21 3 = 3) (hf : ∀ l : Nat, l < 3 → 0 ≤ h 39 l ∧ h 39 l ≤ 1000000) {pp : Nat} {sp : Nat → Nat} (hpp : pp < 8) (h7 : h 21 7 = (pp : Int)) (hsp : ∀ i : Nat, i < 3 → h 40 i = ((sp i : Nat) : Int)) (hs6 : ∀ i : Nat, i < 3 → sp i < 6) (hw : ∀ l : Nat, l < 3 → 0 ≤ h 41 l ∧ h 41 l ≤ 1000000) : zQ (d + 3) 37 [.inr (.inr (some 81)), .inr (.inr (some 21))] (zs h hl) (fun r σ' => (zCov 3 sp pp ∧ zPk (zIs 3 (fun l => h 39 l)) h hl 11 r σ') ∨ (¬ zCov 3 sp pp ∧ zPk (zIs 3 (fun l => h 41 l + h 39 l)) h hl 10 r σ')) := by
  have f0 := hf 0 (by decide)
  have f1 := hf 1 (by decide)
  have f2 := hf 2 (by decide)
  have w0 := hw 0 (by decide)
  have w1 := hw 1 (by decide)
  have w2 := hw 2 (by decide)
  refine zQ_of (Nat.le_of_ble_eq_true rfl) ?_
  show zH (d + 2) 37 (0, [some (.inr (.inr (some 81))), some (.inr (.inr (some 21))), none, none], [], (zs h hl)) _
  refine zH_go 9 (c' := (17, [some (.inr (.inr (some 81))), some (.inr (.inr (some 21))), none, none], [.inl (h 21 7), .inr (.inr (some 21))], (zs h (zup hl 81 0 ((hl 81 0) + 10))))) rfl ?_
  rw [h7]
  refine zH_call (M' := 25) (as := [.inr (.inr (some 21)), .inl (pp : Int)]) (T := []) rfl (p_covD (L := 3) (pp := pp) hpp (by decide) hL hsp hs6) (fun r σ' p_1 => ?_)
  rcases p_1 with ⟨rfl, b_2, rfl⟩ | ⟨rfl, b_2, rfl⟩
  · show zH _ _ (20, [some (.inr (.inr (some 81))), some (.inr (.inr (some 21))), none, none], [.inl 1], (zs h (zup hl 81 0 ((hl 81 0) + 10)))) _
    refine zH_bf (x := 1) (y := 0) (k := .eq) (c1 := (29, [some (.inr (.inr (some 81))), some (.inr (.inr (some 21))), none, none], [], (zs h (zup hl 81 0 ((hl 81 0) + 10))))) (c2 := (23, [some (.inr (.inr (some 81))), some (.inr (.inr (some 21))), none, none], [], (zs h (zup hl 81 0 ((hl 81 0) + 10))))) rfl ⟨by decide, by decide⟩ ⟨by decide, by decide⟩ (by show ¬ (1 = 0); decide) ?_
    refine zH_go 2 (c' := (25, [some (.inr (.inr (some 81))), some (.inr (.inr (some 21))), none, none], [.inr (.inr (some 21)), .inr (.inr (some 81))], (zs h (zup hl 81 0 ((hl 81 0) + 10))))) rfl ?_
    refine zH_call (M' := 36) (as := [.inr (.inr (some 81)), .inr (.inr (some 21))]) (T := []) rfl (p_nearD (L := 3) (by decide) hL hf) (fun r σ' p_3 => ?_)
    obtain ⟨l, hl1, rfl, rfl⟩ := p_3
    rw [zup_id]
    show zH _ _ (28, [some (.inr (.inr (some 81))), some (.inr (.inr (some 21))), none, none], [.inl (l : Int)], (zs h (zup hl 81 0 (zup hl 81 0 (hl 81 0 + 10) 81 0 + 1)))) _
    rw [zup_eq]
    refine zH_ret (v := some (.inl (l : Int))) rfl (fun q => absurd q (by decide)) ?_
    exact Or.inl ⟨by assumption, l, hl1, rfl, by rw [show hl 81 0 + 11 = hl 81 0 + 10 + 1 by omega]⟩
  · show zH _ _ (20, [some (.inr (.inr (some 81))), some (.inr (.inr (some 21))), none, none], [.inl 0], (zs h (zup hl 81 0 ((hl 81 0) + 10)))) _
    refine zH_bt (x := 0) (y := 0) (k := .eq) (c1 := (29, [some (.inr (.inr (some 81))), some (.inr (.inr (some 21))), none, none], [], (zs h (zup hl 81 0 ((hl 81 0) + 10))))) (c2 := (23, [some (.inr (.inr (some 81))), some (.inr (.inr (some 21))), none, none], [], (zs h (zup hl 81 0 ((hl 81 0) + 10))))) rfl ⟨by decide, by decide⟩ ⟨by decide, by decide⟩ (by show 0 = 0; decide) ?_
    refine zH_go 7 (c' := (38, [some (.inr (.inr (some 81))), some (.inr (.inr (some 21))), some (.inl 0), some (.inl 1)], [.inl (h 21 3), .inl 1], (zs h (zup hl 81 0 ((hl 81 0) + 10))))) rfl ?_
    rw [hL]
    refine zH_bf (x := 1) (y := 3) (k := .ge) (c1 := (74, [some (.inr (.inr (some 81))), some (.inr (.inr (some 21))), some (.inl 0), some (.inl 1)], [], (zs h (zup hl 81 0 ((hl 81 0) + 10))))) (c2 := (41, [some (.inr (.inr (some 81))), some (.inr (.inr (some 21))), some (.inl 0), some (.inl 1)], [], (zs h (zup hl 81 0 ((hl 81 0) + 10))))) rfl ⟨by decide, by decide⟩ ⟨by decide, by decide⟩ (by show ¬ (¬ 1 < 3); decide) ?_
    refine zH_go 2 (c' := (43, [some (.inr (.inr (some 81))), some (.inr (.inr (some 21))), some (.inl 0), some (.inl 1)], [.inl 1, .inr (.inr (some 21))], (zs h (zup hl 81 0 ((hl 81 0) + 10))))) rfl ?_
    refine zH_call (M' := 21) (as := [.inr (.inr (some 21)), .inl 1]) (T := []) rfl (p_walkedD (l := 1) (by decide)) (fun r σ' p_4 => ?_)
    obtain ⟨rfl, rfl⟩ := p_4
    show zH _ _ (46, [some (.inr (.inr (some 81))), some (.inr (.inr (some 21))), some (.inl 0), some (.inl 1)], [.inl (h 41 1)], (zs h (zup hl 81 0 ((hl 81 0) + 10)))) _
    refine zH_go 2 (c' := (48, [some (.inr (.inr (some 81))), some (.inr (.inr (some 21))), some (.inl 0), some (.inl 1)], [.inl 1, .inr (.inr (some 21)), .inl (h 41 1)], (zs h (zup hl 81 0 ((hl 81 0) + 10))))) rfl ?_
    refine zH_call (M' := 20) (as := [.inr (.inr (some 21)), .inl 1]) (T := [.inl (h 41 1)]) rfl (p_farD (l := 1) (by decide)) (fun r σ' p_5 => ?_)
    obtain ⟨rfl, rfl⟩ := p_5
    show zH _ _ (51, [some (.inr (.inr (some 81))), some (.inr (.inr (some 21))), some (.inl 0), some (.inl 1)], [.inl (h 39 1), .inl (h 41 1)], (zs h (zup hl 81 0 ((hl 81 0) + 10)))) _
    refine zH_go 3 (c' := (54, [some (.inr (.inr (some 81))), some (.inr (.inr (some 21))), some (.inl 0), some (.inl 1)], [.inl 0, .inr (.inr (some 21)), .inl ((h 41 1) + (h 39 1))], (zs h (zup hl 81 0 ((hl 81 0) + 10))))) rfl ?_
    refine zH_call (M' := 21) (as := [.inr (.inr (some 21)), .inl 0]) (T := [.inl ((h 41 1) + (h 39 1))]) rfl (p_walkedD (l := 0) (by decide)) (fun r σ' p_6 => ?_)
    obtain ⟨rfl, rfl⟩ := p_6
    show zH _ _ (57, [some (.inr (.inr (some 81))), some (.inr (.inr (some 21))), some (.inl 0), some (.inl 1)], [.inl (h 41 0), .inl ((h 41 1) + (h 39 1))], (zs h (zup hl 81 0 ((hl 81 0) + 10)))) _
    refine zH_go 2 (c' := (59, [some (.inr (.inr (some 81))), some (.inr (.inr (some 21))), some (.inl 0), some (.inl 1)], [.inl 0, .inr (.inr (some 21)), .inl (h 41 0), .inl ((h 41 1) + (h 39 1))], (zs h (zup hl 81 0 ((hl 81 0) + 10))))) rfl ?_
    refine zH_call (M' := 20) (as := [.inr (.inr (some 21)), .inl 0]) (T := [.inl (h 41 0), .inl ((h 41 1) + (h 39 1))]) rfl (p_farD (l := 0) (by decide)) (fun r σ' p_7 => ?_)
    obtain ⟨rfl, rfl⟩ := p_7
    show zH _ _ (62, [some (.inr (.inr (some 81))), some (.inr (.inr (some 21))), some (.inl 0), some (.inl 1)], [.inl (h 39 0), .inl (h 41 0), .inl ((h 41 1) + (h 39 1))], (zs h (zup hl 81 0 ((hl 81 0) + 10)))) _
    refine zH_go 1 (c' := (63, [some (.inr (.inr (some 81))), some (.inr (.inr (some 21))), some (.inl 0), some (.inl 1)], [.inl ((h 41 0) + (h 39 0)), .inl ((h 41 1) + (h 39 1))], (zs h (zup hl 81 0 ((hl 81 0) + 10))))) rfl ?_
    refine zH_br (x := ((h 41 1) + (h 39 1))) (y := ((h 41 0) + (h 39 0))) (k := .ge) (c1 := (68, [some (.inr (.inr (some 81))), some (.inr (.inr (some 21))), some (.inl 0), some (.inl 1)], [], (zs h (zup hl 81 0 ((hl 81 0) + 10))))) (c2 := (66, [some (.inr (.inr (some 81))), some (.inr (.inr (some 21))), some (.inl 0), some (.inl 1)], [], (zs h (zup hl 81 0 ((hl 81 0) + 10))))) rfl (by first | assumption | (unfold zr; omega)) (by first | assumption | (unfold zr; omega)) (fun (b_8 : ¬ ((h 41 1) + (h 39 1)) < ((h 41 0) + (h 39 0))) => ?_) (fun (b_8 : ¬ (¬ ((h 41 1) + (h 39 1)) < ((h 41 0) + (h 39 0)))) => ?_)
    · refine zH_go 5 (c' := (38, [some (.inr (.inr (some 81))), some (.inr (.inr (some 21))), some (.inl 0), some (.inl 2)], [.inl (h 21 3), .inl 2], (zs h (zup hl 81 0 ((hl 81 0) + 10))))) rfl ?_
      rw [hL]
      refine zH_bf (x := 2) (y := 3) (k := .ge) (c1 := (74, [some (.inr (.inr (some 81))), some (.inr (.inr (some 21))), some (.inl 0), some (.inl 2)], [], (zs h (zup hl 81 0 ((hl 81 0) + 10))))) (c2 := (41, [some (.inr (.inr (some 81))), some (.inr (.inr (some 21))), some (.inl 0), some (.inl 2)], [], (zs h (zup hl 81 0 ((hl 81 0) + 10))))) rfl ⟨by decide, by decide⟩ ⟨by decide, by decide⟩ (by show ¬ (¬ 2 < 3); decide) ?_
      refine zH_go 2 (c' := (43, [some (.inr (.inr (some 81))), some (.inr (.inr (some 21))), some (.inl 0), some (.inl 2)], [.inl 2, .inr (.inr (some 21))], (zs h (zup hl 81 0 ((hl 81 0) + 10))))) rfl ?_
      refine zH_call (M' := 21) (as := [.inr (.inr (some 21)), .inl 2]) (T := []) rfl (p_walkedD (l := 2) (by decide)) (fun r σ' p_9 => ?_)
      obtain ⟨rfl, rfl⟩ := p_9
      show zH _ _ (46, [some (.inr (.inr (some 81))), some (.inr (.inr (some 21))), some (.inl 0), some (.inl 2)], [.inl (h 41 2)], (zs h (zup hl 81 0 ((hl 81 0) + 10)))) _
      refine zH_go 2 (c' := (48, [some (.inr (.inr (some 81))), some (.inr (.inr (some 21))), some (.inl 0), some (.inl 2)], [.inl 2, .inr (.inr (some 21)), .inl (h 41 2)], (zs h (zup hl 81 0 ((hl 81 0) + 10))))) rfl ?_
      refine zH_call (M' := 20) (as := [.inr (.inr (some 21)), .inl 2]) (T := [.inl (h 41 2)]) rfl (p_farD (l := 2) (by decide)) (fun r σ' p_10 => ?_)
      obtain ⟨rfl, rfl⟩ := p_10
      show zH _ _ (51, [some (.inr (.inr (some 81))), some (.inr (.inr (some 21))), some (.inl 0), some (.inl 2)], [.inl (h 39 2), .inl (h 41 2)], (zs h (zup hl 81 0 ((hl 81 0) + 10)))) _
      refine zH_go 3 (c' := (54, [some (.inr (.inr (some 81))), some (.inr (.inr (some 21))), some (.inl 0), some (.inl 2)], [.inl 0, .inr (.inr (some 21)), .inl ((h 41 2) + (h 39 2))], (zs h (zup hl 81 0 ((hl 81 0) + 10))))) rfl ?_
      refine zH_call (M' := 21) (as := [.inr (.inr (some 21)), .inl 0]) (T := [.inl ((h 41 2) + (h 39 2))]) rfl (p_walkedD (l := 0) (by decide)) (fun r σ' p_11 => ?_)
      obtain ⟨rfl, rfl⟩ := p_11
      show zH _ _ (57, [some (.inr (.inr (some 81))), some (.inr (.inr (some 21))), some (.inl 0), some (.inl 2)], [.inl (h 41 0), .inl ((h 41 2) + (h 39 2))], (zs h (zup hl 81 0 ((hl 81 0) + 10)))) _
      refine zH_go 2 (c' := (59, [some (.inr (.inr (some 81))), some (.inr (.inr (some 21))), some (.inl 0), some (.inl 2)], [.inl 0, .inr (.inr (some 21)), .inl (h 41 0), .inl ((h 41 2) + (h 39 2))], (zs h (zup hl 81 0 ((hl 81 0) + 10))))) rfl ?_
      refine zH_call (M' := 20) (as := [.inr (.inr (some 21)), .inl 0]) (T := [.inl (h 41 0), .inl ((h 41 2) + (h 39 2))]) rfl (p_farD (l := 0) (by decide)) (fun r σ' p_12 => ?_)
      obtain ⟨rfl, rfl⟩ := p_12
      show zH _ _ (62, [some (.inr (.inr (some 81))), some (.inr (.inr (some 21))), some (.inl 0), some (.inl 2)], [.inl (h 39 0), .inl (h 41 0), .inl ((h 41 2) + (h 39 2))], (zs h (zup hl 81 0 ((hl 81 0) + 10)))) _
      refine zH_go 1 (c' := (63, [some (.inr (.inr (some 81))), some (.inr (.inr (some 21))), some (.inl 0), some (.inl 2)], [.inl ((h 41 0) + (h 39 0)), .inl ((h 41 2) + (h 39 2))], (zs h (zup hl 81 0 ((hl 81 0) + 10))))) rfl ?_
      refine zH_br (x := ((h 41 2) + (h 39 2))) (y := ((h 41 0) + (h 39 0))) (k := .ge) (c1 := (68, [some (.inr (.inr (some 81))), some (.inr (.inr (some 21))), some (.inl 0), some (.inl 2)], [], (zs h (zup hl 81 0 ((hl 81 0) + 10))))) (c2 := (66, [some (.inr (.inr (some 81))), some (.inr (.inr (some 21))), some (.inl 0), some (.inl 2)], [], (zs h (zup hl 81 0 ((hl 81 0) + 10))))) rfl (by first | assumption | (unfold zr; omega)) (by first | assumption | (unfold zr; omega)) (fun (b_13 : ¬ ((h 41 2) + (h 39 2)) < ((h 41 0) + (h 39 0))) => ?_) (fun (b_13 : ¬ (¬ ((h 41 2) + (h 39 2)) < ((h 41 0) + (h 39 0)))) => ?_)
      · refine zH_go 5 (c' := (38, [some (.inr (.inr (some 81))), some (.inr (.inr (some 21))), some (.inl 0), some (.inl 3)], [.inl (h 21 3), .inl 3], (zs h (zup hl 81 0 ((hl 81 0) + 10))))) rfl ?_
        rw [hL]
        refine zH_bt (x := 3) (y := 3) (k := .ge) (c1 := (74, [some (.inr (.inr (some 81))), some (.inr (.inr (some 21))), some (.inl 0), some (.inl 3)], [], (zs h (zup hl 81 0 ((hl 81 0) + 10))))) (c2 := (41, [some (.inr (.inr (some 81))), some (.inr (.inr (some 21))), some (.inl 0), some (.inl 3)], [], (zs h (zup hl 81 0 ((hl 81 0) + 10))))) rfl ⟨by decide, by decide⟩ ⟨by decide, by decide⟩ (by show ¬ 3 < 3; decide) ?_
        refine zH_go 1 (c' := (75, [some (.inr (.inr (some 81))), some (.inr (.inr (some 21))), some (.inl 0), some (.inl 3)], [.inl 0], (zs h (zup hl 81 0 ((hl 81 0) + 10))))) rfl ?_
        refine zH_ret (v := some (.inl 0)) rfl (fun q => absurd q (by decide)) ?_
        exact Or.inr ⟨by assumption, 0, by unfold zIs; (try dsimp only); omega, rfl, rfl⟩
      · refine zH_go 7 (c' := (38, [some (.inr (.inr (some 81))), some (.inr (.inr (some 21))), some (.inl 2), some (.inl 3)], [.inl (h 21 3), .inl 3], (zs h (zup hl 81 0 ((hl 81 0) + 10))))) rfl ?_
        rw [hL]
        refine zH_bt (x := 3) (y := 3) (k := .ge) (c1 := (74, [some (.inr (.inr (some 81))), some (.inr (.inr (some 21))), some (.inl 2), some (.inl 3)], [], (zs h (zup hl 81 0 ((hl 81 0) + 10))))) (c2 := (41, [some (.inr (.inr (some 81))), some (.inr (.inr (some 21))), some (.inl 2), some (.inl 3)], [], (zs h (zup hl 81 0 ((hl 81 0) + 10))))) rfl ⟨by decide, by decide⟩ ⟨by decide, by decide⟩ (by show ¬ 3 < 3; decide) ?_
        refine zH_go 1 (c' := (75, [some (.inr (.inr (some 81))), some (.inr (.inr (some 21))), some (.inl 2), some (.inl 3)], [.inl 2], (zs h (zup hl 81 0 ((hl 81 0) + 10))))) rfl ?_
        refine zH_ret (v := some (.inl 2)) rfl (fun q => absurd q (by decide)) ?_
        exact Or.inr ⟨by assumption, 2, by unfold zIs; (try dsimp only); omega, rfl, rfl⟩
    · refine zH_go 7 (c' := (38, [some (.inr (.inr (some 81))), some (.inr (.inr (some 21))), some (.inl 1), some (.inl 2)], [.inl (h 21 3), .inl 2], (zs h (zup hl 81 0 ((hl 81 0) + 10))))) rfl ?_
      rw [hL]
      refine zH_bf (x := 2) (y := 3) (k := .ge) (c1 := (74, [some (.inr (.inr (some 81))), some (.inr (.inr (some 21))), some (.inl 1), some (.inl 2)], [], (zs h (zup hl 81 0 ((hl 81 0) + 10))))) (c2 := (41, [some (.inr (.inr (some 81))), some (.inr (.inr (some 21))), some (.inl 1), some (.inl 2)], [], (zs h (zup hl 81 0 ((hl 81 0) + 10))))) rfl ⟨by decide, by decide⟩ ⟨by decide, by decide⟩ (by show ¬ (¬ 2 < 3); decide) ?_
      refine zH_go 2 (c' := (43, [some (.inr (.inr (some 81))), some (.inr (.inr (some 21))), some (.inl 1), some (.inl 2)], [.inl 2, .inr (.inr (some 21))], (zs h (zup hl 81 0 ((hl 81 0) + 10))))) rfl ?_
      refine zH_call (M' := 21) (as := [.inr (.inr (some 21)), .inl 2]) (T := []) rfl (p_walkedD (l := 2) (by decide)) (fun r σ' p_14 => ?_)
      obtain ⟨rfl, rfl⟩ := p_14
      show zH _ _ (46, [some (.inr (.inr (some 81))), some (.inr (.inr (some 21))), some (.inl 1), some (.inl 2)], [.inl (h 41 2)], (zs h (zup hl 81 0 ((hl 81 0) + 10)))) _
      refine zH_go 2 (c' := (48, [some (.inr (.inr (some 81))), some (.inr (.inr (some 21))), some (.inl 1), some (.inl 2)], [.inl 2, .inr (.inr (some 21)), .inl (h 41 2)], (zs h (zup hl 81 0 ((hl 81 0) + 10))))) rfl ?_
      refine zH_call (M' := 20) (as := [.inr (.inr (some 21)), .inl 2]) (T := [.inl (h 41 2)]) rfl (p_farD (l := 2) (by decide)) (fun r σ' p_15 => ?_)
      obtain ⟨rfl, rfl⟩ := p_15
      show zH _ _ (51, [some (.inr (.inr (some 81))), some (.inr (.inr (some 21))), some (.inl 1), some (.inl 2)], [.inl (h 39 2), .inl (h 41 2)], (zs h (zup hl 81 0 ((hl 81 0) + 10)))) _
      refine zH_go 3 (c' := (54, [some (.inr (.inr (some 81))), some (.inr (.inr (some 21))), some (.inl 1), some (.inl 2)], [.inl 1, .inr (.inr (some 21)), .inl ((h 41 2) + (h 39 2))], (zs h (zup hl 81 0 ((hl 81 0) + 10))))) rfl ?_
      refine zH_call (M' := 21) (as := [.inr (.inr (some 21)), .inl 1]) (T := [.inl ((h 41 2) + (h 39 2))]) rfl (p_walkedD (l := 1) (by decide)) (fun r σ' p_16 => ?_)
      obtain ⟨rfl, rfl⟩ := p_16
      show zH _ _ (57, [some (.inr (.inr (some 81))), some (.inr (.inr (some 21))), some (.inl 1), some (.inl 2)], [.inl (h 41 1), .inl ((h 41 2) + (h 39 2))], (zs h (zup hl 81 0 ((hl 81 0) + 10)))) _
      refine zH_go 2 (c' := (59, [some (.inr (.inr (some 81))), some (.inr (.inr (some 21))), some (.inl 1), some (.inl 2)], [.inl 1, .inr (.inr (some 21)), .inl (h 41 1), .inl ((h 41 2) + (h 39 2))], (zs h (zup hl 81 0 ((hl 81 0) + 10))))) rfl ?_
      refine zH_call (M' := 20) (as := [.inr (.inr (some 21)), .inl 1]) (T := [.inl (h 41 1), .inl ((h 41 2) + (h 39 2))]) rfl (p_farD (l := 1) (by decide)) (fun r σ' p_17 => ?_)
      obtain ⟨rfl, rfl⟩ := p_17
      show zH _ _ (62, [some (.inr (.inr (some 81))), some (.inr (.inr (some 21))), some (.inl 1), some (.inl 2)], [.inl (h 39 1), .inl (h 41 1), .inl ((h 41 2) + (h 39 2))], (zs h (zup hl 81 0 ((hl 81 0) + 10)))) _
      refine zH_go 1 (c' := (63, [some (.inr (.inr (some 81))), some (.inr (.inr (some 21))), some (.inl 1), some (.inl 2)], [.inl ((h 41 1) + (h 39 1)), .inl ((h 41 2) + (h 39 2))], (zs h (zup hl 81 0 ((hl 81 0) + 10))))) rfl ?_
      refine zH_br (x := ((h 41 2) + (h 39 2))) (y := ((h 41 1) + (h 39 1))) (k := .ge) (c1 := (68, [some (.inr (.inr (some 81))), some (.inr (.inr (some 21))), some (.inl 1), some (.inl 2)], [], (zs h (zup hl 81 0 ((hl 81 0) + 10))))) (c2 := (66, [some (.inr (.inr (some 81))), some (.inr (.inr (some 21))), some (.inl 1), some (.inl 2)], [], (zs h (zup hl 81 0 ((hl 81 0) + 10))))) rfl (by first | assumption | (unfold zr; omega)) (by first | assumption | (unfold zr; omega)) (fun (b_18 : ¬ ((h 41 2) + (h 39 2)) < ((h 41 1) + (h 39 1))) => ?_) (fun (b_18 : ¬ (¬ ((h 41 2) + (h 39 2)) < ((h 41 1) + (h 39 1)))) => ?_)
      · refine zH_go 5 (c' := (38, [some (.inr (.inr (some 81))), some (.inr (.inr (some 21))), some (.inl 1), some (.inl 3)], [.inl (h 21 3), .inl 3], (zs h (zup hl 81 0 ((hl 81 0) + 10))))) rfl ?_
        rw [hL]
        refine zH_bt (x := 3) (y := 3) (k := .ge) (c1 := (74, [some (.inr (.inr (some 81))), some (.inr (.inr (some 21))), some (.inl 1), some (.inl 3)], [], (zs h (zup hl 81 0 ((hl 81 0) + 10))))) (c2 := (41, [some (.inr (.inr (some 81))), some (.inr (.inr (some 21))), some (.inl 1), some (.inl 3)], [], (zs h (zup hl 81 0 ((hl 81 0) + 10))))) rfl ⟨by decide, by decide⟩ ⟨by decide, by decide⟩ (by show ¬ 3 < 3; decide) ?_
        refine zH_go 1 (c' := (75, [some (.inr (.inr (some 81))), some (.inr (.inr (some 21))), some (.inl 1), some (.inl 3)], [.inl 1], (zs h (zup hl 81 0 ((hl 81 0) + 10))))) rfl ?_
        refine zH_ret (v := some (.inl 1)) rfl (fun q => absurd q (by decide)) ?_
        exact Or.inr ⟨by assumption, 1, by unfold zIs; (try dsimp only); omega, rfl, rfl⟩
      · refine zH_go 7 (c' := (38, [some (.inr (.inr (some 81))), some (.inr (.inr (some 21))), some (.inl 2), some (.inl 3)], [.inl (h 21 3), .inl 3], (zs h (zup hl 81 0 ((hl 81 0) + 10))))) rfl ?_
        rw [hL]
        refine zH_bt (x := 3) (y := 3) (k := .ge) (c1 := (74, [some (.inr (.inr (some 81))), some (.inr (.inr (some 21))), some (.inl 2), some (.inl 3)], [], (zs h (zup hl 81 0 ((hl 81 0) + 10))))) (c2 := (41, [some (.inr (.inr (some 81))), some (.inr (.inr (some 21))), some (.inl 2), some (.inl 3)], [], (zs h (zup hl 81 0 ((hl 81 0) + 10))))) rfl ⟨by decide, by decide⟩ ⟨by decide, by decide⟩ (by show ¬ 3 < 3; decide) ?_
        refine zH_go 1 (c' := (75, [some (.inr (.inr (some 81))), some (.inr (.inr (some 21))), some (.inl 2), some (.inl 3)], [.inl 2], (zs h (zup hl 81 0 ((hl 81 0) + 10))))) rfl ?_
        refine zH_ret (v := some (.inl 2)) rfl (fun q => absurd q (by decide)) ?_
        exact Or.inr ⟨by assumption, 2, by unfold zIs; (try dsimp only); omega, rfl, rfl⟩
theorem p_evenD {d : Nat} {h hl : Nat → Nat → Int} {L : Nat} (hL3 : 1 ≤ L ∧ L ≤ 3) (hL : h 21 3 = (L : Int)) (hf : ∀ l : Nat, l < 3 → 0 ≤ h 39 l ∧ h 39 l ≤ 1000000) {pp : Nat} {sp : Nat → Nat} (hpp : pp < 8) (h7 : h 21 7 = (pp : Int)) (hsp : ∀ i : Nat, i < L → h 40 i = ((sp i : Nat) : Int)) (hs6 : ∀ i : Nat, i < L → sp i < 6) (hw : ∀ l : Nat, l < 3 → 0 ≤ h 41 l ∧ h 41 l ≤ 1000000) : zQ (d + 3) 37 [.inr (.inr (some 81)), .inr (.inr (some 21))] (zs h hl) (fun r σ' => (zCov L sp pp ∧ zPk (zIs L (fun l => h 39 l)) h hl 11 r σ') ∨ (¬ zCov L sp pp ∧ zPk (zIs L (fun l => h 41 l + h 39 l)) h hl 10 r σ')) := by
  rcases (show L = 1 ∨ L = 2 ∨ L = 3 by omega) with rfl | rfl | rfl
  · exact p_evenD1 hL hf hpp h7 hsp hs6 hw
  · exact p_evenD2 hL hf hpp h7 hsp hs6 hw
  · exact p_evenD3 hL hf hpp h7 hsp hs6 hw
set_option maxRecDepth 100000 in
set_option maxHeartbeats 4000000 in
theorem p_nearT1 {d : Nat} {h hl : Nat → Nat → Int} (hL : h 48 3 = 1) (hf : ∀ l : Nat, l < 3 → 0 ≤ h 57 l ∧ h 57 l ≤ 1000000) : zQ (d + 2) 36 [.inr (.inr (some 81)), .inr (.inr (some 48))] (zs h hl) (zPk (zIs 1 (fun l => h 57 l)) h hl 1) := by
  have f0 := hf 0 (by decide)
  refine zQ_of (Nat.le_of_ble_eq_true rfl) ?_
  show zH (d + 1) 36 (0, [some (.inr (.inr (some 81))), some (.inr (.inr (some 48))), none, none], [], (zs h hl)) _
  refine zH_go 13 (c' := (19, [some (.inr (.inr (some 81))), some (.inr (.inr (some 48))), some (.inl 0), some (.inl 1)], [.inl (h 48 3), .inl 1], (zs h (zup hl 81 0 ((hl 81 0) + 1))))) rfl ?_
  rw [hL]
  refine zH_bt (x := 1) (y := 1) (k := .ge) (c1 := (43, [some (.inr (.inr (some 81))), some (.inr (.inr (some 48))), some (.inl 0), some (.inl 1)], [], (zs h (zup hl 81 0 ((hl 81 0) + 1))))) (c2 := (22, [some (.inr (.inr (some 81))), some (.inr (.inr (some 48))), some (.inl 0), some (.inl 1)], [], (zs h (zup hl 81 0 ((hl 81 0) + 1))))) rfl ⟨by decide, by decide⟩ ⟨by decide, by decide⟩ (by show ¬ 1 < 1; decide) ?_
  refine zH_go 1 (c' := (44, [some (.inr (.inr (some 81))), some (.inr (.inr (some 48))), some (.inl 0), some (.inl 1)], [.inl 0], (zs h (zup hl 81 0 ((hl 81 0) + 1))))) rfl ?_
  refine zH_ret (v := some (.inl 0)) rfl (fun q => absurd q (by decide)) ?_
  exact ⟨0, by unfold zIs; (try dsimp only); omega, rfl, rfl⟩
set_option maxRecDepth 100000 in
set_option maxHeartbeats 4000000 in
theorem p_nearT2 {d : Nat} {h hl : Nat → Nat → Int} (hL : h 48 3 = 2) (hf : ∀ l : Nat, l < 3 → 0 ≤ h 57 l ∧ h 57 l ≤ 1000000) : zQ (d + 2) 36 [.inr (.inr (some 81)), .inr (.inr (some 48))] (zs h hl) (zPk (zIs 2 (fun l => h 57 l)) h hl 1) := by
  have f0 := hf 0 (by decide)
  have f1 := hf 1 (by decide)
  refine zQ_of (Nat.le_of_ble_eq_true rfl) ?_
  show zH (d + 1) 36 (0, [some (.inr (.inr (some 81))), some (.inr (.inr (some 48))), none, none], [], (zs h hl)) _
  refine zH_go 13 (c' := (19, [some (.inr (.inr (some 81))), some (.inr (.inr (some 48))), some (.inl 0), some (.inl 1)], [.inl (h 48 3), .inl 1], (zs h (zup hl 81 0 ((hl 81 0) + 1))))) rfl ?_
  rw [hL]
  refine zH_bf (x := 1) (y := 2) (k := .ge) (c1 := (43, [some (.inr (.inr (some 81))), some (.inr (.inr (some 48))), some (.inl 0), some (.inl 1)], [], (zs h (zup hl 81 0 ((hl 81 0) + 1))))) (c2 := (22, [some (.inr (.inr (some 81))), some (.inr (.inr (some 48))), some (.inl 0), some (.inl 1)], [], (zs h (zup hl 81 0 ((hl 81 0) + 1))))) rfl ⟨by decide, by decide⟩ ⟨by decide, by decide⟩ (by show ¬ (¬ 1 < 2); decide) ?_
  refine zH_go 2 (c' := (24, [some (.inr (.inr (some 81))), some (.inr (.inr (some 48))), some (.inl 0), some (.inl 1)], [.inl 1, .inr (.inr (some 48))], (zs h (zup hl 81 0 ((hl 81 0) + 1))))) rfl ?_
  refine zH_call (M' := 20) (as := [.inr (.inr (some 48)), .inl 1]) (T := []) rfl (p_farT (l := 1) (by decide)) (fun r σ' p_1 => ?_)
  obtain ⟨rfl, rfl⟩ := p_1
  show zH _ _ (27, [some (.inr (.inr (some 81))), some (.inr (.inr (some 48))), some (.inl 0), some (.inl 1)], [.inl (h 57 1)], (zs h (zup hl 81 0 ((hl 81 0) + 1)))) _
  refine zH_go 2 (c' := (29, [some (.inr (.inr (some 81))), some (.inr (.inr (some 48))), some (.inl 0), some (.inl 1)], [.inl 0, .inr (.inr (some 48)), .inl (h 57 1)], (zs h (zup hl 81 0 ((hl 81 0) + 1))))) rfl ?_
  refine zH_call (M' := 20) (as := [.inr (.inr (some 48)), .inl 0]) (T := [.inl (h 57 1)]) rfl (p_farT (l := 0) (by decide)) (fun r σ' p_2 => ?_)
  obtain ⟨rfl, rfl⟩ := p_2
  show zH _ _ (32, [some (.inr (.inr (some 81))), some (.inr (.inr (some 48))), some (.inl 0), some (.inl 1)], [.inl (h 57 0), .inl (h 57 1)], (zs h (zup hl 81 0 ((hl 81 0) + 1)))) _
  refine zH_br (x := (h 57 1)) (y := (h 57 0)) (k := .ge) (c1 := (37, [some (.inr (.inr (some 81))), some (.inr (.inr (some 48))), some (.inl 0), some (.inl 1)], [], (zs h (zup hl 81 0 ((hl 81 0) + 1))))) (c2 := (35, [some (.inr (.inr (some 81))), some (.inr (.inr (some 48))), some (.inl 0), some (.inl 1)], [], (zs h (zup hl 81 0 ((hl 81 0) + 1))))) rfl (by first | assumption | (unfold zr; omega)) (by first | assumption | (unfold zr; omega)) (fun (b_3 : ¬ (h 57 1) < (h 57 0)) => ?_) (fun (b_3 : ¬ (¬ (h 57 1) < (h 57 0))) => ?_)
  · refine zH_go 5 (c' := (19, [some (.inr (.inr (some 81))), some (.inr (.inr (some 48))), some (.inl 0), some (.inl 2)], [.inl (h 48 3), .inl 2], (zs h (zup hl 81 0 ((hl 81 0) + 1))))) rfl ?_
    rw [hL]
    refine zH_bt (x := 2) (y := 2) (k := .ge) (c1 := (43, [some (.inr (.inr (some 81))), some (.inr (.inr (some 48))), some (.inl 0), some (.inl 2)], [], (zs h (zup hl 81 0 ((hl 81 0) + 1))))) (c2 := (22, [some (.inr (.inr (some 81))), some (.inr (.inr (some 48))), some (.inl 0), some (.inl 2)], [], (zs h (zup hl 81 0 ((hl 81 0) + 1))))) rfl ⟨by decide, by decide⟩ ⟨by decide, by decide⟩ (by show ¬ 2 < 2; decide) ?_
    refine zH_go 1 (c' := (44, [some (.inr (.inr (some 81))), some (.inr (.inr (some 48))), some (.inl 0), some (.inl 2)], [.inl 0], (zs h (zup hl 81 0 ((hl 81 0) + 1))))) rfl ?_
    refine zH_ret (v := some (.inl 0)) rfl (fun q => absurd q (by decide)) ?_
    exact ⟨0, by unfold zIs; (try dsimp only); omega, rfl, rfl⟩
  · refine zH_go 7 (c' := (19, [some (.inr (.inr (some 81))), some (.inr (.inr (some 48))), some (.inl 1), some (.inl 2)], [.inl (h 48 3), .inl 2], (zs h (zup hl 81 0 ((hl 81 0) + 1))))) rfl ?_
    rw [hL]
    refine zH_bt (x := 2) (y := 2) (k := .ge) (c1 := (43, [some (.inr (.inr (some 81))), some (.inr (.inr (some 48))), some (.inl 1), some (.inl 2)], [], (zs h (zup hl 81 0 ((hl 81 0) + 1))))) (c2 := (22, [some (.inr (.inr (some 81))), some (.inr (.inr (some 48))), some (.inl 1), some (.inl 2)], [], (zs h (zup hl 81 0 ((hl 81 0) + 1))))) rfl ⟨by decide, by decide⟩ ⟨by decide, by decide⟩ (by show ¬ 2 < 2; decide) ?_
    refine zH_go 1 (c' := (44, [some (.inr (.inr (some 81))), some (.inr (.inr (some 48))), some (.inl 1), some (.inl 2)], [.inl 1], (zs h (zup hl 81 0 ((hl 81 0) + 1))))) rfl ?_
    refine zH_ret (v := some (.inl 1)) rfl (fun q => absurd q (by decide)) ?_
    exact ⟨1, by unfold zIs; (try dsimp only); omega, rfl, rfl⟩
set_option maxRecDepth 100000 in
set_option maxHeartbeats 4000000 in
theorem p_nearT3 {d : Nat} {h hl : Nat → Nat → Int} (hL : h 48 3 = 3) (hf : ∀ l : Nat, l < 3 → 0 ≤ h 57 l ∧ h 57 l ≤ 1000000) : zQ (d + 2) 36 [.inr (.inr (some 81)), .inr (.inr (some 48))] (zs h hl) (zPk (zIs 3 (fun l => h 57 l)) h hl 1) := by
  have f0 := hf 0 (by decide)
  have f1 := hf 1 (by decide)
  have f2 := hf 2 (by decide)
  refine zQ_of (Nat.le_of_ble_eq_true rfl) ?_
  show zH (d + 1) 36 (0, [some (.inr (.inr (some 81))), some (.inr (.inr (some 48))), none, none], [], (zs h hl)) _
  refine zH_go 13 (c' := (19, [some (.inr (.inr (some 81))), some (.inr (.inr (some 48))), some (.inl 0), some (.inl 1)], [.inl (h 48 3), .inl 1], (zs h (zup hl 81 0 ((hl 81 0) + 1))))) rfl ?_
  rw [hL]
  refine zH_bf (x := 1) (y := 3) (k := .ge) (c1 := (43, [some (.inr (.inr (some 81))), some (.inr (.inr (some 48))), some (.inl 0), some (.inl 1)], [], (zs h (zup hl 81 0 ((hl 81 0) + 1))))) (c2 := (22, [some (.inr (.inr (some 81))), some (.inr (.inr (some 48))), some (.inl 0), some (.inl 1)], [], (zs h (zup hl 81 0 ((hl 81 0) + 1))))) rfl ⟨by decide, by decide⟩ ⟨by decide, by decide⟩ (by show ¬ (¬ 1 < 3); decide) ?_
  refine zH_go 2 (c' := (24, [some (.inr (.inr (some 81))), some (.inr (.inr (some 48))), some (.inl 0), some (.inl 1)], [.inl 1, .inr (.inr (some 48))], (zs h (zup hl 81 0 ((hl 81 0) + 1))))) rfl ?_
  refine zH_call (M' := 20) (as := [.inr (.inr (some 48)), .inl 1]) (T := []) rfl (p_farT (l := 1) (by decide)) (fun r σ' p_1 => ?_)
  obtain ⟨rfl, rfl⟩ := p_1
  show zH _ _ (27, [some (.inr (.inr (some 81))), some (.inr (.inr (some 48))), some (.inl 0), some (.inl 1)], [.inl (h 57 1)], (zs h (zup hl 81 0 ((hl 81 0) + 1)))) _
  refine zH_go 2 (c' := (29, [some (.inr (.inr (some 81))), some (.inr (.inr (some 48))), some (.inl 0), some (.inl 1)], [.inl 0, .inr (.inr (some 48)), .inl (h 57 1)], (zs h (zup hl 81 0 ((hl 81 0) + 1))))) rfl ?_
  refine zH_call (M' := 20) (as := [.inr (.inr (some 48)), .inl 0]) (T := [.inl (h 57 1)]) rfl (p_farT (l := 0) (by decide)) (fun r σ' p_2 => ?_)
  obtain ⟨rfl, rfl⟩ := p_2
  show zH _ _ (32, [some (.inr (.inr (some 81))), some (.inr (.inr (some 48))), some (.inl 0), some (.inl 1)], [.inl (h 57 0), .inl (h 57 1)], (zs h (zup hl 81 0 ((hl 81 0) + 1)))) _
  refine zH_br (x := (h 57 1)) (y := (h 57 0)) (k := .ge) (c1 := (37, [some (.inr (.inr (some 81))), some (.inr (.inr (some 48))), some (.inl 0), some (.inl 1)], [], (zs h (zup hl 81 0 ((hl 81 0) + 1))))) (c2 := (35, [some (.inr (.inr (some 81))), some (.inr (.inr (some 48))), some (.inl 0), some (.inl 1)], [], (zs h (zup hl 81 0 ((hl 81 0) + 1))))) rfl (by first | assumption | (unfold zr; omega)) (by first | assumption | (unfold zr; omega)) (fun (b_3 : ¬ (h 57 1) < (h 57 0)) => ?_) (fun (b_3 : ¬ (¬ (h 57 1) < (h 57 0))) => ?_)
  · refine zH_go 5 (c' := (19, [some (.inr (.inr (some 81))), some (.inr (.inr (some 48))), some (.inl 0), some (.inl 2)], [.inl (h 48 3), .inl 2], (zs h (zup hl 81 0 ((hl 81 0) + 1))))) rfl ?_
    rw [hL]
    refine zH_bf (x := 2) (y := 3) (k := .ge) (c1 := (43, [some (.inr (.inr (some 81))), some (.inr (.inr (some 48))), some (.inl 0), some (.inl 2)], [], (zs h (zup hl 81 0 ((hl 81 0) + 1))))) (c2 := (22, [some (.inr (.inr (some 81))), some (.inr (.inr (some 48))), some (.inl 0), some (.inl 2)], [], (zs h (zup hl 81 0 ((hl 81 0) + 1))))) rfl ⟨by decide, by decide⟩ ⟨by decide, by decide⟩ (by show ¬ (¬ 2 < 3); decide) ?_
    refine zH_go 2 (c' := (24, [some (.inr (.inr (some 81))), some (.inr (.inr (some 48))), some (.inl 0), some (.inl 2)], [.inl 2, .inr (.inr (some 48))], (zs h (zup hl 81 0 ((hl 81 0) + 1))))) rfl ?_
    refine zH_call (M' := 20) (as := [.inr (.inr (some 48)), .inl 2]) (T := []) rfl (p_farT (l := 2) (by decide)) (fun r σ' p_4 => ?_)
    obtain ⟨rfl, rfl⟩ := p_4
    show zH _ _ (27, [some (.inr (.inr (some 81))), some (.inr (.inr (some 48))), some (.inl 0), some (.inl 2)], [.inl (h 57 2)], (zs h (zup hl 81 0 ((hl 81 0) + 1)))) _
    refine zH_go 2 (c' := (29, [some (.inr (.inr (some 81))), some (.inr (.inr (some 48))), some (.inl 0), some (.inl 2)], [.inl 0, .inr (.inr (some 48)), .inl (h 57 2)], (zs h (zup hl 81 0 ((hl 81 0) + 1))))) rfl ?_
    refine zH_call (M' := 20) (as := [.inr (.inr (some 48)), .inl 0]) (T := [.inl (h 57 2)]) rfl (p_farT (l := 0) (by decide)) (fun r σ' p_5 => ?_)
    obtain ⟨rfl, rfl⟩ := p_5
    show zH _ _ (32, [some (.inr (.inr (some 81))), some (.inr (.inr (some 48))), some (.inl 0), some (.inl 2)], [.inl (h 57 0), .inl (h 57 2)], (zs h (zup hl 81 0 ((hl 81 0) + 1)))) _
    refine zH_br (x := (h 57 2)) (y := (h 57 0)) (k := .ge) (c1 := (37, [some (.inr (.inr (some 81))), some (.inr (.inr (some 48))), some (.inl 0), some (.inl 2)], [], (zs h (zup hl 81 0 ((hl 81 0) + 1))))) (c2 := (35, [some (.inr (.inr (some 81))), some (.inr (.inr (some 48))), some (.inl 0), some (.inl 2)], [], (zs h (zup hl 81 0 ((hl 81 0) + 1))))) rfl (by first | assumption | (unfold zr; omega)) (by first | assumption | (unfold zr; omega)) (fun (b_6 : ¬ (h 57 2) < (h 57 0)) => ?_) (fun (b_6 : ¬ (¬ (h 57 2) < (h 57 0))) => ?_)
    · refine zH_go 5 (c' := (19, [some (.inr (.inr (some 81))), some (.inr (.inr (some 48))), some (.inl 0), some (.inl 3)], [.inl (h 48 3), .inl 3], (zs h (zup hl 81 0 ((hl 81 0) + 1))))) rfl ?_
      rw [hL]
      refine zH_bt (x := 3) (y := 3) (k := .ge) (c1 := (43, [some (.inr (.inr (some 81))), some (.inr (.inr (some 48))), some (.inl 0), some (.inl 3)], [], (zs h (zup hl 81 0 ((hl 81 0) + 1))))) (c2 := (22, [some (.inr (.inr (some 81))), some (.inr (.inr (some 48))), some (.inl 0), some (.inl 3)], [], (zs h (zup hl 81 0 ((hl 81 0) + 1))))) rfl ⟨by decide, by decide⟩ ⟨by decide, by decide⟩ (by show ¬ 3 < 3; decide) ?_
      refine zH_go 1 (c' := (44, [some (.inr (.inr (some 81))), some (.inr (.inr (some 48))), some (.inl 0), some (.inl 3)], [.inl 0], (zs h (zup hl 81 0 ((hl 81 0) + 1))))) rfl ?_
      refine zH_ret (v := some (.inl 0)) rfl (fun q => absurd q (by decide)) ?_
      exact ⟨0, by unfold zIs; (try dsimp only); omega, rfl, rfl⟩
    · refine zH_go 7 (c' := (19, [some (.inr (.inr (some 81))), some (.inr (.inr (some 48))), some (.inl 2), some (.inl 3)], [.inl (h 48 3), .inl 3], (zs h (zup hl 81 0 ((hl 81 0) + 1))))) rfl ?_
      rw [hL]
      refine zH_bt (x := 3) (y := 3) (k := .ge) (c1 := (43, [some (.inr (.inr (some 81))), some (.inr (.inr (some 48))), some (.inl 2), some (.inl 3)], [], (zs h (zup hl 81 0 ((hl 81 0) + 1))))) (c2 := (22, [some (.inr (.inr (some 81))), some (.inr (.inr (some 48))), some (.inl 2), some (.inl 3)], [], (zs h (zup hl 81 0 ((hl 81 0) + 1))))) rfl ⟨by decide, by decide⟩ ⟨by decide, by decide⟩ (by show ¬ 3 < 3; decide) ?_
      refine zH_go 1 (c' := (44, [some (.inr (.inr (some 81))), some (.inr (.inr (some 48))), some (.inl 2), some (.inl 3)], [.inl 2], (zs h (zup hl 81 0 ((hl 81 0) + 1))))) rfl ?_
      refine zH_ret (v := some (.inl 2)) rfl (fun q => absurd q (by decide)) ?_
      exact ⟨2, by unfold zIs; (try dsimp only); omega, rfl, rfl⟩
  · refine zH_go 7 (c' := (19, [some (.inr (.inr (some 81))), some (.inr (.inr (some 48))), some (.inl 1), some (.inl 2)], [.inl (h 48 3), .inl 2], (zs h (zup hl 81 0 ((hl 81 0) + 1))))) rfl ?_
    rw [hL]
    refine zH_bf (x := 2) (y := 3) (k := .ge) (c1 := (43, [some (.inr (.inr (some 81))), some (.inr (.inr (some 48))), some (.inl 1), some (.inl 2)], [], (zs h (zup hl 81 0 ((hl 81 0) + 1))))) (c2 := (22, [some (.inr (.inr (some 81))), some (.inr (.inr (some 48))), some (.inl 1), some (.inl 2)], [], (zs h (zup hl 81 0 ((hl 81 0) + 1))))) rfl ⟨by decide, by decide⟩ ⟨by decide, by decide⟩ (by show ¬ (¬ 2 < 3); decide) ?_
    refine zH_go 2 (c' := (24, [some (.inr (.inr (some 81))), some (.inr (.inr (some 48))), some (.inl 1), some (.inl 2)], [.inl 2, .inr (.inr (some 48))], (zs h (zup hl 81 0 ((hl 81 0) + 1))))) rfl ?_
    refine zH_call (M' := 20) (as := [.inr (.inr (some 48)), .inl 2]) (T := []) rfl (p_farT (l := 2) (by decide)) (fun r σ' p_7 => ?_)
    obtain ⟨rfl, rfl⟩ := p_7
    show zH _ _ (27, [some (.inr (.inr (some 81))), some (.inr (.inr (some 48))), some (.inl 1), some (.inl 2)], [.inl (h 57 2)], (zs h (zup hl 81 0 ((hl 81 0) + 1)))) _
    refine zH_go 2 (c' := (29, [some (.inr (.inr (some 81))), some (.inr (.inr (some 48))), some (.inl 1), some (.inl 2)], [.inl 1, .inr (.inr (some 48)), .inl (h 57 2)], (zs h (zup hl 81 0 ((hl 81 0) + 1))))) rfl ?_
    refine zH_call (M' := 20) (as := [.inr (.inr (some 48)), .inl 1]) (T := [.inl (h 57 2)]) rfl (p_farT (l := 1) (by decide)) (fun r σ' p_8 => ?_)
    obtain ⟨rfl, rfl⟩ := p_8
    show zH _ _ (32, [some (.inr (.inr (some 81))), some (.inr (.inr (some 48))), some (.inl 1), some (.inl 2)], [.inl (h 57 1), .inl (h 57 2)], (zs h (zup hl 81 0 ((hl 81 0) + 1)))) _
    refine zH_br (x := (h 57 2)) (y := (h 57 1)) (k := .ge) (c1 := (37, [some (.inr (.inr (some 81))), some (.inr (.inr (some 48))), some (.inl 1), some (.inl 2)], [], (zs h (zup hl 81 0 ((hl 81 0) + 1))))) (c2 := (35, [some (.inr (.inr (some 81))), some (.inr (.inr (some 48))), some (.inl 1), some (.inl 2)], [], (zs h (zup hl 81 0 ((hl 81 0) + 1))))) rfl (by first | assumption | (unfold zr; omega)) (by first | assumption | (unfold zr; omega)) (fun (b_9 : ¬ (h 57 2) < (h 57 1)) => ?_) (fun (b_9 : ¬ (¬ (h 57 2) < (h 57 1))) => ?_)
    · refine zH_go 5 (c' := (19, [some (.inr (.inr (some 81))), some (.inr (.inr (some 48))), some (.inl 1), some (.inl 3)], [.inl (h 48 3), .inl 3], (zs h (zup hl 81 0 ((hl 81 0) + 1))))) rfl ?_
      rw [hL]
      refine zH_bt (x := 3) (y := 3) (k := .ge) (c1 := (43, [some (.inr (.inr (some 81))), some (.inr (.inr (some 48))), some (.inl 1), some (.inl 3)], [], (zs h (zup hl 81 0 ((hl 81 0) + 1))))) (c2 := (22, [some (.inr (.inr (some 81))), some (.inr (.inr (some 48))), some (.inl 1), some (.inl 3)], [], (zs h (zup hl 81 0 ((hl 81 0) + 1))))) rfl ⟨by decide, by decide⟩ ⟨by decide, by decide⟩ (by show ¬ 3 < 3; decide) ?_
      refine zH_go 1 (c' := (44, [some (.inr (.inr (some 81))), some (.inr (.inr (some 48))), some (.inl 1), some (.inl 3)], [.inl 1], (zs h (zup hl 81 0 ((hl 81 0) + 1))))) rfl ?_
      refine zH_ret (v := some (.inl 1)) rfl (fun q => absurd q (by decide)) ?_
      exact ⟨1, by unfold zIs; (try dsimp only); omega, rfl, rfl⟩
    · refine zH_go 7 (c' := (19, [some (.inr (.inr (some 81))), some (.inr (.inr (some 48))), some (.inl 2), some (.inl 3)], [.inl (h 48 3), .inl 3], (zs h (zup hl 81 0 ((hl 81 0) + 1))))) rfl ?_
      rw [hL]
      refine zH_bt (x := 3) (y := 3) (k := .ge) (c1 := (43, [some (.inr (.inr (some 81))), some (.inr (.inr (some 48))), some (.inl 2), some (.inl 3)], [], (zs h (zup hl 81 0 ((hl 81 0) + 1))))) (c2 := (22, [some (.inr (.inr (some 81))), some (.inr (.inr (some 48))), some (.inl 2), some (.inl 3)], [], (zs h (zup hl 81 0 ((hl 81 0) + 1))))) rfl ⟨by decide, by decide⟩ ⟨by decide, by decide⟩ (by show ¬ 3 < 3; decide) ?_
      refine zH_go 1 (c' := (44, [some (.inr (.inr (some 81))), some (.inr (.inr (some 48))), some (.inl 2), some (.inl 3)], [.inl 2], (zs h (zup hl 81 0 ((hl 81 0) + 1))))) rfl ?_
      refine zH_ret (v := some (.inl 2)) rfl (fun q => absurd q (by decide)) ?_
      exact ⟨2, by unfold zIs; (try dsimp only); omega, rfl, rfl⟩
theorem p_nearT {d : Nat} {h hl : Nat → Nat → Int} {L : Nat} (hL3 : 1 ≤ L ∧ L ≤ 3) (hL : h 48 3 = (L : Int)) (hf : ∀ l : Nat, l < 3 → 0 ≤ h 57 l ∧ h 57 l ≤ 1000000) : zQ (d + 2) 36 [.inr (.inr (some 81)), .inr (.inr (some 48))] (zs h hl) (zPk (zIs L (fun l => h 57 l)) h hl 1) := by
  rcases (show L = 1 ∨ L = 2 ∨ L = 3 by omega) with rfl | rfl | rfl
  · exact p_nearT1 hL hf
  · exact p_nearT2 hL hf
  · exact p_nearT3 hL hf
set_option maxRecDepth 100000 in
set_option maxHeartbeats 4000000 in
theorem p_evenT1 {d : Nat} {h hl : Nat → Nat → Int} (hL : h 48 3 = 1) (hf : ∀ l : Nat, l < 3 → 0 ≤ h 57 l ∧ h 57 l ≤ 1000000) {pp : Nat} {sp : Nat → Nat} (hpp : pp < 8) (h7 : h 48 7 = (pp : Int)) (hsp : ∀ i : Nat, i < 1 → h 58 i = ((sp i : Nat) : Int)) (hs6 : ∀ i : Nat, i < 1 → sp i < 6) (hw : ∀ l : Nat, l < 3 → 0 ≤ h 59 l ∧ h 59 l ≤ 1000000) : zQ (d + 3) 37 [.inr (.inr (some 81)), .inr (.inr (some 48))] (zs h hl) (fun r σ' => (zCov 1 sp pp ∧ zPk (zIs 1 (fun l => h 57 l)) h hl 11 r σ') ∨ (¬ zCov 1 sp pp ∧ zPk (zIs 1 (fun l => h 59 l + h 57 l)) h hl 10 r σ')) := by
  have f0 := hf 0 (by decide)
  have w0 := hw 0 (by decide)
  refine zQ_of (Nat.le_of_ble_eq_true rfl) ?_
  show zH (d + 2) 37 (0, [some (.inr (.inr (some 81))), some (.inr (.inr (some 48))), none, none], [], (zs h hl)) _
  refine zH_go 9 (c' := (17, [some (.inr (.inr (some 81))), some (.inr (.inr (some 48))), none, none], [.inl (h 48 7), .inr (.inr (some 48))], (zs h (zup hl 81 0 ((hl 81 0) + 10))))) rfl ?_
  rw [h7]
  refine zH_call (M' := 25) (as := [.inr (.inr (some 48)), .inl (pp : Int)]) (T := []) rfl (p_covT (L := 1) (pp := pp) hpp (by decide) hL hsp hs6) (fun r σ' p_1 => ?_)
  rcases p_1 with ⟨rfl, b_2, rfl⟩ | ⟨rfl, b_2, rfl⟩
  · show zH _ _ (20, [some (.inr (.inr (some 81))), some (.inr (.inr (some 48))), none, none], [.inl 1], (zs h (zup hl 81 0 ((hl 81 0) + 10)))) _
    refine zH_bf (x := 1) (y := 0) (k := .eq) (c1 := (29, [some (.inr (.inr (some 81))), some (.inr (.inr (some 48))), none, none], [], (zs h (zup hl 81 0 ((hl 81 0) + 10))))) (c2 := (23, [some (.inr (.inr (some 81))), some (.inr (.inr (some 48))), none, none], [], (zs h (zup hl 81 0 ((hl 81 0) + 10))))) rfl ⟨by decide, by decide⟩ ⟨by decide, by decide⟩ (by show ¬ (1 = 0); decide) ?_
    refine zH_go 2 (c' := (25, [some (.inr (.inr (some 81))), some (.inr (.inr (some 48))), none, none], [.inr (.inr (some 48)), .inr (.inr (some 81))], (zs h (zup hl 81 0 ((hl 81 0) + 10))))) rfl ?_
    refine zH_call (M' := 36) (as := [.inr (.inr (some 81)), .inr (.inr (some 48))]) (T := []) rfl (p_nearT (L := 1) (by decide) hL hf) (fun r σ' p_3 => ?_)
    obtain ⟨l, hl1, rfl, rfl⟩ := p_3
    rw [zup_id]
    show zH _ _ (28, [some (.inr (.inr (some 81))), some (.inr (.inr (some 48))), none, none], [.inl (l : Int)], (zs h (zup hl 81 0 (zup hl 81 0 (hl 81 0 + 10) 81 0 + 1)))) _
    rw [zup_eq]
    refine zH_ret (v := some (.inl (l : Int))) rfl (fun q => absurd q (by decide)) ?_
    exact Or.inl ⟨by assumption, l, hl1, rfl, by rw [show hl 81 0 + 11 = hl 81 0 + 10 + 1 by omega]⟩
  · show zH _ _ (20, [some (.inr (.inr (some 81))), some (.inr (.inr (some 48))), none, none], [.inl 0], (zs h (zup hl 81 0 ((hl 81 0) + 10)))) _
    refine zH_bt (x := 0) (y := 0) (k := .eq) (c1 := (29, [some (.inr (.inr (some 81))), some (.inr (.inr (some 48))), none, none], [], (zs h (zup hl 81 0 ((hl 81 0) + 10))))) (c2 := (23, [some (.inr (.inr (some 81))), some (.inr (.inr (some 48))), none, none], [], (zs h (zup hl 81 0 ((hl 81 0) + 10))))) rfl ⟨by decide, by decide⟩ ⟨by decide, by decide⟩ (by show 0 = 0; decide) ?_
    refine zH_go 7 (c' := (38, [some (.inr (.inr (some 81))), some (.inr (.inr (some 48))), some (.inl 0), some (.inl 1)], [.inl (h 48 3), .inl 1], (zs h (zup hl 81 0 ((hl 81 0) + 10))))) rfl ?_
    rw [hL]
    refine zH_bt (x := 1) (y := 1) (k := .ge) (c1 := (74, [some (.inr (.inr (some 81))), some (.inr (.inr (some 48))), some (.inl 0), some (.inl 1)], [], (zs h (zup hl 81 0 ((hl 81 0) + 10))))) (c2 := (41, [some (.inr (.inr (some 81))), some (.inr (.inr (some 48))), some (.inl 0), some (.inl 1)], [], (zs h (zup hl 81 0 ((hl 81 0) + 10))))) rfl ⟨by decide, by decide⟩ ⟨by decide, by decide⟩ (by show ¬ 1 < 1; decide) ?_
    refine zH_go 1 (c' := (75, [some (.inr (.inr (some 81))), some (.inr (.inr (some 48))), some (.inl 0), some (.inl 1)], [.inl 0], (zs h (zup hl 81 0 ((hl 81 0) + 10))))) rfl ?_
    refine zH_ret (v := some (.inl 0)) rfl (fun q => absurd q (by decide)) ?_
    exact Or.inr ⟨by assumption, 0, by unfold zIs; (try dsimp only); omega, rfl, rfl⟩
set_option maxRecDepth 100000 in
set_option maxHeartbeats 4000000 in
theorem p_evenT2 {d : Nat} {h hl : Nat → Nat → Int} (hL : h 48 3 = 2) (hf : ∀ l : Nat, l < 3 → 0 ≤ h 57 l ∧ h 57 l ≤ 1000000) {pp : Nat} {sp : Nat → Nat} (hpp : pp < 8) (h7 : h 48 7 = (pp : Int)) (hsp : ∀ i : Nat, i < 2 → h 58 i = ((sp i : Nat) : Int)) (hs6 : ∀ i : Nat, i < 2 → sp i < 6) (hw : ∀ l : Nat, l < 3 → 0 ≤ h 59 l ∧ h 59 l ≤ 1000000) : zQ (d + 3) 37 [.inr (.inr (some 81)), .inr (.inr (some 48))] (zs h hl) (fun r σ' => (zCov 2 sp pp ∧ zPk (zIs 2 (fun l => h 57 l)) h hl 11 r σ') ∨ (¬ zCov 2 sp pp ∧ zPk (zIs 2 (fun l => h 59 l + h 57 l)) h hl 10 r σ')) := by
  have f0 := hf 0 (by decide)
  have f1 := hf 1 (by decide)
  have w0 := hw 0 (by decide)
  have w1 := hw 1 (by decide)
  refine zQ_of (Nat.le_of_ble_eq_true rfl) ?_
  show zH (d + 2) 37 (0, [some (.inr (.inr (some 81))), some (.inr (.inr (some 48))), none, none], [], (zs h hl)) _
  refine zH_go 9 (c' := (17, [some (.inr (.inr (some 81))), some (.inr (.inr (some 48))), none, none], [.inl (h 48 7), .inr (.inr (some 48))], (zs h (zup hl 81 0 ((hl 81 0) + 10))))) rfl ?_
  rw [h7]
  refine zH_call (M' := 25) (as := [.inr (.inr (some 48)), .inl (pp : Int)]) (T := []) rfl (p_covT (L := 2) (pp := pp) hpp (by decide) hL hsp hs6) (fun r σ' p_1 => ?_)
  rcases p_1 with ⟨rfl, b_2, rfl⟩ | ⟨rfl, b_2, rfl⟩
  · show zH _ _ (20, [some (.inr (.inr (some 81))), some (.inr (.inr (some 48))), none, none], [.inl 1], (zs h (zup hl 81 0 ((hl 81 0) + 10)))) _
    refine zH_bf (x := 1) (y := 0) (k := .eq) (c1 := (29, [some (.inr (.inr (some 81))), some (.inr (.inr (some 48))), none, none], [], (zs h (zup hl 81 0 ((hl 81 0) + 10))))) (c2 := (23, [some (.inr (.inr (some 81))), some (.inr (.inr (some 48))), none, none], [], (zs h (zup hl 81 0 ((hl 81 0) + 10))))) rfl ⟨by decide, by decide⟩ ⟨by decide, by decide⟩ (by show ¬ (1 = 0); decide) ?_
    refine zH_go 2 (c' := (25, [some (.inr (.inr (some 81))), some (.inr (.inr (some 48))), none, none], [.inr (.inr (some 48)), .inr (.inr (some 81))], (zs h (zup hl 81 0 ((hl 81 0) + 10))))) rfl ?_
    refine zH_call (M' := 36) (as := [.inr (.inr (some 81)), .inr (.inr (some 48))]) (T := []) rfl (p_nearT (L := 2) (by decide) hL hf) (fun r σ' p_3 => ?_)
    obtain ⟨l, hl1, rfl, rfl⟩ := p_3
    rw [zup_id]
    show zH _ _ (28, [some (.inr (.inr (some 81))), some (.inr (.inr (some 48))), none, none], [.inl (l : Int)], (zs h (zup hl 81 0 (zup hl 81 0 (hl 81 0 + 10) 81 0 + 1)))) _
    rw [zup_eq]
    refine zH_ret (v := some (.inl (l : Int))) rfl (fun q => absurd q (by decide)) ?_
    exact Or.inl ⟨by assumption, l, hl1, rfl, by rw [show hl 81 0 + 11 = hl 81 0 + 10 + 1 by omega]⟩
  · show zH _ _ (20, [some (.inr (.inr (some 81))), some (.inr (.inr (some 48))), none, none], [.inl 0], (zs h (zup hl 81 0 ((hl 81 0) + 10)))) _
    refine zH_bt (x := 0) (y := 0) (k := .eq) (c1 := (29, [some (.inr (.inr (some 81))), some (.inr (.inr (some 48))), none, none], [], (zs h (zup hl 81 0 ((hl 81 0) + 10))))) (c2 := (23, [some (.inr (.inr (some 81))), some (.inr (.inr (some 48))), none, none], [], (zs h (zup hl 81 0 ((hl 81 0) + 10))))) rfl ⟨by decide, by decide⟩ ⟨by decide, by decide⟩ (by show 0 = 0; decide) ?_
    refine zH_go 7 (c' := (38, [some (.inr (.inr (some 81))), some (.inr (.inr (some 48))), some (.inl 0), some (.inl 1)], [.inl (h 48 3), .inl 1], (zs h (zup hl 81 0 ((hl 81 0) + 10))))) rfl ?_
    rw [hL]
    refine zH_bf (x := 1) (y := 2) (k := .ge) (c1 := (74, [some (.inr (.inr (some 81))), some (.inr (.inr (some 48))), some (.inl 0), some (.inl 1)], [], (zs h (zup hl 81 0 ((hl 81 0) + 10))))) (c2 := (41, [some (.inr (.inr (some 81))), some (.inr (.inr (some 48))), some (.inl 0), some (.inl 1)], [], (zs h (zup hl 81 0 ((hl 81 0) + 10))))) rfl ⟨by decide, by decide⟩ ⟨by decide, by decide⟩ (by show ¬ (¬ 1 < 2); decide) ?_
    refine zH_go 2 (c' := (43, [some (.inr (.inr (some 81))), some (.inr (.inr (some 48))), some (.inl 0), some (.inl 1)], [.inl 1, .inr (.inr (some 48))], (zs h (zup hl 81 0 ((hl 81 0) + 10))))) rfl ?_
    refine zH_call (M' := 21) (as := [.inr (.inr (some 48)), .inl 1]) (T := []) rfl (p_walkedT (l := 1) (by decide)) (fun r σ' p_4 => ?_)
    obtain ⟨rfl, rfl⟩ := p_4
    show zH _ _ (46, [some (.inr (.inr (some 81))), some (.inr (.inr (some 48))), some (.inl 0), some (.inl 1)], [.inl (h 59 1)], (zs h (zup hl 81 0 ((hl 81 0) + 10)))) _
    refine zH_go 2 (c' := (48, [some (.inr (.inr (some 81))), some (.inr (.inr (some 48))), some (.inl 0), some (.inl 1)], [.inl 1, .inr (.inr (some 48)), .inl (h 59 1)], (zs h (zup hl 81 0 ((hl 81 0) + 10))))) rfl ?_
    refine zH_call (M' := 20) (as := [.inr (.inr (some 48)), .inl 1]) (T := [.inl (h 59 1)]) rfl (p_farT (l := 1) (by decide)) (fun r σ' p_5 => ?_)
    obtain ⟨rfl, rfl⟩ := p_5
    show zH _ _ (51, [some (.inr (.inr (some 81))), some (.inr (.inr (some 48))), some (.inl 0), some (.inl 1)], [.inl (h 57 1), .inl (h 59 1)], (zs h (zup hl 81 0 ((hl 81 0) + 10)))) _
    refine zH_go 3 (c' := (54, [some (.inr (.inr (some 81))), some (.inr (.inr (some 48))), some (.inl 0), some (.inl 1)], [.inl 0, .inr (.inr (some 48)), .inl ((h 59 1) + (h 57 1))], (zs h (zup hl 81 0 ((hl 81 0) + 10))))) rfl ?_
    refine zH_call (M' := 21) (as := [.inr (.inr (some 48)), .inl 0]) (T := [.inl ((h 59 1) + (h 57 1))]) rfl (p_walkedT (l := 0) (by decide)) (fun r σ' p_6 => ?_)
    obtain ⟨rfl, rfl⟩ := p_6
    show zH _ _ (57, [some (.inr (.inr (some 81))), some (.inr (.inr (some 48))), some (.inl 0), some (.inl 1)], [.inl (h 59 0), .inl ((h 59 1) + (h 57 1))], (zs h (zup hl 81 0 ((hl 81 0) + 10)))) _
    refine zH_go 2 (c' := (59, [some (.inr (.inr (some 81))), some (.inr (.inr (some 48))), some (.inl 0), some (.inl 1)], [.inl 0, .inr (.inr (some 48)), .inl (h 59 0), .inl ((h 59 1) + (h 57 1))], (zs h (zup hl 81 0 ((hl 81 0) + 10))))) rfl ?_
    refine zH_call (M' := 20) (as := [.inr (.inr (some 48)), .inl 0]) (T := [.inl (h 59 0), .inl ((h 59 1) + (h 57 1))]) rfl (p_farT (l := 0) (by decide)) (fun r σ' p_7 => ?_)
    obtain ⟨rfl, rfl⟩ := p_7
    show zH _ _ (62, [some (.inr (.inr (some 81))), some (.inr (.inr (some 48))), some (.inl 0), some (.inl 1)], [.inl (h 57 0), .inl (h 59 0), .inl ((h 59 1) + (h 57 1))], (zs h (zup hl 81 0 ((hl 81 0) + 10)))) _
    refine zH_go 1 (c' := (63, [some (.inr (.inr (some 81))), some (.inr (.inr (some 48))), some (.inl 0), some (.inl 1)], [.inl ((h 59 0) + (h 57 0)), .inl ((h 59 1) + (h 57 1))], (zs h (zup hl 81 0 ((hl 81 0) + 10))))) rfl ?_
    refine zH_br (x := ((h 59 1) + (h 57 1))) (y := ((h 59 0) + (h 57 0))) (k := .ge) (c1 := (68, [some (.inr (.inr (some 81))), some (.inr (.inr (some 48))), some (.inl 0), some (.inl 1)], [], (zs h (zup hl 81 0 ((hl 81 0) + 10))))) (c2 := (66, [some (.inr (.inr (some 81))), some (.inr (.inr (some 48))), some (.inl 0), some (.inl 1)], [], (zs h (zup hl 81 0 ((hl 81 0) + 10))))) rfl (by first | assumption | (unfold zr; omega)) (by first | assumption | (unfold zr; omega)) (fun (b_8 : ¬ ((h 59 1) + (h 57 1)) < ((h 59 0) + (h 57 0))) => ?_) (fun (b_8 : ¬ (¬ ((h 59 1) + (h 57 1)) < ((h 59 0) + (h 57 0)))) => ?_)
    · refine zH_go 5 (c' := (38, [some (.inr (.inr (some 81))), some (.inr (.inr (some 48))), some (.inl 0), some (.inl 2)], [.inl (h 48 3), .inl 2], (zs h (zup hl 81 0 ((hl 81 0) + 10))))) rfl ?_
      rw [hL]
      refine zH_bt (x := 2) (y := 2) (k := .ge) (c1 := (74, [some (.inr (.inr (some 81))), some (.inr (.inr (some 48))), some (.inl 0), some (.inl 2)], [], (zs h (zup hl 81 0 ((hl 81 0) + 10))))) (c2 := (41, [some (.inr (.inr (some 81))), some (.inr (.inr (some 48))), some (.inl 0), some (.inl 2)], [], (zs h (zup hl 81 0 ((hl 81 0) + 10))))) rfl ⟨by decide, by decide⟩ ⟨by decide, by decide⟩ (by show ¬ 2 < 2; decide) ?_
      refine zH_go 1 (c' := (75, [some (.inr (.inr (some 81))), some (.inr (.inr (some 48))), some (.inl 0), some (.inl 2)], [.inl 0], (zs h (zup hl 81 0 ((hl 81 0) + 10))))) rfl ?_
      refine zH_ret (v := some (.inl 0)) rfl (fun q => absurd q (by decide)) ?_
      exact Or.inr ⟨by assumption, 0, by unfold zIs; (try dsimp only); omega, rfl, rfl⟩
    · refine zH_go 7 (c' := (38, [some (.inr (.inr (some 81))), some (.inr (.inr (some 48))), some (.inl 1), some (.inl 2)], [.inl (h 48 3), .inl 2], (zs h (zup hl 81 0 ((hl 81 0) + 10))))) rfl ?_
      rw [hL]
      refine zH_bt (x := 2) (y := 2) (k := .ge) (c1 := (74, [some (.inr (.inr (some 81))), some (.inr (.inr (some 48))), some (.inl 1), some (.inl 2)], [], (zs h (zup hl 81 0 ((hl 81 0) + 10))))) (c2 := (41, [some (.inr (.inr (some 81))), some (.inr (.inr (some 48))), some (.inl 1), some (.inl 2)], [], (zs h (zup hl 81 0 ((hl 81 0) + 10))))) rfl ⟨by decide, by decide⟩ ⟨by decide, by decide⟩ (by show ¬ 2 < 2; decide) ?_
      refine zH_go 1 (c' := (75, [some (.inr (.inr (some 81))), some (.inr (.inr (some 48))), some (.inl 1), some (.inl 2)], [.inl 1], (zs h (zup hl 81 0 ((hl 81 0) + 10))))) rfl ?_
      refine zH_ret (v := some (.inl 1)) rfl (fun q => absurd q (by decide)) ?_
      exact Or.inr ⟨by assumption, 1, by unfold zIs; (try dsimp only); omega, rfl, rfl⟩
set_option maxRecDepth 100000 in
set_option maxHeartbeats 4000000 in
theorem p_evenT3 {d : Nat} {h hl : Nat → Nat → Int} (hL : h 48 3 = 3) (hf : ∀ l : Nat, l < 3 → 0 ≤ h 57 l ∧ h 57 l ≤ 1000000) {pp : Nat} {sp : Nat → Nat} (hpp : pp < 8) (h7 : h 48 7 = (pp : Int)) (hsp : ∀ i : Nat, i < 3 → h 58 i = ((sp i : Nat) : Int)) (hs6 : ∀ i : Nat, i < 3 → sp i < 6) (hw : ∀ l : Nat, l < 3 → 0 ≤ h 59 l ∧ h 59 l ≤ 1000000) : zQ (d + 3) 37 [.inr (.inr (some 81)), .inr (.inr (some 48))] (zs h hl) (fun r σ' => (zCov 3 sp pp ∧ zPk (zIs 3 (fun l => h 57 l)) h hl 11 r σ') ∨ (¬ zCov 3 sp pp ∧ zPk (zIs 3 (fun l => h 59 l + h 57 l)) h hl 10 r σ')) := by
  have f0 := hf 0 (by decide)
  have f1 := hf 1 (by decide)
  have f2 := hf 2 (by decide)
  have w0 := hw 0 (by decide)
  have w1 := hw 1 (by decide)
  have w2 := hw 2 (by decide)
  refine zQ_of (Nat.le_of_ble_eq_true rfl) ?_
  show zH (d + 2) 37 (0, [some (.inr (.inr (some 81))), some (.inr (.inr (some 48))), none, none], [], (zs h hl)) _
  refine zH_go 9 (c' := (17, [some (.inr (.inr (some 81))), some (.inr (.inr (some 48))), none, none], [.inl (h 48 7), .inr (.inr (some 48))], (zs h (zup hl 81 0 ((hl 81 0) + 10))))) rfl ?_
  rw [h7]
  refine zH_call (M' := 25) (as := [.inr (.inr (some 48)), .inl (pp : Int)]) (T := []) rfl (p_covT (L := 3) (pp := pp) hpp (by decide) hL hsp hs6) (fun r σ' p_1 => ?_)
  rcases p_1 with ⟨rfl, b_2, rfl⟩ | ⟨rfl, b_2, rfl⟩
  · show zH _ _ (20, [some (.inr (.inr (some 81))), some (.inr (.inr (some 48))), none, none], [.inl 1], (zs h (zup hl 81 0 ((hl 81 0) + 10)))) _
    refine zH_bf (x := 1) (y := 0) (k := .eq) (c1 := (29, [some (.inr (.inr (some 81))), some (.inr (.inr (some 48))), none, none], [], (zs h (zup hl 81 0 ((hl 81 0) + 10))))) (c2 := (23, [some (.inr (.inr (some 81))), some (.inr (.inr (some 48))), none, none], [], (zs h (zup hl 81 0 ((hl 81 0) + 10))))) rfl ⟨by decide, by decide⟩ ⟨by decide, by decide⟩ (by show ¬ (1 = 0); decide) ?_
    refine zH_go 2 (c' := (25, [some (.inr (.inr (some 81))), some (.inr (.inr (some 48))), none, none], [.inr (.inr (some 48)), .inr (.inr (some 81))], (zs h (zup hl 81 0 ((hl 81 0) + 10))))) rfl ?_
    refine zH_call (M' := 36) (as := [.inr (.inr (some 81)), .inr (.inr (some 48))]) (T := []) rfl (p_nearT (L := 3) (by decide) hL hf) (fun r σ' p_3 => ?_)
    obtain ⟨l, hl1, rfl, rfl⟩ := p_3
    rw [zup_id]
    show zH _ _ (28, [some (.inr (.inr (some 81))), some (.inr (.inr (some 48))), none, none], [.inl (l : Int)], (zs h (zup hl 81 0 (zup hl 81 0 (hl 81 0 + 10) 81 0 + 1)))) _
    rw [zup_eq]
    refine zH_ret (v := some (.inl (l : Int))) rfl (fun q => absurd q (by decide)) ?_
    exact Or.inl ⟨by assumption, l, hl1, rfl, by rw [show hl 81 0 + 11 = hl 81 0 + 10 + 1 by omega]⟩
  · show zH _ _ (20, [some (.inr (.inr (some 81))), some (.inr (.inr (some 48))), none, none], [.inl 0], (zs h (zup hl 81 0 ((hl 81 0) + 10)))) _
    refine zH_bt (x := 0) (y := 0) (k := .eq) (c1 := (29, [some (.inr (.inr (some 81))), some (.inr (.inr (some 48))), none, none], [], (zs h (zup hl 81 0 ((hl 81 0) + 10))))) (c2 := (23, [some (.inr (.inr (some 81))), some (.inr (.inr (some 48))), none, none], [], (zs h (zup hl 81 0 ((hl 81 0) + 10))))) rfl ⟨by decide, by decide⟩ ⟨by decide, by decide⟩ (by show 0 = 0; decide) ?_
    refine zH_go 7 (c' := (38, [some (.inr (.inr (some 81))), some (.inr (.inr (some 48))), some (.inl 0), some (.inl 1)], [.inl (h 48 3), .inl 1], (zs h (zup hl 81 0 ((hl 81 0) + 10))))) rfl ?_
    rw [hL]
    refine zH_bf (x := 1) (y := 3) (k := .ge) (c1 := (74, [some (.inr (.inr (some 81))), some (.inr (.inr (some 48))), some (.inl 0), some (.inl 1)], [], (zs h (zup hl 81 0 ((hl 81 0) + 10))))) (c2 := (41, [some (.inr (.inr (some 81))), some (.inr (.inr (some 48))), some (.inl 0), some (.inl 1)], [], (zs h (zup hl 81 0 ((hl 81 0) + 10))))) rfl ⟨by decide, by decide⟩ ⟨by decide, by decide⟩ (by show ¬ (¬ 1 < 3); decide) ?_
    refine zH_go 2 (c' := (43, [some (.inr (.inr (some 81))), some (.inr (.inr (some 48))), some (.inl 0), some (.inl 1)], [.inl 1, .inr (.inr (some 48))], (zs h (zup hl 81 0 ((hl 81 0) + 10))))) rfl ?_
    refine zH_call (M' := 21) (as := [.inr (.inr (some 48)), .inl 1]) (T := []) rfl (p_walkedT (l := 1) (by decide)) (fun r σ' p_4 => ?_)
    obtain ⟨rfl, rfl⟩ := p_4
    show zH _ _ (46, [some (.inr (.inr (some 81))), some (.inr (.inr (some 48))), some (.inl 0), some (.inl 1)], [.inl (h 59 1)], (zs h (zup hl 81 0 ((hl 81 0) + 10)))) _
    refine zH_go 2 (c' := (48, [some (.inr (.inr (some 81))), some (.inr (.inr (some 48))), some (.inl 0), some (.inl 1)], [.inl 1, .inr (.inr (some 48)), .inl (h 59 1)], (zs h (zup hl 81 0 ((hl 81 0) + 10))))) rfl ?_
    refine zH_call (M' := 20) (as := [.inr (.inr (some 48)), .inl 1]) (T := [.inl (h 59 1)]) rfl (p_farT (l := 1) (by decide)) (fun r σ' p_5 => ?_)
    obtain ⟨rfl, rfl⟩ := p_5
    show zH _ _ (51, [some (.inr (.inr (some 81))), some (.inr (.inr (some 48))), some (.inl 0), some (.inl 1)], [.inl (h 57 1), .inl (h 59 1)], (zs h (zup hl 81 0 ((hl 81 0) + 10)))) _
    refine zH_go 3 (c' := (54, [some (.inr (.inr (some 81))), some (.inr (.inr (some 48))), some (.inl 0), some (.inl 1)], [.inl 0, .inr (.inr (some 48)), .inl ((h 59 1) + (h 57 1))], (zs h (zup hl 81 0 ((hl 81 0) + 10))))) rfl ?_
    refine zH_call (M' := 21) (as := [.inr (.inr (some 48)), .inl 0]) (T := [.inl ((h 59 1) + (h 57 1))]) rfl (p_walkedT (l := 0) (by decide)) (fun r σ' p_6 => ?_)
    obtain ⟨rfl, rfl⟩ := p_6
    show zH _ _ (57, [some (.inr (.inr (some 81))), some (.inr (.inr (some 48))), some (.inl 0), some (.inl 1)], [.inl (h 59 0), .inl ((h 59 1) + (h 57 1))], (zs h (zup hl 81 0 ((hl 81 0) + 10)))) _
    refine zH_go 2 (c' := (59, [some (.inr (.inr (some 81))), some (.inr (.inr (some 48))), some (.inl 0), some (.inl 1)], [.inl 0, .inr (.inr (some 48)), .inl (h 59 0), .inl ((h 59 1) + (h 57 1))], (zs h (zup hl 81 0 ((hl 81 0) + 10))))) rfl ?_
    refine zH_call (M' := 20) (as := [.inr (.inr (some 48)), .inl 0]) (T := [.inl (h 59 0), .inl ((h 59 1) + (h 57 1))]) rfl (p_farT (l := 0) (by decide)) (fun r σ' p_7 => ?_)
    obtain ⟨rfl, rfl⟩ := p_7
    show zH _ _ (62, [some (.inr (.inr (some 81))), some (.inr (.inr (some 48))), some (.inl 0), some (.inl 1)], [.inl (h 57 0), .inl (h 59 0), .inl ((h 59 1) + (h 57 1))], (zs h (zup hl 81 0 ((hl 81 0) + 10)))) _
    refine zH_go 1 (c' := (63, [some (.inr (.inr (some 81))), some (.inr (.inr (some 48))), some (.inl 0), some (.inl 1)], [.inl ((h 59 0) + (h 57 0)), .inl ((h 59 1) + (h 57 1))], (zs h (zup hl 81 0 ((hl 81 0) + 10))))) rfl ?_
    refine zH_br (x := ((h 59 1) + (h 57 1))) (y := ((h 59 0) + (h 57 0))) (k := .ge) (c1 := (68, [some (.inr (.inr (some 81))), some (.inr (.inr (some 48))), some (.inl 0), some (.inl 1)], [], (zs h (zup hl 81 0 ((hl 81 0) + 10))))) (c2 := (66, [some (.inr (.inr (some 81))), some (.inr (.inr (some 48))), some (.inl 0), some (.inl 1)], [], (zs h (zup hl 81 0 ((hl 81 0) + 10))))) rfl (by first | assumption | (unfold zr; omega)) (by first | assumption | (unfold zr; omega)) (fun (b_8 : ¬ ((h 59 1) + (h 57 1)) < ((h 59 0) + (h 57 0))) => ?_) (fun (b_8 : ¬ (¬ ((h 59 1) + (h 57 1)) < ((h 59 0) + (h 57 0)))) => ?_)
    · refine zH_go 5 (c' := (38, [some (.inr (.inr (some 81))), some (.inr (.inr (some 48))), some (.inl 0), some (.inl 2)], [.inl (h 48 3), .inl 2], (zs h (zup hl 81 0 ((hl 81 0) + 10))))) rfl ?_
      rw [hL]
      refine zH_bf (x := 2) (y := 3) (k := .ge) (c1 := (74, [some (.inr (.inr (some 81))), some (.inr (.inr (some 48))), some (.inl 0), some (.inl 2)], [], (zs h (zup hl 81 0 ((hl 81 0) + 10))))) (c2 := (41, [some (.inr (.inr (some 81))), some (.inr (.inr (some 48))), some (.inl 0), some (.inl 2)], [], (zs h (zup hl 81 0 ((hl 81 0) + 10))))) rfl ⟨by decide, by decide⟩ ⟨by decide, by decide⟩ (by show ¬ (¬ 2 < 3); decide) ?_
      refine zH_go 2 (c' := (43, [some (.inr (.inr (some 81))), some (.inr (.inr (some 48))), some (.inl 0), some (.inl 2)], [.inl 2, .inr (.inr (some 48))], (zs h (zup hl 81 0 ((hl 81 0) + 10))))) rfl ?_
      refine zH_call (M' := 21) (as := [.inr (.inr (some 48)), .inl 2]) (T := []) rfl (p_walkedT (l := 2) (by decide)) (fun r σ' p_9 => ?_)
      obtain ⟨rfl, rfl⟩ := p_9
      show zH _ _ (46, [some (.inr (.inr (some 81))), some (.inr (.inr (some 48))), some (.inl 0), some (.inl 2)], [.inl (h 59 2)], (zs h (zup hl 81 0 ((hl 81 0) + 10)))) _
      refine zH_go 2 (c' := (48, [some (.inr (.inr (some 81))), some (.inr (.inr (some 48))), some (.inl 0), some (.inl 2)], [.inl 2, .inr (.inr (some 48)), .inl (h 59 2)], (zs h (zup hl 81 0 ((hl 81 0) + 10))))) rfl ?_
      refine zH_call (M' := 20) (as := [.inr (.inr (some 48)), .inl 2]) (T := [.inl (h 59 2)]) rfl (p_farT (l := 2) (by decide)) (fun r σ' p_10 => ?_)
      obtain ⟨rfl, rfl⟩ := p_10
      show zH _ _ (51, [some (.inr (.inr (some 81))), some (.inr (.inr (some 48))), some (.inl 0), some (.inl 2)], [.inl (h 57 2), .inl (h 59 2)], (zs h (zup hl 81 0 ((hl 81 0) + 10)))) _
      refine zH_go 3 (c' := (54, [some (.inr (.inr (some 81))), some (.inr (.inr (some 48))), some (.inl 0), some (.inl 2)], [.inl 0, .inr (.inr (some 48)), .inl ((h 59 2) + (h 57 2))], (zs h (zup hl 81 0 ((hl 81 0) + 10))))) rfl ?_
      refine zH_call (M' := 21) (as := [.inr (.inr (some 48)), .inl 0]) (T := [.inl ((h 59 2) + (h 57 2))]) rfl (p_walkedT (l := 0) (by decide)) (fun r σ' p_11 => ?_)
      obtain ⟨rfl, rfl⟩ := p_11
      show zH _ _ (57, [some (.inr (.inr (some 81))), some (.inr (.inr (some 48))), some (.inl 0), some (.inl 2)], [.inl (h 59 0), .inl ((h 59 2) + (h 57 2))], (zs h (zup hl 81 0 ((hl 81 0) + 10)))) _
      refine zH_go 2 (c' := (59, [some (.inr (.inr (some 81))), some (.inr (.inr (some 48))), some (.inl 0), some (.inl 2)], [.inl 0, .inr (.inr (some 48)), .inl (h 59 0), .inl ((h 59 2) + (h 57 2))], (zs h (zup hl 81 0 ((hl 81 0) + 10))))) rfl ?_
      refine zH_call (M' := 20) (as := [.inr (.inr (some 48)), .inl 0]) (T := [.inl (h 59 0), .inl ((h 59 2) + (h 57 2))]) rfl (p_farT (l := 0) (by decide)) (fun r σ' p_12 => ?_)
      obtain ⟨rfl, rfl⟩ := p_12
      show zH _ _ (62, [some (.inr (.inr (some 81))), some (.inr (.inr (some 48))), some (.inl 0), some (.inl 2)], [.inl (h 57 0), .inl (h 59 0), .inl ((h 59 2) + (h 57 2))], (zs h (zup hl 81 0 ((hl 81 0) + 10)))) _
      refine zH_go 1 (c' := (63, [some (.inr (.inr (some 81))), some (.inr (.inr (some 48))), some (.inl 0), some (.inl 2)], [.inl ((h 59 0) + (h 57 0)), .inl ((h 59 2) + (h 57 2))], (zs h (zup hl 81 0 ((hl 81 0) + 10))))) rfl ?_
      refine zH_br (x := ((h 59 2) + (h 57 2))) (y := ((h 59 0) + (h 57 0))) (k := .ge) (c1 := (68, [some (.inr (.inr (some 81))), some (.inr (.inr (some 48))), some (.inl 0), some (.inl 2)], [], (zs h (zup hl 81 0 ((hl 81 0) + 10))))) (c2 := (66, [some (.inr (.inr (some 81))), some (.inr (.inr (some 48))), some (.inl 0), some (.inl 2)], [], (zs h (zup hl 81 0 ((hl 81 0) + 10))))) rfl (by first | assumption | (unfold zr; omega)) (by first | assumption | (unfold zr; omega)) (fun (b_13 : ¬ ((h 59 2) + (h 57 2)) < ((h 59 0) + (h 57 0))) => ?_) (fun (b_13 : ¬ (¬ ((h 59 2) + (h 57 2)) < ((h 59 0) + (h 57 0)))) => ?_)
      · refine zH_go 5 (c' := (38, [some (.inr (.inr (some 81))), some (.inr (.inr (some 48))), some (.inl 0), some (.inl 3)], [.inl (h 48 3), .inl 3], (zs h (zup hl 81 0 ((hl 81 0) + 10))))) rfl ?_
        rw [hL]
        refine zH_bt (x := 3) (y := 3) (k := .ge) (c1 := (74, [some (.inr (.inr (some 81))), some (.inr (.inr (some 48))), some (.inl 0), some (.inl 3)], [], (zs h (zup hl 81 0 ((hl 81 0) + 10))))) (c2 := (41, [some (.inr (.inr (some 81))), some (.inr (.inr (some 48))), some (.inl 0), some (.inl 3)], [], (zs h (zup hl 81 0 ((hl 81 0) + 10))))) rfl ⟨by decide, by decide⟩ ⟨by decide, by decide⟩ (by show ¬ 3 < 3; decide) ?_
        refine zH_go 1 (c' := (75, [some (.inr (.inr (some 81))), some (.inr (.inr (some 48))), some (.inl 0), some (.inl 3)], [.inl 0], (zs h (zup hl 81 0 ((hl 81 0) + 10))))) rfl ?_
        refine zH_ret (v := some (.inl 0)) rfl (fun q => absurd q (by decide)) ?_
        exact Or.inr ⟨by assumption, 0, by unfold zIs; (try dsimp only); omega, rfl, rfl⟩
      · refine zH_go 7 (c' := (38, [some (.inr (.inr (some 81))), some (.inr (.inr (some 48))), some (.inl 2), some (.inl 3)], [.inl (h 48 3), .inl 3], (zs h (zup hl 81 0 ((hl 81 0) + 10))))) rfl ?_
        rw [hL]
        refine zH_bt (x := 3) (y := 3) (k := .ge) (c1 := (74, [some (.inr (.inr (some 81))), some (.inr (.inr (some 48))), some (.inl 2), some (.inl 3)], [], (zs h (zup hl 81 0 ((hl 81 0) + 10))))) (c2 := (41, [some (.inr (.inr (some 81))), some (.inr (.inr (some 48))), some (.inl 2), some (.inl 3)], [], (zs h (zup hl 81 0 ((hl 81 0) + 10))))) rfl ⟨by decide, by decide⟩ ⟨by decide, by decide⟩ (by show ¬ 3 < 3; decide) ?_
        refine zH_go 1 (c' := (75, [some (.inr (.inr (some 81))), some (.inr (.inr (some 48))), some (.inl 2), some (.inl 3)], [.inl 2], (zs h (zup hl 81 0 ((hl 81 0) + 10))))) rfl ?_
        refine zH_ret (v := some (.inl 2)) rfl (fun q => absurd q (by decide)) ?_
        exact Or.inr ⟨by assumption, 2, by unfold zIs; (try dsimp only); omega, rfl, rfl⟩
    · refine zH_go 7 (c' := (38, [some (.inr (.inr (some 81))), some (.inr (.inr (some 48))), some (.inl 1), some (.inl 2)], [.inl (h 48 3), .inl 2], (zs h (zup hl 81 0 ((hl 81 0) + 10))))) rfl ?_
      rw [hL]
      refine zH_bf (x := 2) (y := 3) (k := .ge) (c1 := (74, [some (.inr (.inr (some 81))), some (.inr (.inr (some 48))), some (.inl 1), some (.inl 2)], [], (zs h (zup hl 81 0 ((hl 81 0) + 10))))) (c2 := (41, [some (.inr (.inr (some 81))), some (.inr (.inr (some 48))), some (.inl 1), some (.inl 2)], [], (zs h (zup hl 81 0 ((hl 81 0) + 10))))) rfl ⟨by decide, by decide⟩ ⟨by decide, by decide⟩ (by show ¬ (¬ 2 < 3); decide) ?_
      refine zH_go 2 (c' := (43, [some (.inr (.inr (some 81))), some (.inr (.inr (some 48))), some (.inl 1), some (.inl 2)], [.inl 2, .inr (.inr (some 48))], (zs h (zup hl 81 0 ((hl 81 0) + 10))))) rfl ?_
      refine zH_call (M' := 21) (as := [.inr (.inr (some 48)), .inl 2]) (T := []) rfl (p_walkedT (l := 2) (by decide)) (fun r σ' p_14 => ?_)
      obtain ⟨rfl, rfl⟩ := p_14
      show zH _ _ (46, [some (.inr (.inr (some 81))), some (.inr (.inr (some 48))), some (.inl 1), some (.inl 2)], [.inl (h 59 2)], (zs h (zup hl 81 0 ((hl 81 0) + 10)))) _
      refine zH_go 2 (c' := (48, [some (.inr (.inr (some 81))), some (.inr (.inr (some 48))), some (.inl 1), some (.inl 2)], [.inl 2, .inr (.inr (some 48)), .inl (h 59 2)], (zs h (zup hl 81 0 ((hl 81 0) + 10))))) rfl ?_
      refine zH_call (M' := 20) (as := [.inr (.inr (some 48)), .inl 2]) (T := [.inl (h 59 2)]) rfl (p_farT (l := 2) (by decide)) (fun r σ' p_15 => ?_)
      obtain ⟨rfl, rfl⟩ := p_15
      show zH _ _ (51, [some (.inr (.inr (some 81))), some (.inr (.inr (some 48))), some (.inl 1), some (.inl 2)], [.inl (h 57 2), .inl (h 59 2)], (zs h (zup hl 81 0 ((hl 81 0) + 10)))) _
      refine zH_go 3 (c' := (54, [some (.inr (.inr (some 81))), some (.inr (.inr (some 48))), some (.inl 1), some (.inl 2)], [.inl 1, .inr (.inr (some 48)), .inl ((h 59 2) + (h 57 2))], (zs h (zup hl 81 0 ((hl 81 0) + 10))))) rfl ?_
      refine zH_call (M' := 21) (as := [.inr (.inr (some 48)), .inl 1]) (T := [.inl ((h 59 2) + (h 57 2))]) rfl (p_walkedT (l := 1) (by decide)) (fun r σ' p_16 => ?_)
      obtain ⟨rfl, rfl⟩ := p_16
      show zH _ _ (57, [some (.inr (.inr (some 81))), some (.inr (.inr (some 48))), some (.inl 1), some (.inl 2)], [.inl (h 59 1), .inl ((h 59 2) + (h 57 2))], (zs h (zup hl 81 0 ((hl 81 0) + 10)))) _
      refine zH_go 2 (c' := (59, [some (.inr (.inr (some 81))), some (.inr (.inr (some 48))), some (.inl 1), some (.inl 2)], [.inl 1, .inr (.inr (some 48)), .inl (h 59 1), .inl ((h 59 2) + (h 57 2))], (zs h (zup hl 81 0 ((hl 81 0) + 10))))) rfl ?_
      refine zH_call (M' := 20) (as := [.inr (.inr (some 48)), .inl 1]) (T := [.inl (h 59 1), .inl ((h 59 2) + (h 57 2))]) rfl (p_farT (l := 1) (by decide)) (fun r σ' p_17 => ?_)
      obtain ⟨rfl, rfl⟩ := p_17
      show zH _ _ (62, [some (.inr (.inr (some 81))), some (.inr (.inr (some 48))), some (.inl 1), some (.inl 2)], [.inl (h 57 1), .inl (h 59 1), .inl ((h 59 2) + (h 57 2))], (zs h (zup hl 81 0 ((hl 81 0) + 10)))) _
      refine zH_go 1 (c' := (63, [some (.inr (.inr (some 81))), some (.inr (.inr (some 48))), some (.inl 1), some (.inl 2)], [.inl ((h 59 1) + (h 57 1)), .inl ((h 59 2) + (h 57 2))], (zs h (zup hl 81 0 ((hl 81 0) + 10))))) rfl ?_
      refine zH_br (x := ((h 59 2) + (h 57 2))) (y := ((h 59 1) + (h 57 1))) (k := .ge) (c1 := (68, [some (.inr (.inr (some 81))), some (.inr (.inr (some 48))), some (.inl 1), some (.inl 2)], [], (zs h (zup hl 81 0 ((hl 81 0) + 10))))) (c2 := (66, [some (.inr (.inr (some 81))), some (.inr (.inr (some 48))), some (.inl 1), some (.inl 2)], [], (zs h (zup hl 81 0 ((hl 81 0) + 10))))) rfl (by first | assumption | (unfold zr; omega)) (by first | assumption | (unfold zr; omega)) (fun (b_18 : ¬ ((h 59 2) + (h 57 2)) < ((h 59 1) + (h 57 1))) => ?_) (fun (b_18 : ¬ (¬ ((h 59 2) + (h 57 2)) < ((h 59 1) + (h 57 1)))) => ?_)
      · refine zH_go 5 (c' := (38, [some (.inr (.inr (some 81))), some (.inr (.inr (some 48))), some (.inl 1), some (.inl 3)], [.inl (h 48 3), .inl 3], (zs h (zup hl 81 0 ((hl 81 0) + 10))))) rfl ?_
        rw [hL]
        refine zH_bt (x := 3) (y := 3) (k := .ge) (c1 := (74, [some (.inr (.inr (some 81))), some (.inr (.inr (some 48))), some (.inl 1), some (.inl 3)], [], (zs h (zup hl 81 0 ((hl 81 0) + 10))))) (c2 := (41, [some (.inr (.inr (some 81))), some (.inr (.inr (some 48))), some (.inl 1), some (.inl 3)], [], (zs h (zup hl 81 0 ((hl 81 0) + 10))))) rfl ⟨by decide, by decide⟩ ⟨by decide, by decide⟩ (by show ¬ 3 < 3; decide) ?_
        refine zH_go 1 (c' := (75, [some (.inr (.inr (some 81))), some (.inr (.inr (some 48))), some (.inl 1), some (.inl 3)], [.inl 1], (zs h (zup hl 81 0 ((hl 81 0) + 10))))) rfl ?_
        refine zH_ret (v := some (.inl 1)) rfl (fun q => absurd q (by decide)) ?_
        exact Or.inr ⟨by assumption, 1, by unfold zIs; (try dsimp only); omega, rfl, rfl⟩
      · refine zH_go 7 (c' := (38, [some (.inr (.inr (some 81))), some (.inr (.inr (some 48))), some (.inl 2), some (.inl 3)], [.inl (h 48 3), .inl 3], (zs h (zup hl 81 0 ((hl 81 0) + 10))))) rfl ?_
        rw [hL]
        refine zH_bt (x := 3) (y := 3) (k := .ge) (c1 := (74, [some (.inr (.inr (some 81))), some (.inr (.inr (some 48))), some (.inl 2), some (.inl 3)], [], (zs h (zup hl 81 0 ((hl 81 0) + 10))))) (c2 := (41, [some (.inr (.inr (some 81))), some (.inr (.inr (some 48))), some (.inl 2), some (.inl 3)], [], (zs h (zup hl 81 0 ((hl 81 0) + 10))))) rfl ⟨by decide, by decide⟩ ⟨by decide, by decide⟩ (by show ¬ 3 < 3; decide) ?_
        refine zH_go 1 (c' := (75, [some (.inr (.inr (some 81))), some (.inr (.inr (some 48))), some (.inl 2), some (.inl 3)], [.inl 2], (zs h (zup hl 81 0 ((hl 81 0) + 10))))) rfl ?_
        refine zH_ret (v := some (.inl 2)) rfl (fun q => absurd q (by decide)) ?_
        exact Or.inr ⟨by assumption, 2, by unfold zIs; (try dsimp only); omega, rfl, rfl⟩
theorem p_evenT {d : Nat} {h hl : Nat → Nat → Int} {L : Nat} (hL3 : 1 ≤ L ∧ L ≤ 3) (hL : h 48 3 = (L : Int)) (hf : ∀ l : Nat, l < 3 → 0 ≤ h 57 l ∧ h 57 l ≤ 1000000) {pp : Nat} {sp : Nat → Nat} (hpp : pp < 8) (h7 : h 48 7 = (pp : Int)) (hsp : ∀ i : Nat, i < L → h 58 i = ((sp i : Nat) : Int)) (hs6 : ∀ i : Nat, i < L → sp i < 6) (hw : ∀ l : Nat, l < 3 → 0 ≤ h 59 l ∧ h 59 l ≤ 1000000) : zQ (d + 3) 37 [.inr (.inr (some 81)), .inr (.inr (some 48))] (zs h hl) (fun r σ' => (zCov L sp pp ∧ zPk (zIs L (fun l => h 57 l)) h hl 11 r σ') ∨ (¬ zCov L sp pp ∧ zPk (zIs L (fun l => h 59 l + h 57 l)) h hl 10 r σ')) := by
  rcases (show L = 1 ∨ L = 2 ∨ L = 3 by omega) with rfl | rfl | rfl
  · exact p_evenT1 hL hf hpp h7 hsp hs6 hw
  · exact p_evenT2 hL hf hpp h7 hsp hs6 hw
  · exact p_evenT3 hL hf hpp h7 hsp hs6 hw
