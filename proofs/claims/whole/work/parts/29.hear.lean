/-! A day hears of a CALL. -/
/-- what hearing leaves: the distances, WORK with this CALL in it -/
def zHearP (h g : Nat → Nat → Int) (p L B n pp : Nat) (sp : Nat → Nat) (DY FA W HE R nH : Nat) : Prop := (∀ c : Nat, c ≠ DY → c ≠ FA → c ≠ W → c ≠ HE → c ≠ R + (n + 1) → g c = h c) ∧ g DY 7 = (pp : Int) ∧ (∀ j : Nat, j ≠ 7 → g DY j = h DY j) ∧ (∀ i : Nat, i < 3 → g FA i = h (12 + sp i) pp) ∧ zWI g p L B W HE R nH ∧ (n : Int) + 1 ≤ g W 4 ∧ g HE n = (pp : Int) ∧ ∀ j : Nat, j ≠ n → g HE j = h HE j
set_option maxRecDepth 100000 in
set_option maxHeartbeats 4000000 in
theorem p_hearD {d : Nat} {h hl : Nat → Nat → Int} {p L B n pp : Nat} {sp : Nat → Nat} (hS : zSI h p L) (hT : zTD h p) (hBs : zSb p L B = true) (hsp : ∀ i : Nat, i < 3 → h 40 i = ((sp i : Nat) : Int)) (hs6 : ∀ i : Nat, i < 3 → sp i < 6) (hpp : pp < p) (hn : h 21 4 = (n : Int)) (hn2 : n < 13) (hW : zWI h p L B 22 38 24 13) (hnk : (n : Int) ≤ h 22 4) (hH : ∀ j : Nat, j < 13 → zr (h 38 j)) : zQ (d + 4) 16 [.inr (.inr (some 21)), .inl (pp : Int)] (zs h hl) (fun r σ' => r = none ∧ ∃ g : Nat → Nat → Int, σ' = zs g hl ∧ zHearP h g p L B n pp sp 21 39 22 38 24 13) := by
  have s0 := hsp 0 (by decide)
  have s1 := hsp 1 (by decide)
  have s2 := hsp 2 (by decide)
  have t0 := hs6 0 (by decide)
  have t1 := hs6 1 (by decide)
  have t2 := hs6 2 (by decide)
  have hp6 := hS.2.1
  refine zQ_of (Nat.le_of_ble_eq_true rfl) ?_
  show zH (d + 3) 16 (0, [some (.inr (.inr (some 21))), some (.inl (pp : Int)), none], [], (zs h hl)) _
  refine zH_go 7 (c' := (9, [some (.inr (.inr (some 21))), some (.inl (pp : Int)), some (.inl 0)], [.inl 3, .inl 0], (zs (zup h 21 7 (pp : Int)) hl))) rfl ?_
  refine zH_bf (x := 0) (y := 3) (k := .ge) (c1 := (38, [some (.inr (.inr (some 21))), some (.inl (pp : Int)), some (.inl 0)], [], (zs (zup h 21 7 (pp : Int)) hl))) (c2 := (12, [some (.inr (.inr (some 21))), some (.inl (pp : Int)), some (.inl 0)], [], (zs (zup h 21 7 (pp : Int)) hl))) rfl ⟨by decide, by decide⟩ ⟨by decide, by decide⟩ (by show ¬ (¬ 0 < 3); decide) ?_
  refine zH_go 8 (c' := (26, [some (.inr (.inr (some 21))), some (.inl (pp : Int)), some (.inl 0)], [.inl 0, .inr (.inr (some 40)), .inr (.inr (some 3)), .inl 0, .inr (.inr (some 39))], (zs (zup h 21 7 (pp : Int)) hl))) rfl ?_
  refine zH_np (P := 0 ≤ 0 ∧ 0 < ((3 : Nat) : Int)) (c' := (27, [some (.inr (.inr (some 21))), some (.inl (pp : Int)), some (.inl 0)], [.inl (h 40 0), .inr (.inr (some 3)), .inl 0, .inr (.inr (some 39))], (zs (zup h 21 7 (pp : Int)) hl))) rfl ⟨by decide, by decide⟩ ?_
  rw [s0]
  refine zH_go 1 (c' := (28, [some (.inr (.inr (some 21))), some (.inl (pp : Int)), some (.inl 0)], [.inl (pp : Int), .inl ((sp 0 : Nat) : Int), .inr (.inr (some 3)), .inl 0, .inr (.inr (some 39))], (zs (zup h 21 7 (pp : Int)) hl))) rfl ?_
  refine zH_call (M' := 52) (as := [.inr (.inr (some 3)), .inl ((sp 0 : Nat) : Int), .inl (pp : Int)]) (T := [.inl 0, .inr (.inr (some 39))]) rfl (p_gap (a := sp 0) (b := pp) (by omega) (by omega)) (fun r σ' p_1 => ?_)
  obtain ⟨rfl, rfl⟩ := p_1
  show zH _ _ (31, [some (.inr (.inr (some 21))), some (.inl (pp : Int)), some (.inl 0)], [.inl ((zup h 21 7 (pp : Int)) (12 + sp 0) pp), .inl 0, .inr (.inr (some 39))], (zs (zup h 21 7 (pp : Int)) hl)) _
  rw [show ((zup h 21 7 (pp : Int)) (12 + sp 0) pp) = (h (12 + sp 0) pp) from by repeat rw [zup_ne (by omega)]]
  refine zH_np (P := 0 ≤ 0 ∧ 0 < ((3 : Nat) : Int)) (c' := (32, [some (.inr (.inr (some 21))), some (.inl (pp : Int)), some (.inl 0)], [], (zs (zup (zup h 21 7 (pp : Int)) 39 0 (h (12 + sp 0) pp)) hl))) rfl ⟨by decide, by decide⟩ ?_
  refine zH_go 4 (c' := (9, [some (.inr (.inr (some 21))), some (.inl (pp : Int)), some (.inl 1)], [.inl 3, .inl 1], (zs (zup (zup h 21 7 (pp : Int)) 39 0 (h (12 + sp 0) pp)) hl))) rfl ?_
  refine zH_bf (x := 1) (y := 3) (k := .ge) (c1 := (38, [some (.inr (.inr (some 21))), some (.inl (pp : Int)), some (.inl 1)], [], (zs (zup (zup h 21 7 (pp : Int)) 39 0 (h (12 + sp 0) pp)) hl))) (c2 := (12, [some (.inr (.inr (some 21))), some (.inl (pp : Int)), some (.inl 1)], [], (zs (zup (zup h 21 7 (pp : Int)) 39 0 (h (12 + sp 0) pp)) hl))) rfl ⟨by decide, by decide⟩ ⟨by decide, by decide⟩ (by show ¬ (¬ 1 < 3); decide) ?_
  refine zH_go 8 (c' := (26, [some (.inr (.inr (some 21))), some (.inl (pp : Int)), some (.inl 1)], [.inl 1, .inr (.inr (some 40)), .inr (.inr (some 3)), .inl 1, .inr (.inr (some 39))], (zs (zup (zup h 21 7 (pp : Int)) 39 0 (h (12 + sp 0) pp)) hl))) rfl ?_
  refine zH_np (P := 0 ≤ 1 ∧ 1 < ((3 : Nat) : Int)) (c' := (27, [some (.inr (.inr (some 21))), some (.inl (pp : Int)), some (.inl 1)], [.inl (h 40 1), .inr (.inr (some 3)), .inl 1, .inr (.inr (some 39))], (zs (zup (zup h 21 7 (pp : Int)) 39 0 (h (12 + sp 0) pp)) hl))) rfl ⟨by decide, by decide⟩ ?_
  rw [s1]
  refine zH_go 1 (c' := (28, [some (.inr (.inr (some 21))), some (.inl (pp : Int)), some (.inl 1)], [.inl (pp : Int), .inl ((sp 1 : Nat) : Int), .inr (.inr (some 3)), .inl 1, .inr (.inr (some 39))], (zs (zup (zup h 21 7 (pp : Int)) 39 0 (h (12 + sp 0) pp)) hl))) rfl ?_
  refine zH_call (M' := 52) (as := [.inr (.inr (some 3)), .inl ((sp 1 : Nat) : Int), .inl (pp : Int)]) (T := [.inl 1, .inr (.inr (some 39))]) rfl (p_gap (a := sp 1) (b := pp) (by omega) (by omega)) (fun r σ' p_2 => ?_)
  obtain ⟨rfl, rfl⟩ := p_2
  show zH _ _ (31, [some (.inr (.inr (some 21))), some (.inl (pp : Int)), some (.inl 1)], [.inl ((zup (zup h 21 7 (pp : Int)) 39 0 (h (12 + sp 0) pp)) (12 + sp 1) pp), .inl 1, .inr (.inr (some 39))], (zs (zup (zup h 21 7 (pp : Int)) 39 0 (h (12 + sp 0) pp)) hl)) _
  rw [show ((zup (zup h 21 7 (pp : Int)) 39 0 (h (12 + sp 0) pp)) (12 + sp 1) pp) = (h (12 + sp 1) pp) from by repeat rw [zup_ne (by omega)]]
  refine zH_np (P := 0 ≤ 1 ∧ 1 < ((3 : Nat) : Int)) (c' := (32, [some (.inr (.inr (some 21))), some (.inl (pp : Int)), some (.inl 1)], [], (zs (zup (zup (zup h 21 7 (pp : Int)) 39 0 (h (12 + sp 0) pp)) 39 1 (h (12 + sp 1) pp)) hl))) rfl ⟨by decide, by decide⟩ ?_
  refine zH_go 4 (c' := (9, [some (.inr (.inr (some 21))), some (.inl (pp : Int)), some (.inl 2)], [.inl 3, .inl 2], (zs (zup (zup (zup h 21 7 (pp : Int)) 39 0 (h (12 + sp 0) pp)) 39 1 (h (12 + sp 1) pp)) hl))) rfl ?_
  refine zH_bf (x := 2) (y := 3) (k := .ge) (c1 := (38, [some (.inr (.inr (some 21))), some (.inl (pp : Int)), some (.inl 2)], [], (zs (zup (zup (zup h 21 7 (pp : Int)) 39 0 (h (12 + sp 0) pp)) 39 1 (h (12 + sp 1) pp)) hl))) (c2 := (12, [some (.inr (.inr (some 21))), some (.inl (pp : Int)), some (.inl 2)], [], (zs (zup (zup (zup h 21 7 (pp : Int)) 39 0 (h (12 + sp 0) pp)) 39 1 (h (12 + sp 1) pp)) hl))) rfl ⟨by decide, by decide⟩ ⟨by decide, by decide⟩ (by show ¬ (¬ 2 < 3); decide) ?_
  refine zH_go 8 (c' := (26, [some (.inr (.inr (some 21))), some (.inl (pp : Int)), some (.inl 2)], [.inl 2, .inr (.inr (some 40)), .inr (.inr (some 3)), .inl 2, .inr (.inr (some 39))], (zs (zup (zup (zup h 21 7 (pp : Int)) 39 0 (h (12 + sp 0) pp)) 39 1 (h (12 + sp 1) pp)) hl))) rfl ?_
  refine zH_np (P := 0 ≤ 2 ∧ 2 < ((3 : Nat) : Int)) (c' := (27, [some (.inr (.inr (some 21))), some (.inl (pp : Int)), some (.inl 2)], [.inl (h 40 2), .inr (.inr (some 3)), .inl 2, .inr (.inr (some 39))], (zs (zup (zup (zup h 21 7 (pp : Int)) 39 0 (h (12 + sp 0) pp)) 39 1 (h (12 + sp 1) pp)) hl))) rfl ⟨by decide, by decide⟩ ?_
  rw [s2]
  refine zH_go 1 (c' := (28, [some (.inr (.inr (some 21))), some (.inl (pp : Int)), some (.inl 2)], [.inl (pp : Int), .inl ((sp 2 : Nat) : Int), .inr (.inr (some 3)), .inl 2, .inr (.inr (some 39))], (zs (zup (zup (zup h 21 7 (pp : Int)) 39 0 (h (12 + sp 0) pp)) 39 1 (h (12 + sp 1) pp)) hl))) rfl ?_
  refine zH_call (M' := 52) (as := [.inr (.inr (some 3)), .inl ((sp 2 : Nat) : Int), .inl (pp : Int)]) (T := [.inl 2, .inr (.inr (some 39))]) rfl (p_gap (a := sp 2) (b := pp) (by omega) (by omega)) (fun r σ' p_3 => ?_)
  obtain ⟨rfl, rfl⟩ := p_3
  show zH _ _ (31, [some (.inr (.inr (some 21))), some (.inl (pp : Int)), some (.inl 2)], [.inl ((zup (zup (zup h 21 7 (pp : Int)) 39 0 (h (12 + sp 0) pp)) 39 1 (h (12 + sp 1) pp)) (12 + sp 2) pp), .inl 2, .inr (.inr (some 39))], (zs (zup (zup (zup h 21 7 (pp : Int)) 39 0 (h (12 + sp 0) pp)) 39 1 (h (12 + sp 1) pp)) hl)) _
  rw [show ((zup (zup (zup h 21 7 (pp : Int)) 39 0 (h (12 + sp 0) pp)) 39 1 (h (12 + sp 1) pp)) (12 + sp 2) pp) = (h (12 + sp 2) pp) from by repeat rw [zup_ne (by omega)]]
  refine zH_np (P := 0 ≤ 2 ∧ 2 < ((3 : Nat) : Int)) (c' := (32, [some (.inr (.inr (some 21))), some (.inl (pp : Int)), some (.inl 2)], [], (zs (zup (zup (zup (zup h 21 7 (pp : Int)) 39 0 (h (12 + sp 0) pp)) 39 1 (h (12 + sp 1) pp)) 39 2 (h (12 + sp 2) pp)) hl))) rfl ⟨by decide, by decide⟩ ?_
  refine zH_go 4 (c' := (9, [some (.inr (.inr (some 21))), some (.inl (pp : Int)), some (.inl 3)], [.inl 3, .inl 3], (zs (zup (zup (zup (zup h 21 7 (pp : Int)) 39 0 (h (12 + sp 0) pp)) 39 1 (h (12 + sp 1) pp)) 39 2 (h (12 + sp 2) pp)) hl))) rfl ?_
  refine zH_bt (x := 3) (y := 3) (k := .ge) (c1 := (38, [some (.inr (.inr (some 21))), some (.inl (pp : Int)), some (.inl 3)], [], (zs (zup (zup (zup (zup h 21 7 (pp : Int)) 39 0 (h (12 + sp 0) pp)) 39 1 (h (12 + sp 1) pp)) 39 2 (h (12 + sp 2) pp)) hl))) (c2 := (12, [some (.inr (.inr (some 21))), some (.inl (pp : Int)), some (.inl 3)], [], (zs (zup (zup (zup (zup h 21 7 (pp : Int)) 39 0 (h (12 + sp 0) pp)) 39 1 (h (12 + sp 1) pp)) 39 2 (h (12 + sp 2) pp)) hl))) rfl ⟨by decide, by decide⟩ ⟨by decide, by decide⟩ (by show ¬ 3 < 3; decide) ?_
  refine zH_go 4 (c' := (46, [some (.inr (.inr (some 21))), some (.inl (pp : Int)), some (.inl 3)], [.inl (h 21 4), .inr (.inr (some 22))], (zs (zup (zup (zup (zup h 21 7 (pp : Int)) 39 0 (h (12 + sp 0) pp)) 39 1 (h (12 + sp 1) pp)) 39 2 (h (12 + sp 2) pp)) hl))) rfl ?_
  rw [hn]
  refine zH_go 1 (c' := (47, [some (.inr (.inr (some 21))), some (.inl (pp : Int)), some (.inl 3)], [.inl (pp : Int), .inl (n : Int), .inr (.inr (some 22))], (zs (zup (zup (zup (zup h 21 7 (pp : Int)) 39 0 (h (12 + sp 0) pp)) 39 1 (h (12 + sp 1) pp)) 39 2 (h (12 + sp 2) pp)) hl))) rfl ?_
  obtain ⟨h1, e1⟩ : ∃ h1, h1 = (zup (zup (zup (zup h 21 7 (pp : Int)) 39 0 (h (12 + sp 0) pp)) 39 1 (h (12 + sp 1) pp)) 39 2 (h (12 + sp 2) pp)) := ⟨_, rfl⟩
  have k1 : ∀ c : Nat, c ≠ 21 → c ≠ 39 → h1 c = h c := fun c hc hd => by rw [e1]; funext q; simp [zup_at, hc, hd]
  have k7 : h1 21 7 = (pp : Int) := by rw [e1]; simp [zup_at]
  have kj : ∀ j : Nat, j ≠ 7 → h1 21 j = h 21 j := fun j hj => by rw [e1]; simp [zup_at, hj]
  have kf : ∀ i : Nat, i < 3 → h1 39 i = h (12 + sp i) pp := fun i hi => by rw [e1]; rcases (show i = 0 ∨ i = 1 ∨ i = 2 by omega) with rfl | rfl | rfl <;> simp [zup_at]
  rw [← e1]
  have hS1 := zSI_same (g := h1) hS (k1 18 (by decide) (by decide)) (k1 19 (by decide) (by decide)) (k1 20 (by decide) (by decide))
  have hT1 := zTD_same (g := h1) hS.2.1 hT (fun c hc => k1 c (by omega) (by omega))
  have hW1 := zWI_same (g := h1) (k1 22 (by decide) (by decide)) (k1 38 (by decide) (by decide)) (fun i hi => k1 (24 + i) (by omega) (by omega)) (fun c h1 h2 => k1 c (by omega) (by omega)) hS.2.1 hW
  have hW1b := hW1
  obtain ⟨k, w1, w2, w3, w4⟩ := hW1b
  have hnk1 : (n : Int) ≤ h1 22 4 := by rw [k1 22 (by decide) (by decide)]; exact hnk
  refine zH_call (M' := 57) (as := [.inr (.inr (some 22)), .inl (n : Int), .inl (pp : Int)]) (T := []) rfl (p_whearD (p := p) (L := L) (i := n) (pp := pp) hS1 hT1 (by omega) hnk1 (by omega) hpp (zWI_b hS1 hT1 hBs hW1 w1 (by omega) (by omega)) (fun j hj => by rw [k1 38 (by decide) (by decide)]; exact hH j hj)) (fun r σ' p_4 => ?_)
  obtain ⟨rfl, p_4⟩ := p_4
  rcases p_4 with ⟨rfl, q1, q2⟩ | ⟨g, rfl, f1, f2, f3, f4, f5, f6⟩
  · show zH _ _ (50, [some (.inr (.inr (some 21))), some (.inl (pp : Int)), some (.inl 3)], [], (zs h1 hl)) _
    refine zH_ret (v := none) rfl (fun q => absurd q (by decide)) ?_
    exact ⟨rfl, h1, rfl, fun c a1 a2 a3 a4 a5 => k1 c a1 a2, k7, kj, kf, hW1, by omega, q2, fun j hj => by rw [k1 38 (by decide) (by decide)]⟩
  · show zH _ _ (50, [some (.inr (.inr (some 21))), some (.inl (pp : Int)), some (.inl 3)], [], (zs g hl)) _
    refine zH_ret (v := none) rfl (fun q => absurd q (by decide)) ?_
    exact ⟨rfl, g, rfl, fun c a1 a2 a3 a4 a5 => (f1 c a3 a4 a5).trans (k1 c a1 a2), by rw [f1 21 (by decide) (by decide) (by omega)]; exact k7, fun j hj => by rw [f1 21 (by decide) (by decide) (by omega)]; exact kj j hj, fun i hi => by rw [f1 39 (by decide) (by decide) (by omega)]; exact kf i hi, zWI_new hS1 hW1 (by omega) hnk1 hpp (by omega) f1 f2 f4 f5 f6, by omega, f4, fun j hj => by rw [f5 j (by omega), k1 38 (by decide) (by decide)]⟩
set_option maxRecDepth 100000 in
set_option maxHeartbeats 4000000 in
theorem p_hearT {d : Nat} {h hl : Nat → Nat → Int} {p L B n pp : Nat} {sp : Nat → Nat} (hS : zSI h p L) (hT : zTD h p) (hBs : zSb p L B = true) (hsp : ∀ i : Nat, i < 3 → h 58 i = ((sp i : Nat) : Int)) (hs6 : ∀ i : Nat, i < 3 → sp i < 6) (hpp : pp < p) (hn : h 48 4 = (n : Int)) (hn2 : n < 4) (hW : zWI h p L B 49 56 51 4) (hnk : (n : Int) ≤ h 49 4) (hH : ∀ j : Nat, j < 4 → zr (h 56 j)) : zQ (d + 4) 16 [.inr (.inr (some 48)), .inl (pp : Int)] (zs h hl) (fun r σ' => r = none ∧ ∃ g : Nat → Nat → Int, σ' = zs g hl ∧ zHearP h g p L B n pp sp 48 57 49 56 51 4) := by
  have s0 := hsp 0 (by decide)
  have s1 := hsp 1 (by decide)
  have s2 := hsp 2 (by decide)
  have t0 := hs6 0 (by decide)
  have t1 := hs6 1 (by decide)
  have t2 := hs6 2 (by decide)
  have hp6 := hS.2.1
  refine zQ_of (Nat.le_of_ble_eq_true rfl) ?_
  show zH (d + 3) 16 (0, [some (.inr (.inr (some 48))), some (.inl (pp : Int)), none], [], (zs h hl)) _
  refine zH_go 7 (c' := (9, [some (.inr (.inr (some 48))), some (.inl (pp : Int)), some (.inl 0)], [.inl 3, .inl 0], (zs (zup h 48 7 (pp : Int)) hl))) rfl ?_
  refine zH_bf (x := 0) (y := 3) (k := .ge) (c1 := (38, [some (.inr (.inr (some 48))), some (.inl (pp : Int)), some (.inl 0)], [], (zs (zup h 48 7 (pp : Int)) hl))) (c2 := (12, [some (.inr (.inr (some 48))), some (.inl (pp : Int)), some (.inl 0)], [], (zs (zup h 48 7 (pp : Int)) hl))) rfl ⟨by decide, by decide⟩ ⟨by decide, by decide⟩ (by show ¬ (¬ 0 < 3); decide) ?_
  refine zH_go 8 (c' := (26, [some (.inr (.inr (some 48))), some (.inl (pp : Int)), some (.inl 0)], [.inl 0, .inr (.inr (some 58)), .inr (.inr (some 3)), .inl 0, .inr (.inr (some 57))], (zs (zup h 48 7 (pp : Int)) hl))) rfl ?_
  refine zH_np (P := 0 ≤ 0 ∧ 0 < ((3 : Nat) : Int)) (c' := (27, [some (.inr (.inr (some 48))), some (.inl (pp : Int)), some (.inl 0)], [.inl (h 58 0), .inr (.inr (some 3)), .inl 0, .inr (.inr (some 57))], (zs (zup h 48 7 (pp : Int)) hl))) rfl ⟨by decide, by decide⟩ ?_
  rw [s0]
  refine zH_go 1 (c' := (28, [some (.inr (.inr (some 48))), some (.inl (pp : Int)), some (.inl 0)], [.inl (pp : Int), .inl ((sp 0 : Nat) : Int), .inr (.inr (some 3)), .inl 0, .inr (.inr (some 57))], (zs (zup h 48 7 (pp : Int)) hl))) rfl ?_
  refine zH_call (M' := 52) (as := [.inr (.inr (some 3)), .inl ((sp 0 : Nat) : Int), .inl (pp : Int)]) (T := [.inl 0, .inr (.inr (some 57))]) rfl (p_gap (a := sp 0) (b := pp) (by omega) (by omega)) (fun r σ' p_1 => ?_)
  obtain ⟨rfl, rfl⟩ := p_1
  show zH _ _ (31, [some (.inr (.inr (some 48))), some (.inl (pp : Int)), some (.inl 0)], [.inl ((zup h 48 7 (pp : Int)) (12 + sp 0) pp), .inl 0, .inr (.inr (some 57))], (zs (zup h 48 7 (pp : Int)) hl)) _
  rw [show ((zup h 48 7 (pp : Int)) (12 + sp 0) pp) = (h (12 + sp 0) pp) from by repeat rw [zup_ne (by omega)]]
  refine zH_np (P := 0 ≤ 0 ∧ 0 < ((3 : Nat) : Int)) (c' := (32, [some (.inr (.inr (some 48))), some (.inl (pp : Int)), some (.inl 0)], [], (zs (zup (zup h 48 7 (pp : Int)) 57 0 (h (12 + sp 0) pp)) hl))) rfl ⟨by decide, by decide⟩ ?_
  refine zH_go 4 (c' := (9, [some (.inr (.inr (some 48))), some (.inl (pp : Int)), some (.inl 1)], [.inl 3, .inl 1], (zs (zup (zup h 48 7 (pp : Int)) 57 0 (h (12 + sp 0) pp)) hl))) rfl ?_
  refine zH_bf (x := 1) (y := 3) (k := .ge) (c1 := (38, [some (.inr (.inr (some 48))), some (.inl (pp : Int)), some (.inl 1)], [], (zs (zup (zup h 48 7 (pp : Int)) 57 0 (h (12 + sp 0) pp)) hl))) (c2 := (12, [some (.inr (.inr (some 48))), some (.inl (pp : Int)), some (.inl 1)], [], (zs (zup (zup h 48 7 (pp : Int)) 57 0 (h (12 + sp 0) pp)) hl))) rfl ⟨by decide, by decide⟩ ⟨by decide, by decide⟩ (by show ¬ (¬ 1 < 3); decide) ?_
  refine zH_go 8 (c' := (26, [some (.inr (.inr (some 48))), some (.inl (pp : Int)), some (.inl 1)], [.inl 1, .inr (.inr (some 58)), .inr (.inr (some 3)), .inl 1, .inr (.inr (some 57))], (zs (zup (zup h 48 7 (pp : Int)) 57 0 (h (12 + sp 0) pp)) hl))) rfl ?_
  refine zH_np (P := 0 ≤ 1 ∧ 1 < ((3 : Nat) : Int)) (c' := (27, [some (.inr (.inr (some 48))), some (.inl (pp : Int)), some (.inl 1)], [.inl (h 58 1), .inr (.inr (some 3)), .inl 1, .inr (.inr (some 57))], (zs (zup (zup h 48 7 (pp : Int)) 57 0 (h (12 + sp 0) pp)) hl))) rfl ⟨by decide, by decide⟩ ?_
  rw [s1]
  refine zH_go 1 (c' := (28, [some (.inr (.inr (some 48))), some (.inl (pp : Int)), some (.inl 1)], [.inl (pp : Int), .inl ((sp 1 : Nat) : Int), .inr (.inr (some 3)), .inl 1, .inr (.inr (some 57))], (zs (zup (zup h 48 7 (pp : Int)) 57 0 (h (12 + sp 0) pp)) hl))) rfl ?_
  refine zH_call (M' := 52) (as := [.inr (.inr (some 3)), .inl ((sp 1 : Nat) : Int), .inl (pp : Int)]) (T := [.inl 1, .inr (.inr (some 57))]) rfl (p_gap (a := sp 1) (b := pp) (by omega) (by omega)) (fun r σ' p_2 => ?_)
  obtain ⟨rfl, rfl⟩ := p_2
  show zH _ _ (31, [some (.inr (.inr (some 48))), some (.inl (pp : Int)), some (.inl 1)], [.inl ((zup (zup h 48 7 (pp : Int)) 57 0 (h (12 + sp 0) pp)) (12 + sp 1) pp), .inl 1, .inr (.inr (some 57))], (zs (zup (zup h 48 7 (pp : Int)) 57 0 (h (12 + sp 0) pp)) hl)) _
  rw [show ((zup (zup h 48 7 (pp : Int)) 57 0 (h (12 + sp 0) pp)) (12 + sp 1) pp) = (h (12 + sp 1) pp) from by repeat rw [zup_ne (by omega)]]
  refine zH_np (P := 0 ≤ 1 ∧ 1 < ((3 : Nat) : Int)) (c' := (32, [some (.inr (.inr (some 48))), some (.inl (pp : Int)), some (.inl 1)], [], (zs (zup (zup (zup h 48 7 (pp : Int)) 57 0 (h (12 + sp 0) pp)) 57 1 (h (12 + sp 1) pp)) hl))) rfl ⟨by decide, by decide⟩ ?_
  refine zH_go 4 (c' := (9, [some (.inr (.inr (some 48))), some (.inl (pp : Int)), some (.inl 2)], [.inl 3, .inl 2], (zs (zup (zup (zup h 48 7 (pp : Int)) 57 0 (h (12 + sp 0) pp)) 57 1 (h (12 + sp 1) pp)) hl))) rfl ?_
  refine zH_bf (x := 2) (y := 3) (k := .ge) (c1 := (38, [some (.inr (.inr (some 48))), some (.inl (pp : Int)), some (.inl 2)], [], (zs (zup (zup (zup h 48 7 (pp : Int)) 57 0 (h (12 + sp 0) pp)) 57 1 (h (12 + sp 1) pp)) hl))) (c2 := (12, [some (.inr (.inr (some 48))), some (.inl (pp : Int)), some (.inl 2)], [], (zs (zup (zup (zup h 48 7 (pp : Int)) 57 0 (h (12 + sp 0) pp)) 57 1 (h (12 + sp 1) pp)) hl))) rfl ⟨by decide, by decide⟩ ⟨by decide, by decide⟩ (by show ¬ (¬ 2 < 3); decide) ?_
  refine zH_go 8 (c' := (26, [some (.inr (.inr (some 48))), some (.inl (pp : Int)), some (.inl 2)], [.inl 2, .inr (.inr (some 58)), .inr (.inr (some 3)), .inl 2, .inr (.inr (some 57))], (zs (zup (zup (zup h 48 7 (pp : Int)) 57 0 (h (12 + sp 0) pp)) 57 1 (h (12 + sp 1) pp)) hl))) rfl ?_
  refine zH_np (P := 0 ≤ 2 ∧ 2 < ((3 : Nat) : Int)) (c' := (27, [some (.inr (.inr (some 48))), some (.inl (pp : Int)), some (.inl 2)], [.inl (h 58 2), .inr (.inr (some 3)), .inl 2, .inr (.inr (some 57))], (zs (zup (zup (zup h 48 7 (pp : Int)) 57 0 (h (12 + sp 0) pp)) 57 1 (h (12 + sp 1) pp)) hl))) rfl ⟨by decide, by decide⟩ ?_
  rw [s2]
  refine zH_go 1 (c' := (28, [some (.inr (.inr (some 48))), some (.inl (pp : Int)), some (.inl 2)], [.inl (pp : Int), .inl ((sp 2 : Nat) : Int), .inr (.inr (some 3)), .inl 2, .inr (.inr (some 57))], (zs (zup (zup (zup h 48 7 (pp : Int)) 57 0 (h (12 + sp 0) pp)) 57 1 (h (12 + sp 1) pp)) hl))) rfl ?_
  refine zH_call (M' := 52) (as := [.inr (.inr (some 3)), .inl ((sp 2 : Nat) : Int), .inl (pp : Int)]) (T := [.inl 2, .inr (.inr (some 57))]) rfl (p_gap (a := sp 2) (b := pp) (by omega) (by omega)) (fun r σ' p_3 => ?_)
  obtain ⟨rfl, rfl⟩ := p_3
  show zH _ _ (31, [some (.inr (.inr (some 48))), some (.inl (pp : Int)), some (.inl 2)], [.inl ((zup (zup (zup h 48 7 (pp : Int)) 57 0 (h (12 + sp 0) pp)) 57 1 (h (12 + sp 1) pp)) (12 + sp 2) pp), .inl 2, .inr (.inr (some 57))], (zs (zup (zup (zup h 48 7 (pp : Int)) 57 0 (h (12 + sp 0) pp)) 57 1 (h (12 + sp 1) pp)) hl)) _
  rw [show ((zup (zup (zup h 48 7 (pp : Int)) 57 0 (h (12 + sp 0) pp)) 57 1 (h (12 + sp 1) pp)) (12 + sp 2) pp) = (h (12 + sp 2) pp) from by repeat rw [zup_ne (by omega)]]
  refine zH_np (P := 0 ≤ 2 ∧ 2 < ((3 : Nat) : Int)) (c' := (32, [some (.inr (.inr (some 48))), some (.inl (pp : Int)), some (.inl 2)], [], (zs (zup (zup (zup (zup h 48 7 (pp : Int)) 57 0 (h (12 + sp 0) pp)) 57 1 (h (12 + sp 1) pp)) 57 2 (h (12 + sp 2) pp)) hl))) rfl ⟨by decide, by decide⟩ ?_
  refine zH_go 4 (c' := (9, [some (.inr (.inr (some 48))), some (.inl (pp : Int)), some (.inl 3)], [.inl 3, .inl 3], (zs (zup (zup (zup (zup h 48 7 (pp : Int)) 57 0 (h (12 + sp 0) pp)) 57 1 (h (12 + sp 1) pp)) 57 2 (h (12 + sp 2) pp)) hl))) rfl ?_
  refine zH_bt (x := 3) (y := 3) (k := .ge) (c1 := (38, [some (.inr (.inr (some 48))), some (.inl (pp : Int)), some (.inl 3)], [], (zs (zup (zup (zup (zup h 48 7 (pp : Int)) 57 0 (h (12 + sp 0) pp)) 57 1 (h (12 + sp 1) pp)) 57 2 (h (12 + sp 2) pp)) hl))) (c2 := (12, [some (.inr (.inr (some 48))), some (.inl (pp : Int)), some (.inl 3)], [], (zs (zup (zup (zup (zup h 48 7 (pp : Int)) 57 0 (h (12 + sp 0) pp)) 57 1 (h (12 + sp 1) pp)) 57 2 (h (12 + sp 2) pp)) hl))) rfl ⟨by decide, by decide⟩ ⟨by decide, by decide⟩ (by show ¬ 3 < 3; decide) ?_
  refine zH_go 4 (c' := (46, [some (.inr (.inr (some 48))), some (.inl (pp : Int)), some (.inl 3)], [.inl (h 48 4), .inr (.inr (some 49))], (zs (zup (zup (zup (zup h 48 7 (pp : Int)) 57 0 (h (12 + sp 0) pp)) 57 1 (h (12 + sp 1) pp)) 57 2 (h (12 + sp 2) pp)) hl))) rfl ?_
  rw [hn]
  refine zH_go 1 (c' := (47, [some (.inr (.inr (some 48))), some (.inl (pp : Int)), some (.inl 3)], [.inl (pp : Int), .inl (n : Int), .inr (.inr (some 49))], (zs (zup (zup (zup (zup h 48 7 (pp : Int)) 57 0 (h (12 + sp 0) pp)) 57 1 (h (12 + sp 1) pp)) 57 2 (h (12 + sp 2) pp)) hl))) rfl ?_
  obtain ⟨h1, e1⟩ : ∃ h1, h1 = (zup (zup (zup (zup h 48 7 (pp : Int)) 57 0 (h (12 + sp 0) pp)) 57 1 (h (12 + sp 1) pp)) 57 2 (h (12 + sp 2) pp)) := ⟨_, rfl⟩
  have k1 : ∀ c : Nat, c ≠ 48 → c ≠ 57 → h1 c = h c := fun c hc hd => by rw [e1]; funext q; simp [zup_at, hc, hd]
  have k7 : h1 48 7 = (pp : Int) := by rw [e1]; simp [zup_at]
  have kj : ∀ j : Nat, j ≠ 7 → h1 48 j = h 48 j := fun j hj => by rw [e1]; simp [zup_at, hj]
  have kf : ∀ i : Nat, i < 3 → h1 57 i = h (12 + sp i) pp := fun i hi => by rw [e1]; rcases (show i = 0 ∨ i = 1 ∨ i = 2 by omega) with rfl | rfl | rfl <;> simp [zup_at]
  rw [← e1]
  have hS1 := zSI_same (g := h1) hS (k1 18 (by decide) (by decide)) (k1 19 (by decide) (by decide)) (k1 20 (by decide) (by decide))
  have hT1 := zTD_same (g := h1) hS.2.1 hT (fun c hc => k1 c (by omega) (by omega))
  have hW1 := zWI_same (g := h1) (k1 49 (by decide) (by decide)) (k1 56 (by decide) (by decide)) (fun i hi => k1 (51 + i) (by omega) (by omega)) (fun c h1 h2 => k1 c (by omega) (by omega)) hS.2.1 hW
  have hW1b := hW1
  obtain ⟨k, w1, w2, w3, w4⟩ := hW1b
  have hnk1 : (n : Int) ≤ h1 49 4 := by rw [k1 49 (by decide) (by decide)]; exact hnk
  refine zH_call (M' := 57) (as := [.inr (.inr (some 49)), .inl (n : Int), .inl (pp : Int)]) (T := []) rfl (p_whearT (p := p) (L := L) (i := n) (pp := pp) hS1 hT1 (by omega) hnk1 (by omega) hpp (zWI_b hS1 hT1 hBs hW1 w1 (by omega) (by omega)) (fun j hj => by rw [k1 56 (by decide) (by decide)]; exact hH j hj)) (fun r σ' p_4 => ?_)
  obtain ⟨rfl, p_4⟩ := p_4
  rcases p_4 with ⟨rfl, q1, q2⟩ | ⟨g, rfl, f1, f2, f3, f4, f5, f6⟩
  · show zH _ _ (50, [some (.inr (.inr (some 48))), some (.inl (pp : Int)), some (.inl 3)], [], (zs h1 hl)) _
    refine zH_ret (v := none) rfl (fun q => absurd q (by decide)) ?_
    exact ⟨rfl, h1, rfl, fun c a1 a2 a3 a4 a5 => k1 c a1 a2, k7, kj, kf, hW1, by omega, q2, fun j hj => by rw [k1 56 (by decide) (by decide)]⟩
  · show zH _ _ (50, [some (.inr (.inr (some 48))), some (.inl (pp : Int)), some (.inl 3)], [], (zs g hl)) _
    refine zH_ret (v := none) rfl (fun q => absurd q (by decide)) ?_
    exact ⟨rfl, g, rfl, fun c a1 a2 a3 a4 a5 => (f1 c a3 a4 a5).trans (k1 c a1 a2), by rw [f1 48 (by decide) (by decide) (by omega)]; exact k7, fun j hj => by rw [f1 48 (by decide) (by decide) (by omega)]; exact kj j hj, fun i hi => by rw [f1 57 (by decide) (by decide) (by omega)]; exact kf i hi, zWI_new hS1 hW1 (by omega) hnk1 hpp (by omega) f1 f2 f4 f5 f6, by omega, f4, fun j hj => by rw [f5 j (by omega), k1 56 (by decide) (by decide)]⟩
