/-! WORK: the rows of a day and of a trial. -/
theorem zSb_6 {p L n i : Nat} (hp : p ≤ 6) (h : zSb p L n = true) : ∀ i : Nat, i < L → zdg n i < 6 := fun i hi => Nat.lt_of_lt_of_le (zSb_dg h hi) hp
/-- a town with a day: who may be asked for APART -/
def zTD (h : Nat → Nat → Int) (p : Nat) : Prop := zTB h ∧ (∀ i j : Nat, i < p → j < p → h (12 + i) j ≤ 1500) ∧ zOr h
/-- other cells stay; of the one only its known place changes -/
def zSame (h g : Nat → Nat → Int) (X : Nat → Prop) : Prop := ∀ c : Nat, ¬ X c → g c = h c
theorem zTD_same {h g : Nat → Nat → Int} {p : Nat} (hp6 : p ≤ 6) (hT : zTD h p) (hs : ∀ c : Nat, c < 18 → g c = h c) : zTD g p := by
  obtain ⟨h1, h2, h3⟩ := hT
  refine ⟨fun i j hi hj => ?_, fun i j hi hj => ?_, fun k hk => ?_⟩
  · rw [hs (12 + i) (by omega), hs (5 + i) (by omega)]; exact h1 i j hi hj
  · rw [hs (12 + i) (by omega)]; exact h2 i j hi hj
  · rw [hs 0 (by omega)]; exact h3 k hk
theorem zSI_same {h g : Nat → Nat → Int} {p L : Nat} (hS : zSI h p L) (h1 : g 18 = h 18) (h2 : g 19 = h 19) (h3 : g 20 = h 20) : zSI g p L := by
  unfold zSI
  rw [h1, h2, h3]
  exact hS
theorem zMv_same {h g : Nat → Nat → Int} {L s t : Nat} (hs : ∀ c : Nat, 12 ≤ c → c < 20 → g c = h c) : zMv g L s t = zMv h L s t := by
  unfold zMv
  rw [hs (12 + zdg s 0) (by omega) (by have := zdg_lt s 0; omega), hs (12 + zdg s 1) (by omega) (by have := zdg_lt s 1; omega), hs (12 + zdg s 2) (by omega) (by have := zdg_lt s 2; omega)]
set_option maxRecDepth 100000 in
set_option maxHeartbeats 4000000 in
theorem ws_loopD {d : Nat} {h hl : Nat → Nat → Int} {p L B : Nat} {Post : Option zV → zS → Prop} (hS : zSI h p L) (hT : zTD h p) (hBs : zSb p L B = true)
    (hex : ∀ (g : Nat → Nat → Int) (x2 : Option zV), ((∀ c : Nat, c ≠ 24 → g c = h c) ∧ ∀ j : Nat, (j : Int) < h 18 2 → g 24 j = zMv h L B (Int.toNat (h 19 j))) → zH (d + 2) 56 (54, [some (.inr (.inr (some 22))), some (.inl (B : Int)), x2], [], (zs g hl)) Post) : ∀ (q k : Nat), k ≤ 56 → 57 ≤ k + q → ∀ (g : Nat → Nat → Int), ((∀ c : Nat, c ≠ 24 → g c = h c) ∧ ∀ j : Nat, j < k → (j : Int) < h 18 2 → g 24 j = zMv h L B (Int.toNat (h 19 j))) → zH (d + 2) 56 (7, [some (.inr (.inr (some 22))), some (.inl (B : Int)), some (.inl (k : Int))], [], (zs g hl)) Post := by
  have hp6 := hS.2.1
  have hL := hS.1
  have hB5 := zSb_lt hL.2 hBs
  intro q
  induction q with
  | zero => intro k h1 h2; exact absurd h2 (by omega)
  | succ q ih =>
    intro k hk hq g hI
    have hSg := zSI_same (g := g) hS (hI.1 18 (by decide)) (hI.1 19 (by decide)) (hI.1 20 (by decide))
    have hTg := zTD_same (g := g) hp6 hT (fun c hc => hI.1 c (by omega))
    have hg1 := hSg.2.2.1
    have e182 : g 18 2 = h 18 2 := by rw [hI.1 18 (by decide)]
    have hg2 := hSg.2.2.2.1
    have e19 : ∀ k : Nat, g 19 k = h 19 k := fun k => by rw [hI.1 19 (by decide)]
    refine zH_go 4 (c' := (15, [some (.inr (.inr (some 22))), some (.inl (B : Int)), some (.inl (k : Int))], [.inl (g 18 2), .inl (k : Int)], (zs g hl))) rfl ?_
    refine zH_br (x := (k : Int)) (y := (g 18 2)) (k := .ge) (c1 := (54, [some (.inr (.inr (some 22))), some (.inl (B : Int)), some (.inl (k : Int))], [], (zs g hl))) (c2 := (18, [some (.inr (.inr (some 22))), some (.inl (B : Int)), some (.inl (k : Int))], [], (zs g hl))) rfl (by first | assumption | (unfold zr; omega)) (by first | assumption | (unfold zr; omega)) (fun (b_1 : ¬ (k : Int) < (g 18 2)) => ?_) (fun (b_1 : ¬ (¬ (k : Int) < (g 18 2))) => ?_)
    · exact hex g _ ⟨hI.1, fun j hj => hI.2 j (by rw [e182] at b_1; omega) hj⟩
    · refine zH_go 2 (c' := (21, [some (.inr (.inr (some 22))), some (.inl (B : Int)), some (.inl (k : Int))], [.inl 56, .inl (k : Int)], (zs g hl))) rfl ?_
      refine zH_br (x := (k : Int)) (y := 56) (k := .ge) (c1 := (54, [some (.inr (.inr (some 22))), some (.inl (B : Int)), some (.inl (k : Int))], [], (zs g hl))) (c2 := (24, [some (.inr (.inr (some 22))), some (.inl (B : Int)), some (.inl (k : Int))], [], (zs g hl))) rfl (by first | assumption | (unfold zr; omega)) ⟨by decide, by decide⟩ (fun (b_2 : ¬ (k : Int) < 56) => ?_) (fun (b_2 : ¬ (¬ (k : Int) < 56)) => ?_)
      · exact hex g _ ⟨hI.1, fun j hj => hI.2 j (by rw [e182] at b_1; omega) hj⟩
      · obtain ⟨n, hn, hns, hnl, en⟩ := hSg.2.2.2.2.2.2 k (by omega)
        refine zH_go 3 (c' := (29, [some (.inr (.inr (some 22))), some (.inl (B : Int)), some (.inl (k : Int))], [.inl 0, .inr (.inr (some 23))], (zs g hl))) rfl ?_
        refine zH_np (P := 0 ≤ 0 ∧ 0 < ((14 : Nat) : Int)) (c' := (30, [some (.inr (.inr (some 22))), some (.inl (B : Int)), some (.inl (k : Int))], [.inr (.inr (some 24))], (zs g hl))) rfl ⟨by decide, by decide⟩ ?_
        refine zH_go 7 (c' := (41, [some (.inr (.inr (some 22))), some (.inl (B : Int)), some (.inl (k : Int))], [.inl (k : Int), .inr (.inr (some 18)), .inl (B : Int), .inr (.inr (some 18)), .inl (k : Int), .inr (.inr (some 24))], (zs g hl))) rfl ?_
        refine zH_call (M' := 45) (as := [.inr (.inr (some 18)), .inl (k : Int)]) (T := [.inl (B : Int), .inr (.inr (some 18)), .inl (k : Int), .inr (.inr (some 24))]) rfl (p_number (s := k) (by omega) (by omega) (by omega)) (fun r σ' p_3 => ?_)
        obtain ⟨rfl, rfl⟩ := p_3
        rw [en]
        show zH _ _ (44, [some (.inr (.inr (some 22))), some (.inl (B : Int)), some (.inl (k : Int))], [.inl (n : Int), .inl (B : Int), .inr (.inr (some 18)), .inl (k : Int), .inr (.inr (some 24))], (zs g hl)) _
        refine zH_call (M' := 46) (as := [.inr (.inr (some 18)), .inl (B : Int), .inl (n : Int)]) (T := [.inl (k : Int), .inr (.inr (some 24))]) rfl (p_mv (s := B) (t := n) hL hB5 hn (zSb_6 (i := 0) hp6 hBs) (zSb_6 (i := 0) hp6 hns) hg1 hTg.2.2 hTg.1) (fun r σ' p_4 => ?_)
        obtain ⟨rfl, rfl⟩ := p_4
        show zH _ _ (47, [some (.inr (.inr (some 22))), some (.inl (B : Int)), some (.inl (k : Int))], [.inl (zMv g L B n), .inl (k : Int), .inr (.inr (some 24))], (zs g hl)) _
        refine zH_np (P := 0 ≤ (k : Int) ∧ (k : Int) < ((56 : Nat) : Int)) (c' := (48, [some (.inr (.inr (some 22))), some (.inl (B : Int)), some (.inl (k : Int))], [], (zs (zup g 24 k (zMv g L B n)) hl))) rfl ⟨by omega, by omega⟩ ?_
        refine zH_go 2 (c' := (7, [some (.inr (.inr (some 22))), some (.inl (B : Int)), some (.inl ((k : Int) + 1))], [], (zs (zup g 24 k (zMv g L B n)) hl))) rfl ?_
        refine ih (k + 1) (by omega) (by omega) _ ⟨fun c hc => ?_, fun j hj hj2 => ?_⟩
        · rw [← hI.1 c hc]; funext q; exact zup_ne hc
        · by_cases q : j = k
          · rw [q, zup_eq, ← e19 k, en, Int.toNat_natCast]
            exact zMv_same (fun c h1 h2 => hI.1 c (by omega))
          · rw [zup_k q]; exact hI.2 j (by omega) hj2
set_option maxRecDepth 100000 in
set_option maxHeartbeats 4000000 in
theorem ws_loopT {d : Nat} {h hl : Nat → Nat → Int} {p L B : Nat} {Post : Option zV → zS → Prop} (hS : zSI h p L) (hT : zTD h p) (hBs : zSb p L B = true)
    (hex : ∀ (g : Nat → Nat → Int) (x2 : Option zV), ((∀ c : Nat, c ≠ 51 → g c = h c) ∧ ∀ j : Nat, (j : Int) < h 18 2 → g 51 j = zMv h L B (Int.toNat (h 19 j))) → zH (d + 2) 56 (54, [some (.inr (.inr (some 49))), some (.inl (B : Int)), x2], [], (zs g hl)) Post) : ∀ (q k : Nat), k ≤ 56 → 57 ≤ k + q → ∀ (g : Nat → Nat → Int), ((∀ c : Nat, c ≠ 51 → g c = h c) ∧ ∀ j : Nat, j < k → (j : Int) < h 18 2 → g 51 j = zMv h L B (Int.toNat (h 19 j))) → zH (d + 2) 56 (7, [some (.inr (.inr (some 49))), some (.inl (B : Int)), some (.inl (k : Int))], [], (zs g hl)) Post := by
  have hp6 := hS.2.1
  have hL := hS.1
  have hB5 := zSb_lt hL.2 hBs
  intro q
  induction q with
  | zero => intro k h1 h2; exact absurd h2 (by omega)
  | succ q ih =>
    intro k hk hq g hI
    have hSg := zSI_same (g := g) hS (hI.1 18 (by decide)) (hI.1 19 (by decide)) (hI.1 20 (by decide))
    have hTg := zTD_same (g := g) hp6 hT (fun c hc => hI.1 c (by omega))
    have hg1 := hSg.2.2.1
    have e182 : g 18 2 = h 18 2 := by rw [hI.1 18 (by decide)]
    have hg2 := hSg.2.2.2.1
    have e19 : ∀ k : Nat, g 19 k = h 19 k := fun k => by rw [hI.1 19 (by decide)]
    refine zH_go 4 (c' := (15, [some (.inr (.inr (some 49))), some (.inl (B : Int)), some (.inl (k : Int))], [.inl (g 18 2), .inl (k : Int)], (zs g hl))) rfl ?_
    refine zH_br (x := (k : Int)) (y := (g 18 2)) (k := .ge) (c1 := (54, [some (.inr (.inr (some 49))), some (.inl (B : Int)), some (.inl (k : Int))], [], (zs g hl))) (c2 := (18, [some (.inr (.inr (some 49))), some (.inl (B : Int)), some (.inl (k : Int))], [], (zs g hl))) rfl (by first | assumption | (unfold zr; omega)) (by first | assumption | (unfold zr; omega)) (fun (b_1 : ¬ (k : Int) < (g 18 2)) => ?_) (fun (b_1 : ¬ (¬ (k : Int) < (g 18 2))) => ?_)
    · exact hex g _ ⟨hI.1, fun j hj => hI.2 j (by rw [e182] at b_1; omega) hj⟩
    · refine zH_go 2 (c' := (21, [some (.inr (.inr (some 49))), some (.inl (B : Int)), some (.inl (k : Int))], [.inl 56, .inl (k : Int)], (zs g hl))) rfl ?_
      refine zH_br (x := (k : Int)) (y := 56) (k := .ge) (c1 := (54, [some (.inr (.inr (some 49))), some (.inl (B : Int)), some (.inl (k : Int))], [], (zs g hl))) (c2 := (24, [some (.inr (.inr (some 49))), some (.inl (B : Int)), some (.inl (k : Int))], [], (zs g hl))) rfl (by first | assumption | (unfold zr; omega)) ⟨by decide, by decide⟩ (fun (b_2 : ¬ (k : Int) < 56) => ?_) (fun (b_2 : ¬ (¬ (k : Int) < 56)) => ?_)
      · exact hex g _ ⟨hI.1, fun j hj => hI.2 j (by rw [e182] at b_1; omega) hj⟩
      · obtain ⟨n, hn, hns, hnl, en⟩ := hSg.2.2.2.2.2.2 k (by omega)
        refine zH_go 3 (c' := (29, [some (.inr (.inr (some 49))), some (.inl (B : Int)), some (.inl (k : Int))], [.inl 0, .inr (.inr (some 50))], (zs g hl))) rfl ?_
        refine zH_np (P := 0 ≤ 0 ∧ 0 < ((5 : Nat) : Int)) (c' := (30, [some (.inr (.inr (some 49))), some (.inl (B : Int)), some (.inl (k : Int))], [.inr (.inr (some 51))], (zs g hl))) rfl ⟨by decide, by decide⟩ ?_
        refine zH_go 7 (c' := (41, [some (.inr (.inr (some 49))), some (.inl (B : Int)), some (.inl (k : Int))], [.inl (k : Int), .inr (.inr (some 18)), .inl (B : Int), .inr (.inr (some 18)), .inl (k : Int), .inr (.inr (some 51))], (zs g hl))) rfl ?_
        refine zH_call (M' := 45) (as := [.inr (.inr (some 18)), .inl (k : Int)]) (T := [.inl (B : Int), .inr (.inr (some 18)), .inl (k : Int), .inr (.inr (some 51))]) rfl (p_number (s := k) (by omega) (by omega) (by omega)) (fun r σ' p_3 => ?_)
        obtain ⟨rfl, rfl⟩ := p_3
        rw [en]
        show zH _ _ (44, [some (.inr (.inr (some 49))), some (.inl (B : Int)), some (.inl (k : Int))], [.inl (n : Int), .inl (B : Int), .inr (.inr (some 18)), .inl (k : Int), .inr (.inr (some 51))], (zs g hl)) _
        refine zH_call (M' := 46) (as := [.inr (.inr (some 18)), .inl (B : Int), .inl (n : Int)]) (T := [.inl (k : Int), .inr (.inr (some 51))]) rfl (p_mv (s := B) (t := n) hL hB5 hn (zSb_6 (i := 0) hp6 hBs) (zSb_6 (i := 0) hp6 hns) hg1 hTg.2.2 hTg.1) (fun r σ' p_4 => ?_)
        obtain ⟨rfl, rfl⟩ := p_4
        show zH _ _ (47, [some (.inr (.inr (some 49))), some (.inl (B : Int)), some (.inl (k : Int))], [.inl (zMv g L B n), .inl (k : Int), .inr (.inr (some 51))], (zs g hl)) _
        refine zH_np (P := 0 ≤ (k : Int) ∧ (k : Int) < ((56 : Nat) : Int)) (c' := (48, [some (.inr (.inr (some 49))), some (.inl (B : Int)), some (.inl (k : Int))], [], (zs (zup g 51 k (zMv g L B n)) hl))) rfl ⟨by omega, by omega⟩ ?_
        refine zH_go 2 (c' := (7, [some (.inr (.inr (some 49))), some (.inl (B : Int)), some (.inl ((k : Int) + 1))], [], (zs (zup g 51 k (zMv g L B n)) hl))) rfl ?_
        refine ih (k + 1) (by omega) (by omega) _ ⟨fun c hc => ?_, fun j hj hj2 => ?_⟩
        · rw [← hI.1 c hc]; funext q; exact zup_ne hc
        · by_cases q : j = k
          · rw [q, zup_eq, ← e19 k, en, Int.toNat_natCast]
            exact zMv_same (fun c h1 h2 => hI.1 c (by omega))
          · rw [zup_k q]; exact hI.2 j (by omega) hj2
